def adF (st g : Nat → Option Nat) : Nat → Option Nat := fun i => if i < 6 then st i else g (i - 6)
/-- the saved shops -/
def svA (G : zG) (B : Nat) (st g : Nat → Option Nat) (ct : Nat → Nat → Int32) (hh : zH) (sz : Nat) : Prop :=
  (∀ i a, i < 8 → adF st g i = some a → B + 138 ≤ a ∧ a + 64 ≤ sz ∧ shopA G (B + 1) a (ct i) (spF (ct i)) hh ∧ vS (ct i)) ∧
  (∀ i j a b, i < 8 → j < 8 → i ≠ j → adF st g i = some a → adF st g j = some b → a + 64 ≤ b ∨ b + 64 ≤ a)
/-- the fixed parts of the class at B -/
def fxA (G : zG) (B L K old : Nat) (f : Nat → Int32) (st g : Nat → Option Nat) (hh : zH) : Prop :=
  hh B = some (.inr (6, [.ref (B + 1), .ref (B + 3), .ref (B + 67), .ref (B + 131), .ref (B + 133), .ref (B + 134), .ref (B + 136)])) ∧ shH G (B + 1) hh ∧
  (∃ (x y : Int32) (e : Nat → Int32), hh (B + 131) = some (.inr (4, [.ref (B + 1), .ref (B + 132), .int x, .int y])) ∧ hh (B + 132) = some (.inl (G.2.2.1 0, 9, .inl e)) ∧ ∀ j, 9 ≤ j → e j = 0) ∧
  hh (B + 133) = some (.inl (G.2.2.1 3, 2, .inr (.inr (.inr (.inr g))))) ∧ hh (B + 134) = some (hiE (B + 1) (B + 134) old K) ∧ hh (B + 135) = some (hiR G st) ∧ padA G (B + 136) f L hh
/-- the class's world, its draft aside -/
def wl0 (G : zG) (B : Nat) (s f : Nat → Int32) (L K old : Nat) (st g : Nat → Option Nat) (ct : Nat → Nat → Int32) (hh : zH) (sz : Nat) : Prop :=
  fxA G B L K old f st g hh ∧ shopA G (B + 1) (B + 3) s (spF s) hh ∧ svA G B st g ct hh sz ∧ vS s ∧ old < 6 ∧ K ≤ 6 ∧ (∀ j, j < K → st ((old + j) % 6) ≠ none) ∧ B + 138 ≤ sz ∧ L ≤ 80 ∧ okC f L
def wl (G : zG) (B : Nat) (s f : Nat → Int32) (L K old : Nat) (st g : Nat → Option Nat) (ct : Nat → Nat → Int32) (hh : zH) (sz : Nat) : Prop :=
  wl0 G B s f L K old st g ct hh sz ∧ ∃ t q : Nat → Int32, (∀ j, 36 ≤ j → q j = 0) ∧ shopA G (B + 1) (B + 67) t q hh
/-- the reference's cells are as they were -/
def keM (B : Nat) (hh h2 : zH) : Prop := ∀ a, B + 138 ≤ a → a < B + 138 → h2 a = hh a
theorem keM.rfl {B : Nat} {hh : zH} : keM B hh hh := fun _ _ _ => Eq.refl _
theorem fxA_of {G : zG} {B L K old : Nat} {f : Nat → Int32} {st g : Nat → Option Nat} {hh h2 : zH} (h : fxA G B L K old f st g hh) (e : ∀ a, (B ≤ a ∧ a < B + 3) ∨ (B + 131 ≤ a ∧ a < B + 138) → h2 a = hh a) : fxA G B L K old f st g h2 := by
  obtain ⟨h1, ⟨h3, h4⟩, ⟨x, y, k, h5, h6, h7⟩, h8, h9, h10, h11, h12⟩ := h
  exact ⟨(e _ (by omega)).trans h1, ⟨(e _ (by omega)).trans h3, (e _ (by omega)).trans h4⟩, ⟨x, y, k, (e _ (by omega)).trans h5, (e _ (by omega)).trans h6, h7⟩, (e _ (by omega)).trans h8, (e _ (by omega)).trans h9, (e _ (by omega)).trans h10, (e _ (by omega)).trans h11, (e _ (by omega)).trans h12⟩
theorem svA_of {G : zG} {B sz sz2 : Nat} {st g : Nat → Option Nat} {ct : Nat → Nat → Int32} {hh h2 : zH} (h : svA G B st g ct hh sz) (hs : sz ≤ sz2) (e : ∀ a, B + 138 ≤ a → a < sz → h2 a = hh a) : svA G B st g ct h2 sz2 := by
  refine ⟨fun i a hi ha => ?_, h.2⟩
  obtain ⟨h1, h2', h3, h4⟩ := h.1 i a hi ha
  exact ⟨h1, by omega, shopA_of h3 (fun k hk => e _ (by omega) (by omega)), h4⟩
/-- a draft is made: the draft's cells alone change -/
theorem wl_dr {G : zG} {B : Nat} {s f t q : Nat → Int32} {L K old : Nat} {st g : Nat → Option Nat} {ct : Nat → Nat → Int32} {hh : zH} {sz : Nat} (h : wl0 G B s f L K old st g ct hh sz) : wl0 G B s f L K old st g ct (sput G (B + 1) (B + 67) t q hh) sz := by
  obtain ⟨h1, h2, h3, h4⟩ := h
  exact ⟨fxA_of h1 (fun a ha => sput_out (by omega)), shopA_of h2 (fun k hk => sput_out (by omega)), svA_of h3 (Nat.le_refl _) (fun a h5 h6 => sput_out (by omega)), h4⟩
set_option maxHeartbeats 4000000 in
set_option maxRecDepth 100000 in
theorem k_X6_newDraft {G : zG} {hh : zH} {sz B L K old : Nat} {s f : Nat → Int32} {st g : Nat → Option Nat} {ct : Nat → Nat → Int32} {t q : Nat → Int32} (hw : wl0 G B s f L K old st g ct hh sz) (hq : ∀ j, 36 ≤ j → q j = 0) (hD : shopA G (B + 1) (B + 67) t q hh) : zC G 2 MX6_newDraft yX6_newDraft [.ref B] hh sz 0 0 (zR (.ref (B + 67)) (sput G (B + 1) (B + 67) s (spF s) hh) sz) := by
  refine z_intro _ rfl zy_X6_newDraft (Nat.le_of_ble_eq_true rfl) ?_
  refine z_aload_n dX6_newDraft_0 rfl ?_
  refine z_get (ci := 6) (f := 2) dX6_newDraft_1 ⟨by decide, by decide, zm_195, rfl⟩ hw.1.1 rfl ?_
  refine z_aload_n dX6_newDraft_4 rfl ?_
  refine z_get (ci := 6) (f := 1) dX6_newDraft_5 ⟨by decide, by decide, zm_194, rfl⟩ hw.1.1 rfl ?_
  refine z_callVU (ci := 5) (k_X5_copyFrom hD hw.2.1 (by omega) hw.2.2.2.1.2.2.2.2.1 (fun j hj => (hq j hj).trans (spF_36 hj).symm)) dX6_newDraft_8 ⟨zm_306, zm_275, zm_3, zm_273, zm_274, by decide⟩ (sA_o hD) (by decide) zp_X5_copyFrom rfl (Nat.le_of_ble_eq_true rfl) (Nat.le_refl _) (Nat.le_refl _) ?_
  refine z_aload_n dX6_newDraft_11 rfl ?_
  refine z_get (ci := 6) (f := 2) dX6_newDraft_12 ⟨by decide, by decide, zm_195, rfl⟩ ((sput_out (by omega)).trans hw.1.1) rfl ?_
  exact z_aretR dX6_newDraft_15 rfl rfl rfl rfl (Nat.le_refl _) (Nat.le_refl _)
set_option maxHeartbeats 4000000 in
set_option maxRecDepth 100000 in
theorem kz_X6_settle {G : zG} {hh : zH} {sz B : Nat} {x : Int32} (hx : x < 0) : zC G 4 MX6_settle yX6_settle [.ref B, .int x] hh sz 0 0 (zR (.int x) hh sz) := by
  refine z_intro _ rfl zy_X6_settle (Nat.le_of_ble_eq_true rfl) ?_
  refine z_iload_n dX6_settle_0 rfl ?_
  refine z_if_lt (tgt := 26) dX6_settle_1 (by decide) (fun c_1 => ?_) (fun c_1 => absurd hx c_1)
  refine z_iload_n dX6_settle_26 rfl ?_
  exact z_iretR dX6_settle_27 rfl rfl rfl rfl (Nat.le_refl _) (Nat.le_refl _)
def ctU (ct : Nat → Nat → Int32) (i : Nat) (s : Nat → Int32) : Nat → Nat → Int32 := fun j => if j = i then s else ct j
def stU6 (st : Nat → Option Nat) (i a : Nat) : Nat → Option Nat := va_up st i (some a)
/-- what a settled change leaves -/
def seP (G : zG) (B : Nat) (x : Int32) (t f : Nat → Int32) (L K old : Nat) (st g : Nat → Option Nat) (ct : Nat → Nat → Int32) (hh : zH) (sz2 : Nat) : Option Value → zH → Nat → Prop := fun rr hh' ss' => rr = some (.int x) ∧ wl G B t f L K old st g ct hh' ss' ∧ ss' = sz2 ∧ keM B hh hh'
theorem ring_go {st : Nat → Option Nat} {old K : Nat} (ho : old < 6) (hK : K ≤ 6) (h : ∀ j, j < K → st ((old + j) % 6) ≠ none) (hi : st ((old + K) % 6) ≠ none) : ∀ j, j < hiK K → st ((hiO old K + j) % 6) ≠ none := by
  intro j hj
  unfold hiK at hj
  unfold hiO
  by_cases c : K < 6
  · rw [if_pos c] at hj ⊢
    by_cases e : j = K
    · rw [e]; exact hi
    · exact h j (by omega)
  · rw [if_neg c] at hj ⊢
    have e6 : K = 6 := by omega
    subst e6
    rw [show ((old + 1) % 6 + j) % 6 = (old + (j + 1)) % 6 by omega]
    by_cases e : j = 5
    · rw [e]; exact hi
    · exact h (j + 1) (by omega)
theorem hiO_lt {old K : Nat} (h : old < 6) : hiO old K < 6 := by unfold hiO; split <;> omega
theorem hiK_le {K : Nat} (h : K ≤ 6) : hiK K ≤ 6 := by unfold hiK; split <;> omega
theorem adF_lt {st g : Nat → Option Nat} {i : Nat} (h : i < 6) : adF st g i = st i := if_pos h
set_option maxHeartbeats 4000000 in
set_option maxRecDepth 100000 in
theorem kr_X6_settle {G : zG} {hh : zH} {sz B L K old : Nat} {s f : Nat → Int32} {st g : Nat → Option Nat} {ct : Nat → Nat → Int32} (hw : wl0 G B s f L K old st g ct hh sz) {t : Nat → Int32} {x : Int32} (hx : ¬ x < 0) (hvt : vS t) (hD : shopA G (B + 1) (B + 67) t (spF t) hh) {a : Nat} (hst : st ((old + K) % 6) = some a) : zC G 4 MX6_settle yX6_settle [.ref B, .int x] hh sz 0 0 (seP G B x t f L (hiK K) (hiO old K) st g (ctU ct ((old + K) % 6) s) hh sz) := by
  obtain ⟨hF, hSh, hSv, hvs, ho, hK, hrg, hsz, hL80, hC⟩ := id hw
  have hi6 : (old + K) % 6 < 6 := Nat.mod_lt _ (by omega)
  have hidx : (old + K) % 6 = (old + K) % 6 := rfl
  obtain ⟨g1, g2, g3, g4⟩ := hSv.1 _ a (by omega) ((adF_lt hi6).trans hst)
  refine z_intro _ rfl zy_X6_settle (Nat.le_of_ble_eq_true rfl) ?_
  refine z_iload_n dX6_settle_0 rfl ?_
  refine z_if_lt (tgt := 26) dX6_settle_1 (by decide) (fun c_1 => absurd c_1 hx) (fun c_1 => ?_)
  refine z_aload_n dX6_settle_4 rfl ?_
  refine z_get (ci := 6) (f := 5) dX6_settle_5 ⟨by decide, by decide, zm_198, rfl⟩ hF.1 rfl ?_
  refine z_aload_n dX6_settle_8 rfl ?_
  refine z_get (ci := 6) (f := 1) dX6_settle_9 ⟨by decide, by decide, zm_194, rfl⟩ hF.1 rfl ?_
  refine z_callVU (ci := 0) (kr_X0_record hF.2.2.2.2.1 hF.2.2.2.2.2.1 ho hK hSh hvs (by omega) (by omega) hst g3 (fun j hj => spF_36 hj)) dX6_settle_12 ⟨zm_315, zm_318, zm_6, zm_316, zm_317, by decide⟩ hF.2.2.2.2.1 (by decide) zp_X0_record rfl (Nat.le_of_ble_eq_true rfl) (Nat.le_refl _) (Nat.le_refl _) ?_
  refine z_aload_n dX6_settle_15 rfl ?_
  refine z_get (ci := 6) (f := 1) dX6_settle_16 ⟨by decide, by decide, zm_194, rfl⟩ ((zup_ne (by omega)).trans ((sput_out (by omega)).trans hF.1)) rfl ?_
  refine z_aload_n dX6_settle_19 rfl ?_
  refine z_get (ci := 6) (f := 2) dX6_settle_20 ⟨by decide, by decide, zm_195, rfl⟩ ((zup_ne (by omega)).trans ((sput_out (by omega)).trans hF.1)) rfl ?_
  refine z_callVU (ci := 5) (k_X5_copyFrom (shopA_of hSh (fun k hk => (zup_ne (by omega)).trans (sput_out (by omega)))) (shopA_of hD (fun k hk => (zup_ne (by omega)).trans (sput_out (by omega)))) (by omega) hvt.2.2.2.2.1 (fun j hj => (spF_36 hj).trans (spF_36 hj).symm)) dX6_settle_23 ⟨zm_306, zm_275, zm_3, zm_273, zm_274, by decide⟩ ((zup_ne (by omega)).trans ((sput_out (by omega)).trans (sA_o hSh))) (by decide) zp_X5_copyFrom rfl (Nat.le_of_ble_eq_true rfl) (Nat.le_refl _) (Nat.le_refl _) ?_
  refine z_iload_n dX6_settle_26 rfl ?_
  refine z_ireturn dX6_settle_27 ⟨.int, rfl, rfl⟩ ⟨⟨rfl, ⟨⟨?_, sput_A, ?_, hvt, hiO_lt ho, hiK_le hK, ring_go ho hK hrg (by rw [hst]; exact Option.some_ne_none _), hsz, hL80, hC⟩, t, spF t, fun j hj => spF_36 hj, shopA_of hD (fun k hk => (sput_out (by omega)).trans ((zup_ne (by omega)).trans (sput_out (by omega))))⟩, rfl, fun b h5 h6 => (sput_out (by omega)).trans ((zup_ne (by omega)).trans (sput_out (by omega)))⟩, Nat.le_refl _, Nat.le_refl _⟩
  · obtain ⟨h1, ⟨h3, h4⟩, ⟨x1, y1, k1, h5, h6, h7⟩, h8, h9, h10, h11, h12⟩ := hF
    have ee : ∀ b, b < B + 3 ∨ (B + 131 ≤ b ∧ b < B + 138 ∧ b ≠ B + 134) → (sput G (B + 1) (B + 3) t (spF t) (zup (sput G (B + 1) a s (spF s) hh) (B + 134) (hiE (B + 1) (B + 134) (hiO old K) (hiK K)))) b = hh b := fun b hb => (sput_out (by omega)).trans ((zup_ne (by omega)).trans (sput_out (by omega)))
    exact ⟨(ee _ (by omega)).trans h1, ⟨(ee _ (by omega)).trans h3, (ee _ (by omega)).trans h4⟩, ⟨x1, y1, k1, (ee _ (by omega)).trans h5, (ee _ (by omega)).trans h6, h7⟩, (ee _ (by omega)).trans h8, (sput_out (by omega)).trans (zup_eq _ _ _), (ee _ (by omega)).trans h10, (ee _ (by omega)).trans h11, (ee _ (by omega)).trans h12⟩
  · refine ⟨fun i b hi hb => ?_, hSv.2⟩
    unfold ctU
    by_cases e : i = (old + K) % 6
    · rw [if_pos e]
      rw [e, adF_lt hi6, hst] at hb
      injection hb with hb
      subst hb
      refine ⟨g1, g2, shopA_of (sput_A (hh := hh)) (fun k hk => (sput_out (by omega)).trans (zup_ne (by omega))), hvs⟩
    · rw [if_neg e]
      obtain ⟨k1, k2, k3, k4⟩ := hSv.1 i b hi hb
      have hdj := hSv.2 i _ b a hi (by omega) e hb ((adF_lt hi6).trans hst)
      exact ⟨k1, k2, shopA_of k3 (fun k hk => (sput_out (by omega)).trans ((zup_ne (by omega)).trans (sput_out (by omega)))), k4⟩
