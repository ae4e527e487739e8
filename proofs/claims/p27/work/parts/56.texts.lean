theorem wl_pad {G : zG} {B : Nat} {s f f2 : Nat → Int32} {L L2 K old : Nat} {st g : Nat → Option Nat} {ct : Nat → Nat → Int32} {hh : zH} {sz : Nat} (h : wl G B s f L K old st g ct hh sz) (hL : L2 ≤ 80) (hC : okC f2 L2) : wl G B s f2 L2 K old st g ct (padU G (B + 136) f2 L2 hh) sz := by
  obtain ⟨⟨⟨h1, ⟨h3, h4⟩, ⟨x, y, k, h5, h6, h7⟩, h8, h9, h10, h11, h12⟩, hA, hSv, hvs, ho, hK, hrg, hsz, -, -⟩, t, q, hq, hD⟩ := h
  have e : ∀ a, a < B + 136 ∨ B + 138 ≤ a → padU G (B + 136) f2 L2 hh a = hh a := fun a ha => (zup_ne (by omega)).trans (zup_ne (by omega))
  exact ⟨⟨⟨(e _ (by omega)).trans h1, ⟨(e _ (by omega)).trans h3, (e _ (by omega)).trans h4⟩, ⟨x, y, k, (e _ (by omega)).trans h5, (e _ (by omega)).trans h6, h7⟩, (e _ (by omega)).trans h8, (e _ (by omega)).trans h9, (e _ (by omega)).trans h10, padU_A⟩, shopA_of hA (fun k hk => e _ (by omega)), svA_of hSv (Nat.le_refl _) (fun a h1 h2 => e _ (by omega)), hvs, ho, hK, hrg, hsz, hL, hC⟩, t, q, hq, shopA_of hD (fun k hk => e _ (by omega))⟩
theorem keM_pad {G : zG} {B L : Nat} {f : Nat → Int32} {hh : zH} : keM B hh (padU G (B + 136) f L hh) := fun a h1 h2 => (zup_ne (by omega)).trans (zup_ne (by omega))
theorem chB_ok {n i : Nat} (h : puB n 8 = false) (hi : i < 8) : chB n i < 128 := by
  cases e : isE n i with
  | true =>
    unfold isE at e
    rw [decide_eq_true_iff] at e
    unfold chB
    rw [e.2]
    decide
  | false =>
    cases e2 : isG n i with
    | true => unfold isG at e2; rw [decide_eq_true_iff] at e2; omega
    | false =>
      have := (puB_t 8).mpr ⟨i, hi, e, e2⟩
      rw [h] at this
      cases this
theorem okC_put {f : Nat → Int32} {n L m : Nat} (hC : okC f L) (h : puB n 8 = false) (hm : m ≤ 8) : okC (padF f n L m m) (L + m) := by
  intro j hj
  unfold padF
  by_cases c : L ≤ j
  · rw [if_pos ⟨c, hj⟩]
    exact ⟨_, chB_ok h (by omega), rfl⟩
  · rw [if_neg (fun z => c z.1)]
    exact hC j (by omega)
set_option maxHeartbeats 4000000 in
set_option maxRecDepth 100000 in
theorem k_X6_wipe {G : zG} {hh : zH} {sz B L K old : Nat} {s f : Nat → Int32} {st g : Nat → Option Nat} {ct : Nat → Nat → Int32} (hw : wl G B s f L K old st g ct hh sz) : zC G 2 MX6_wipe yX6_wipe [.ref B] hh sz 0 0 (seP G B (nI L) s f 0 K old st g ct hh sz) := by
  obtain ⟨hw0, t0, q0, hq0, hD0⟩ := id hw
  obtain ⟨hF, hA, hSv, hvs, ho, hK, hrg, hsz, hL80, hC⟩ := id hw0
  refine z_intro _ rfl zy_X6_wipe (Nat.le_of_ble_eq_true rfl) ?_
  refine z_aload_n dX6_wipe_0 rfl ?_
  refine z_get (ci := 6) (f := 6) dX6_wipe_1 ⟨by decide, by decide, zm_199, rfl⟩ hF.1 rfl ?_
  refine z_getN (ci := 1) (f := 1) dX6_wipe_4 ⟨by decide, by decide, zm_186, rfl⟩ hF.2.2.2.2.2.2.1 rfl ?_
  refine z_istore_n dX6_wipe_7 (by decide) rfl rfl ?_
  refine z_aload_n dX6_wipe_8 rfl ?_
  refine z_get (ci := 6) (f := 6) dX6_wipe_9 ⟨by decide, by decide, zm_199, rfl⟩ hF.1 rfl ?_
  refine z_callVU (ci := 1) (k_X1_empty hF.2.2.2.2.2.2) dX6_wipe_12 ⟨zm_531, zm_534, zm_7, zm_532, zm_533, by decide⟩ hF.2.2.2.2.2.2.1 (by decide) zp_X1_empty rfl (Nat.le_of_ble_eq_true rfl) (Nat.le_refl _) (Nat.le_refl _) ?_
  refine z_iload_n dX6_wipe_15 rfl ?_
  exact z_ireturn dX6_wipe_16 ⟨.int, rfl, rfl⟩ ⟨⟨rfl, wl_pad hw (by omega) (fun j hj => absurd hj (by omega)), rfl, keM_pad⟩, Nat.le_refl _, Nat.le_refl _⟩
/-- what a put leaves -/
def puF (f : Nat → Int32) (n L : Nat) : Nat → Int32 := if puB n 8 = true then f else if 80 < L + puM n 8 then f else padF f n L (puM n 8) (puM n 8)
def puL (n L : Nat) : Nat := if puB n 8 = true then L else if 80 < L + puM n 8 then L else L + puM n 8
set_option maxHeartbeats 4000000 in
set_option maxRecDepth 100000 in
theorem k_X6_put {G : zG} {hh : zH} {sz B L K old : Nat} {s f : Nat → Int32} {st g : Nat → Option Nat} {ct : Nat → Nat → Int32} (hw : wl G B s f L K old st g ct hh sz) {n : Nat} (hn : n < 2 ^ 64) : zC G 3 MX6_put yX6_put [.ref B, .long (lN n)] hh sz 0 0 (seP G B (o_put n L) s (puF f n L) (puL n L) K old st g ct hh sz) := by
  obtain ⟨hw0, t0, q0, hq0, hD0⟩ := id hw
  obtain ⟨hF, hA, hSv, hvs, ho, hK, hrg, hsz, hL80, hC⟩ := id hw0
  cases hb : puB n 8 with
  | true =>
    rw [show o_put n L = -2 by unfold o_put; rw [hb]; rfl, show puF f n L = f by unfold puF; rw [hb]; rfl, show puL n L = L by unfold puL; rw [hb]; rfl]
    refine z_intro _ rfl zy_X6_put (Nat.le_of_ble_eq_true rfl) ?_
    refine z_aload_n dX6_put_0 rfl ?_
    refine z_get (ci := 6) (f := 6) dX6_put_1 ⟨by decide, by decide, zm_199, rfl⟩ hF.1 rfl ?_
    refine z_lload_n dX6_put_4 rfl ?_
    refine z_callVR (ci := 1) (kz_X1_append hF.2.2.2.2.2.2 hn hb) dX6_put_5 ⟨zm_394, zm_397, zm_7, zm_395, zm_396, by decide⟩ hF.2.2.2.2.2.2.1 (by decide) zp_X1_append rfl (Nat.le_of_ble_eq_true rfl) (Nat.le_refl _) (Nat.le_refl _) ?_
    exact z_ireturn dX6_put_8 ⟨.int, rfl, rfl⟩ ⟨⟨rfl, hw, rfl, keM.rfl⟩, Nat.le_refl _, Nat.le_refl _⟩
  | false =>
    by_cases ht : 80 < L + puM n 8
    · rw [show o_put n L = -4 by unfold o_put; rw [hb, if_neg (by decide), if_pos ht], show puF f n L = f by unfold puF; rw [hb, if_neg (by decide), if_pos ht], show puL n L = L by unfold puL; rw [hb, if_neg (by decide), if_pos ht]]
      refine z_intro _ rfl zy_X6_put (Nat.le_of_ble_eq_true rfl) ?_
      refine z_aload_n dX6_put_0 rfl ?_
      refine z_get (ci := 6) (f := 6) dX6_put_1 ⟨by decide, by decide, zm_199, rfl⟩ hF.1 rfl ?_
      refine z_lload_n dX6_put_4 rfl ?_
      refine z_callVR (ci := 1) (kt_X1_append hF.2.2.2.2.2.2 hn hb hL80 ht) dX6_put_5 ⟨zm_394, zm_397, zm_7, zm_395, zm_396, by decide⟩ hF.2.2.2.2.2.2.1 (by decide) zp_X1_append rfl (Nat.le_of_ble_eq_true rfl) (Nat.le_refl _) (Nat.le_refl _) ?_
      exact z_ireturn dX6_put_8 ⟨.int, rfl, rfl⟩ ⟨⟨rfl, hw, rfl, keM.rfl⟩, Nat.le_refl _, Nat.le_refl _⟩
    · rw [show o_put n L = nI (L + puM n 8) by unfold o_put; rw [hb, if_neg (by decide), if_neg ht], show puF f n L = padF f n L (puM n 8) (puM n 8) by unfold puF; rw [hb, if_neg (by decide), if_neg ht], show puL n L = L + puM n 8 by unfold puL; rw [hb, if_neg (by decide), if_neg ht]]
      refine z_intro _ rfl zy_X6_put (Nat.le_of_ble_eq_true rfl) ?_
      refine z_aload_n dX6_put_0 rfl ?_
      refine z_get (ci := 6) (f := 6) dX6_put_1 ⟨by decide, by decide, zm_199, rfl⟩ hF.1 rfl ?_
      refine z_lload_n dX6_put_4 rfl ?_
      refine z_callVR (ci := 1) (kr_X1_append hF.2.2.2.2.2.2 hn hb (by omega)) dX6_put_5 ⟨zm_394, zm_397, zm_7, zm_395, zm_396, by decide⟩ hF.2.2.2.2.2.2.1 (by decide) zp_X1_append rfl (Nat.le_of_ble_eq_true rfl) (Nat.le_refl _) (Nat.le_refl _) ?_
      exact z_ireturn dX6_put_8 ⟨.int, rfl, rfl⟩ ⟨⟨rfl, wl_pad hw (by omega) (okC_put hC hb (puM_le 8)), rfl, keM_pad⟩, Nat.le_refl _, Nat.le_refl _⟩
