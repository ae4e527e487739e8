/-- what writing n letters from the i-th on leaves -/
def wnP (G : zG) (sh o : Nat) (s : Nat → Int32) (R : Bool × (Nat → Int32)) (hh : zH) (sz : Nat) : Option Value → zH → Nat → Prop := fun rr hh' ss' => ss' = sz ∧ ((R.1 = true ∧ vS R.2 ∧ (∃ u, u ≤ 48 ∧ R.2 1 - s 1 = nI u) ∧ rr = some (.int (R.2 1 - s 1)) ∧ hh' = sput G sh o R.2 (spF R.2) hh) ∨ (R.1 = false ∧ rr = some (.int (-5)) ∧ ∃ t q, (∀ j, 36 ≤ j → q j = 0) ∧ hh' = sput G sh o t q hh))
theorem cin_pos {t : Nat → Int32} {x : Int32} {m : Nat} (hm : m ≤ 48) : ¬ cinA t x m < 0 := by
  rw [cin_sm]
  have h := sm_le (f := fun j => if t (69 + 8 * j + 3) = nI 1 ∧ t (69 + 8 * j + 4) / nI 12 = x then 1 else 0) (B := 1) (fun i => by show (if _ then 1 else 0) ≤ 1; split <;> omega) m
  exact nI_pos (by omega)
theorem spF_36 {s : Nat → Int32} {j : Nat} (h : 36 ≤ j) : spF s j = 0 := if_neg (by omega)
theorem padA_sp {G : zG} {sh o pd L : Nat} {f s p : Nat → Int32} {hh : zH} (h : padA G pd f L hh) (hd : pd + 2 ≤ o ∨ o + 64 ≤ pd) : padA G pd f L (sput G sh o s p hh) := ⟨(sput_out (by omega)).trans h.1, (sput_out (by omega)).trans h.2⟩
theorem vW {s : Nat → Int32} (h : vS s) : ∀ i, i < nP s → ∃ w, w < 8 ∧ s (69 + 8 * i + 7) = nI w ∧ s (69 + 8 * i + 2) = nI (w / 4) := fun i hi => (h.2.2.2.2.2.1 i hi).2.1
theorem shF_ok {s : Nat → Int32} {col : Int32} {l mi : Nat} : ∀ (m i : Nat), shF s col l mi m i < i + m → ff s (shF s col l mi m i) l mi < 504
  | 0, i, h => absurd h (by rw [shF]; omega)
  | m + 1, i, h => by
    rw [shF] at h ⊢
    by_cases c : s (3 + 11 * i) = col ∧ ff s i l mi < 504
    · rw [if_pos c]; exact c.2
    · rw [if_neg c] at h ⊢
      exact shF_ok m (i + 1) (by omega)
/-- a piece at the first fit of a sheet -/
theorem vS_fit {s : Nat → Int32} (h : vS s) {k l mi : Nat} (hm : nP s < 48) (hk : k < nSh s) (hl : l < 8) (hmi : mi < 2) (hf : ff s k l mi < 504) : vS (fitS s (nP s) k l mi) ∧ spF (fitS s (nP s) k l mi) = spF s ∧ nP (fitS s (nP s) k l mi) = nP s + 1 ∧ fitS s (nP s) k l mi (69 + 8 * nP s + 3) = nI 0 := by
  obtain ⟨r1, r2, r3, -⟩ := ff_ok hf
  obtain ⟨k1, k2, k3, -⟩ := vS_new h (l := l) (w := 4 * mi + ff s k l mi % 4) (r := ff s k l mi / 4 / 14) (c := ff s k l mi / 4 % 14) hm hk r3 hl (by omega) r1 r2
  exact ⟨k1, k2, k3, newS_f.2.2.2.1⟩
set_option maxHeartbeats 4000000 in
set_option maxRecDepth 100000 in
theorem l75_X5_writeName {G : zG} {hh : zH} {sz sh o pd L p q mi : Nat} {s : Nat → Int32} {col : Int32} {lt : Nat → Nat} {R : Bool × (Nat → Int32)} (hs : shH G sh hh) (hd : sh + 2 ≤ o ∨ o + 64 ≤ sh) (hp : p < 3) (hq : q < 12) (hmi : mi < 2) {n i : Nat} (hi : i < 12) {t1 : Nat → Int32} {u : Nat} {x : Int32} {p8 : Option Value} (hv1 : vS t1) (hu : isI (nP t1) x = true → nP t1 = nP s + u) (ke : ∀ (t' : Nat → Int32) (u' : Nat) (p8 p9 : Option Value), vS t' → nP t' = nP s + u' → R = wrA lt L col mi p q n (i + 1) t' → zS MX5_writeName G 5 0 0 0 0 (sput G sh o t' (spF t') hh) sz 6 [some (.ref o), some (.ref pd), some (.int (nI p)), some (.int (nI q)), some (.int col), some (.int (nI mi)), some (.int (nI (u'))), some (.int (nI (i + 1))), p8, p9] [] (fun rr hh' ss' kk' nn' => wnP G sh o s R hh sz rr hh' ss' ∧ kk' ≤ 0 ∧ nn' ≤ 0))
    (hyes : ∀ j, x = nI j → j < nP t1 → t1 (69 + 8 * j + 3) = 0 → q + i < 12 → paF t1 (nI (12 * p + (q + i))) (nP t1) = -6 → R = wrA lt L col mi p q n (i + 1) (putS t1 j (nI (12 * p + (q + i)))))
    (hno : puO t1 (spF t1) x p (nI (q + i)) = false → R.1 = false) : zS MX5_writeName G 5 0 0 0 0 (sput G sh o t1 (spF t1) hh) sz 75 [some (.ref o), some (.ref pd), some (.int (nI p)), some (.int (nI q)), some (.int col), some (.int (nI mi)), some (.int (nI (u))), some (.int (nI (i))), p8, some (.int x)] [] (fun rr hh' ss' kk' nn' => wnP G sh o s R hh sz rr hh' ss' ∧ kk' ≤ 0 ∧ nn' ≤ 0) := by
  obtain ⟨⟨a1, a2⟩, ⟨hN1, hN48⟩, hR⟩ := id hv1.1
  refine z_aload_n dX5_writeName_75 rfl ?_
  refine z_iload dX5_writeName_76 rfl ?_
  refine z_iload_n dX5_writeName_78 rfl ?_
  refine z_iload_n dX5_writeName_79 rfl ?_
  refine z_iload dX5_writeName_80 rfl ?_
  refine z_iaddN dX5_writeName_82 ?_
  refine z_callVR (ci := 5) (k_X5_putIntoPane sput_A hN1 hN48 hp (x := x) (y := nI (q + i))) dX5_writeName_83 ⟨zm_521, zm_524, zm_3, zm_522, zm_523, by decide⟩ (sA_o sput_A) (by decide) zp_X5_putIntoPane rfl (Nat.le_of_ble_eq_true rfl) (Nat.le_refl _) (Nat.le_refl _) ?_
  rw [sput_sput]
  have hcb : (nI (q + i)).toNatClampNeg = q + i := nI_clamp (by omega)
  by_cases hO : puO t1 (spF t1) x p (nI (q + i)) = true
  · rw [show puV t1 (spF t1) x p (nI (q + i)) = cinA (putS t1 x.toNatClampNeg (nI (12 * p + (q + i)))) (nI p) (nP t1) by rw [puV, if_pos hO, hcb], show puS t1 (spF t1) x p (nI (q + i)) = putS t1 x.toNatClampNeg (nI (12 * p + (q + i))) by rw [puS, if_pos hO, hcb], show puP t1 (spF t1) x p (nI (q + i)) = upd (spF t1) (12 * p + (q + i)) x by rw [puP, if_pos hO, hcb]]
    obtain ⟨o1, o2, o3, o4⟩ := puO_iff.mp hO
    have hu1 := hu o1
    rw [hcb] at o4
    have hpl : q + i < 12 := by
      obtain ⟨b, hb, e⟩ := (isI_iff (by omega)).mp o3
      rw [(nI_eq (by omega) (by omega)).mp e]; exact hb
    obtain ⟨j, hj, rfl⟩ := (isI_iff (by omega)).mp o1
    rw [nI_clamp (by omega)] at o2 ⊢
    rw [spF_eq (by omega)] at o4
    obtain ⟨v1, v2, v3, -⟩ := vS_put hv1 hj (show 12 * p + (q + i) < 36 by omega) o2 o4
    rw [← v2]
    refine z_if_ge (tgt := 92) dX5_writeName_86 (by decide) (fun c_86 => ?_) (fun c_86 => absurd (Int32.not_lt.mp (cin_pos hN48)) c_86)
    refine z_iincU dX5_writeName_92 rfl (by decide) rfl rfl ?_
    refine z_goto (tgt := 6) dX5_writeName_95 (by decide) ?_
    exact ke _ _ _ _ v1 (v3.trans hu1) (hyes j rfl hj o2 hpl o4)
  · rw [show puV t1 (spF t1) x p (nI (q + i)) = -5 from if_neg hO, show puS t1 (spF t1) x p (nI (q + i)) = t1 from if_neg hO, show puP t1 (spF t1) x p (nI (q + i)) = spF t1 from if_neg hO]
    refine z_if_ge (tgt := 92) dX5_writeName_86 (by decide) (fun c_86 => absurd c_86 (by decide)) (fun c_86 => ?_)
    refine z_bipush (v := (-5)) dX5_writeName_89 (by decide) ?_
    exact z_ireturn dX5_writeName_91 ⟨.int, rfl, rfl⟩ ⟨⟨rfl, Or.inr ⟨hno (by simpa using hO), rfl, t1, spF t1, fun j hj => spF_36 hj, rfl⟩⟩, Nat.le_refl _, Nat.le_refl _⟩
