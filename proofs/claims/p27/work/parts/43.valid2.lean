theorem okR_cg {s t : Nat → Int32} (h : okR s) (e : ∀ k r, k < 6 → r < 9 → t (5 + 11 * k + r) = s (5 + 11 * k + r)) : okR t := by
  intro k r hk hr
  have e2 : rN t k r = rN s k r := by unfold rN; rw [e k r hk hr]
  rw [e k r hk hr, e2]
  exact h k r hk hr
theorem vP_cg {s t : Nat → Int32} {j : Nat} (hj : vP s j) (e1 : nP t = nP s) (hjm : j < nP s) (ho : ∀ i, i < nP s → ∀ f, f < 8 → t (69 + 8 * i + f) = s (69 + 8 * i + f)) : vP t j := by
  have hp : ∀ v, paF t v (nP s) = paF s v (nP s) := fun v => paF_cg _ (fun i hi => ho i hi 4 (by omega))
  have hl : plN t j = plN s j := by unfold plN; rw [ho j hjm 0 (by omega)]
  unfold vP
  rw [hl, e1, ho j hjm 0 (by omega), ho j hjm 7 (by omega), ho j hjm 2 (by omega), ho j hjm 3 (by omega), ho j hjm 4 (by omega)]
  obtain ⟨p1, p2, ⟨q1, v, q2, q3, q4⟩ | q⟩ := hj
  · exact ⟨p1, p2, Or.inl ⟨q1, v, q2, q3, (hp _).trans q4⟩⟩
  · exact ⟨p1, p2, Or.inr q⟩
theorem spF_cg {s t : Nat → Int32} (e1 : nP t = nP s) (ho : ∀ i, i < nP s → t (69 + 8 * i + 4) = s (69 + 8 * i + 4)) : spF t = spF s := by
  funext v
  unfold spF
  rw [e1]
  split
  · exact paF_cg _ ho
  · rfl
/-- a new sheet -/
theorem vS_sheet {s : Nat → Int32} (h : vS s) (h6 : nSh s < 6) (c : Int32) : vS (sheetS s (nSh s) c) ∧ spF (sheetS s (nSh s) c) = spF s ∧ (∀ n, sheetS s (nSh s) c n = upd (upd s (3 + 11 * nSh s) c) 0 (nI (nSh s + 1)) n) := by
  obtain ⟨g1, g2, g3, g4, g5, g6, g7⟩ := id h
  obtain ⟨⟨a1, a2⟩, ⟨b1, b2⟩, hR⟩ := id g1
  have hv : ∀ n, sheetS s (nSh s) c n = if n = 3 + 11 * nSh s then c else if n = 0 then nI (nSh s + 1) else s n := by
    intro n
    show upd (zfS (upd s 0 (nI (nSh s + 1))) (3 + 11 * nSh s) 11) (3 + 11 * nSh s) c n = _
    by_cases e : n = 3 + 11 * nSh s
    · rw [e, if_pos rfl, pk_us]
    · rw [if_neg e, pk_un e]
      unfold zfS
      by_cases e2 : 3 + 11 * nSh s ≤ n ∧ n < 3 + 11 * nSh s + 11
      · rw [if_pos e2, if_neg (by omega)]
        have := g3 (nSh s) (Nat.le_refl _) h6 (n - 3 - 11 * nSh s) (by omega)
        rw [show 3 + 11 * nSh s + (n - 3 - 11 * nSh s) = n by omega] at this
        exact this.symm
      · rw [if_neg e2]
        by_cases e3 : n = 0
        · rw [e3, if_pos rfl, pk_us]
        · rw [if_neg e3, pk_un e3]
  have ho : ∀ n, n ≠ 0 → n ≠ 3 + 11 * nSh s → sheetS s (nSh s) c n = s n := fun n h1 h2 => by rw [hv, if_neg h2, if_neg h1]
  have e00 : sheetS s (nSh s) c 0 = nI (nSh s + 1) := by rw [hv, if_neg (by omega), if_pos rfl]
  have e0 : nSh (sheetS s (nSh s) c) = nSh s + 1 := by
    show (sheetS s (nSh s) c 0).toNatClampNeg = _
    rw [e00, nI_clamp (by omega)]
  have e1 : nP (sheetS s (nSh s) c) = nP s := by
    show (sheetS s (nSh s) c 1).toNatClampNeg = _
    rw [ho _ (by omega) (by omega)]; rfl
  have hpl : ∀ i, plN (sheetS s (nSh s) c) i = plN s i := fun i => by unfold plN; rw [ho _ (by omega) (by omega)]
  refine ⟨⟨⟨⟨by rw [e0, e00], by omega⟩, ⟨by rw [e1, ho _ (by omega) (by omega)]; exact b1, by omega⟩, okR_cg hR (fun k r hk hr => ho _ (by omega) (by omega))⟩, fun n hn => by rw [ho n (by omega) (by omega)]; exact g2 n hn, ?_, ?_, ?_, ?_, ?_⟩, ?_, ?_⟩
  · rw [e0]; intro k h1 h2 f hf; rw [ho _ (by omega) (by omega)]; exact g3 k (by omega) h2 f hf
  · rw [e1]; intro i h1 h2 f hf; rw [ho _ (by omega) (by omega)]; exact g4 i h1 h2 f hf
  · intro k hk; rw [ho _ (by omega) (by omega)]; exact g5 k hk
  · rw [e1]; intro i hi; exact vP_cg (g6 i hi) e1 hi (fun i2 hi2 f hf => ho _ (by omega) (by omega))
  · rw [ho 2 (by omega) (by omega), g7]
    unfold wsT
    rw [e0, e1]
    congr 1
    · exact (cps_cg _ (fun i hi => ⟨by rw [ho _ (by omega) (by omega)], hpl i⟩)).symm
    · have z := g3 (nSh s) (Nat.le_refl _) h6 1 (by omega)
      rw [show 3 + 11 * nSh s + 1 = 4 + 11 * nSh s by omega] at z
      rw [cssA, if_neg (by rw [ho _ (by omega) (by omega), z]; decide), add_n0]
      exact (css_cg _ (fun i hi => ⟨by rw [ho _ (by omega) (by omega)], fun _ => uncA_cg (fun r hr => ho _ (by omega) (by omega))⟩)).symm
  · exact spF_cg e1 (fun i hi => ho _ (by omega) (by omega))
  · intro n
    rw [hv]
    show _ = if n = 0 then nI (nSh s + 1) else if n = 3 + 11 * nSh s then c else s n
    by_cases c1 : n = 0
    · rw [if_pos c1, if_neg (by omega), if_pos c1]
    · rw [if_neg c1]
      by_cases c2 : n = 3 + 11 * nSh s
      · simp only [if_pos c2, if_neg c1]
      · simp only [if_neg c2, if_neg c1]
theorem css_add {s t : Nat → Int32} {x u : Int32} {k : Nat} (hs : s (4 + 11 * k) ≠ x) (ht : t (4 + 11 * k) = x) (hu : uncA t k 9 = u) : ∀ n, k < n → (∀ i, i < n → i ≠ k → (t (4 + 11 * i) = x ↔ s (4 + 11 * i) = x) ∧ uncA t i 9 = uncA s i 9) → cssA t x n = cssA s x n + u
  | 0, h, _ => absurd h (by omega)
  | n + 1, h, hi => by
    rw [cssA, cssA]
    by_cases e : k = n
    · subst e
      rw [css_cg k (fun i h2 => ⟨(hi i (by omega) (by omega)).1, fun _ => (hi i (by omega) (by omega)).2⟩), if_pos ht, if_neg hs, hu, add_n0]
    · rw [css_add hs ht hu n (by omega) (fun i h2 h3 => hi i (by omega) h3)]
      obtain ⟨h1, h2⟩ := hi n (by omega) (fun z => e z.symm)
      by_cases c : s (4 + 11 * n) = x
      · rw [if_pos c, if_pos (h1.mpr c), h2, Int32.add_assoc, Int32.add_assoc, Int32.add_comm u]
      · rw [if_neg c, if_neg (fun z => c (h1.mp z)), add_n0, add_n0]
theorem cps_add {s t : Nat → Int32} {x : Int32} {j : Nat} (hs : s (69 + 8 * j + 3) ≠ x) (ht : t (69 + 8 * j + 3) = x) : ∀ n, j < n → (∀ i, i < n → plN t i = plN s i) → (∀ i, i < n → i ≠ j → t (69 + 8 * i + 3) = s (69 + 8 * i + 3)) → cpsA t x n = cpsA s x n + nI (sqA (plN s j) 5)
  | 0, h, _, _ => absurd h (by omega)
  | n + 1, h, hl, hi => by
    rw [cpsA, cpsA]
    by_cases e : j = n
    · subst e
      rw [cps_cg j (fun i h2 => ⟨by rw [hi i (by omega) (by omega)], hl i (by omega)⟩), if_pos ht, if_neg hs, hl j (by omega), add_n0]
    · rw [cps_add hs ht n (by omega) (fun i h2 => hl i (by omega)) (fun i h2 h3 => hi i (by omega) h3), hi n (by omega) (fun z => e z.symm), hl n (by omega)]
      by_cases c : s (69 + 8 * n + 3) = x
      · rw [if_pos c, Int32.add_assoc, Int32.add_assoc, Int32.add_comm (nI (sqA (plN s j) 5))]
      · rw [if_neg c, add_n0, add_n0]
/-- a sheet is scrapped -/
theorem vS_scrap {s : Nat → Int32} (h : vS s) {k : Nat} (hk : k < nSh s) (h0 : s (4 + 11 * k) = 0) : vS (scS s k) ∧ spF (scS s k) = spF s ∧ (∀ n, n ≠ 2 → scS s k n = upd s (4 + 11 * k) (nI 1) n) := by
  obtain ⟨g1, g2, g3, g4, g5, g6, g7⟩ := id h
  obtain ⟨⟨a1, a2⟩, ⟨b1, b2⟩, hR⟩ := id g1
  have ho : ∀ n, n ≠ 2 → n ≠ 4 + 11 * k → scS s k n = s n := fun n h1 h2 => by unfold scS; rw [pk_un h1, pk_un h2]
  have hk1 : scS s k (4 + 11 * k) = nI 1 := by unfold scS; rw [pk_un (by omega), pk_us]
  have e0 : nSh (scS s k) = nSh s := by unfold nSh; rw [ho _ (by omega) (by omega)]
  have e1 : nP (scS s k) = nP s := by unfold nP; rw [ho _ (by omega) (by omega)]
  have hpl : ∀ i, plN (scS s k) i = plN s i := fun i => by unfold plN; rw [ho _ (by omega) (by omega)]
  have hun : ∀ i, uncA (scS s k) i 9 = uncA s i 9 := fun i => uncA_cg (fun r hr => ho _ (by omega) (by omega))
  refine ⟨⟨⟨⟨by rw [e0, ho _ (by omega) (by omega)]; exact a1, by omega⟩, ⟨by rw [e1, ho _ (by omega) (by omega)]; exact b1, by omega⟩, okR_cg hR (fun k2 r _ hr => ho _ (by omega) (by omega))⟩, fun n hn => by rw [ho n (by omega) (by omega)]; exact g2 n hn, ?_, ?_, ?_, ?_, ?_⟩, spF_cg e1 (fun i hi => ho _ (by omega) (by omega)), ?_⟩
  · rw [e0]; intro k2 h1 h2 f hf; rw [ho _ (by omega) (by omega)]; exact g3 k2 h1 h2 f hf
  · rw [e1]; intro i h1 h2 f hf; rw [ho _ (by omega) (by omega)]; exact g4 i h1 h2 f hf
  · intro k2 hk2
    by_cases c : k2 = k
    · rw [c, hk1]; exact Or.inr rfl
    · rw [ho _ (by omega) (by omega)]; exact g5 k2 hk2
  · rw [e1]; intro i hi; exact vP_cg (g6 i hi) e1 hi (fun i2 hi2 f hf => ho _ (by omega) (by omega))
  · have e2 : scS s k 2 = s 2 + uncA s k 9 := by unfold scS; exact pk_us
    rw [e2, g7]
    unfold wsT
    rw [e0, e1, css_add (by rw [h0]; decide) hk1 (hun k) _ hk (fun i hi hik => ⟨by rw [ho _ (by omega) (by omega)], hun i⟩), cps_cg (s := s) _ (fun i hi => ⟨by rw [ho _ (by omega) (by omega)], hpl i⟩), Int32.add_assoc]
  · intro n hn; unfold scS; rw [pk_un hn]
/-- a piece is thrown away -/
theorem vS_throw {s : Nat → Int32} (h : vS s) {j : Nat} (hj : j < nP s) (h0 : s (69 + 8 * j + 3) = 0) : vS (thS s j) ∧ spF (thS s j) = spF s ∧ (∀ n, n ≠ 2 → thS s j n = upd s (69 + 8 * j + 3) (nI 2) n) := by
  obtain ⟨g1, g2, g3, g4, g5, g6, g7⟩ := id h
  obtain ⟨⟨a1, a2⟩, ⟨b1, b2⟩, hR⟩ := id g1
  have ho : ∀ n, n ≠ 2 → n ≠ 69 + 8 * j + 3 → thS s j n = s n := fun n h1 h2 => by unfold thS; rw [pk_un h1, pk_un h2]
  have hk1 : thS s j (69 + 8 * j + 3) = nI 2 := by unfold thS; rw [pk_un (by omega), pk_us]
  have e0 : nSh (thS s j) = nSh s := by unfold nSh; rw [ho _ (by omega) (by omega)]
  have e1 : nP (thS s j) = nP s := by unfold nP; rw [ho _ (by omega) (by omega)]
  have hpl : ∀ i, plN (thS s j) i = plN s i := fun i => by unfold plN; rw [ho _ (by omega) (by omega)]
  have hun : ∀ i, i < 6 → uncA (thS s j) i 9 = uncA s i 9 := fun i hi => uncA_cg (fun r hr => ho _ (by omega) (by omega))
  have hpa : ∀ v, paF (thS s j) v (nP s) = paF s v (nP s) := fun v => paF_cg _ (fun i hi => ho _ (by omega) (by omega))
  have hsj : s (69 + 8 * j + 4) = -6 := by
    apply Decidable.of_not_not
    intro z
    have := (vP_st (g6 j hj)).mp z
    rw [h0] at this
    exact absurd this (by decide)
  refine ⟨⟨⟨⟨by rw [e0, ho _ (by omega) (by omega)]; exact a1, by omega⟩, ⟨by rw [e1, ho _ (by omega) (by omega)]; exact b1, by omega⟩, okR_cg hR (fun k2 r _ hr => ho _ (by omega) (by omega))⟩, fun n hn => by rw [ho n (by omega) (by omega)]; exact g2 n hn, ?_, ?_, ?_, ?_, ?_⟩, spF_cg e1 (fun i hi => ho _ (by omega) (by omega)), ?_⟩
  · rw [e0]; intro k2 h1 h2 f hf; rw [ho _ (by omega) (by omega)]; exact g3 k2 h1 h2 f hf
  · rw [e1]; intro i h1 h2 f hf; rw [ho _ (by omega) (by omega)]; exact g4 i h1 h2 f hf
  · intro k2 hk2; rw [ho _ (by omega) (by omega)]; exact g5 k2 hk2
  · rw [e1]
    intro i hi
    obtain ⟨p1, p2, p3⟩ := g6 i hi
    unfold vP
    rw [hpl, e1, ho _ (by omega) (by omega), ho (69 + 8 * i + 7) (by omega) (by omega), ho (69 + 8 * i + 2) (by omega) (by omega), ho (69 + 8 * i + 4) (by omega) (by omega)]
    refine ⟨p1, p2, ?_⟩
    by_cases e : i = j
    · rw [e]; exact Or.inr ⟨Or.inr hk1, hsj⟩
    · rw [ho (69 + 8 * i + 3) (by omega) (by omega)]
      rcases p3 with ⟨q1, v, q2, q3, q4⟩ | q
      · exact Or.inl ⟨q1, v, q2, q3, (hpa _).trans q4⟩
      · exact Or.inr q
  · have e2 : thS s j 2 = s 2 + nI (sqA (plN s j) 5) := by unfold thS; exact pk_us
    rw [e2, g7]
    unfold wsT
    rw [e0, e1, cps_add (by rw [h0]; decide) hk1 _ hj (fun i _ => hpl i) (fun i hi hij => ho _ (by omega) (by omega)), css_cg (s := s) _ (fun i hi => ⟨by rw [ho _ (by omega) (by omega)], fun _ => hun i (by omega)⟩), Int32.add_assoc, Int32.add_assoc, Int32.add_comm (nI (sqA (plN s j) 5))]
  · intro n hn; unfold thS; rw [pk_un hn]
/-- a new piece -/
theorem vS_new {s : Nat → Int32} (h : vS s) {k l w r c : Nat} (hm : nP s < 48) (hk : k < nSh s) (h0 : s (4 + 11 * k) = 0) (hl : l < 8) (hw : w < 8) (hr : r + hiN w ≤ 9) (hc : c + wiN w ≤ 14) : vS (newS s (nP s) k l w r c) ∧ spF (newS s (nP s) k l w r c) = spF s ∧ nP (newS s (nP s) k l w r c) = nP s + 1 ∧ nSh (newS s (nP s) k l w r c) = nSh s := by
  obtain ⟨g1, g2, g3, g4, g5, g6, g7⟩ := id h
  obtain ⟨⟨a1, a2⟩, ⟨b1, b2⟩, hR⟩ := id g1
  obtain ⟨f0, f1, f2, f3, f4, f5, f6, f7⟩ := newS_f (s := s) (m := nP s) (k := k) (l := l) (w := w) (r := r) (c := c)
  have ho : ∀ n, n ≠ 1 → (n < 5 + 11 * k ∨ 14 + 11 * k ≤ n) → (n < 69 + 8 * nP s ∨ 77 + 8 * nP s ≤ n) → newS s (nP s) k l w r c n = s n := fun n h1 h2 h3 => by
    have e := neU_o (s := s) (m := nP s) (k := k) (l := l) (w := w) (r := r) (c := c) (by omega) hr h3
    unfold neU at e
    rw [pk_un h1] at e
    rw [e]
    exact cutS_out _ _ (by omega)
  have e11 : newS s (nP s) k l w r c 1 = nI (nP s + 1) := by rw [newS_lo (by omega), cutS_out _ _ (by omega), pk_us]
  have e0 : nSh (newS s (nP s) k l w r c) = nSh s := by unfold nSh; rw [ho _ (by omega) (by omega) (by omega)]
  have e1 : nP (newS s (nP s) k l w r c) = nP s + 1 := by
    show (newS s (nP s) k l w r c 1).toNatClampNeg = _
    rw [e11, nI_clamp (by omega)]
  have hpl : ∀ i, i < nP s → plN (newS s (nP s) k l w r c) i = plN s i := fun i hi => by unfold plN; rw [ho _ (by omega) (by omega) (by omega)]
  have hpa : ∀ v, v < 36 → paF (newS s (nP s) k l w r c) (nI v) (nP s + 1) = paF s (nI v) (nP s) := fun v hv => by
    rw [paF, if_neg (by rw [f4]; exact nI_n6 (by omega))]
    exact paF_cg _ (fun i hi => ho _ (by omega) (by omega) (by omega))
  refine ⟨⟨(okS_new g1 rfl hm (by omega) hl hw hr hc).1, fun n hn => by rw [ho n (by omega) (by omega) (by omega)]; exact g2 n hn, ?_, ?_, ?_, ?_, ?_⟩, ?_, e1, e0⟩
  · rw [e0]; intro k2 h1 h2 f hf; rw [ho _ (by omega) (by omega) (by omega)]; exact g3 k2 h1 h2 f hf
  · rw [e1]; intro i h1 h2 f hf; rw [ho _ (by omega) (by omega) (by omega)]; exact g4 i (by omega) h2 f hf
  · intro k2 hk2; rw [ho _ (by omega) (by omega) (by omega)]; exact g5 k2 hk2
  · rw [e1]
    intro i hi
    unfold vP
    rw [e1]
    by_cases e : i = nP s
    · rw [e, f0, f7, f2, f3, f4]
      have epl : plN (newS s (nP s) k l w r c) (nP s) = l := by unfold plN; rw [f0, nI_clamp (by omega)]
      rw [epl]
      exact ⟨⟨rfl, hl⟩, ⟨w, hw, rfl, rfl⟩, Or.inr ⟨Or.inl rfl, rfl⟩⟩
    · have hi2 : i < nP s := by omega
      obtain ⟨p1, p2, p3⟩ := g6 i hi2
      rw [hpl i hi2, ho _ (by omega) (by omega) (by omega), ho (69 + 8 * i + 7) (by omega) (by omega) (by omega), ho (69 + 8 * i + 2) (by omega) (by omega) (by omega), ho (69 + 8 * i + 3) (by omega) (by omega) (by omega), ho (69 + 8 * i + 4) (by omega) (by omega) (by omega)]
      refine ⟨p1, p2, ?_⟩
      rcases p3 with ⟨q1, v, q2, q3, q4⟩ | q
      · exact Or.inl ⟨q1, v, q2, q3, (hpa v q2).trans q4⟩
      · exact Or.inr q
  · rw [ho 2 (by omega) (by omega) (by omega), g7]
    unfold wsT
    rw [e0, e1, cpsA, if_neg (by rw [f3]; decide), add_n0]
    congr 1
    · exact (cps_cg _ (fun i hi => ⟨by rw [ho _ (by omega) (by omega) (by omega)], hpl i hi⟩)).symm
    · refine (css_cg _ (fun i hi => ⟨by rw [ho _ (by omega) (by omega) (by omega)], fun z => ?_⟩)).symm
      have hik : i ≠ k := fun e => by rw [e, h0] at z; exact absurd z (by decide)
      exact uncA_cg (fun r2 hr2 => ho _ (by omega) (by omega) (by omega))
  · funext v
    unfold spF
    rw [e1]
    by_cases c1 : v < 36
    · rw [if_pos c1, if_pos c1]; exact hpa v c1
    · rw [if_neg c1, if_neg c1]
