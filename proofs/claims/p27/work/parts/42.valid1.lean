/-- a piece's numbers are in order -/
def vP (s : Nat → Int32) (j : Nat) : Prop := (s (69 + 8 * j + 0) = nI (plN s j) ∧ plN s j < 8) ∧ (∃ w, w < 8 ∧ s (69 + 8 * j + 7) = nI w ∧ s (69 + 8 * j + 2) = nI (w / 4)) ∧
  ((s (69 + 8 * j + 3) = nI 1 ∧ ∃ v, v < 36 ∧ s (69 + 8 * j + 4) = nI v ∧ paF s (nI v) (nP s) = nI j) ∨ ((s (69 + 8 * j + 3) = nI 0 ∨ s (69 + 8 * j + 3) = nI 2) ∧ s (69 + 8 * j + 4) = -6))
def wsT (s : Nat → Int32) : Int32 := cpsA s (nI 2) (nP s) + cssA s (nI 1) (nSh s)
/-- a row of numbers that the calls can come to -/
def vS (s : Nat → Int32) : Prop := okS s ∧ okT s ∧ (∀ k, nSh s ≤ k → k < 6 → ∀ f, f < 11 → s (3 + 11 * k + f) = 0) ∧ (∀ j, nP s ≤ j → j < 48 → ∀ f, f < 8 → s (69 + 8 * j + f) = 0) ∧ (∀ k, k < 6 → s (4 + 11 * k) = 0 ∨ s (4 + 11 * k) = 1) ∧ (∀ j, j < nP s → vP s j) ∧ s 2 = wsT s
/-- the spots that belong to a row of numbers -/
def spF (s : Nat → Int32) : Nat → Int32 := fun v => if v < 36 then paF s (nI v) (nP s) else 0
theorem paF_cg {s t : Nat → Int32} {v : Int32} : ∀ m, (∀ i, i < m → t (69 + 8 * i + 4) = s (69 + 8 * i + 4)) → paF t v m = paF s v m
  | 0, _ => rfl
  | m + 1, h => by rw [paF, paF, h m (by omega), paF_cg m (fun i hi => h i (by omega))]
theorem paF_v {s : Nat → Int32} {v : Int32} : ∀ m, paF s v m = -6 ∨ ∃ j, j < m ∧ paF s v m = nI j ∧ s (69 + 8 * j + 4) = v
  | 0 => Or.inl rfl
  | m + 1 => by
    rw [paF]
    by_cases h : s (69 + 8 * m + 4) = v
    · rw [if_pos h]; exact Or.inr ⟨m, by omega, rfl, h⟩
    · rw [if_neg h]
      rcases paF_v (s := s) (v := v) m with e | ⟨j, h1, h2, h3⟩
      · exact Or.inl e
      · exact Or.inr ⟨j, by omega, h2, h3⟩
theorem paF_0 {s : Nat → Int32} {v : Int32} : ∀ m, (∀ i, i < m → s (69 + 8 * i + 4) ≠ v) → paF s v m = -6
  | 0, _ => rfl
  | m + 1, h => by rw [paF, if_neg (h m (by omega))]; exact paF_0 m (fun i hi => h i (by omega))
theorem paF_6 {s : Nat → Int32} {v : Int32} : ∀ m, m ≤ 48 → paF s v m = -6 → ∀ i, i < m → s (69 + 8 * i + 4) ≠ v
  | 0, _, _, i, hi => absurd hi (by omega)
  | m + 1, hm, h, i, hi => by
    rw [paF] at h
    by_cases c : s (69 + 8 * m + 4) = v
    · rw [if_pos c] at h; exact absurd h (nI_ne6 (by omega))
    · rw [if_neg c] at h
      by_cases e : i = m
      · rw [e]; exact c
      · exact paF_6 m (by omega) h i (by omega)
theorem paF_sk {s t : Nat → Int32} {x : Int32} {j : Nat} (hs : s (69 + 8 * j + 4) ≠ x) (ht : t (69 + 8 * j + 4) ≠ x) : ∀ m, (∀ i, i < m → i ≠ j → t (69 + 8 * i + 4) = s (69 + 8 * i + 4)) → paF t x m = paF s x m
  | 0, _ => rfl
  | m + 1, h => by
    rw [paF, paF, paF_sk hs ht m (fun i hi => h i (by omega))]
    by_cases e : m = j
    · rw [e, if_neg hs, if_neg ht]
    · rw [h m (by omega) e]
theorem paF_1 {s : Nat → Int32} {v : Int32} {j : Nat} (hj : s (69 + 8 * j + 4) = v) : ∀ m, j < m → (∀ i, i < m → i ≠ j → s (69 + 8 * i + 4) ≠ v) → paF s v m = nI j
  | 0, h, _ => absurd h (by omega)
  | m + 1, h, hu => by
    rw [paF]
    by_cases e : m = j
    · rw [e, if_pos hj]
    · rw [if_neg (hu m (by omega) e)]
      exact paF_1 hj m (by omega) (fun i hi => hu i (by omega))
theorem nI_n6 {n : Nat} (h : n < 2 ^ 31) : (-6 : Int32) ≠ nI n := fun e => nI_ne6 h e.symm
theorem vP_st {s : Nat → Int32} {j : Nat} (h : vP s j) : (s (69 + 8 * j + 4) ≠ -6 ↔ s (69 + 8 * j + 3) = nI 1) := by
  obtain ⟨-, -, h | h⟩ := h
  · obtain ⟨h1, v, hv, h2, -⟩ := h
    exact ⟨fun _ => h1, fun _ => by rw [h2]; exact nI_ne6 (by omega)⟩
  · refine ⟨fun z => absurd h.2 z, fun z => ?_⟩
    rcases h.1 with e | e <;> rw [e] at z <;> exact absurd z (by decide)
/-- two pieces do not stand at a spot -/
theorem vS_u {s : Nat → Int32} (h : vS s) {i j v : Nat} (hv : v < 36) (hi : i < nP s) (ei : s (69 + 8 * i + 4) = nI v) (ej : paF s (nI v) (nP s) = nI j) (hj : j < 48) : i = j := by
  have h48 := h.1.2.1.2
  obtain ⟨-, -, h1 | h1⟩ := h.2.2.2.2.2.1 i hi
  · obtain ⟨-, v', hv', e1, e2⟩ := h1
    rw [ei] at e1
    have : v = v' := (nI_eq (by omega) (by omega)).mp e1
    rw [← this, ej] at e2
    exact ((nI_eq (by omega) (by omega)).mp e2).symm
  · rw [h1.2] at ei
    exact absurd ei (nI_n6 (by omega))
theorem cps_cg {s t : Nat → Int32} {x : Int32} : ∀ m, (∀ i, i < m → (t (69 + 8 * i + 3) = x ↔ s (69 + 8 * i + 3) = x) ∧ plN t i = plN s i) → cpsA t x m = cpsA s x m
  | 0, _ => rfl
  | m + 1, h => by
    obtain ⟨h1, h2⟩ := h m (by omega)
    rw [cpsA, cpsA, cps_cg m (fun i hi => h i (by omega)), h2]
    by_cases c : s (69 + 8 * m + 3) = x
    · rw [if_pos c, if_pos (h1.mpr c)]
    · rw [if_neg c, if_neg (fun z => c (h1.mp z))]
theorem css_cg {s t : Nat → Int32} {x : Int32} : ∀ n, (∀ i, i < n → (t (4 + 11 * i) = x ↔ s (4 + 11 * i) = x) ∧ (s (4 + 11 * i) = x → uncA t i 9 = uncA s i 9)) → cssA t x n = cssA s x n
  | 0, _ => rfl
  | n + 1, h => by
    obtain ⟨h1, h2⟩ := h n (by omega)
    rw [cssA, cssA, css_cg n (fun i hi => h i (by omega))]
    by_cases c : s (4 + 11 * n) = x
    · rw [if_pos c, if_pos (h1.mpr c), h2 c]
    · rw [if_neg c, if_neg (fun z => c (h1.mp z))]
/-- a change of one piece's state and spot -/
theorem vS_ch {s t : Nat → Int32} (h : vS s) {j : Nat} (hj : j < nP s) (ho : ∀ n, n ≠ 69 + 8 * j + 3 → n ≠ 69 + 8 * j + 4 → t n = s n) (hst : (t (69 + 8 * j + 3) = nI 2 ↔ s (69 + 8 * j + 3) = nI 2))
    (hjP : (t (69 + 8 * j + 3) = nI 1 ∧ ∃ v, v < 36 ∧ t (69 + 8 * j + 4) = nI v ∧ paF t (nI v) (nP s) = nI j) ∨ ((t (69 + 8 * j + 3) = nI 0 ∨ t (69 + 8 * j + 3) = nI 2) ∧ t (69 + 8 * j + 4) = -6))
    (hot : ∀ i, i < nP s → i ≠ j → ∀ v, v < 36 → s (69 + 8 * i + 4) = nI v → paF s (nI v) (nP s) = nI i → paF t (nI v) (nP s) = nI i) : vS t ∧ nP t = nP s ∧ nSh t = nSh s := by
  obtain ⟨g1, g2, g3, g4, g5, g6, g7⟩ := id h
  have h6 := g1.1.2
  have h48 := g1.2.1.2
  have e0 : nSh t = nSh s := by unfold nSh; rw [ho 0 (by omega) (by omega)]
  have e1 : nP t = nP s := by unfold nP; rw [ho 1 (by omega) (by omega)]
  have hpl : ∀ i, plN t i = plN s i := fun i => by unfold plN; rw [ho _ (by omega) (by omega)]
  refine ⟨⟨(okS_hi g1 (fun n hn => ho n (by omega) (by omega))).1, fun n hn => by rw [ho n (by omega) (by omega)]; exact g2 n hn, ?_, ?_, ?_, ?_, ?_⟩, e1, e0⟩
  · rw [e0]; intro k h1 h2 f hf; rw [ho _ (by omega) (by omega)]; exact g3 k h1 h2 f hf
  · rw [e1]; intro i h1 h2 f hf; rw [ho _ (by omega) (by omega)]; exact g4 i h1 h2 f hf
  · intro k hk; rw [ho _ (by omega) (by omega)]; exact g5 k hk
  · rw [e1]
    intro i hi
    obtain ⟨p1, p2, p3⟩ := g6 i hi
    unfold vP
    rw [hpl, e1, ho _ (by omega) (by omega), ho (69 + 8 * i + 7) (by omega) (by omega), ho (69 + 8 * i + 2) (by omega) (by omega)]
    refine ⟨p1, p2, ?_⟩
    by_cases e : i = j
    · rw [e]; exact hjP
    · rw [ho (69 + 8 * i + 3) (by omega) (by omega), ho (69 + 8 * i + 4) (by omega) (by omega)]
      rcases p3 with ⟨q1, v, q2, q3, q4⟩ | q
      · exact Or.inl ⟨q1, v, q2, q3, hot i hi e v q2 q3 q4⟩
      · exact Or.inr q
  · rw [ho 2 (by omega) (by omega), g7]
    unfold wsT
    rw [e0, e1]
    congr 1
    · refine (cps_cg _ (fun i hi => ⟨?_, hpl i⟩)).symm
      by_cases e : i = j
      · rw [e]; exact hst
      · rw [ho _ (by omega) (by omega)]
    · exact (css_cg _ (fun i hi => ⟨by rw [ho _ (by omega) (by omega)], fun _ => uncA_cg (fun r hr => ho _ (by omega) (by omega))⟩)).symm
theorem spF_eq {s : Nat → Int32} {v : Nat} (h : v < 36) : spF s v = paF s (nI v) (nP s) := if_pos h
/-- a piece is put into a place -/
theorem vS_put {s : Nat → Int32} (h : vS s) {j v : Nat} (hj : j < nP s) (hv : v < 36) (h3 : s (69 + 8 * j + 3) = 0) (hf : paF s (nI v) (nP s) = -6) : vS (putS s j (nI v)) ∧ spF (putS s j (nI v)) = upd (spF s) v (nI j) ∧ nP (putS s j (nI v)) = nP s ∧ nSh (putS s j (nI v)) = nSh s := by
  have h48 := h.1.2.1.2
  obtain ⟨f3, f4, fo⟩ := putS_f (s := s) (j := j) (v := nI v)
  have hsj : s (69 + 8 * j + 4) = -6 := by
    apply Decidable.of_not_not
    intro z
    have := (vP_st (h.2.2.2.2.2.1 j hj)).mp z
    rw [h3] at this
    exact absurd this (by decide)
  have hno := paF_6 (nP s) h48 hf
  have hin : paF (putS s j (nI v)) (nI v) (nP s) = nI j := paF_1 f4 _ hj (fun i hi hij => by rw [fo _ (by omega) (by omega)]; exact hno i hi)
  have hou : ∀ u, u < 36 → u ≠ v → paF (putS s j (nI v)) (nI u) (nP s) = paF s (nI u) (nP s) := fun u hu huv => paF_sk (j := j) (by rw [hsj]; exact nI_n6 (by omega)) (by rw [f4]; exact fun z => huv ((nI_eq (by omega) (by omega)).mp z).symm) _ (fun i hi hij => fo _ (by omega) (by omega))
  obtain ⟨k1, k2, k3⟩ := vS_ch h hj fo (by rw [f3, h3]; decide) (Or.inl ⟨f3, v, hv, f4, hin⟩) (fun i hi hij u hu e1 e2 => by
    by_cases c : u = v
    · rw [c, hf] at e2; exact absurd e2 (nI_n6 (by omega))
    · rw [hou u hu c]; exact e2)
  refine ⟨k1, ?_, k2, k3⟩
  funext u
  show (if u < 36 then paF (putS s j (nI v)) (nI u) (nP (putS s j (nI v))) else 0) = if u = v then nI j else if u < 36 then paF s (nI u) (nP s) else 0
  rw [k2]
  by_cases c : u = v
  · rw [if_pos c, c, if_pos hv, hin]
  · rw [if_neg c]
    by_cases c2 : u < 36
    · rw [if_pos c2, if_pos c2, hou u c2 c]
    · rw [if_neg c2, if_neg c2]
/-- a piece is taken out of its place -/
theorem vS_ls {s : Nat → Int32} (h : vS s) {j v : Nat} (hv : v < 36) (hj : j < nP s) (hp : paF s (nI v) (nP s) = nI j) : vS (lsS s j) ∧ spF (lsS s j) = upd (spF s) v (-6) ∧ nP (lsS s j) = nP s ∧ nSh (lsS s j) = nSh s ∧ s (69 + 8 * j + 4) = nI v := by
  have h48 := h.1.2.1.2
  obtain ⟨f3, f4, fo⟩ := lsS_f (s := s) (j := j)
  have hsj : s (69 + 8 * j + 4) = nI v := by
    rcases paF_v (s := s) (v := nI v) (nP s) with e | ⟨j', h1, h2, h3⟩
    · rw [e] at hp; exact absurd hp (nI_n6 (by omega))
    · rw [hp] at h2
      rw [(nI_eq (by omega) (by omega)).mp h2]; exact h3
  have h3 : s (69 + 8 * j + 3) = nI 1 := (vP_st (h.2.2.2.2.2.1 j hj)).mp (by rw [hsj]; exact nI_ne6 (by omega))
  have hin : paF (lsS s j) (nI v) (nP s) = -6 := paF_0 _ (fun i hi z => by
    by_cases c : i = j
    · rw [c, f4] at z; exact nI_n6 (by omega) z
    · rw [fo _ (by omega) (by omega)] at z
      exact c (vS_u h hv hi z hp (by omega)))
  have hou : ∀ u, u < 36 → u ≠ v → paF (lsS s j) (nI u) (nP s) = paF s (nI u) (nP s) := fun u hu huv => paF_sk (j := j) (by rw [hsj]; exact fun z => huv ((nI_eq (by omega) (by omega)).mp z).symm) (by rw [f4]; exact nI_n6 (by omega)) _ (fun i hi hij => fo _ (by omega) (by omega))
  obtain ⟨k1, k2, k3⟩ := vS_ch h hj fo (by rw [f3, h3]; decide) (Or.inr ⟨Or.inl f3, f4⟩) (fun i hi hij u hu e1 e2 => by
    by_cases c : u = v
    · rw [c, hp] at e2; exact absurd ((nI_eq (by omega) (by omega)).mp e2).symm hij
    · rw [hou u hu c]; exact e2)
  refine ⟨k1, ?_, k2, k3, hsj⟩
  funext u
  show (if u < 36 then paF (lsS s j) (nI u) (nP (lsS s j)) else 0) = if u = v then -6 else if u < 36 then paF s (nI u) (nP s) else 0
  rw [k2]
  by_cases c : u = v
  · rw [if_pos c, c, if_pos hv, hin]
  · rw [if_neg c]
    by_cases c2 : u < 36
    · rw [if_pos c2, if_pos c2, hou u c2 c]
    · rw [if_neg c2, if_neg c2]
