/-- a piece's way, sheet, corner -/
def fW (s : Nat → Int32) (j : Nat) : Nat := (s (69 + 8 * j + 7)).toNatClampNeg
def fK (s : Nat → Int32) (j : Nat) : Nat := (s (69 + 8 * j + 5)).toNatClampNeg
def fC (s : Nat → Int32) (j : Nat) : Nat := (s (69 + 8 * j + 6)).toNatClampNeg
/-- what a letter takes of the i-th row of all sheets, cut at the b-th row, column c -/
def lm (l w b c i : Nat) : Nat := if b ≤ i ∧ i < b + hiN w then tabN (40 * l + 5 * w + (i - b)) * 2 ^ c else 0
/-- what piece j takes of it -/
def pm (s : Nat → Int32) (j i : Nat) : Nat := lm (plN s j) (fW s j) (9 * fK s j + fC s j / 14) (fC s j % 14) i
/-- what the first m pieces take of it -/
def ac (s : Nat → Int32) : Nat → Nat → Nat
  | 0, _ => 0
  | m + 1, i => ac s m i ||| pm s m i
def gP (s : Nat → Int32) (j : Nat) : Prop := (s (69 + 8 * j + 5) = nI (fK s j) ∧ fK s j < nSh s) ∧ (s (69 + 8 * j + 7) = nI (fW s j) ∧ fW s j < 8) ∧ (s (69 + 8 * j + 6) = nI (fC s j) ∧ fC s j / 14 + hiN (fW s j) ≤ 9 ∧ fC s j % 14 + wiN (fW s j) ≤ 14) ∧ s (69 + 8 * j + 1) = s (3 + 11 * fK s j) ∧ ∀ i, ac s j i &&& pm s j i = 0
def sqC (s : Nat → Int32) : Nat → Nat
  | 0 => 0
  | k + 1 => sqC s k + cutN s k 9
def sqL (s : Nat → Int32) : Nat → Nat
  | 0 => 0
  | j + 1 => sqL s j + sqA (plN s j) 5
def vG (s : Nat → Int32) : Prop := (∀ j, j < nP s → gP s j) ∧ (∀ k r, k < nSh s → r < 9 → rN s k r = ac s (nP s) (9 * k + r)) ∧ sqC s (nSh s) = sqL s (nP s)
theorem pm_cg {s t : Nat → Int32} {j : Nat} (h : ∀ f, f = 0 ∨ f = 1 ∨ f = 5 ∨ f = 6 ∨ f = 7 → t (69 + 8 * j + f) = s (69 + 8 * j + f)) : ∀ i, pm t j i = pm s j i := by
  intro i
  unfold pm fK fC fW plN
  rw [h 0 (by omega), h 5 (by omega), h 6 (by omega), h 7 (by omega)]
theorem ac_cg {s t : Nat → Int32} : ∀ m, (∀ j, j < m → ∀ i, pm t j i = pm s j i) → ∀ i, ac t m i = ac s m i
  | 0, _, _ => rfl
  | m + 1, h, i => by rw [ac, ac, ac_cg m (fun j hj => h j (by omega)) i, h m (by omega) i]
theorem rN_cg {s t : Nat → Int32} {k r : Nat} (h : t (5 + 11 * k + r) = s (5 + 11 * k + r)) : rN t k r = rN s k r := by unfold rN; rw [h]
theorem cutN_cg {s t : Nat → Int32} {k : Nat} : ∀ n, (∀ r, r < n → rN t k r = rN s k r) → cutN t k n = cutN s k n
  | 0, _ => rfl
  | n + 1, h => by rw [cutN, cutN, cutN_cg n (fun r hr => h r (by omega)), h n (by omega)]
theorem sqC_cg {s t : Nat → Int32} : ∀ n, (∀ k r, k < n → r < 9 → rN t k r = rN s k r) → sqC t n = sqC s n
  | 0, _ => rfl
  | n + 1, h => by rw [sqC, sqC, sqC_cg n (fun k r hk hr => h k r (by omega) hr), cutN_cg 9 (fun r hr => h n r (by omega) hr)]
theorem sqL_cg {s t : Nat → Int32} : ∀ n, (∀ j, j < n → plN t j = plN s j) → sqL t n = sqL s n
  | 0, _ => rfl
  | n + 1, h => by rw [sqL, sqL, sqL_cg n (fun j hj => h j (by omega)), h n (by omega)]
theorem gP_cg {s t : Nat → Int32} {j : Nat} (g : gP s j) (e0 : nSh s ≤ nSh t) (hp : ∀ i, i ≤ j → ∀ f, f = 0 ∨ f = 1 ∨ f = 5 ∨ f = 6 ∨ f = 7 → t (69 + 8 * i + f) = s (69 + 8 * i + f)) (hc : ∀ k, k < nSh s → t (3 + 11 * k) = s (3 + 11 * k)) : gP t j := by
  obtain ⟨⟨g1, g2⟩, ⟨g3, g4⟩, ⟨g5, g6, g7⟩, g8, g9⟩ := g
  have eK : fK t j = fK s j := by unfold fK; rw [hp j (Nat.le_refl _) 5 (by omega)]
  have eW : fW t j = fW s j := by unfold fW; rw [hp j (Nat.le_refl _) 7 (by omega)]
  have eC : fC t j = fC s j := by unfold fC; rw [hp j (Nat.le_refl _) 6 (by omega)]
  refine ⟨⟨by rw [eK, hp j (Nat.le_refl _) 5 (by omega)]; exact g1, by rw [eK]; omega⟩, ⟨by rw [eW, hp j (Nat.le_refl _) 7 (by omega)]; exact g3, by rw [eW]; exact g4⟩, ⟨by rw [eC, hp j (Nat.le_refl _) 6 (by omega)]; exact g5, by rw [eC, eW]; exact g6, by rw [eC, eW]; exact g7⟩, ?_, fun i => ?_⟩
  · rw [hp j (Nat.le_refl _) 1 (by omega), eK, hc _ g2]; exact g8
  · rw [ac_cg j (fun i2 hi2 => pm_cg (hp i2 (by omega))) i, pm_cg (hp j (Nat.le_refl _)) i]; exact g9 i
theorem vG_cg {s t : Nat → Int32} (h : vG s) (e1 : nP t = nP s) (e0 : nSh t = nSh s) (hp : ∀ j, j < nP s → ∀ f, f = 0 ∨ f = 1 ∨ f = 5 ∨ f = 6 ∨ f = 7 → t (69 + 8 * j + f) = s (69 + 8 * j + f)) (hc : ∀ k, k < nSh s → t (3 + 11 * k) = s (3 + 11 * k)) (hr : ∀ k r, k < nSh s → r < 9 → t (5 + 11 * k + r) = s (5 + 11 * k + r)) : vG t := by
  obtain ⟨h1, h2, h3⟩ := h
  refine ⟨fun j hj => gP_cg (h1 j (by omega)) (Nat.le_of_eq e0.symm) (fun i hi => hp i (by omega)) hc, fun k r hk hr2 => ?_, ?_⟩
  · rw [e1, rN_cg (hr k r (by omega) hr2), ac_cg _ (fun j hj => pm_cg (hp j hj))]
    exact h2 k r (by omega) hr2
  · rw [e0, e1, sqC_cg _ (fun k r hk hr2 => rN_cg (hr k r hk hr2)), sqL_cg _ (fun j hj => by unfold plN; rw [hp j hj 0 (by omega)])]
    exact h3
theorem vG_0 : vG (fun _ => 0) := by
  have e0 : nSh (fun _ => 0) = 0 := by decide
  have e1 : nP (fun _ => 0) = 0 := by decide
  refine ⟨fun j hj => absurd hj (by rw [e1]; omega), fun k r hk => absurd hk (by rw [e0]; omega), ?_⟩
  rw [e0, e1]
  rfl
theorem vG_sheet {s : Nat → Int32} (h : vS s) (g : vG s) (h6 : nSh s < 6) (c : Int32) : vG (sheetS s (nSh s) c) ∧ nSh (sheetS s (nSh s) c) = nSh s + 1 ∧ nP (sheetS s (nSh s) c) = nP s := by
  obtain ⟨-, -, hv⟩ := vS_sheet h h6 c
  obtain ⟨g1, g2, g3⟩ := g
  have h48 := h.1.2.1.2
  have ho : ∀ n, n ≠ 0 → n ≠ 3 + 11 * nSh s → sheetS s (nSh s) c n = s n := fun n n1 n2 => by rw [hv, pk_un n1, pk_un n2]
  have e0 : nSh (sheetS s (nSh s) c) = nSh s + 1 := by
    show (sheetS s (nSh s) c 0).toNatClampNeg = _
    rw [hv, pk_us, nI_clamp (by omega)]
  have e1 : nP (sheetS s (nSh s) c) = nP s := by
    show (sheetS s (nSh s) c 1).toNatClampNeg = _
    rw [ho _ (by omega) (by omega)]; rfl
  have hpm : ∀ j, j < nP s → ∀ i, pm (sheetS s (nSh s) c) j i = pm s j i := fun j hj => pm_cg (fun f hf => ho _ (by omega) (by omega))
  have hz : ∀ m, m ≤ nP s → ∀ r, ac s m (9 * nSh s + r) = 0 := by
    intro m
    induction m with
    | zero => intro _ r; rfl
    | succ m ih =>
      intro hm r
      obtain ⟨⟨-, q2⟩, -, ⟨-, q6, -⟩, -, -⟩ := g1 m (by omega)
      rw [ac, ih (by omega) r]
      unfold pm lm
      rw [if_neg (by omega)]
      rfl
  refine ⟨⟨fun j hj => gP_cg (g1 j (by omega)) (by omega) (fun i hi f hf => ho _ (by omega) (by omega)) (fun k hk => ho _ (by omega) (by omega)), fun k r hk hr => ?_, ?_⟩, e0, e1⟩
  · rw [e1, rN_cg (ho _ (by omega) (by omega)), ac_cg _ hpm]
    by_cases e : k = nSh s
    · subst e
      rw [hz _ (Nat.le_refl _)]
      have z := h.2.2.1 (nSh s) (Nat.le_refl _) h6 (2 + r) (by omega)
      unfold rN
      rw [show 5 + 11 * nSh s + r = 3 + 11 * nSh s + (2 + r) by omega, z]
      rfl
    · exact g2 k r (by omega) hr
  · rw [e0, e1, sqC, sqC_cg _ (fun k r hk hr => rN_cg (ho _ (by omega) (by omega))), sqL_cg _ (fun j hj => by unfold plN; rw [ho _ (by omega) (by omega)]), g3]
    have : cutN (sheetS s (nSh s) c) (nSh s) 9 = cutN (fun _ => 0) 0 9 := by
      have key : ∀ n, n ≤ 9 → cutN (sheetS s (nSh s) c) (nSh s) n = cutN (fun _ => 0) 0 n := by
        intro n
        induction n with
        | zero => intro _; rfl
        | succ n ih =>
          intro hn
          rw [cutN, cutN, ih (by omega)]
          congr 2
          have z := h.2.2.1 (nSh s) (Nat.le_refl _) h6 (2 + n) (by omega)
          unfold rN
          rw [ho _ (by omega) (by omega), show 5 + 11 * nSh s + n = 3 + 11 * nSh s + (2 + n) by omega, z]
      exact key 9 (by omega)
    rw [this]
    show sqL s (nP s) + cutN (fun _ => 0) 0 9 = sqL s (nP s)
    rw [show cutN (fun _ => 0) 0 9 = 0 from by decide]
    rfl
theorem vG_scrap {s : Nat → Int32} (h : vS s) (g : vG s) {k : Nat} (hk : k < nSh s) (h0 : s (4 + 11 * k) = 0) : vG (scS s k) ∧ nSh (scS s k) = nSh s ∧ nP (scS s k) = nP s := by
  obtain ⟨-, -, hv⟩ := vS_scrap h hk h0
  have h6 := h.1.1.2
  have ho : ∀ n, n ≠ 2 → n ≠ 4 + 11 * k → scS s k n = s n := fun n n1 n2 => by rw [hv n n1, pk_un n2]
  have e0 : nSh (scS s k) = nSh s := by unfold nSh; rw [ho 0 (by omega) (by omega)]
  have e1 : nP (scS s k) = nP s := by unfold nP; rw [ho 1 (by omega) (by omega)]
  exact ⟨vG_cg g e1 e0 (fun j hj f hf => ho _ (by omega) (by omega)) (fun q hq => ho _ (by omega) (by omega)) (fun q r hq hr => ho _ (by omega) (by omega)), e0, e1⟩
theorem vG_throw {s : Nat → Int32} (h : vS s) (g : vG s) {j : Nat} (hj : j < nP s) (h0 : s (69 + 8 * j + 3) = 0) : vG (thS s j) ∧ nSh (thS s j) = nSh s ∧ nP (thS s j) = nP s := by
  obtain ⟨-, -, hv⟩ := vS_throw h hj h0
  have h6 := h.1.1.2
  have ho : ∀ n, n ≠ 2 → n ≠ 69 + 8 * j + 3 → thS s j n = s n := fun n n1 n2 => by rw [hv n n1, pk_un n2]
  have e0 : nSh (thS s j) = nSh s := by unfold nSh; rw [ho 0 (by omega) (by omega)]
  have e1 : nP (thS s j) = nP s := by unfold nP; rw [ho 1 (by omega) (by omega)]
  exact ⟨vG_cg g e1 e0 (fun i hi f hf => ho _ (by omega) (by omega)) (fun q hq => ho _ (by omega) (by omega)) (fun q r hq hr => ho _ (by omega) (by omega)), e0, e1⟩
theorem vG_put {s : Nat → Int32} (h : vS s) (g : vG s) {j : Nat} {v : Int32} (hj : j < nP s) : vG (putS s j v) ∧ nSh (putS s j v) = nSh s ∧ nP (putS s j v) = nP s := by
  have h6 := h.1.1.2
  have ho : ∀ n, n ≠ 69 + 8 * j + 3 → n ≠ 69 + 8 * j + 4 → putS s j v n = s n := fun n n1 n2 => by unfold putS; rw [pk_un n2, pk_un n1]
  have e0 : nSh (putS s j v) = nSh s := by unfold nSh; rw [ho 0 (by omega) (by omega)]
  have e1 : nP (putS s j v) = nP s := by unfold nP; rw [ho 1 (by omega) (by omega)]
  exact ⟨vG_cg g e1 e0 (fun i hi f hf => ho _ (by omega) (by omega)) (fun q hq => ho _ (by omega) (by omega)) (fun q r hq hr => ho _ (by omega) (by omega)), e0, e1⟩
theorem vG_clear {s : Nat → Int32} (h : vS s) (g : vG s) {x : Int32} : vG (clS s x (nP s)) ∧ nSh (clS s x (nP s)) = nSh s ∧ nP (clS s x (nP s)) = nP s := by
  have h6 := h.1.1.2
  have ho : ∀ n, (∀ i, i < nP s → n ≠ 69 + 8 * i + 3 ∧ n ≠ 69 + 8 * i + 4) → clS s x (nP s) n = s n := fun n hn => clS_no _ hn
  have e0 : nSh (clS s x (nP s)) = nSh s := by unfold nSh; rw [ho 0 (fun i hi => by omega)]
  have e1 : nP (clS s x (nP s)) = nP s := by
    show (clS s x (nP s) 1).toNatClampNeg = _
    rw [ho 1 (fun i hi => by omega)]; rfl
  exact ⟨vG_cg g e1 e0 (fun i hi f hf => ho _ (fun i hi => by omega)) (fun q hq => ho _ (fun i hi => by omega)) (fun q r hq hr => ho _ (fun i hi => by omega)), e0, e1⟩
theorem popS : ∀ j, j < 320 → ∀ c, c < 12 → popc (tabN j * 2 ^ c) = popc (tabN j) := by decide +kernel
/-- the squares of a letter's first i rows, in a way -/
def tq (l w : Nat) : Nat → Nat
  | 0 => 0
  | i + 1 => tq l w i + popc (tabN (40 * l + 5 * w + i))
theorem tq_sq : ∀ l, l < 8 → ∀ w, w < 8 → tq l w (hiN w) = sqA l 5 := by decide +kernel
theorem sqA_12 : ∀ l, l < 8 → sqA l 5 ≤ 12 := by decide +kernel
theorem pop_0 : popc 0 = 0 := popF_0 32
theorem lm_in {l w b c i : Nat} (h : i < hiN w) : lm l w b c (b + i) = tabN (40 * l + 5 * w + i) * 2 ^ c := by
  unfold lm
  rw [if_pos (by omega), Nat.add_sub_cancel_left]
theorem cutN_new {s t : Nat → Int32} {k l w r c : Nat} (hl : l < 8) (hw : w < 8) (hc : c + wiN w ≤ 14) (hr : r + hiN w ≤ 9) (e : ∀ q, q < 9 → rN t k q = rN s k q ||| lm l w (9 * k + r) c (9 * k + q)) (d : ∀ q, q < 9 → rN s k q &&& lm l w (9 * k + r) c (9 * k + q) = 0) : ∀ n, n ≤ 9 → cutN t k n = cutN s k n + tq l w (if n ≤ r then 0 else if n - r ≤ hiN w then n - r else hiN w)
  | 0, _ => by rw [if_pos (by omega)]; rfl
  | n + 1, hn => by
    have ih := cutN_new hl hw hc hr e d n (by omega)
    have h3 := wiN_ge w
    have h5 := hiN_le w
    have h7 := hiN_ge w
    rw [cutN, cutN, ih, e n (by omega)]
    have ep : popc (rN s k n ||| lm l w (9 * k + r) c (9 * k + n)) = popc (rN s k n) + popc (lm l w (9 * k + r) c (9 * k + n)) := popF_or 32 _ _ (d n (by omega))
    rw [ep]
    by_cases c1 : n + 1 ≤ r
    · rw [if_pos (by omega), if_pos c1]
      have : lm l w (9 * k + r) c (9 * k + n) = 0 := by unfold lm; rw [if_neg (by omega)]
      rw [this, pop_0]
      omega
    · rw [if_neg c1]
      by_cases c2 : n + 1 - r ≤ hiN w
      · rw [if_pos c2, show 9 * k + n = 9 * k + r + (n - r) by omega, lm_in (by omega), popS _ (by omega) _ (by omega), show n + 1 - r = (n - r) + 1 by omega, tq]
        by_cases c3 : n ≤ r
        · rw [if_pos c3, show n - r = 0 by omega, tq]; omega
        · rw [if_neg c3, if_pos (by omega)]; omega
      · rw [if_neg c2, if_neg (show ¬ n ≤ r by omega)]
        have : lm l w (9 * k + r) c (9 * k + n) = 0 := by unfold lm; rw [if_neg (by omega)]
        rw [this, pop_0]
        by_cases c3 : n - r ≤ hiN w
        · rw [if_pos c3, show n - r = hiN w by omega]; omega
        · rw [if_neg c3]; omega
theorem sqC_add {s t : Nat → Int32} {k x : Nat} (h : cutN t k 9 = cutN s k 9 + x) : ∀ n, k < n → (∀ i, i < n → i ≠ k → cutN t i 9 = cutN s i 9) → sqC t n = sqC s n + x
  | 0, h0, _ => absurd h0 (by omega)
  | n + 1, h0, h1 => by
    rw [sqC, sqC]
    by_cases e : n = k
    · subst e
      have : ∀ m, m ≤ n → sqC t m = sqC s m := by
        intro m
        induction m with
        | zero => intro _; rfl
        | succ m ih => intro hm; rw [sqC, sqC, ih (by omega), h1 m (by omega) (by omega)]
      rw [this n (Nat.le_refl _), h]; omega
    · rw [sqC_add h n (by omega) (fun i hi => h1 i (by omega)), h1 n (by omega) e]; omega
theorem vG_new {s : Nat → Int32} (h : vS s) (g : vG s) {k l w r c : Nat} (hm : nP s < 48) (hk : k < nSh s) (hl : l < 8) (hw : w < 8) (hr : r + hiN w ≤ 9) (hc : c + wiN w ≤ 14) (hok : okAt s k l w r c (hiN w) = true) : vG (newS s (nP s) k l w r c) := by
  obtain ⟨⟨-, h6⟩, -, hR⟩ := id h.1
  obtain ⟨g1, g2, g3⟩ := g
  have h5 := hiN_le w
  have h3 := wiN_ge w
  obtain ⟨f0, f1, f2, f3, f4, f5, f6, f7⟩ := newS_f (s := s) (m := nP s) (k := k) (l := l) (w := w) (r := r) (c := c)
  have ho : ∀ n, n ≠ 1 → (n < 5 + 11 * k ∨ 14 + 11 * k ≤ n) → (n < 69 + 8 * nP s ∨ 77 + 8 * nP s ≤ n) → newS s (nP s) k l w r c n = s n := fun n h1 h2 h3 => by
    have e := neU_o (s := s) (m := nP s) (k := k) (l := l) (w := w) (r := r) (c := c) (by omega) hr h3
    unfold neU at e
    rw [pk_un h1] at e
    rw [e]
    exact cutS_out _ _ (by omega)
  obtain ⟨-, e1, e0⟩ := okS_new h.1 rfl hm (show k < 6 by omega) hl hw hr hc
  have eK : fK (newS s (nP s) k l w r c) (nP s) = k := by unfold fK; rw [f5, nI_clamp (by omega)]
  have eW : fW (newS s (nP s) k l w r c) (nP s) = w := by unfold fW; rw [f7, nI_clamp (by omega)]
  have eC : fC (newS s (nP s) k l w r c) (nP s) = 14 * r + c := by unfold fC; rw [f6, nI_clamp (by omega)]
  have eL : plN (newS s (nP s) k l w r c) (nP s) = l := by unfold plN; rw [f0, nI_clamp (by omega)]
  have epm : ∀ i, pm (newS s (nP s) k l w r c) (nP s) i = lm l w (9 * k + r) c i := by
    intro i
    unfold pm
    rw [eK, eW, eC, eL, show (14 * r + c) / 14 = r by omega, show (14 * r + c) % 14 = c by omega]
  have hpo : ∀ j, j < nP s → ∀ f, f = 0 ∨ f = 1 ∨ f = 5 ∨ f = 6 ∨ f = 7 → newS s (nP s) k l w r c (69 + 8 * j + f) = s (69 + 8 * j + f) := fun j hj f hf => ho _ (by omega) (by omega) (by omega)
  have hpm : ∀ j, j < nP s → ∀ i, pm (newS s (nP s) k l w r c) j i = pm s j i := fun j hj => pm_cg (hpo j hj)
  have hac : ∀ i, ac (newS s (nP s) k l w r c) (nP s) i = ac s (nP s) i := ac_cg _ hpm
  have hdis : ∀ q, q < 9 → rN s k q &&& lm l w (9 * k + r) c (9 * k + q) = 0 := by
    intro q hq
    by_cases cq : r ≤ q ∧ q < r + hiN w
    · have z := okAt_row _ hok (q - r) (by omega)
      rw [show r + (q - r) = q by omega] at z
      rw [show 9 * k + q = 9 * k + r + (q - r) by omega, lm_in (by omega)]
      exact shr_and z
    · unfold lm
      rw [if_neg (by omega), Nat.and_zero]
  have hrow : ∀ q, q < 9 → rN (newS s (nP s) k l w r c) k q = rN s k q ||| lm l w (9 * k + r) c (9 * k + q) := by
    intro q hq
    have ea : rN (newS s (nP s) k l w r c) k q = rN (cutS (upd s 1 (nI (nP s + 1))) k l w r c (hiN w)) k q := by unfold rN; rw [newS_lo (by omega)]
    have eb : rN (upd s 1 (nI (nP s + 1))) k q = rN s k q := by unfold rN; rw [pk_un (by omega)]
    rw [ea, rN_cut (okR_1 hR _) (by omega) hl hw hc _ hr h5 q hq, eb]
    unfold lm
    by_cases cq : r ≤ q ∧ q < r + hiN w
    · rw [if_pos cq, if_pos (by omega), show 9 * k + q - (9 * k + r) = q - r by omega]
    · rw [if_neg cq, if_neg (by omega), Nat.or_zero]
  have hrow2 : ∀ k2, k2 ≠ k → ∀ q, q < 9 → k2 < 6 → rN (newS s (nP s) k l w r c) k2 q = rN s k2 q := fun k2 hk2 q hq h62 => rN_cg (ho _ (by omega) (by omega) (by omega))
  refine ⟨fun j hj => ?_, fun k2 q hk2 hq => ?_, ?_⟩
  · by_cases ej : j = nP s
    · rw [ej]
      refine ⟨⟨by rw [eK]; exact f5, by rw [eK, e0]; exact hk⟩, ⟨by rw [eW]; exact f7, by rw [eW]; exact hw⟩, ⟨by rw [eC]; exact f6, by rw [eC, eW]; omega, by rw [eC, eW]; omega⟩, ?_, fun i => ?_⟩
      · rw [f1, eK, ho _ (by omega) (by omega) (by omega)]
      · rw [hac, epm]
        by_cases ci : 9 * k + r ≤ i ∧ i < 9 * k + r + hiN w
        · have := hdis (i - 9 * k) (by omega)
          rw [show 9 * k + (i - 9 * k) = i by omega] at this
          rw [g2 k (i - 9 * k) hk (by omega), show 9 * k + (i - 9 * k) = i by omega] at this
          exact this
        · unfold lm
          rw [if_neg ci, Nat.and_zero]
    · exact gP_cg (g1 j (by omega)) (Nat.le_of_eq e0.symm) (fun i hi => hpo i (by omega)) (fun q hq => ho _ (by omega) (by omega) (by omega))
  · rw [e1, ac, hac, epm, ← g2 k2 q (by omega) hq]
    by_cases ek : k2 = k
    · subst ek
      exact hrow q hq
    · rw [hrow2 k2 ek q hq (by omega)]
      unfold lm
      rw [if_neg (by omega), Nat.or_zero]
  · rw [e0, e1, sqL, sqL_cg _ (fun j hj => by unfold plN; rw [hpo j hj 0 (by omega)]), eL, ← g3]
    have hcn := cutN_new hl hw hc hr hrow hdis 9 (Nat.le_refl _)
    rw [if_neg (by have := hiN_ge w; omega)] at hcn
    have hh : (if 9 - r ≤ hiN w then 9 - r else hiN w) = hiN w := by split <;> omega
    rw [hh, tq_sq l hl w hw] at hcn
    exact sqC_add hcn _ hk (fun i hi hne => cutN_cg 9 (fun q hq => hrow2 i hne q hq (by omega)))
