theorem v_of {s : Nat → Int32} (h : vI s) {k f : Nat} (hk : k < nP s) (hf : f < 8) : o_of s (nI k) (nI f) = s (69 + 8 * k + f) := by
  have := h.1.1.2.1.2
  unfold o_of
  rw [if_pos (isI_nI (by omega) hk), if_pos (isI_nI (by omega) hf), nI_clamp (by omega), nI_clamp (by omega)]
theorem isI_self {n : Nat} (hn : n < 2 ^ 31) : isI n (nI n) = false := by
  unfold isI
  rw [nI_t hn]
  exact decide_eq_false (by omega)
theorem v_ofE {s : Nat → Int32} (h : vI s) {x : Int32} : o_of s (s 1) x = -1 := by
  have h1 := h.1.1.2.1
  unfold o_of
  rw [h1.1, isI_self (by omega), if_neg (by decide)]
theorem v_shE {s : Nat → Int32} (h : vI s) {x : Int32} : o_ofSheet s (s 0) x = -1 := by
  have h1 := h.1.1.1
  unfold o_ofSheet
  rw [h1.1, isI_self (by omega), if_neg (by decide)]
theorem v_s0 {s : Nat → Int32} (h : vI s) {k : Nat} (hk : k < nSh s) : o_ofSheet s (nI k) (nI 0) = s (3 + 11 * k) := by
  have := h.1.1.1.2
  unfold o_ofSheet
  rw [if_pos (isI_nI (by omega) hk), if_pos rfl, nI_clamp (by omega)]
  rfl
theorem v_s1 {s : Nat → Int32} (h : vI s) {k : Nat} (hk : k < nSh s) : o_ofSheet s (nI k) (nI 1) = uncA s k 9 := by
  have := h.1.1.1.2
  unfold o_ofSheet
  rw [if_pos (isI_nI (by omega) hk), if_neg (by decide), if_pos rfl, nI_clamp (by omega)]
theorem v_s3 {s : Nat → Int32} (h : vI s) {k : Nat} (hk : k < nSh s) : o_ofSheet s (nI k) (nI 3) = s (4 + 11 * k) := by
  have := h.1.1.1.2
  unfold o_ofSheet
  rw [if_pos (isI_nI (by omega) hk), if_neg (by decide), if_neg (by decide), if_neg (by decide), if_pos rfl, nI_clamp (by omega)]
  congr 1
  omega
theorem v_s4 {s : Nat → Int32} (h : vI s) {k : Nat} (hk : k < nSh s) : o_ofSheet s (nI k) (nI 4) = lfA s k 8 := by
  have := h.1.1.1.2
  unfold o_ofSheet
  rw [if_pos (isI_nI (by omega) hk), if_neg (by decide), if_neg (by decide), if_neg (by decide), if_neg (by decide), if_pos rfl, nI_clamp (by omega)]
theorem v_row {s : Nat → Int32} (h : vI s) {k r : Nat} (hk : k < nSh s) (hr : r < 9) : o_row s (nI k) (nI r) = nI (rN s k r) := by
  have h6 := h.1.1.1.2
  unfold o_row
  rw [if_pos (isI_nI (by omega) hk), if_pos (isI_nI (by omega) hr), nI_clamp (by omega), nI_clamp (by omega)]
  exact (h.1.1.2.2 k r (by omega) hr).1
theorem v_sh {l w r : Nat} (hl : l < 8) (hw : w < 8) (hr : r < 5) : o_shape (nI l) (nI w) (nI r) = nI (tabN (40 * l + 5 * w + r)) := by
  unfold o_shape
  rw [if_pos (isI_nI (by omega) hl), if_pos (isI_nI (by omega) hw), if_pos (isI_nI (by omega) hr), nI_clamp (by omega), nI_clamp (by omega), nI_clamp (by omega)]
  rfl
theorem v_pane {s : Nat → Int32} {v : Nat} (hv : v < 36) : o_pane s (nI (v / 12)) (nI (v % 12)) = paF s (nI v) (nP s) := by
  unfold o_pane
  rw [isI_nI (by omega) (show v / 12 < 3 by omega), isI_nI (by omega) (show v % 12 < 12 by omega), nI_12, show 12 * (v / 12) + v % 12 = v by omega]
  rfl
theorem rN_14 {s : Nat → Int32} (h : vI s) {k r : Nat} (hk : k < nSh s) (hr : r < 9) : rN s k r < 2 ^ 14 := by
  have h6 := h.1.1.1.2
  exact (h.1.1.2.2 k r (by omega) hr).2
theorem v_scr {s : Nat → Int32} (h : vI s) {k : Nat} (hk : k < nSh s) : s (4 + 11 * k) = 0 ∨ s (4 + 11 * k) = 1 := h.1.2.2.2.2.1 k (by have := h.1.1.1.2; omega)
theorem ff_le {s : Nat → Int32} {k l mi : Nat} : ff s k l mi ≤ 504 := by
  by_cases c : ∃ p, p < 504 ∧ canQ s k l mi p = true
  · have : ∀ n p, p < n → p < 504 → canQ s k l mi p = true → ∃ q, q ≤ p ∧ canQ s k l mi q = true ∧ ∀ j, j < q → canQ s k l mi j = false := by
      intro n
      induction n with
      | zero => intro p h; omega
      | succ n ih =>
        intro p h1 h2 h3
        by_cases c2 : ∃ j, j < p ∧ canQ s k l mi j = true
        · obtain ⟨j, j1, j2⟩ := c2
          obtain ⟨q, q1, q2⟩ := ih j (by omega) (by omega) j2
          exact ⟨q, by omega, q2⟩
        · refine ⟨p, Nat.le_refl _, h3, fun j hj => ?_⟩
          cases e : canQ s k l mi j with
          | false => rfl
          | true => exact absurd ⟨j, hj, e⟩ c2
    obtain ⟨p, p1, p2⟩ := c
    obtain ⟨q, q1, q2, q3⟩ := this (p + 1) p (by omega) p1 p2
    rw [ff_eq (by omega) q2 q3]
    omega
  · rw [ff_no (fun j hj => by
      cases e : canQ s k l mi j with
      | false => rfl
      | true => exact absurd ⟨j, hj, e⟩ c)]
    exact Nat.le_refl _
theorem ff_lt {s : Nat → Int32} {k l mi p : Nat} (hp : p < 504) (h : canQ s k l mi p = true) : ff s k l mi < 504 := by
  by_cases c : ff s k l mi < 504
  · exact c
  · exfalso
    have key : ∀ n q, q + n = 504 → (∀ j, j < q → canQ s k l mi j = false) → ff s k l mi < 504 := by
      intro n
      induction n with
      | zero =>
        intro q hq hj
        rw [hj p (by omega)] at h
        cases h
      | succ n ih =>
        intro q hq hj
        cases e : canQ s k l mi q with
        | true => rw [ff_eq (p := q) (by omega) e hj]; omega
        | false =>
          refine ih (q + 1) (by omega) (fun j hj2 => ?_)
          by_cases ej : j = q
          · rw [ej]; exact e
          · exact hj j (by omega)
    exact c (key 504 0 (by omega) (fun j hj => absurd hj (by omega)))
theorem ff_canQ {s : Nat → Int32} {k l mi : Nat} (h : ff s k l mi < 504) : canQ s k l mi (ff s k l mi) = true := by
  unfold ff at h ⊢
  exact ffA_can 504 0 (by omega)
/-- how many places and ways there are -/
def fiN (s : Nat → Int32) (k l : Nat) : Nat → Nat
  | 0 => 0
  | i + 1 => fiN s k l i + (if canC s k l (i % 8) (i / 8 / 14) (i / 8 % 14) = true then 1 else 0)
theorem fi_N {s : Nat → Int32} {k l : Nat} : ∀ n, fiA s k l n = nI (fiN s k l n) ∧ fiN s k l n ≤ n
  | 0 => ⟨rfl, Nat.le_refl _⟩
  | n + 1 => by
    obtain ⟨h1, h2⟩ := fi_N (s := s) (k := k) (l := l) n
    rw [fiA, fiN, h1]
    split
    · exact ⟨nI_add _ _, by omega⟩
    · exact ⟨nI_add _ _, by omega⟩
theorem fi_pos {s : Nat → Int32} {k l : Nat} : ∀ n, 0 < fiN s k l n → ∃ i, i < n ∧ canC s k l (i % 8) (i / 8 / 14) (i / 8 % 14) = true
  | 0, h => absurd h (by rw [fiN]; omega)
  | n + 1, h => by
    rw [fiN] at h
    by_cases c : canC s k l (n % 8) (n / 8 / 14) (n / 8 % 14) = true
    · exact ⟨n, by omega, c⟩
    · rw [if_neg c] at h
      obtain ⟨i, h1, h2⟩ := fi_pos n h
      exact ⟨i, by omega, h2⟩
theorem fi_of {s : Nat → Int32} {k l i : Nat} (hc : canC s k l (i % 8) (i / 8 / 14) (i / 8 % 14) = true) : ∀ n, i < n → 0 < fiN s k l n
  | 0, h => absurd h (by omega)
  | n + 1, h => by
    rw [fiN]
    by_cases e : n = i
    · rw [e, if_pos hc]; omega
    · have := fi_of hc n (by omega)
      omega
theorem fi_ff {s : Nat → Int32} {k l : Nat} : 0 < fiN s k l 1008 ↔ (ff s k l 0 < 504 ∨ ff s k l 1 < 504) := by
  constructor
  · intro h
    obtain ⟨i, h1, h2⟩ := fi_pos 1008 h
    by_cases c : i % 8 < 4
    · left
      refine ff_lt (p := 4 * (i / 8) + i % 4) (by omega) ?_
      unfold canQ
      rw [show 4 * 0 + (4 * (i / 8) + i % 4) % 4 = i % 8 by omega, show (4 * (i / 8) + i % 4) / 4 = i / 8 by omega]
      exact h2
    · right
      refine ff_lt (p := 4 * (i / 8) + i % 4) (by omega) ?_
      unfold canQ
      rw [show 4 * 1 + (4 * (i / 8) + i % 4) % 4 = i % 8 by omega, show (4 * (i / 8) + i % 4) / 4 = i / 8 by omega]
      exact h2
  · intro h
    rcases h with h | h
    · have hc := ff_canQ h
      generalize ff s k l 0 = p at h hc
      refine fi_of (i := 8 * (p / 4) + p % 4) ?_ 1008 (by omega)
      unfold canQ at hc
      rw [show (8 * (p / 4) + p % 4) % 8 = 4 * 0 + p % 4 by omega, show (8 * (p / 4) + p % 4) / 8 = p / 4 by omega]
      exact hc
    · have hc := ff_canQ h
      generalize ff s k l 1 = p at h hc
      refine fi_of (i := 8 * (p / 4) + 4 + p % 4) ?_ 1008 (by omega)
      unfold canQ at hc
      rw [show (8 * (p / 4) + 4 + p % 4) % 8 = 4 * 1 + p % 4 by omega, show (8 * (p / 4) + 4 + p % 4) / 8 = p / 4 by omega]
      exact hc
theorem v_fits {s : Nat → Int32} (h : vI s) {k l : Nat} (hk : k < nSh s) (hl : l < 8) : o_fits s (nI k) (nI l) = nI (fiN s k l 1008) := by
  have := h.1.1.1.2
  unfold o_fits
  rw [if_pos (isI_nI (by omega) hk), if_pos (isI_nI (by omega) hl), nI_clamp (by omega), nI_clamp (by omega)]
  exact (fi_N 1008).1
theorem ff_scr {s : Nat → Int32} {k l mi : Nat} (h : ¬ s (4 + 11 * k) = 0) : ¬ ff s k l mi < 504 := fun c => h (ff_ok c).2.2.1
theorem lf_scr {s : Nat → Int32} {k : Nat} (h : ¬ s (4 + 11 * k) = 0) : ∀ n, lfA s k n = nI 0
  | 0 => rfl
  | n + 1 => by
    rw [lfA, lf_scr h n, if_neg (fun z => z.elim (ff_scr h) (ff_scr h))]
    rfl
theorem v_fit {s : Nat → Int32} (h : vI s) {k l mi j : Nat} (hk : k < nSh s) (hl : l < 8) (hmi : mi < 2) (hj : j < 3) : o_fit s (nI k) (nI l) (nI mi) (nI j) = if ff s k l mi < 504 then nI (fiQ mi (ff s k l mi) j) else -6 := by
  have := h.1.1.1.2
  unfold o_fit
  rw [if_pos (isI_nI (by omega) hk), if_pos (isI_nI (by omega) hl), if_pos (isI_nI (by omega) hmi), if_pos (isI_nI (by omega) hj), nI_clamp (by omega), nI_clamp (by omega), nI_clamp (by omega), nI_clamp (by omega)]
theorem v_many {s : Nat → Int32} (h : vI s) {k l mi : Nat} (hk : k < nSh s) (hl : l < 8) (hmi : mi < 2) : o_many s (nI k) (nI l) (nI mi) = nI (mnA k l mi 126 s 0) := by
  have := h.1.1.1.2
  unfold o_many
  rw [if_pos (isI_nI (by omega) hk), if_pos (isI_nI (by omega) hl), if_pos (isI_nI (by omega) hmi), nI_clamp (by omega), nI_clamp (by omega), nI_clamp (by omega)]
theorem v_manyE {s : Nat → Int32} (h : vI s) {x y : Int32} : o_many s (s 0) x y = -1 := by
  have h1 := h.1.1.1
  unfold o_many
  rw [h1.1, isI_self (by omega), if_neg (by decide)]
/-! the sums -/
def ptN (s : Nat → Int32) (x : Int32) : Nat → Nat
  | 0 => 0
  | i + 1 => ptN s x i + (if s (69 + 8 * i + 3) = x then 1 else 0)
theorem pt_N {s : Nat → Int32} {x : Int32} : ∀ n, ptaA s x n = nI (ptN s x n)
  | 0 => rfl
  | n + 1 => by
    rw [ptaA, ptN, pt_N n]
    split
    · exact nI_add _ _
    · exact nI_add _ _
theorem pst_3 {s : Nat → Int32} (h : vI s) {j : Nat} (hj : j < nP s) : s (69 + 8 * j + 3) = nI 0 ∨ s (69 + 8 * j + 3) = nI 1 ∨ s (69 + 8 * j + 3) = nI 2 := by
  obtain ⟨-, -, h1 | h1⟩ := h.1.2.2.2.2.2.1 j hj
  · exact Or.inr (Or.inl h1.1)
  · rcases h1.1 with e | e
    · exact Or.inl e
    · exact Or.inr (Or.inr e)
theorem pt_sum {s : Nat → Int32} (h : vI s) : ∀ n, n ≤ nP s → ptN s (nI 0) n + ptN s (nI 1) n + ptN s (nI 2) n = n
  | 0, _ => rfl
  | n + 1, hn => by
    have ih := pt_sum h n (by omega)
    rw [ptN, ptN, ptN]
    rcases pst_3 h (show n < nP s by omega) with e | e | e
    · rw [e, if_pos rfl, if_neg (by decide), if_neg (by decide)]; omega
    · rw [e, if_neg (by decide), if_pos rfl, if_neg (by decide)]; omega
    · rw [e, if_neg (by decide), if_neg (by decide), if_pos rfl]; omega
theorem c_4 {s : Nat → Int32} (h : vI s) : ptaA s (nI 2) (nP s) = s 1 - ptaA s (nI 0) (nP s) - ptaA s (nI 1) (nP s) := by
  have h1 := h.1.1.2.1
  have := pt_sum h (nP s) (Nat.le_refl _)
  rw [pt_N, pt_N, pt_N, h1.1, pk_sub (by omega), pk_sub (by omega)]
  congr 1
  omega
def sqpN (s : Nat → Int32) : Nat → Nat
  | 0 => 0
  | i + 1 => sqpN s i + (if s (69 + 8 * i + 3) = nI 2 then 0 else sqA (plN s i) 5)
def cpN (s : Nat → Int32) : Nat → Nat
  | 0 => 0
  | i + 1 => cpN s i + (if s (69 + 8 * i + 3) = nI 2 then sqA (plN s i) 5 else 0)
theorem sqp_N {s : Nat → Int32} : ∀ n, sqpA s n = nI (sqpN s n)
  | 0 => rfl
  | n + 1 => by
    rw [sqpA, sqpN, sqp_N n]
    split
    · exact nI_add _ _
    · exact nI_add _ _
theorem cp_N {s : Nat → Int32} : ∀ n, cpsA s (nI 2) n = nI (cpN s n)
  | 0 => rfl
  | n + 1 => by
    rw [cpsA, cpN, cp_N n]
    split
    · exact nI_add _ _
    · exact nI_add _ _
theorem sqp_sum {s : Nat → Int32} : ∀ n, sqpN s n + cpN s n = sqL s n
  | 0 => rfl
  | n + 1 => by
    have := sqp_sum (s := s) n
    rw [sqpN, cpN, sqL]
    split <;> omega
def sqsN (s : Nat → Int32) : Nat → Nat
  | 0 => 0
  | i + 1 => sqsN s i + (if s (4 + 11 * i) = nI 1 then 0 else 126 - cutN s i 9)
def csN (s : Nat → Int32) : Nat → Nat
  | 0 => 0
  | i + 1 => csN s i + (if s (4 + 11 * i) = nI 1 then 126 - cutN s i 9 else 0)
theorem sqs_N {s : Nat → Int32} (h : okR s) : ∀ n, n ≤ 6 → sqsA s n = nI (sqsN s n)
  | 0, _ => rfl
  | n + 1, hn => by
    rw [sqsA, sqsN, sqs_N h n (by omega)]
    split
    · exact nI_add _ _
    · rw [(unc_9 (show n < 6 by omega) h).1]; exact nI_add _ _
theorem cs_N {s : Nat → Int32} (h : okR s) : ∀ n, n ≤ 6 → cssA s (nI 1) n = nI (csN s n)
  | 0, _ => rfl
  | n + 1, hn => by
    rw [cssA, csN, cs_N h n (by omega)]
    split
    · rw [(unc_9 (show n < 6 by omega) h).1]; exact nI_add _ _
    · exact nI_add _ _
theorem sqs_sum {s : Nat → Int32} (h : okR s) : ∀ n, n ≤ 6 → sqsN s n + csN s n + sqC s n = 126 * n
  | 0, _ => rfl
  | n + 1, hn => by
    have := sqs_sum h n (by omega)
    have h2 := (unc_9 (show n < 6 by omega) h).2
    rw [sqsN, csN, sqC]
    split <;> omega
theorem c_567 {s : Nat → Int32} (h : vI s) : s 2 + sqsA s (nSh s) + sqpA s (nP s) = nI 126 * s 0 := by
  have h1 := h.1.1.1
  have hR := h.1.1.2.2
  have e := h.1.2.2.2.2.2.2
  have a1 := sqp_sum (s := s) (nP s)
  have a2 := sqs_sum hR (nSh s) h1.2
  have a3 := h.2.2.2
  rw [e]
  unfold wsT
  rw [cp_N, cs_N hR _ h1.2, sqs_N hR _ h1.2, sqp_N, h1.1, pk_mul, nI_add, nI_add, nI_add]
  congr 1
  omega
theorem v_cnt {s : Nat → Int32} {kp ln : Int32} : o_count s kp ln (nI 0) = s 0 ∧ o_count s kp ln (nI 1) = s 1 ∧ o_count s kp ln (nI 2) = ptaA s (nI 0) (nP s) ∧ o_count s kp ln (nI 3) = ptaA s (nI 1) (nP s) ∧ o_count s kp ln (nI 4) = ptaA s (nI 2) (nP s) ∧ o_count s kp ln (nI 5) = s 2 ∧ o_count s kp ln (nI 6) = sqsA s (nSh s) ∧ o_count s kp ln (nI 7) = sqpA s (nP s) ∧ o_count s kp ln (nI 8) = ln ∧ o_count s kp ln (nI 9) = kp := by
  refine ⟨rfl, rfl, rfl, rfl, rfl, rfl, rfl, rfl, rfl, rfl⟩
