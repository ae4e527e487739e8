/-! numbers that stand for truth, for places -/
def zb (b : Bool) : Int32 := if b then 1 else 0
theorem zb_z (b : Bool) : zb b = 0 ∨ zb b = 1 := by cases b <;> simp [zb]
theorem zb_0 {b : Bool} (h : zb b = 0) : b = false := by cases b <;> simp_all [zb]
theorem zb_1 {b : Bool} (h : ¬ zb b = 0) : b = true := by cases b <;> simp_all [zb]
theorem zb_t : zb true = 1 := rfl
theorem zb_f : zb false = 0 := rfl
/-- x is a number below n -/
def isI (n : Nat) (x : Int32) : Bool := decide (0 ≤ x.toInt ∧ x.toInt < n)
theorem isI_iff {n : Nat} (hn : n < 2 ^ 31) {x : Int32} : isI n x = true ↔ ∃ j, j < n ∧ x = nI j := by
  unfold isI
  rw [decide_eq_true_iff]
  constructor
  · rintro ⟨h1, h2⟩
    rcases pk_ix x hn with h | h | h
    · rw [Int32.lt_iff_toInt_lt, Int32.toInt_zero] at h; omega
    · rw [Int32.le_iff_toInt_le, nI_toInt hn] at h; omega
    · exact h
  · rintro ⟨j, hj, rfl⟩
    rw [nI_toInt (by omega)]; omega
theorem isI_nI {n j : Nat} (hn : n < 2 ^ 31) (hj : j < n) : isI n (nI j) = true := (isI_iff hn).mpr ⟨j, hj, rfl⟩
theorem isI_not {n : Nat} {x : Int32} (h : isI n x = false) : x.toInt < 0 ∨ (n : Int) ≤ x.toInt := by
  unfold isI at h
  rw [decide_eq_false_iff_not] at h
  omega
/-- x is 1, 2, 3 or 4 -/
def isC (x : Int32) : Bool := decide (1 ≤ x.toInt ∧ x.toInt ≤ 4)
theorem nI_t {n : Nat} (h : n < 2 ^ 31) : (nI n).toInt = n := nI_toInt h
theorem in_of (x : Int32) {a b : Nat} (ha : a < 2 ^ 31) (hb : b < 2 ^ 31) : s_X7_in x (nI a) (nI b) = zb (decide ((a : Int) ≤ x.toInt ∧ x.toInt ≤ b)) := by
  unfold s_X7_in
  have e1 : (x < nI a) ↔ x.toInt < a := by rw [Int32.lt_iff_toInt_lt, nI_t ha]
  have e2 : (nI b < x) ↔ (b : Int) < x.toInt := by rw [Int32.lt_iff_toInt_lt, nI_t hb]
  by_cases h1 : x < nI a
  · rw [if_pos h1]
    rw [e1] at h1
    rw [decide_eq_false (by omega)]; rfl
  · rw [if_neg h1]
    rw [e1] at h1
    by_cases h2 : nI b < x
    · rw [if_pos h2]
      rw [e2] at h2
      rw [decide_eq_false (by omega)]; rfl
    · rw [if_neg h2]
      rw [e2] at h2
      rw [decide_eq_true (by omega)]; rfl
theorem in_I (x : Int32) {n : Nat} (hn : n < 2 ^ 31) : s_X7_in x (nI 0) (nI n - nI 1) = zb (isI n x) := by
  cases n with
  | zero =>
    unfold s_X7_in
    have e2 : (nI 0 - nI 1 < x) ↔ (-1 : Int) < x.toInt := by rw [Int32.lt_iff_toInt_lt, show (nI 0 - nI 1).toInt = -1 from by decide]
    have e1 : (x < nI 0) ↔ x.toInt < 0 := by rw [Int32.lt_iff_toInt_lt, show (nI 0).toInt = 0 from by decide]
    unfold isI
    rw [decide_eq_false (by omega)]
    by_cases h1 : x < nI 0
    · rw [if_pos h1]; rfl
    · rw [if_neg h1, if_pos (e2.mpr (by rw [e1] at h1; omega))]; rfl
  | succ n =>
    rw [pk_sub (by omega), in_of x (by omega) (by omega)]
    unfold isI
    congr 2
    apply propext
    omega
theorem in_I' (x : Int32) {n : Nat} (hn : n + 1 < 2 ^ 31) : s_X7_in x (nI 0) (nI n) = zb (isI (n + 1) x) := by
  rw [in_of x (by omega) (by omega)]
  unfold isI
  congr 2
  apply propext
  omega
theorem in_C (x : Int32) : s_X7_isColour x = zb (isC x) := by
  unfold s_X7_isColour
  rw [in_of x (by omega) (by omega)]
  rfl
theorem isL7 (x : Int32) : s_X7_isLetter x = zb (isI 8 x) := in_I' x (by omega)
theorem isSp7 (x y : Int32) : s_X7_isSpot x y = zb (isI 3 x && isI 12 y) := by
  unfold s_X7_isSpot
  rw [in_I' x (n := 2) (by omega), in_I' y (n := 11) (by omega)]
  cases isI (2 + 1) x <;> cases isI (11 + 1) y <;> rfl
theorem six_I (x : Int32) {n : Nat} (hn : n < 2 ^ 31) : (if x < 0 then nI 0 else if nI n ≤ x then nI 0 else nI 1) = zb (isI n x) := by
  have e1 : (x < 0) ↔ x.toInt < 0 := by rw [Int32.lt_iff_toInt_lt, Int32.toInt_zero]
  have e2 : (nI n ≤ x) ↔ (n : Int) ≤ x.toInt := by rw [Int32.le_iff_toInt_le, nI_t hn]
  unfold isI
  by_cases h1 : x < 0
  · rw [if_pos h1]
    rw [e1] at h1
    rw [decide_eq_false (by omega)]; rfl
  · rw [if_neg h1]
    rw [e1] at h1
    by_cases h2 : nI n ≤ x
    · rw [if_pos h2]
      rw [e2] at h2
      rw [decide_eq_false (by omega)]; rfl
    · rw [if_neg h2]
      rw [e2] at h2
      rw [decide_eq_true (by omega)]; rfl
theorem isL6 (x : Int32) : s_X6_isLetter x = zb (isI 8 x) := six_I x (by omega)
theorem isW6 (x : Int32) : s_X6_isWay x = zb (isI 8 x) := six_I x (by omega)
theorem isP6 (x : Int32) : s_X6_isPane x = zb (isI 3 x) := six_I x (by omega)
theorem isPl6 (x : Int32) : s_X6_isPlace x = zb (isI 12 x) := six_I x (by omega)
theorem isS6 (x : Int32) : s_X6_isSlot x = zb (isI 2 x) := six_I x (by omega)
theorem isC6 (x : Int32) : s_X6_isColour x = zb (isC x) := by
  unfold s_X6_isColour isC
  have e1 : (x < nI 1) ↔ x.toInt < 1 := by rw [Int32.lt_iff_toInt_lt]; rfl
  have e2 : (nI 4 < x) ↔ (4 : Int) < x.toInt := by rw [Int32.lt_iff_toInt_lt]; rfl
  by_cases h1 : x < nI 1
  · rw [if_pos h1]
    rw [e1] at h1
    rw [decide_eq_false (by omega)]; rfl
  · rw [if_neg h1]
    rw [e1] at h1
    by_cases h2 : nI 4 < x
    · rw [if_pos h2]
      rw [e2] at h2
      rw [decide_eq_false (by omega)]; rfl
    · rw [if_neg h2]
      rw [e2] at h2
      rw [decide_eq_true (by omega)]; rfl
theorem isM6 (x : Int32) : s_X6_isMirroring x = zb (isI 2 x) := by
  unfold s_X6_isMirroring
  by_cases h0 : x = 0
  · subst h0; rfl
  · rw [if_neg h0]
    by_cases h1 : x = nI 1
    · subst h1; rfl
    · rw [if_neg h1]
      cases h : isI 2 x with
      | false => rfl
      | true =>
        obtain ⟨j, hj, e⟩ := (isI_iff (by omega)).mp h
        exfalso
        match j, hj with
        | 0, _ => exact h0 (by rw [e]; rfl)
        | 1, _ => exact h1 e
/-! letters -/
def hiN (w : Nat) : Nat := if w % 2 = 0 then 5 else 3
def wiN (w : Nat) : Nat := if w % 2 = 0 then 3 else 5
theorem hi7 {w : Nat} (h : w < 8) : s_X7_high (nI w) = nI (hiN w) := by
  match w, h with
  | 0, _ => decide
  | 1, _ => decide
  | 2, _ => decide
  | 3, _ => decide
  | 4, _ => decide
  | 5, _ => decide
  | 6, _ => decide
  | 7, _ => decide
theorem wi7 {w : Nat} (h : w < 8) : s_X7_wide (nI w) = nI (wiN w) := by
  match w, h with
  | 0, _ => decide
  | 1, _ => decide
  | 2, _ => decide
  | 3, _ => decide
  | 4, _ => decide
  | 5, _ => decide
  | 6, _ => decide
  | 7, _ => decide
theorem hi6 (x : Int32) : s_X6_heightOf x = s_X7_high x := rfl
theorem wi6 (x : Int32) : s_X6_widthOf x = s_X7_wide x := rfl
theorem mir6 {w : Nat} (h : w < 8) : s_X6_mirroringOf (nI w) = nI (w / 4) := by
  match w, h with
  | 0, _ => decide
  | 1, _ => decide
  | 2, _ => decide
  | 3, _ => decide
  | 4, _ => decide
  | 5, _ => decide
  | 6, _ => decide
  | 7, _ => decide
theorem hiN_le (w : Nat) : hiN w ≤ 5 := by unfold hiN; split <;> omega
theorem wiN_le (w : Nat) : wiN w ≤ 5 := by unfold wiN; split <;> omega
theorem hiN_ge (w : Nat) : 3 ≤ hiN w := by unfold hiN; split <;> omega
theorem wiN_ge (w : Nat) : 3 ≤ wiN w := by unfold wiN; split <;> omega
theorem ofOne_nI (k w : Nat) : s_X7_ofOne (nI k) (nI w) = nI (3 + 11 * k + w) := by unfold s_X7_ofOne; rw [pk_mul, nI_add, nI_add]
theorem at_nI (k w : Nat) : s_X7_at (nI k) (nI w) = nI (69 + 8 * k + w) := by unfold s_X7_at; rw [pk_mul, nI_add, nI_add]
/-- the rows of all letters in all ways: 40 * letter + 5 * way + row -/
def wlT : List Nat := [2, 2, 2, 2, 2, 0, 31, 0, 0, 0, 2, 2, 2, 2, 2, 0, 31, 0, 0, 0, 2, 2, 2, 2, 2, 0, 31, 0, 0, 0, 2, 2, 2, 2, 2, 0, 31, 0, 0, 0, 1, 1, 1, 1, 7, 31, 1, 1, 0, 0, 7, 4, 4, 4, 4, 16, 16, 31, 0, 0, 4, 4, 4, 4, 7, 1, 1, 31, 0, 0, 7, 1, 1, 1, 1, 31, 16, 16, 0, 0, 7, 5, 5, 5, 7, 31, 17, 31, 0, 0, 7, 5, 5, 5, 7, 31, 17, 31, 0, 0, 7, 5, 5, 5, 7, 31, 17, 31, 0, 0, 7, 5, 5, 5, 7, 31, 17, 31, 0, 0, 7, 2, 2, 2, 2, 16, 31, 16, 0, 0, 2, 2, 2, 2, 7, 1, 31, 1, 0, 0, 7, 2, 2, 2, 2, 16, 31, 16, 0, 0, 2, 2, 2, 2, 7, 1, 31, 1, 0, 0, 5, 5, 5, 5, 7, 31, 1, 31, 0, 0, 7, 5, 5, 5, 5, 31, 16, 31, 0, 0, 5, 5, 5, 5, 7, 31, 1, 31, 0, 0, 7, 5, 5, 5, 5, 31, 16, 31, 0, 0, 7, 1, 7, 1, 7, 31, 21, 21, 0, 0, 7, 4, 7, 4, 7, 21, 21, 31, 0, 0, 7, 4, 7, 4, 7, 21, 21, 31, 0, 0, 7, 1, 7, 1, 7, 31, 21, 21, 0, 0, 5, 5, 7, 5, 5, 31, 4, 31, 0, 0, 5, 5, 7, 5, 5, 31, 4, 31, 0, 0, 5, 5, 7, 5, 5, 31, 4, 31, 0, 0, 5, 5, 7, 5, 5, 31, 4, 31, 0, 0, 7, 1, 7, 4, 7, 29, 21, 23, 0, 0, 7, 1, 7, 4, 7, 29, 21, 23, 0, 0, 7, 4, 7, 1, 7, 23, 21, 29, 0, 0, 7, 4, 7, 1, 7, 23, 21, 29, 0, 0]
def tabN (k : Nat) : Nat := wlT.getD k 0
def tabI (k : Nat) : Int32 := nI (tabN k)
theorem tabN_out {k : Nat} (h : 320 ≤ k) : tabN k = 0 := by
  unfold tabN
  rw [List.getD_eq_getElem?_getD, List.getElem?_eq_none (by rw [show wlT.length = 320 from by decide +kernel]; exact h)]
  rfl
theorem tabN_lt (k : Nat) : tabN k < 32 := by
  by_cases h : k < 320
  · have : ∀ k, k < 320 → tabN k < 32 := by decide +kernel
    exact this k h
  · rw [tabN_out (by omega)]; omega
/-- how many bits of m are 1, of f bits -/
def popF : Nat → Nat → Nat
  | 0, _ => 0
  | f + 1, m => m % 2 + popF f (m / 2)
def popc (m : Nat) : Nat := popF 32 m
/-- the squares of a letter -/
def sqN (l : Nat) : Nat := popc (tabN (40 * l)) + popc (tabN (40 * l + 1)) + popc (tabN (40 * l + 2)) + popc (tabN (40 * l + 3)) + popc (tabN (40 * l + 4))
