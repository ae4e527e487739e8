def clr (a b : Nat) : Nat := a ^^^ (a &&& b)
theorem clr_bit (a b c : Nat) : (clr a b).testBit c = (a.testBit c && !b.testBit c) := by
  unfold clr
  rw [Nat.testBit_xor, Nat.testBit_and]
  cases a.testBit c <;> cases b.testBit c <;> rfl
theorem clr_lt {a b n : Nat} (h : a < 2 ^ n) : clr a b < 2 ^ n := Nat.xor_lt_two_pow h (Nat.lt_of_le_of_lt Nat.and_le_left h)
theorem nI_clr (a b : Nat) : nI a &&& (nI b ^^^ -1) = nI (clr a b) := by
  apply Int32.toBitVec_inj.mp
  show BitVec.ofNat 32 a &&& (BitVec.ofNat 32 b ^^^ (-1 : Int32).toBitVec) = BitVec.ofNat 32 (clr a b)
  rw [show (-1 : Int32).toBitVec = BitVec.allOnes 32 from by decide]
  unfold clr
  rw [BitVec.ofNat_xor, BitVec.ofNat_and]
  apply BitVec.eq_of_getLsbD_eq
  intro i hi
  rw [BitVec.getLsbD_and, BitVec.getLsbD_xor, BitVec.getLsbD_xor, BitVec.getLsbD_and, BitVec.getLsbD_allOnes, decide_eq_true hi]
  cases (BitVec.ofNat 32 a).getLsbD i <;> cases (BitVec.ofNat 32 b).getLsbD i <;> rfl
theorem and1 (t j : Nat) : (t / 2 ^ j) &&& 1 = if t.testBit j = true then 1 else 0 := by
  rw [Nat.and_one_is_mod]
  have h : t.testBit j = decide (t / 2 ^ j % 2 = 1) := by
    rw [show j = 0 + j by omega, ← Nat.testBit_div_two_pow, Nat.testBit_zero]
    rw [show 0 + j = j by omega]
  rw [h]
  rcases Nat.mod_two_eq_zero_or_one (t / 2 ^ j) with e | e <;> rw [e] <;> rfl
def frJ (t x : Nat) : Nat → Nat → Nat
  | 0, a => a
  | j + 1, a => if t.testBit j = true then clr (frJ t x j a) (x / 2 ^ j) else frJ t x j a
def frI (s : Nat → Int32) (k l w r : Nat) : Nat → Nat
  | 0 => 1 * 2 ^ (14 - wiN w + 1) - 1
  | i + 1 => frJ (tabN (40 * l + 5 * w + i)) (rN s k (r + i)) (wiN w) (frI s k l w r i)
theorem frJ_lt {t x n : Nat} : ∀ (j a : Nat), a < 2 ^ n → frJ t x j a < 2 ^ n
  | 0, _, h => h
  | j + 1, a, h => by
    rw [frJ]
    split
    · exact clr_lt (frJ_lt j a h)
    · exact frJ_lt j a h
theorem frI_lt {s : Nat → Int32} {k l w r : Nat} : ∀ i, frI s k l w r i < 2 ^ 14
  | 0 => by
    rw [frI]
    have h3 := wiN_ge w
    have : 2 ^ (14 - wiN w + 1) ≤ 2 ^ 14 := Nat.pow_le_pow_right (by omega) (by omega)
    have := Nat.two_pow_pos (14 - wiN w + 1)
    omega
  | i + 1 => by rw [frI]; exact frJ_lt _ _ (frI_lt i)
theorem frJ_bit {t x c : Nat} : ∀ (n a : Nat), (frJ t x n a).testBit c = true ↔ a.testBit c = true ∧ ∀ j, j < n → t.testBit j = true → x.testBit (c + j) = false
  | 0, a => ⟨fun h => ⟨h, fun j hj => absurd hj (by omega)⟩, fun h => h.1⟩
  | n + 1, a => by
    rw [frJ]
    have ih := frJ_bit (t := t) (x := x) (c := c) n a
    by_cases ht : t.testBit n = true
    · rw [if_pos ht, clr_bit, Bool.and_eq_true, ih, Nat.testBit_div_two_pow]
      constructor
      · rintro ⟨⟨h1, h2⟩, h3⟩
        refine ⟨h1, fun j hj hb => ?_⟩
        by_cases e : j = n
        · subst e; simpa using h3
        · exact h2 j (by omega) hb
      · rintro ⟨h1, h2⟩
        exact ⟨⟨h1, fun j hj => h2 j (by omega)⟩, by rw [h2 n (by omega) ht]; rfl⟩
    · rw [if_neg ht, ih]
      constructor
      · rintro ⟨h1, h2⟩
        refine ⟨h1, fun j hj hb => ?_⟩
        by_cases e : j = n
        · subst e; exact absurd hb ht
        · exact h2 j (by omega) hb
      · rintro ⟨h1, h2⟩
        exact ⟨h1, fun j hj => h2 j (by omega)⟩
theorem and_zero_bit {x t c n : Nat} (ht : t < 2 ^ n) : (x / 2 ^ c) &&& t = 0 ↔ ∀ j, j < n → t.testBit j = true → x.testBit (c + j) = false := by
  constructor
  · intro h j _ hb
    have h1 : ((x / 2 ^ c) &&& t).testBit j = false := by rw [h, Nat.zero_testBit]
    rw [Nat.testBit_and, Nat.testBit_div_two_pow, hb, Bool.and_true, Nat.add_comm] at h1
    exact h1
  · intro h
    apply Nat.eq_of_testBit_eq
    intro j
    rw [Nat.zero_testBit, Nat.testBit_and, Nat.testBit_div_two_pow, Nat.add_comm]
    by_cases hj : j < n
    · cases hb : t.testBit j with
      | false => rw [Bool.and_false]
      | true => rw [h j hj hb]; rfl
    · rw [Nat.testBit_lt_two_pow (Nat.lt_of_lt_of_le ht (Nat.pow_le_pow_right (by omega) (by omega))), Bool.and_false]
theorem frI_bit {s : Nat → Int32} {k l w r c : Nat} (hl : l < 8) (hw : w < 8) : ∀ n, n ≤ 5 → ((frI s k l w r n).testBit c = true ↔ c < 15 - wiN w ∧ okAt s k l w r c n = true)
  | 0, _ => by
    rw [frI, okAt, Nat.one_mul, Nat.testBit_two_pow_sub_one, decide_eq_true_iff]
    have := wiN_le w
    constructor
    · intro h; exact ⟨by omega, rfl⟩
    · intro h; omega
  | n + 1, hn => by
    rw [frI, frJ_bit, frI_bit hl hw n (by omega), okAt, Bool.and_eq_true, beq_iff_eq, and_zero_bit (tabN_w hl hw (i := n) (by omega))]
    constructor
    · rintro ⟨⟨h1, h2⟩, h3⟩; exact ⟨h1, h2, h3⟩
    · rintro ⟨h1, h2, h3⟩; exact ⟨⟨h1, h2⟩, h3⟩
/-- the free columns of a letter in a way at a row -/
def FR (s : Nat → Int32) (k l w r : Nat) : Nat := if s (4 + 11 * k) = 0 ∧ r + hiN w ≤ 9 then frI s k l w r (hiN w) else 0
theorem FR_lt (s : Nat → Int32) (k l w r : Nat) : FR s k l w r < 2 ^ 14 := by
  unfold FR
  split
  · exact frI_lt _
  · omega
theorem FR_bit {s : Nat → Int32} {k l w r c : Nat} (hl : l < 8) (hw : w < 8) (hr : r < 2 ^ 31) (hc : c < 2 ^ 31) : (FR s k l w r).testBit c = canC s k l w r c := by
  have h5 := hiN_le w
  have h5' := wiN_le w
  have hi : isI (10 - hiN w) (nI r) = decide (r + hiN w ≤ 9) := by
    unfold isI
    rw [nI_t hr]
    exact decide_eq_decide.mpr (by omega)
  have hj : isI (15 - wiN w) (nI c) = decide (c < 15 - wiN w) := by
    unfold isI
    rw [nI_t hc]
    exact decide_eq_decide.mpr (by omega)
  unfold FR canC canI
  rw [hi, hj, nI_clamp hr, nI_clamp hc]
  by_cases h : s (4 + 11 * k) = 0 ∧ r + hiN w ≤ 9
  · rw [if_pos h, decide_eq_true h.1, decide_eq_true h.2]
    have hb := frI_bit (s := s) (k := k) (r := r) (c := c) hl hw (hiN w) h5
    cases hx : (frI s k l w r (hiN w)).testBit c with
    | true =>
      obtain ⟨h1, h2⟩ := hb.mp hx
      rw [decide_eq_true h1, h2]; rfl
    | false =>
      by_cases h1 : c < 15 - wiN w
      · cases h2 : okAt s k l w r c (hiN w) with
        | true => rw [hb.mpr ⟨h1, h2⟩] at hx; cases hx
        | false => rw [Bool.and_false]
      · rw [decide_eq_false h1]; rfl
  · rw [if_neg h, Nat.zero_testBit]
    by_cases h1 : s (4 + 11 * k) = 0
    · rw [decide_eq_false (fun z => h ⟨h1, z⟩), Bool.and_false]; rfl
    · rw [decide_eq_false h1]; rfl
/-- how ff is found -/
theorem ffA_eq {s : Nat → Int32} {k l mi : Nat} : ∀ (n q p : Nat), q ≤ p → p < q + n → canQ s k l mi p = true → (∀ j, q ≤ j → j < p → canQ s k l mi j = false) → ffA s k l mi n q = p
  | 0, q, p, h1, h2, _, _ => absurd h2 (by omega)
  | n + 1, q, p, h1, h2, h3, h4 => by
    rw [ffA]
    by_cases e : q = p
    · subst e; rw [if_pos h3]
    · rw [if_neg (by rw [h4 q (Nat.le_refl _) (by omega)]; decide)]
      exact ffA_eq n (q + 1) p (by omega) (by omega) h3 (fun j h5 h6 => h4 j (by omega) h6)
theorem ffA_no {s : Nat → Int32} {k l mi : Nat} : ∀ (n q : Nat), (∀ j, q ≤ j → j < q + n → canQ s k l mi j = false) → ffA s k l mi n q = q + n
  | 0, q, _ => rfl
  | n + 1, q, h => by
    rw [ffA, if_neg (by rw [h q (Nat.le_refl _) (by omega)]; decide), ffA_no n (q + 1) (fun j h5 h6 => h j (by omega) (by omega))]
    omega
theorem ff_eq {s : Nat → Int32} {k l mi p : Nat} (hp : p < 504) (h1 : canQ s k l mi p = true) (h2 : ∀ j, j < p → canQ s k l mi j = false) : ff s k l mi = p := ffA_eq 504 0 p (by omega) (by omega) h1 (fun j _ h => h2 j h)
theorem ff_no {s : Nat → Int32} {k l mi : Nat} (h : ∀ j, j < 504 → canQ s k l mi j = false) : ff s k l mi = 504 := by
  unfold ff
  rw [ffA_no 504 0 (fun j _ h2 => h j (by omega))]
theorem ons_eq {w : Nat} (hw : w < 8) (x y : Int32) : s_X4_isOnSheet (nI w) x y = zb (isI (10 - hiN w) x && isI (15 - wiN w) y) := by
  have h3 := hiN_ge w
  have h5 := hiN_le w
  have h3' := wiN_ge w
  have h5' := wiN_le w
  unfold s_X4_isOnSheet
  rw [hi6, wi6, hi7 hw, wi7 hw, pk_sub (show hiN w ≤ 9 by omega), pk_sub (show wiN w ≤ 14 by omega)]
  have e1 : (x < 0) ↔ x.toInt < 0 := by rw [Int32.lt_iff_toInt_lt, Int32.toInt_zero]
  have e2 : (nI (9 - hiN w) < x) ↔ ((9 - hiN w : Nat) : Int) < x.toInt := by rw [Int32.lt_iff_toInt_lt, nI_t (by omega)]
  have e3 : (y < 0) ↔ y.toInt < 0 := by rw [Int32.lt_iff_toInt_lt, Int32.toInt_zero]
  have e4 : (nI (14 - wiN w) < y) ↔ ((14 - wiN w : Nat) : Int) < y.toInt := by rw [Int32.lt_iff_toInt_lt, nI_t (by omega)]
  unfold isI
  by_cases c1 : x < 0
  · rw [if_pos c1, decide_eq_false (by rw [e1] at c1; omega)]; rfl
  · rw [if_neg c1]
    by_cases c2 : nI (9 - hiN w) < x
    · rw [if_pos c2, decide_eq_false (by rw [e2] at c2; omega)]; rfl
    · rw [if_neg c2, decide_eq_true (p := 0 ≤ x.toInt ∧ _) (by rw [e1] at c1; rw [e2] at c2; omega)]
      by_cases c3 : y < 0
      · rw [if_pos c3, decide_eq_false (by rw [e3] at c3; omega)]; rfl
      · rw [if_neg c3]
        by_cases c4 : nI (14 - wiN w) < y
        · rw [if_pos c4, decide_eq_false (by rw [e4] at c4; omega)]; rfl
        · rw [if_neg c4, decide_eq_true (p := 0 ≤ y.toInt ∧ _) (by rw [e3] at c3; rw [e4] at c4; omega)]; rfl
def rowF (s : Nat → Int32) (k : Nat) : Nat → Int32 := fun r => if r < 9 then s (5 + 11 * k + r) else 0
theorem rowF_at {s : Nat → Int32} {k r : Nat} (h : r < 9) : rowF s k r = s (5 + 11 * k + r) := if_pos h
theorem rowF_up {s : Nat → Int32} {k r : Nat} {x : Int32} (h : r < 9) : upd (rowF s k) r x = rowF (upd s (5 + 11 * k + r) x) k := by
  funext j
  show (if j = r then x else if j < 9 then s (5 + 11 * k + j) else 0) = if j < 9 then (if 5 + 11 * k + j = 5 + 11 * k + r then x else s (5 + 11 * k + j)) else 0
  by_cases e : j = r
  · rw [if_pos e, if_pos (by omega), if_pos (by omega)]
  · rw [if_neg e]
    by_cases h2 : j < 9
    · rw [if_pos h2, if_pos h2, if_neg (by omega)]
    · rw [if_neg h2, if_neg h2]
