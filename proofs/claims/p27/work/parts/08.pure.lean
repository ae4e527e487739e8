theorem nI_and (a b : Nat) : nI a &&& nI b = nI (a &&& b) := by
  apply Int32.toBitVec_inj.mp
  show BitVec.ofNat 32 a &&& BitVec.ofNat 32 b = BitVec.ofNat 32 (a &&& b)
  rw [BitVec.ofNat_and]
theorem nI_or (a b : Nat) : nI a ||| nI b = nI (a ||| b) := by
  apply Int32.toBitVec_inj.mp
  show BitVec.ofNat 32 a ||| BitVec.ofNat 32 b = BitVec.ofNat 32 (a ||| b)
  rw [BitVec.ofNat_or]
theorem nI_sl : ∀ n, n < 32 → ((nI n &&& 31).toBitVec.smod 32).toNat = n := by decide
theorem nI_shl (a : Nat) {b : Nat} (hb : b < 32) : nI a <<< (nI b &&& 31) = nI (a * 2 ^ b) := by
  apply Int32.toBitVec_inj.mp
  rw [Int32.toBitVec_shiftLeft]
  apply BitVec.eq_of_toNat_eq
  rw [BitVec.shiftLeft_eq', nI_sl b hb]
  show (BitVec.ofNat 32 a <<< b).toNat = (BitVec.ofNat 32 (a * 2 ^ b)).toNat
  rw [BitVec.toNat_shiftLeft, BitVec.toNat_ofNat, BitVec.toNat_ofNat, Nat.shiftLeft_eq, Nat.mod_mul_mod]
theorem nI_shr {a b : Nat} (ha : a < 2 ^ 31) (hb : b < 32) : nI a >>> (nI b &&& 31) = nI (a / 2 ^ b) := pk_shrN ha _ b (nI_sl b hb)
section Z8
variable {M : zM} {G : zG} {d mc ms k n : Nat} {hh : zH} {sz : Nat} {pc : Nat} {lv : List (Option Value)} {st rest : List Value} {Post : Option Value → zH → Nat → Nat → Nat → Prop} {a b : Nat}
theorem z_iaddN (hd : decode M.2.1 pc = .ok (.iadd, 1)) (kk : zS M G d mc ms k n hh sz (pc + 1) lv (.int (nI (a + b)) :: st) Post) : zS M G d mc ms k n hh sz pc lv (.int (nI b) :: .int (nI a) :: st) Post := z_iadd hd (by rw [nI_add]; exact kk)
theorem z_imulN (hd : decode M.2.1 pc = .ok (.imul, 1)) (kk : zS M G d mc ms k n hh sz (pc + 1) lv (.int (nI (a * b)) :: st) Post) : zS M G d mc ms k n hh sz pc lv (.int (nI b) :: .int (nI a) :: st) Post := z_imul hd (by rw [pk_mul]; exact kk)
theorem z_isubN (hd : decode M.2.1 pc = .ok (.isub, 1)) (h : b ≤ a) (kk : zS M G d mc ms k n hh sz (pc + 1) lv (.int (nI (a - b)) :: st) Post) : zS M G d mc ms k n hh sz pc lv (.int (nI b) :: .int (nI a) :: st) Post := z_isub hd (by rw [pk_sub h]; exact kk)
theorem z_iandN (hd : decode M.2.1 pc = .ok (.iand, 1)) (kk : zS M G d mc ms k n hh sz (pc + 1) lv (.int (nI (a &&& b)) :: st) Post) : zS M G d mc ms k n hh sz pc lv (.int (nI b) :: .int (nI a) :: st) Post := z_iand hd (by rw [nI_and]; exact kk)
theorem z_iorN (hd : decode M.2.1 pc = .ok (.ior, 1)) (kk : zS M G d mc ms k n hh sz (pc + 1) lv (.int (nI (a ||| b)) :: st) Post) : zS M G d mc ms k n hh sz pc lv (.int (nI b) :: .int (nI a) :: st) Post := z_ior hd (by rw [nI_or]; exact kk)
theorem z_ishlN (hd : decode M.2.1 pc = .ok (.ishl, 1)) (hb : b < 32) (kk : zS M G d mc ms k n hh sz (pc + 1) lv (.int (nI (a * 2 ^ b)) :: st) Post) : zS M G d mc ms k n hh sz pc lv (.int (nI b) :: .int (nI a) :: st) Post := z_ishl hd (by rw [nI_shl a hb]; exact kk)
theorem z_ishrN (hd : decode M.2.1 pc = .ok (.ishr, 1)) (ha : a < 2 ^ 31) (hb : b < 32) (kk : zS M G d mc ms k n hh sz (pc + 1) lv (.int (nI (a / 2 ^ b)) :: st) Post) : zS M G d mc ms k n hh sz pc lv (.int (nI b) :: .int (nI a) :: st) Post := z_ishr hd (by rw [nI_shr ha hb]; exact kk)
theorem z_iremN (hd : decode M.2.1 pc = .ok (.irem, 1)) (ha : a < 2 ^ 31) (h0 : 0 < b) (hb : b < 2 ^ 31) (kk : zS M G d mc ms k n hh sz (pc + 1) lv (.int (nI (a % b)) :: st) Post) : zS M G d mc ms k n hh sz pc lv (.int (nI b) :: .int (nI a) :: st) Post := z_irem hd (nI_ne0 h0 hb) (by rw [pk_rem ha h0 hb]; exact kk)
theorem z_iincU {i : Nat} {lv' : List (Option Value)} (hd : decode M.2.1 pc = .ok (.iinc i 1, 3)) (hv : lv[i]? = some (some (.int (nI a)))) (hn : i < M.2.2.1) (hok : zok lv i = true) (hlv : lv.set i (some (.int (nI (a + 1)))) = lv') (kk : zS M G d mc ms k n hh sz (pc + 3) lv' st Post) : zS M G d mc ms k n hh sz pc lv st Post := z_iinc (v := nI (a + 1)) hd hv (by rw [nI_succ]; rfl) hn hok hlv kk
end Z8
theorem zC_eq {G : zG} {d : Nat} {M : zM} {y : MethodName} {as : List Value} {hh : zH} {sz mc ms : Nat} {x x' : Int32} {h' : zH} {s' : Nat} (e : x = x') (h : zC G d M y as hh sz mc ms (zR (.int x) h' s')) : zC G d M y as hh sz mc ms (zR (.int x') h' s') := e ▸ h
theorem popF_0 : ∀ f, popF f 0 = 0
  | 0 => rfl
  | f + 1 => by unfold popF; rw [Nat.zero_div, popF_0 f]
def sqA (l : Nat) : Nat → Nat
  | 0 => 0
  | i + 1 => sqA l i + popc (tabN (40 * l + 5 * 0 + i))
/-- the columns cut of row r of sheet k -/
def rN (s : Nat → Int32) (k r : Nat) : Nat := (s (5 + 11 * k + r)).toNatClampNeg
def okR (s : Nat → Int32) : Prop := ∀ k r, k < 6 → r < 9 → s (5 + 11 * k + r) = nI (rN s k r) ∧ rN s k r < 2 ^ 14
/-- the first n rows of a letter are free at row r, column c -/
def okAt (s : Nat → Int32) (k l w r c : Nat) : Nat → Bool
  | 0 => true
  | i + 1 => okAt s k l w r c i && ((rN s k (r + i) / 2 ^ c) &&& tabN (40 * l + 5 * w + i)) == 0
/-- a letter can be cut at a row, a column (any ints) -/
def canI (s : Nat → Int32) (k l w : Nat) (row col : Int32) : Bool := decide (s (4 + 11 * k) = 0) && isI (10 - hiN w) row && isI (15 - wiN w) col && okAt s k l w row.toNatClampNeg col.toNatClampNeg (hiN w)
def canC (s : Nat → Int32) (k l w r c : Nat) : Bool := canI s k l w (nI r) (nI c)
theorem nI_z {m : Nat} (hm : m < 2 ^ 31) : nI m = 0 ↔ m = 0 := by
  constructor
  · intro h
    by_cases e : m = 0
    · exact e
    · exact absurd h (nI_ne0 (by omega) hm)
  · rintro rfl; rfl
/-- the row of numbers behind n rows of a letter that is cut out -/
def cutS (s : Nat → Int32) (k l w r c : Nat) : Nat → (Nat → Int32)
  | 0 => s
  | i + 1 => upd (cutS s k l w r c i) (5 + 11 * k + (r + i)) (nI (rN s k (r + i) ||| tabN (40 * l + 5 * w + i) * 2 ^ c))
theorem cutS_ge {s : Nat → Int32} {k l w r c i j : Nat} (h : i ≤ j) : cutS s k l w r c i (5 + 11 * k + (r + j)) = s (5 + 11 * k + (r + j)) := by
  induction i with
  | zero => rfl
  | succ i ih =>
    unfold cutS
    rw [pk_un (by omega)]
    exact ih (by omega)
def uncA (s : Nat → Int32) (k : Nat) : Nat → Int32
  | 0 => nI 126
  | i + 1 => uncA s k i - nI (popc (rN s k i))
def canQ (s : Nat → Int32) (k l mi q : Nat) : Bool := canC s k l (4 * mi + q % 4) (q / 4 / 14) (q / 4 % 14)
/-- the first place and way from q on, of n -/
def ffA (s : Nat → Int32) (k l mi : Nat) : Nat → Nat → Nat
  | 0, q => q
  | n + 1, q => if canQ s k l mi q = true then q else ffA s k l mi n (q + 1)
def ff (s : Nat → Int32) (k l mi : Nat) : Nat := ffA s k l mi 504 0
/-- the lowest sheet of a colour that has a fit, from i on, of m -/
def shF (s : Nat → Int32) (col : Int32) (l mi : Nat) : Nat → Nat → Nat
  | 0, i => i
  | m + 1, i => if s (3 + 11 * i) = col ∧ ff s i l mi < 504 then i else shF s col l mi m (i + 1)
/-- the row of numbers with a new piece, number m -/
def newS (s : Nat → Int32) (m k l w r c : Nat) : Nat → Int32 :=
  upd (upd (upd (upd (upd (upd (upd (upd (cutS (upd s 1 (nI (m + 1))) k l w r c (hiN w)) (69 + 8 * m + 0) (nI l)) (69 + 8 * m + 1) (s (3 + 11 * k))) (69 + 8 * m + 2) (nI (w / 4))) (69 + 8 * m + 3) (nI 0)) (69 + 8 * m + 4) (-6)) (69 + 8 * m + 5) (nI k)) (69 + 8 * m + 6) (nI (14 * r + c))) (69 + 8 * m + 7) (nI w)
theorem okR_1 {s : Nat → Int32} (h : okR s) (x : Int32) : okR (upd s 1 x) := by
  intro k r hk hr
  have e : upd s 1 x (5 + 11 * k + r) = s (5 + 11 * k + r) := pk_un (by omega)
  unfold rN
  rw [e]
  exact h k r hk hr
theorem cutS_out {s : Nat → Int32} {k l w r c : Nat} : ∀ (i j : Nat), (j < 5 + 11 * k + r ∨ 5 + 11 * k + r + i ≤ j) → cutS s k l w r c i j = s j
  | 0, _, _ => rfl
  | i + 1, j, h => by
    rw [cutS, pk_un (by omega)]
    exact cutS_out i j (by omega)
/-- the lowest loose piece of a kind among the first i, else f -/
def loF (s : Nat → Int32) (col lt mi : Int32) : Nat → Int32 → Int32
  | 0, f => f
  | i + 1, f => loF s col lt mi i (if s (69 + 8 * i + 0) = lt ∧ s (69 + 8 * i + 1) = col ∧ s (69 + 8 * i + 2) = mi ∧ s (69 + 8 * i + 3) = 0 then nI i else f)
/-- the piece at a spot -/
def paF (s : Nat → Int32) (v : Int32) : Nat → Int32
  | 0 => -6
  | i + 1 => if s (69 + 8 * i + 4) = v then nI i else paF s v i
def ipF (s : Nat → Int32) (m : Nat) (pane : Int32) : Nat → Int32
  | 0 => nI 0
  | i + 1 => ipF s m pane i + (if paF s (nI 12 * pane + nI i) m = -6 then nI 0 else nI 1)
def putS (s : Nat → Int32) (p : Nat) (v : Int32) : Nat → Int32 := upd (upd s (69 + 8 * p + 3) (nI 1)) (69 + 8 * p + 4) v
theorem ffA_can {s : Nat → Int32} {k l mi : Nat} : ∀ n q, ffA s k l mi n q < q + n → canQ s k l mi (ffA s k l mi n q) = true
  | 0, q, h => absurd h (by unfold ffA; omega)
  | n + 1, q, h => by
    by_cases c : canQ s k l mi q = true
    · rw [ffA, if_pos c]; exact c
    · rw [ffA, if_neg c] at h ⊢
      exact ffA_can n (q + 1) (by omega)
theorem canC_ok {s : Nat → Int32} {k l w r c : Nat} (hr : r < 2 ^ 31) (hc : c < 2 ^ 31) (h : canC s k l w r c = true) : r + hiN w ≤ 9 ∧ c + wiN w ≤ 14 ∧ s (4 + 11 * k) = 0 ∧ okAt s k l w r c (hiN w) = true := by
  unfold canC canI at h
  simp only [Bool.and_eq_true, decide_eq_true_eq] at h
  obtain ⟨⟨⟨h0, h1⟩, h2⟩, h3⟩ := h
  rw [nI_clamp hr, nI_clamp hc] at h3
  unfold isI at h1 h2
  rw [decide_eq_true_iff, nI_t hr] at h1
  rw [decide_eq_true_iff, nI_t hc] at h2
  have := hiN_le w
  have := wiN_le w
  exact ⟨by omega, by omega, h0, h3⟩
theorem ff_ok {s : Nat → Int32} {k l mi : Nat} (h : ff s k l mi < 504) : ff s k l mi / 4 / 14 + hiN (4 * mi + ff s k l mi % 4) ≤ 9 ∧ ff s k l mi / 4 % 14 + wiN (4 * mi + ff s k l mi % 4) ≤ 14 ∧ s (4 + 11 * k) = 0 ∧ okAt s k l (4 * mi + ff s k l mi % 4) (ff s k l mi / 4 / 14) (ff s k l mi / 4 % 14) (hiN (4 * mi + ff s k l mi % 4)) = true :=
  canC_ok (by omega) (by omega) (ffA_can 504 0 (by unfold ff at h; omega))
/-- the row of numbers with a new piece at the first fit -/
def fitS (s : Nat → Int32) (m k l mi : Nat) : Nat → Int32 := newS s m k l (4 * mi + ff s k l mi % 4) (ff s k l mi / 4 / 14) (ff s k l mi / 4 % 14)
def pfV (s : Nat → Int32) (col : Int32) (l mi n m : Nat) : Int32 :=
  if loF s col (nI l) (nI mi) m (-6) = -6 then (if m < 48 then (if shF s col l mi n 0 < n then nI m else -6) else -6) else loF s col (nI l) (nI mi) m (-6)
def pfS (s : Nat → Int32) (col : Int32) (l mi n m : Nat) : Nat → Int32 :=
  if loF s col (nI l) (nI mi) m (-6) = -6 then (if m < 48 then (if shF s col l mi n 0 < n then fitS s m (shF s col l mi n 0) l mi else s) else s) else s
def ltrI (c : Int32) : Int32 := if c = nI 105 then nI 0 else if c = nI 108 then nI 1 else if c = nI 111 then nI 2 else if c = nI 116 then nI 3 else if c = nI 117 then nI 4 else if c = nI 101 then nI 5 else if c = nI 104 then nI 6 else if c = nI 115 then nI 7 else -6
def nSh (s : Nat → Int32) : Nat := (s 0).toNatClampNeg
def nP (s : Nat → Int32) : Nat := (s 1).toNatClampNeg
def okS (s : Nat → Int32) : Prop := (s 0 = nI (nSh s) ∧ nSh s ≤ 6) ∧ (s 1 = nI (nP s) ∧ nP s ≤ 48) ∧ okR s
theorem tab_lt : ∀ j, j < 320 → tabN j < 2 ^ wiN (j / 5 % 8) := by decide +kernel
theorem tabN_w {l w i : Nat} (hl : l < 8) (hw : w < 8) (hi : i < 5) : tabN (40 * l + 5 * w + i) < 2 ^ wiN w := by
  have h := tab_lt (40 * l + 5 * w + i) (by omega)
  rwa [show (40 * l + 5 * w + i) / 5 % 8 = w by omega] at h
theorem or_lt {a b n : Nat} (ha : a < 2 ^ n) (hb : b < 2 ^ n) : a ||| b < 2 ^ n := Nat.or_lt_two_pow ha hb
theorem tab_c {l w i c : Nat} (hl : l < 8) (hw : w < 8) (hi : i < 5) (hc : c + wiN w ≤ 14) : tabN (40 * l + 5 * w + i) * 2 ^ c < 2 ^ 14 := by
  have h := tabN_w hl hw hi
  calc tabN (40 * l + 5 * w + i) * 2 ^ c < 2 ^ wiN w * 2 ^ c := Nat.mul_lt_mul_of_pos_right h (Nat.two_pow_pos c)
    _ = 2 ^ (wiN w + c) := (Nat.pow_add 2 _ _).symm
    _ ≤ 2 ^ 14 := Nat.pow_le_pow_right (by omega) (by omega)
theorem okR_upd {s : Nat → Int32} (h : okR s) {j x : Nat} (hx : x < 2 ^ 14) : okR (upd s j (nI x)) := by
  intro k r hk hr
  by_cases e : 5 + 11 * k + r = j
  · subst e
    have e1 : upd s (5 + 11 * k + r) (nI x) (5 + 11 * k + r) = nI x := pk_us
    have e2 : rN (upd s (5 + 11 * k + r) (nI x)) k r = x := by unfold rN; rw [e1, nI_clamp (by omega)]
    rw [e1, e2]
    exact ⟨rfl, hx⟩
  · have e1 : upd s j (nI x) (5 + 11 * k + r) = s (5 + 11 * k + r) := pk_un e
    have e2 : rN (upd s j (nI x)) k r = rN s k r := by unfold rN; rw [e1]
    rw [e1, e2]
    exact h k r hk hr
theorem okR_of {s t : Nat → Int32} (h : okR s) (e : ∀ j, 5 ≤ j → j < 69 → t j = s j) : okR t := by
  intro k r hk hr
  have e1 : t (5 + 11 * k + r) = s (5 + 11 * k + r) := e _ (by omega) (by omega)
  have e2 : rN t k r = rN s k r := by unfold rN; rw [e1]
  rw [e1, e2]
  exact h k r hk hr
theorem okR_cut {s : Nat → Int32} (h : okR s) {k l w r c : Nat} (hk : k < 6) (hl : l < 8) (hw : w < 8) (hc : c + wiN w ≤ 14) : ∀ i, r + i ≤ 9 → i ≤ 5 → okR (cutS s k l w r c i)
  | 0, _, _ => h
  | i + 1, h1, h2 => by
    rw [cutS]
    exact okR_upd (okR_cut h hk hl hw hc i (by omega) (by omega)) (or_lt (h k (r + i) hk (by omega)).2 (tab_c hl hw (by omega) hc))
theorem newS_lo {s : Nat → Int32} {m k l w r c j : Nat} (hj : j < 69) : newS s m k l w r c j = cutS (upd s 1 (nI (m + 1))) k l w r c (hiN w) j := by
  unfold newS
  rw [pk_un (by omega), pk_un (by omega), pk_un (by omega), pk_un (by omega), pk_un (by omega), pk_un (by omega), pk_un (by omega), pk_un (by omega)]
theorem okS_new {s : Nat → Int32} (h : okS s) {m k l w r c : Nat} (hm : m = nP s) (hm48 : m < 48) (hk : k < 6) (hl : l < 8) (hw : w < 8) (hr : r + hiN w ≤ 9) (hc : c + wiN w ≤ 14) : okS (newS s m k l w r c) ∧ nP (newS s m k l w r c) = m + 1 ∧ nSh (newS s m k l w r c) = nSh s := by
  obtain ⟨⟨a1, a2⟩, ⟨b1, b2⟩, hR⟩ := h
  have h5 := hiN_le w
  have e0 : newS s m k l w r c 0 = s 0 := by rw [newS_lo (by omega), cutS_out _ _ (by omega), pk_un (by omega)]
  have e1 : newS s m k l w r c 1 = nI (m + 1) := by rw [newS_lo (by omega), cutS_out _ _ (by omega), pk_us]
  have n0 : nSh (newS s m k l w r c) = nSh s := by unfold nSh; rw [e0]
  have n1 : nP (newS s m k l w r c) = m + 1 := by unfold nP; rw [e1, nI_clamp (by omega)]
  refine ⟨⟨⟨by rw [e0, n0]; exact a1, by rw [n0]; exact a2⟩, ⟨by rw [e1, n1], by rw [n1]; omega⟩, ?_⟩, n1, n0⟩
  exact okR_of (okR_cut (okR_1 hR (nI (m + 1))) hk hl hw hc (hiN w) hr h5) (fun j _ hj => newS_lo hj)
theorem okS_hi {s t : Nat → Int32} (h : okS s) (e : ∀ j, j < 69 → t j = s j) : okS t ∧ nP t = nP s ∧ nSh t = nSh s := by
  obtain ⟨⟨a1, a2⟩, ⟨b1, b2⟩, hR⟩ := h
  have n0 : nSh t = nSh s := by unfold nSh; rw [e 0 (by omega)]
  have n1 : nP t = nP s := by unfold nP; rw [e 1 (by omega)]
  exact ⟨⟨⟨by rw [e 0 (by omega), n0]; exact a1, by rw [n0]; exact a2⟩, ⟨by rw [e 1 (by omega), n1]; exact b1, by rw [n1]; exact b2⟩, okR_of hR (fun j _ hj => e j hj)⟩, n1, n0⟩
theorem loF_val {s : Nat → Int32} {col lt mi : Int32} : ∀ (i : Nat) (f : Int32), loF s col lt mi i f = f ∨ ∃ j, j < i ∧ loF s col lt mi i f = nI j ∧ s (69 + 8 * j + 0) = lt ∧ s (69 + 8 * j + 1) = col ∧ s (69 + 8 * j + 2) = mi ∧ s (69 + 8 * j + 3) = 0
  | 0, f => Or.inl rfl
  | i + 1, f => by
    rw [loF]
    split
    · next hc =>
      rcases loF_val (s := s) (col := col) (lt := lt) (mi := mi) i (nI i) with h | ⟨j, h1, h2⟩
      · exact Or.inr ⟨i, by omega, h, hc⟩
      · exact Or.inr ⟨j, by omega, h2⟩
    · rcases loF_val (s := s) (col := col) (lt := lt) (mi := mi) i f with h | ⟨j, h1, h2⟩
      · exact Or.inl h
      · exact Or.inr ⟨j, by omega, h2⟩
theorem nI_ne6 {n : Nat} (h : n < 2 ^ 31) : ¬ nI n = -6 := fun e => nI_pos h (by rw [e]; decide)
/-- one letter of a name is put, if it can be -/
def wrStep (s : Nat → Int32) (col : Int32) (l mi p pl : Nat) : Option (Nat → Int32) :=
  if pl < 12 ∧ paF s (nI 12 * nI p + nI pl) (nP s) = -6 then
    (if pfV s col l mi (nSh s) (nP s) = -6 then none else some (putS (pfS s col l mi (nSh s) (nP s)) (pfV s col l mi (nSh s) (nP s)).toNatClampNeg (nI 12 * nI p + nI pl)))
  else none
/-- n letters from the k-th on -/
def wrA (lt : Nat → Nat) (L : Nat) (col : Int32) (mi p q : Nat) : Nat → Nat → (Nat → Int32) → Bool × (Nat → Int32)
  | 0, _, s => (true, s)
  | n + 1, k, s => match wrStep s col (lt (if mi = 1 then L - 1 - k else k)) mi p (q + k) with
    | none => (false, s)
    | some s' => wrA lt L col mi p q n (k + 1) s'
def okT (s : Nat → Int32) : Prop := ∀ j, 453 ≤ j → s j = 0
def faF (pad : Nat → Int32) : Nat → Int32 → Int32
  | 0, f => f
  | i + 1, f => faF pad i (if 12 ≤ i ∨ ltrI (pad i) = -6 then nI i else f)
def faI (pad : Nat → Int32) (L : Nat) : Int32 := faF pad L (if L = 0 then nI 0 else -6)
theorem faF_some {pad : Nat → Int32} : ∀ (i : Nat) (f : Int32), i ≤ 80 → faF pad i f = -6 → f = -6 ∧ ∀ j, j < i → j < 12 ∧ ¬ ltrI (pad j) = -6
  | 0, f, _, h => ⟨h, fun j hj => absurd hj (by omega)⟩
  | i + 1, f, hi, h => by
    rw [faF] at h
    obtain ⟨h1, h2⟩ := faF_some i _ (by omega) h
    by_cases c : 12 ≤ i ∨ ltrI (pad i) = -6
    · rw [if_pos c] at h1
      exact absurd h1 (nI_ne6 (by omega))
    · rw [if_neg c] at h1
      refine ⟨h1, fun j hj => ?_⟩
      by_cases e : j = i
      · subst e
        exact ⟨by omega, fun z => c (Or.inr z)⟩
      · exact h2 j (by omega)
theorem ltrI_val {c : Int32} (h : ¬ ltrI c = -6) : ltrI c = nI (ltrI c).toNatClampNeg ∧ (ltrI c).toNatClampNeg < 8 := by
  unfold ltrI at h ⊢
  repeat' split
  all_goals first | exact ⟨by decide, by decide⟩ | (exfalso; simp_all)
/-- the letters of the pad -/
def ltP (pad : Nat → Int32) : Nat → Nat := fun i => (ltrI (pad i)).toNatClampNeg
/-- whether the name can be written, and how it is then -/
def wrZ (pad : Nat → Int32) (L : Nat) (col : Int32) (mi p q : Nat) (s : Nat → Int32) : Bool × (Nat → Int32) := wrA (ltP pad) L col mi p q L 0 s
def zfS (s : Nat → Int32) (b i : Nat) : Nat → Int32 := fun j => if b ≤ j ∧ j < b + i then nI 0 else s j
def sheetS (s : Nat → Int32) (n : Nat) (col : Int32) : Nat → Int32 := upd (zfS (upd s 0 (nI (n + 1))) (3 + 11 * n) 11) (3 + 11 * n + 0) col
def o_sheet (s : Nat → Int32) (a : Int32) : Int32 × Option (Nat → Int32) := if isC a = true then (if nSh s = 6 then (-4, none) else (nI (nSh s), some (sheetS s (nSh s) a))) else (-2, none)
def o_cut (s : Nat → Int32) (a b c d e : Int32) : Int32 × Option (Nat → Int32) :=
  if isI (nSh s) a = true then (if isI 8 b = true then (if isI 8 c = true then (if canI s a.toNatClampNeg b.toNatClampNeg c.toNatClampNeg d e = true then (if nP s = 48 then (-4, none) else (nI (nP s), some (newS s (nP s) a.toNatClampNeg b.toNatClampNeg c.toNatClampNeg d.toNatClampNeg e.toNatClampNeg))) else (-5, none)) else (-2, none)) else (-1, none)) else (-1, none)
theorem canI_ok {s : Nat → Int32} {k l w : Nat} {d e : Int32} (h : canI s k l w d e = true) : ∃ r c, d = nI r ∧ e = nI c ∧ r + hiN w ≤ 9 ∧ c + wiN w ≤ 14 := by
  have h0 := h
  unfold canI at h
  simp only [Bool.and_eq_true] at h
  obtain ⟨⟨⟨-, h1⟩, h2⟩, -⟩ := h
  obtain ⟨r, hr, rfl⟩ := (isI_iff (by omega)).mp h1
  obtain ⟨c, hc, rfl⟩ := (isI_iff (by omega)).mp h2
  have := hiN_le w
  have := wiN_le w
  exact ⟨r, c, rfl, rfl, by omega, by omega⟩
def o_make (s : Nat → Int32) (a b c : Int32) : Int32 × Option (Nat → Int32) :=
  if isI 8 b = true then (if isC a = true then (if isI 2 c = true then (if shF s a b.toNatClampNeg c.toNatClampNeg (nSh s) 0 < nSh s then (if nP s = 48 then (-4, none) else (nI (nP s), some (fitS s (nP s) (shF s a b.toNatClampNeg c.toNatClampNeg (nSh s) 0) b.toNatClampNeg c.toNatClampNeg))) else (-5, none)) else (-2, none)) else (-2, none)) else (-1, none)
def o_place (s : Nat → Int32) (a b c : Int32) : Int32 × Option (Nat → Int32) :=
  if isI (nP s) a = true then (if (isI 3 b && isI 12 c) = true then (if s (69 + 8 * a.toNatClampNeg + 3) = 0 then (if paF s (nI 12 * b + c) (nP s) = -6 then (ipF (putS s a.toNatClampNeg (nI 12 * b + c)) (nP s) b 12, some (putS s a.toNatClampNeg (nI 12 * b + c))) else (-5, none)) else (-5, none)) else (-1, none)) else (-1, none)
def clS (s : Nat → Int32) (a : Int32) : Nat → (Nat → Int32)
  | 0 => s
  | i + 1 => upd (upd (clS s a i) (69 + 8 * i + 3) (if ¬ s (69 + 8 * i + 4) = -6 ∧ s (69 + 8 * i + 4) / nI 12 = a then nI 0 else s (69 + 8 * i + 3))) (69 + 8 * i + 4) (if ¬ s (69 + 8 * i + 4) = -6 ∧ s (69 + 8 * i + 4) / nI 12 = a then -6 else s (69 + 8 * i + 4))
def o_clear (s : Nat → Int32) (a : Int32) : Int32 × Option (Nat → Int32) := if isI 3 a = true then (ipF s (nP s) a 12, some (clS s a (nP s))) else (-1, none)
def plN (s : Nat → Int32) (j : Nat) : Nat := (s (69 + 8 * j + 0)).toNatClampNeg
def okP (s : Nat → Int32) : Prop := ∀ j, j < nP s → s (69 + 8 * j + 0) = nI (plN s j) ∧ plN s j < 8
def thS (s : Nat → Int32) (p : Nat) : Nat → Int32 := upd (upd s (69 + 8 * p + 3) (nI 2)) 2 (s 2 + nI (sqA (plN s p) 5))
def o_throw (s : Nat → Int32) (a : Int32) : Int32 × Option (Nat → Int32) := if isI (nP s) a = true then (if s (69 + 8 * a.toNatClampNeg + 3) = 0 then (nI (sqA (plN s a.toNatClampNeg) 5), some (thS s a.toNatClampNeg)) else (-5, none)) else (-1, none)
def scS (s : Nat → Int32) (k : Nat) : Nat → Int32 := upd (upd s (4 + 11 * k) (nI 1)) 2 (s 2 + uncA s k 9)
def o_scrap (s : Nat → Int32) (a : Int32) : Int32 × Option (Nat → Int32) := if isI (nSh s) a = true then (if s (4 + 11 * a.toNatClampNeg) = nI 1 then (-5, none) else (uncA s a.toNatClampNeg 9, some (scS s a.toNatClampNeg))) else (-1, none)
theorem okR_j {s : Nat → Int32} (h : okR s) {j : Nat} {x : Int32} (hj : ∀ k r, k < 6 → r < 9 → ¬ 5 + 11 * k + r = j) : okR (upd s j x) := by
  intro k r hk hr
  have e : upd s j x (5 + 11 * k + r) = s (5 + 11 * k + r) := pk_un (hj k r hk hr)
  unfold rN
  rw [e]
  exact h k r hk hr
def o_write (pad : Nat → Int32) (L : Nat) (s : Nat → Int32) (a b c d : Int32) : Int32 × Option (Nat → Int32) :=
  if (isI 3 a && isI 12 b) = true then (if faI pad L = -6 then (if isC c = true then (if isI 2 d = true then (if (wrZ pad L c d.toNatClampNeg a.toNatClampNeg b.toNatClampNeg s).1 = true then ((wrZ pad L c d.toNatClampNeg a.toNatClampNeg b.toNatClampNeg s).2 1 - s 1, some (wrZ pad L c d.toNatClampNeg a.toNatClampNeg b.toNatClampNeg s).2) else (-5, none)) else (-2, none)) else (-2, none)) else (-3, none)) else (-1, none)
def coA (pad : Nat → Int32) (L : Nat) (s : Nat → Int32) (p q mi : Nat) : Nat → Int32
  | 0 => nI 0
  | i + 1 => coA pad L s p q mi i ||| (if (wrZ pad L (nI (i + 1)) mi p q s).1 = true then nI 1 <<< (nI (i + 1) &&& 31) else nI 0)
def o_colours (pad : Nat → Int32) (L : Nat) (s : Nat → Int32) (a b c : Int32) : Int32 :=
  if (isI 3 a && isI 12 b) = true then (if faI pad L = -6 then (if isI 2 c = true then coA pad L s a.toNatClampNeg b.toNatClampNeg c.toNatClampNeg 4 else -2) else -3) else -1
def fiQ (mi q j : Nat) : Nat := if j = 0 then 4 * mi + q % 4 else if j = 1 then q / 4 / 14 else q / 4 % 14
def o_fit (s : Nat → Int32) (a b c d : Int32) : Int32 :=
  if isI (nSh s) a = true then (if isI 8 b = true then (if isI 2 c = true then (if isI 3 d = true then (if ff s a.toNatClampNeg b.toNatClampNeg c.toNatClampNeg < 504 then nI (fiQ c.toNatClampNeg (ff s a.toNatClampNeg b.toNatClampNeg c.toNatClampNeg) d.toNatClampNeg) else -6) else -2) else -2) else -1) else -1
theorem or_half (a b : Nat) : (a ||| b) / 2 = a / 2 ||| b / 2 := by
  apply Nat.eq_of_testBit_eq
  intro i
  rw [Nat.testBit_or, ← Nat.testBit_succ, ← Nat.testBit_succ, ← Nat.testBit_succ, Nat.testBit_or]
theorem and_half (a b : Nat) : (a &&& b) / 2 = a / 2 &&& b / 2 := by
  apply Nat.eq_of_testBit_eq
  intro i
  rw [Nat.testBit_and, ← Nat.testBit_succ, ← Nat.testBit_succ, ← Nat.testBit_succ, Nat.testBit_and]
theorem or_par {a b : Nat} (h : a &&& b = 0) : (a ||| b) % 2 = a % 2 + b % 2 := by
  have h1 : (a &&& b) % 2 = 0 := by rw [h]
  have e1 : (a ||| b) % 2 = (a % 2) ||| (b % 2) := by
    have := Nat.or_mod_two_pow (a := a) (b := b) (n := 1)
    simpa using this
  have e2 : (a &&& b) % 2 = (a % 2) &&& (b % 2) := by
    have := Nat.and_mod_two_pow (a := a) (b := b) (n := 1)
    simpa using this
  rw [e1]
  rw [e2] at h1
  rcases Nat.mod_two_eq_zero_or_one a with p | p <;> rcases Nat.mod_two_eq_zero_or_one b with q | q <;> rw [p, q] at h1 ⊢ <;> first | rfl | (exact absurd h1 (by decide))
theorem popF_or : ∀ (f a b : Nat), a &&& b = 0 → popF f (a ||| b) = popF f a + popF f b
  | 0, _, _, _ => rfl
  | f + 1, a, b, h => by
    rw [popF, popF, popF, or_par h, or_half, popF_or f (a / 2) (b / 2) (by rw [← and_half, h])]
    omega
theorem popF_le : ∀ (f n m : Nat), m < 2 ^ n → popF f m ≤ n
  | 0, _, _, _ => Nat.zero_le _
  | f + 1, 0, m, h => by
    rw [show m = 0 by omega, popF_0]; omega
  | f + 1, n + 1, m, h => by
    rw [popF]
    have := popF_le f n (m / 2) (by rw [Nat.pow_succ] at h; omega)
    omega
theorem popF_pos : ∀ (f m : Nat), 0 < m → m < 2 ^ f → 0 < popF f m
  | 0, m, h, h2 => by omega
  | f + 1, m, h, h2 => by
    rw [popF]
    by_cases e : m % 2 = 0
    · have := popF_pos f (m / 2) (by omega) (by rw [Nat.pow_succ] at h2; omega)
      omega
    · omega
/-- the squares of a sheet that are cut, in its first n rows -/
def cutN (s : Nat → Int32) (k : Nat) : Nat → Nat
  | 0 => 0
  | i + 1 => cutN s k i + popc (rN s k i)
theorem cutN_le {s : Nat → Int32} {k : Nat} (hk : k < 6) (hR : okR s) : ∀ n, n ≤ 9 → cutN s k n ≤ 14 * n
  | 0, _ => Nat.zero_le _
  | i + 1, h => by
    rw [cutN]
    have := cutN_le hk hR i (by omega)
    have h2 : popc (rN s k i) ≤ 14 := popF_le 32 14 _ (hR k i hk (by omega)).2
    omega
theorem cutN_mono {s t : Nat → Int32} {k : Nat} : ∀ n, (∀ r, r < n → popc (rN s k r) ≤ popc (rN t k r)) → cutN s k n ≤ cutN t k n
  | 0, _ => Nat.le_refl _
  | i + 1, h => by
    rw [cutN, cutN]
    have := cutN_mono i (fun r hr => h r (by omega))
    have := h i (by omega)
    omega
theorem cutN_lt {s t : Nat → Int32} {k r : Nat} : ∀ n, r < n → (∀ r, r < n → popc (rN s k r) ≤ popc (rN t k r)) → popc (rN s k r) < popc (rN t k r) → cutN s k n < cutN t k n
  | 0, h, _, _ => absurd h (by omega)
  | i + 1, h, h1, h2 => by
    rw [cutN, cutN]
    by_cases e : r = i
    · subst e
      have := cutN_mono r (fun r hr => h1 r (by omega))
      omega
    · have := cutN_lt i (by omega) (fun r hr => h1 r (by omega)) h2
      have := h1 i (by omega)
      omega
theorem rN_cut {s : Nat → Int32} (h : okR s) {k l w r c : Nat} (hk : k < 6) (hl : l < 8) (hw : w < 8) (hc : c + wiN w ≤ 14) : ∀ (i : Nat), r + i ≤ 9 → i ≤ 5 → ∀ q, q < 9 → rN (cutS s k l w r c i) k q = if r ≤ q ∧ q < r + i then rN s k q ||| tabN (40 * l + 5 * w + (q - r)) * 2 ^ c else rN s k q
  | 0, _, _, q, _ => by rw [if_neg (by omega)]; rfl
  | i + 1, h1, h2, q, hq => by
    have ih := rN_cut (r := r) (c := c) h hk hl hw hc i (by omega) (by omega) q hq
    by_cases e : q = r + i
    · subst e
      have hx : rN s k (r + i) ||| tabN (40 * l + 5 * w + i) * 2 ^ c < 2 ^ 14 := or_lt (h k (r + i) hk (by omega)).2 (tab_c hl hw (i := i) (by omega) hc)
      rw [if_pos (by omega), Nat.add_sub_cancel_left]
      unfold rN
      rw [cutS, pk_us, nI_clamp (n := rN s k (r + i) ||| tabN (40 * l + 5 * w + i) * 2 ^ c) (by omega)]
      rfl
    · have e1 : rN (cutS s k l w r c (i + 1)) k q = rN (cutS s k l w r c i) k q := by
        unfold rN
        rw [cutS, pk_un (by omega)]
      rw [e1, ih]
      by_cases c2 : r ≤ q ∧ q < r + i
      · rw [if_pos c2, if_pos (by omega)]
      · rw [if_neg c2, if_neg (by omega)]
theorem shr_and {a t c : Nat} (h : (a / 2 ^ c) &&& t = 0) : a &&& (t * 2 ^ c) = 0 := by
  apply Nat.eq_of_testBit_eq
  intro i
  rw [Nat.zero_testBit, Nat.testBit_and]
  rw [← Nat.shiftLeft_eq, Nat.testBit_shiftLeft]
  by_cases hi : c ≤ i
  · have h2 : ((a / 2 ^ c) &&& t).testBit (i - c) = false := by rw [h, Nat.zero_testBit]
    rw [Nat.testBit_and, Nat.testBit_div_two_pow, Nat.sub_add_cancel hi] at h2
    rw [decide_eq_true hi, Bool.true_and]
    exact h2
  · rw [decide_eq_false hi, Bool.false_and, Bool.and_false]
theorem okAt_row {s : Nat → Int32} {k l w r c : Nat} : ∀ (n : Nat), okAt s k l w r c n = true → ∀ i, i < n → (rN s k (r + i) / 2 ^ c) &&& tabN (40 * l + 5 * w + i) = 0
  | 0, _, i, h => absurd h (by omega)
  | n + 1, h, i, hi => by
    rw [okAt, Bool.and_eq_true, beq_iff_eq] at h
    by_cases e : i = n
    · subst e; exact h.2
    · exact okAt_row n h.1 i (by omega)
theorem tab_pos : ∀ j, j < 64 → 0 < tabN (5 * j + 1) := by decide +kernel
/-- the row of numbers with a letter cut out at its first fit -/
def cutF (s : Nat → Int32) (k l mi : Nat) : Nat → Int32 := cutS s k l (4 * mi + ff s k l mi % 4) (ff s k l mi / 4 / 14) (ff s k l mi / 4 % 14) (hiN (4 * mi + ff s k l mi % 4))
theorem cutF_ok {s : Nat → Int32} {k l mi : Nat} (hk : k < 6) (hl : l < 8) (hm : mi < 2) (hR : okR s) (hf : ff s k l mi < 504) : okR (cutF s k l mi) ∧ cutN s k 9 < cutN (cutF s k l mi) k 9 ∧ cutN (cutF s k l mi) k 9 ≤ 126 := by
  obtain ⟨r1, r2, r3, r4⟩ := ff_ok hf
  have hw : 4 * mi + ff s k l mi % 4 < 8 := by omega
  have h5 := hiN_le (4 * mi + ff s k l mi % 4)
  have h3 := hiN_ge (4 * mi + ff s k l mi % 4)
  have hR2 : okR (cutF s k l mi) := okR_cut hR hk hl hw r2 _ r1 h5
  refine ⟨hR2, ?_, Nat.le_trans (cutN_le hk hR2 9 (by omega)) (by omega)⟩
  have key : ∀ q, q < 9 → popc (rN (cutF s k l mi) k q) = if ff s k l mi / 4 / 14 ≤ q ∧ q < ff s k l mi / 4 / 14 + hiN (4 * mi + ff s k l mi % 4) then popc (rN s k q) + popc (tabN (40 * l + 5 * (4 * mi + ff s k l mi % 4) + (q - ff s k l mi / 4 / 14)) * 2 ^ (ff s k l mi / 4 % 14)) else popc (rN s k q) := by
    intro q hq
    unfold cutF
    rw [rN_cut hR hk hl hw r2 _ r1 h5 q hq]
    split
    · next hc =>
      have h1 := okAt_row _ r4 (q - ff s k l mi / 4 / 14) (by omega)
      rw [show ff s k l mi / 4 / 14 + (q - ff s k l mi / 4 / 14) = q by omega] at h1
      exact popF_or 32 _ _ (shr_and h1)
    · rfl
  refine cutN_lt (r := ff s k l mi / 4 / 14 + 1) 9 (by omega) (fun q hq => ?_) ?_
  · rw [key q hq]; split <;> omega
  · rw [key _ (by omega), if_pos (by omega), Nat.add_sub_cancel_left]
    have ht := tab_pos (8 * l + (4 * mi + ff s k l mi % 4)) (by omega)
    rw [show 5 * (8 * l + (4 * mi + ff s k l mi % 4)) + 1 = 40 * l + 5 * (4 * mi + ff s k l mi % 4) + 1 by omega] at ht
    have hb := tab_c hl hw (i := 1) (by omega) r2
    have := popF_pos 32 (tabN (40 * l + 5 * (4 * mi + ff s k l mi % 4) + 1) * 2 ^ (ff s k l mi / 4 % 14)) (Nat.mul_pos ht (Nat.two_pow_pos _)) (by omega)
    unfold popc at *
    omega
def mnA (k l mi : Nat) : Nat → (Nat → Int32) → Nat → Nat
  | 0, _, n => n
  | g + 1, s, n => if ff s k l mi < 504 then mnA k l mi g (cutF s k l mi) (n + 1) else n
def o_many (s : Nat → Int32) (a b c : Int32) : Int32 :=
  if isI (nSh s) a = true then (if isI 8 b = true then (if isI 2 c = true then nI (mnA a.toNatClampNeg b.toNatClampNeg c.toNatClampNeg 126 s 0) else -2) else -1) else -1
def fiA (s : Nat → Int32) (k l : Nat) : Nat → Int32
  | 0 => nI 0
  | i + 1 => fiA s k l i + (if canC s k l (i % 8) (i / 8 / 14) (i / 8 % 14) = true then nI 1 else nI 0)
def o_fits (s : Nat → Int32) (a b : Int32) : Int32 := if isI (nSh s) a = true then (if isI 8 b = true then fiA s a.toNatClampNeg b.toNatClampNeg 1008 else -1) else -1
def o_of (s : Nat → Int32) (a b : Int32) : Int32 := if isI (nP s) a = true then (if isI 8 b = true then s (69 + 8 * a.toNatClampNeg + b.toNatClampNeg) else -2) else -1
def pfrA (s : Nat → Int32) (x : Int32) : Nat → Int32
  | 0 => nI 0
  | i + 1 => pfrA s x i + (if s (69 + 8 * i + 5) = x then nI 1 else nI 0)
def ptaA (s : Nat → Int32) (x : Int32) : Nat → Int32
  | 0 => nI 0
  | i + 1 => ptaA s x i + (if s (69 + 8 * i + 3) = x then nI 1 else nI 0)
def lfA (s : Nat → Int32) (k : Nat) : Nat → Int32
  | 0 => nI 0
  | i + 1 => lfA s k i ||| (if ff s k i 0 < 504 ∨ ff s k i 1 < 504 then nI 1 <<< (nI i &&& 31) else nI 0)
def o_ofSheet (s : Nat → Int32) (a b : Int32) : Int32 := if isI (nSh s) a = true then (if b = nI 0 then s (3 + 11 * a.toNatClampNeg + 0) else if b = nI 1 then uncA s a.toNatClampNeg 9 else if b = nI 2 then pfrA s a (nP s) else if b = nI 3 then s (3 + 11 * a.toNatClampNeg + 1) else if b = nI 4 then lfA s a.toNatClampNeg 8 else -2) else -1
def o_row (s : Nat → Int32) (a b : Int32) : Int32 := if isI (nSh s) a = true then (if isI 9 b = true then s (5 + 11 * a.toNatClampNeg + b.toNatClampNeg) else -1) else -1
def o_pane (s : Nat → Int32) (a b : Int32) : Int32 := if (isI 3 a && isI 12 b) = true then paF s (nI 12 * a + b) (nP s) else -1
def o_shape (a b c : Int32) : Int32 := if isI 8 a = true then (if isI 8 b = true then (if isI 5 c = true then tabI (40 * a.toNatClampNeg + 5 * b.toNatClampNeg + c.toNatClampNeg) else -2) else -2) else -1
/-! the kit's laws of long bits, pasted (laws/BITS) -/
theorem wb_tb (n : Nat) : (lN n).toBitVec = BitVec.ofNat 64 n := rfl
theorem wb_inj {a b : Int64} (h : a.toBitVec = b.toBitVec) : a = b := Int64.toBitVec_inj.mp h
theorem wb_tn {n : Nat} (h : n < 2 ^ 64) : (lN n).toBitVec.toNat = n := by rw [wb_tb, BitVec.toNat_ofNat, Nat.mod_eq_of_lt h]
theorem wb_cu : ∀ k, k < 64 → ((nI k).toInt64.toUInt64 &&& Int64.toUInt64 63) = UInt64.ofNat k := by decide +kernel
theorem wb_lt2 {a b : Nat} (h : a < b) : 2 ^ a < 2 ^ b := Nat.pow_lt_pow_right (by decide) h
theorem wb_shr {n k : Nat} (hn : n < 2 ^ 64) (hk : k < 64) : ((lN n).toUInt64 >>> ((nI k).toInt64.toUInt64 &&& Int64.toUInt64 63)).toInt64 = lN (n / 2 ^ k) := by
  rw [wb_cu k hk]
  apply wb_inj
  apply BitVec.eq_of_toNat_eq
  show ((lN n).toUInt64 >>> UInt64.ofNat k).toNat = (BitVec.ofNat 64 _).toNat
  have h1 : (UInt64.ofNat k).toNat = k := by
    show (BitVec.ofNat 64 k).toNat = k
    rw [BitVec.toNat_ofNat, Nat.mod_eq_of_lt (by omega)]
  have h2 : (lN n).toUInt64.toNat = n := wb_tn hn
  rw [UInt64.toNat_shiftRight, h1, h2, Nat.mod_eq_of_lt hk, Nat.shiftRight_eq_div_pow, BitVec.toNat_ofNat, Nat.mod_eq_of_lt (Nat.lt_of_le_of_lt (Nat.div_le_self _ _) hn)]
theorem wb_and {a b : Nat} (ha : a < 2 ^ 64) (hb : b < 2 ^ 64) : lN a &&& lN b = lN (a &&& b) := by
  apply wb_inj
  rw [Int64.toBitVec_and, wb_tb, wb_tb, wb_tb]
  apply BitVec.eq_of_toNat_eq
  rw [BitVec.toNat_and, BitVec.toNat_ofNat, BitVec.toNat_ofNat, BitVec.toNat_ofNat, Nat.mod_eq_of_lt ha, Nat.mod_eq_of_lt hb, Nat.mod_eq_of_lt (Nat.and_lt_two_pow _ hb)]
theorem wb_mask {n k : Nat} (hn : n < 2 ^ 64) (hk : k < 64) : lN n &&& lN (2 ^ k - 1) = lN (n % 2 ^ k) := by
  rw [wb_and hn (by have := wb_lt2 hk; omega), Nat.and_two_pow_sub_one_eq_mod]
def sqpA (s : Nat → Int32) : Nat → Int32
  | 0 => nI 0
  | i + 1 => sqpA s i + (if s (69 + 8 * i + 3) = nI 2 then nI 0 else nI (sqA (plN s i) 5))
def sqsA (s : Nat → Int32) : Nat → Int32
  | 0 => nI 0
  | i + 1 => sqsA s i + (if s (4 + 11 * i) = nI 1 then nI 0 else uncA s i 9)
def o_count (s : Nat → Int32) (kp ln : Int32) (b : Int32) : Int32 := if b = nI 0 then s 0 else if b = nI 1 then s 1 else if b = nI 2 then ptaA s (b - nI 2) (nP s) else if b = nI 3 then ptaA s (b - nI 2) (nP s) else if b = nI 4 then ptaA s (b - nI 2) (nP s) else if b = nI 5 then s 2 else if b = nI 6 then sqsA s (nSh s) else if b = nI 7 then sqpA s (nP s) else if b = nI 8 then ln else if b = nI 9 then kp else -2
section Z22
variable {M : zM} {G : zG} {d mc ms k n : Nat} {hh : zH} {sz : Nat} {pc : Nat} {lv : List (Option Value)} {st rest : List Value} {Post : Option Value → zH → Nat → Nat → Nat → Prop} {a b : Nat}
theorem z_lushrN (hd : decode M.2.1 pc = .ok (.lushr, 1)) (ha : a < 2 ^ 64) (hb : b < 64) (kk : zS M G d mc ms k n hh sz (pc + 1) lv (.long (lN (a / 2 ^ b)) :: st) Post) : zS M G d mc ms k n hh sz pc lv (.int (nI b) :: .long (lN a) :: st) Post := z_lushr hd (by rw [wb_shr ha hb]; exact kk)
theorem z_land255 {y : Int64} (hd : decode M.2.1 pc = .ok (.land, 1)) (hy : y = lN (2 ^ 8 - 1)) (ha : a < 2 ^ 64) (kk : zS M G d mc ms k n hh sz (pc + 1) lv (.long (lN (a % 2 ^ 8)) :: st) Post) : zS M G d mc ms k n hh sz pc lv (.long y :: .long (lN a) :: st) Post := z_land hd (by rw [hy, wb_mask ha (by omega)]; exact kk)
theorem z_l2iN (hd : decode M.2.1 pc = .ok (.l2i, 1)) (kk : zS M G d mc ms k n hh sz (pc + 1) lv (.int (nI a) :: st) Post) : zS M G d mc ms k n hh sz pc lv (.long (lN a) :: st) Post := z_l2i hd (by rw [lN_i]; exact kk)
end Z22
theorem lN_z {a : Nat} (ha : a < 2 ^ 64) : lg_cmp (lN a) 0 = 0 ↔ a = 0 := by
  have e : (lN a = 0) ↔ a = 0 := by
    constructor
    · intro h
      have h1 := congrArg (fun x : Int64 => x.toBitVec.toNat) h
      simp only [wb_tn ha] at h1
      exact h1
    · rintro rfl; rfl
  rw [← e]
  unfold lg_cmp
  by_cases h1 : lN a > 0
  · rw [if_pos h1]
    constructor
    · intro h; exact absurd h (by decide)
    · intro h; rw [h] at h1; exact absurd h1 (by decide)
  · rw [if_neg h1]
    by_cases h2 : lN a = 0
    · rw [if_pos h2]; exact ⟨fun _ => h2, fun _ => rfl⟩
    · rw [if_neg h2]; exact ⟨fun h => absurd h (by decide), fun h => absurd h h2⟩
/-- the 8 bits at k, whether there are no more from k on, whether they are a code -/
def chB (n k : Nat) : Nat := n / 2 ^ (8 * k) % 2 ^ 8
def isE (n k : Nat) : Bool := decide (0 < k ∧ n / 2 ^ (8 * k) = 0)
def isG (n k : Nat) : Bool := decide (33 ≤ chB n k ∧ chB n k ≤ 126)
def puB (n : Nat) : Nat → Bool
  | 0 => false
  | i + 1 => puB n i || (!isE n i && !isG n i)
def puM (n : Nat) : Nat → Nat
  | 0 => 0
  | i + 1 => puM n i + (if isE n i = true then 0 else 1)
/-- the pad behind i characters, laid from the last one on -/
def pdA (pad : Nat → Int32) (n e : Nat) (i : Nat) : Nat → Int32 := fun j => if e ≤ j + i ∧ j < e then nI (chB n (e - 1 - j)) else pad j
theorem puM_le {n : Nat} : ∀ i, puM n i ≤ i
  | 0 => Nat.le_refl _
  | i + 1 => by rw [puM]; have := puM_le (n := n) i; split <;> omega
theorem puM_pos {n : Nat} : ∀ i, 0 < i → 0 < puM n i
  | 0, h => absurd h (by omega)
  | 1, _ => by
    have e : isE n 0 = false := by unfold isE; exact decide_eq_false (fun h => absurd h.1 (by omega))
    rw [puM, e]; exact Nat.succ_pos _
  | i + 2, _ => by rw [puM]; have := puM_pos (n := n) (i + 1) (by omega); omega
def o_put (n L : Nat) : Int32 := if puB n 8 = true then -2 else if 80 < L + puM n 8 then -4 else nI (L + puM n 8)
def frN (t r c : Nat) : Nat := if t = 0 then r else if t = 1 then 4 - c else if t = 2 then 4 - r else c
def fcN (t r c : Nat) : Nat := if t = 0 then c else if t = 1 then r else if t = 2 then 2 - c else 2 - r
def tabP (i : Nat) : Nat → Int32 := fun j => if j < i then tabI j else 0
theorem tabP_0 : tabP 0 = fun _ => 0 := by
  funext j
  unfold tabP
  rw [if_neg (by omega)]
theorem tabP_step (i : Nat) : upd (tabP i) i (tabI i) = tabP (i + 1) := by
  funext j
  unfold upd tabP
  by_cases h : j = i
  · rw [if_pos h, if_pos (by omega), h]
  · rw [if_neg h]
    by_cases h2 : j < i
    · rw [if_pos h2, if_pos (by omega)]
    · rw [if_neg h2, if_neg (by omega)]
theorem tabP_all : tabP 320 = tabI := by
  funext j
  unfold tabP
  split
  · rfl
  · next h => unfold tabI; rw [tabN_out (by omega)]; rfl
