/-- the cells of a shop at o, of the row of numbers s and the spots p -/
def sCell (G : zG) (sh o : Nat) (s p : Nat → Int32) (k : Nat) : va_E :=
  if k < 16 then
    (if k = 0 then .inr (5, [.ref sh, .ref (o + 1), .ref (o + 2), .ref (o + 3), .int (s 0), .int (s 1)])
    else if k = 1 then .inl (G.2.2.1 4, 6, .inr (.inr (.inr (.inr (fun i => if i < 6 then some (o + 4 + 2 * i) else none)))))
    else if k = 2 then .inl (G.2.2.1 5, 48, .inr (.inr (.inr (.inr (fun i => if i < 48 then some (o + 16 + i) else none)))))
    else if k = 3 then .inl (G.2.2.1 0, 36, .inl p)
    else if k % 2 = 0 then .inr (4, [.ref sh, .ref (o + k + 1), .int (s (3 + 11 * ((k - 4) / 2))), .int (s (4 + 11 * ((k - 4) / 2)))])
    else .inl (G.2.2.1 0, 9, .inl (rowF s ((k - 4) / 2))))
  else pcC s (k - 16)
def sput (G : zG) (sh o : Nat) (s p : Nat → Int32) (hh : zH) : zH := fun a => if o ≤ a ∧ a < o + 64 then some (sCell G sh o s p (a - o)) else hh a
/-- a shop lies at o -/
def shopA (G : zG) (sh o : Nat) (s p : Nat → Int32) (hh : zH) : Prop := ∀ k, k < 64 → hh (o + k) = some (sCell G sh o s p k)
theorem sput_out {G : zG} {sh o : Nat} {s p : Nat → Int32} {hh : zH} {a : Nat} (h : ¬ (o ≤ a ∧ a < o + 64)) : sput G sh o s p hh a = hh a := if_neg h
theorem sput_A {G : zG} {sh o : Nat} {s p : Nat → Int32} {hh : zH} : shopA G sh o s p (sput G sh o s p hh) := by
  intro k hk
  unfold sput
  rw [if_pos (by omega), Nat.add_sub_cancel_left]
theorem sput_self {G : zG} {sh o : Nat} {s p : Nat → Int32} {hh : zH} (h : shopA G sh o s p hh) : sput G sh o s p hh = hh := by
  funext a
  unfold sput
  split
  · next c =>
    have := h (a - o) (by omega)
    rw [show o + (a - o) = a by omega] at this
    exact this.symm
  · rfl
theorem sput_sput {G : zG} {sh o : Nat} {s p s2 p2 : Nat → Int32} {hh : zH} : sput G sh o s p (sput G sh o s2 p2 hh) = sput G sh o s p hh := by
  funext a
  unfold sput
  split <;> rfl
theorem shopA_of {G : zG} {sh o : Nat} {s p : Nat → Int32} {hh h2 : zH} (h : shopA G sh o s p hh) (e : ∀ k, k < 64 → h2 (o + k) = hh (o + k)) : shopA G sh o s p h2 := fun k hk => (e k hk).trans (h k hk)
theorem sA_o {G : zG} {sh o : Nat} {s p : Nat → Int32} {hh : zH} (h : shopA G sh o s p hh) : hh o = some (.inr (5, [.ref sh, .ref (o + 1), .ref (o + 2), .ref (o + 3), .int (s 0), .int (s 1)])) := h 0 (by omega)
theorem sA_1 {G : zG} {sh o : Nat} {s p : Nat → Int32} {hh : zH} (h : shopA G sh o s p hh) : hh (o + 1) = some (.inl (G.2.2.1 4, 6, .inr (.inr (.inr (.inr (fun i => if i < 6 then some (o + 4 + 2 * i) else none)))))) := h 1 (by omega)
theorem sA_2 {G : zG} {sh o : Nat} {s p : Nat → Int32} {hh : zH} (h : shopA G sh o s p hh) : hh (o + 2) = some (.inl (G.2.2.1 5, 48, .inr (.inr (.inr (.inr (fun i => if i < 48 then some (o + 16 + i) else none)))))) := h 2 (by omega)
theorem sA_3 {G : zG} {sh o : Nat} {s p : Nat → Int32} {hh : zH} (h : shopA G sh o s p hh) : hh (o + 3) = some (.inl (G.2.2.1 0, 36, .inl p)) := h 3 (by omega)
theorem sC_s {G : zG} {sh o : Nat} {s p : Nat → Int32} {i : Nat} (hi : i < 6) : sCell G sh o s p (4 + 2 * i) = .inr (4, [.ref sh, .ref (o + (4 + 2 * i) + 1), .int (s (3 + 11 * i)), .int (s (4 + 11 * i))]) := by
  unfold sCell
  rw [if_pos (by omega), if_neg (by omega), if_neg (by omega), if_neg (by omega), if_neg (by omega), if_pos (by omega), show (4 + 2 * i - 4) / 2 = i by omega]
theorem sC_c {G : zG} {sh o : Nat} {s p : Nat → Int32} {i : Nat} (hi : i < 6) : sCell G sh o s p (5 + 2 * i) = .inl (G.2.2.1 0, 9, .inl (rowF s i)) := by
  unfold sCell
  rw [if_pos (by omega), if_neg (by omega), if_neg (by omega), if_neg (by omega), if_neg (by omega), if_neg (by omega), show (5 + 2 * i - 4) / 2 = i by omega]
theorem sC_p {G : zG} {sh o : Nat} {s p : Nat → Int32} {j : Nat} : sCell G sh o s p (16 + j) = pcC s j := by
  unfold sCell
  rw [if_neg (by omega), show 16 + j - 16 = j by omega]
theorem sA_st {G : zG} {sh o : Nat} {s p : Nat → Int32} {hh : zH} (h : shopA G sh o s p hh) {i : Nat} (hi : i < 6) : stH G sh (o + 4 + 2 * i) s i hh := by
  have h1 := h (4 + 2 * i) (by omega)
  have h2 := h (5 + 2 * i) (by omega)
  rw [sC_s hi] at h1
  rw [sC_c hi] at h2
  rw [show o + (4 + 2 * i) = o + 4 + 2 * i by omega] at h1
  rw [show o + (5 + 2 * i) = o + 4 + 2 * i + 1 by omega] at h2
  exact ⟨h1, h2⟩
theorem sA_pc {G : zG} {sh o : Nat} {s p : Nat → Int32} {hh : zH} (h : shopA G sh o s p hh) {j : Nat} (hj : j < 48) : hh (o + 16 + j) = some (pcC s j) := by
  have h1 := h (16 + j) (by omega)
  rw [sC_p, show o + (16 + j) = o + 16 + j by omega] at h1
  exact h1
theorem sput_up {G : zG} {sh o : Nat} {s p t q : Nat → Int32} {hh : zH} {k : Nat} (h : k < 64) {e : va_E} (he : ∀ j, j < 64 → (if j = k then e else sCell G sh o s p j) = sCell G sh o t q j) : zup (sput G sh o s p hh) (o + k) e = sput G sh o t q hh := by
  funext a
  unfold zup sput
  by_cases h1 : a = o + k
  · rw [if_pos h1, if_pos (by omega), show a - o = k by omega, ← he k h, if_pos rfl]
  · rw [if_neg h1]
    by_cases h2 : o ≤ a ∧ a < o + 64
    · rw [if_pos h2, if_pos h2, ← he (a - o) (by omega), if_neg (by omega)]
    · rw [if_neg h2, if_neg h2]
/-- cells agree where the numbers do -/
theorem sC_eq {G : zG} {sh o : Nat} {s p t q : Nat → Int32} {k : Nat} (h0 : k = 0 → t 0 = s 0 ∧ t 1 = s 1) (h3 : k = 3 → q = p) (h4 : ∀ i, i < 6 → k = 4 + 2 * i → t (3 + 11 * i) = s (3 + 11 * i) ∧ t (4 + 11 * i) = s (4 + 11 * i)) (h5 : ∀ i, i < 6 → k = 5 + 2 * i → rowF t i = rowF s i) (h6 : ∀ i, i < 48 → k = 16 + i → pcC t i = pcC s i) (hk : k < 64) : sCell G sh o s p k = sCell G sh o t q k := by
  by_cases c1 : k < 4
  · match k, c1 with
    | 0, _ => obtain ⟨a, b⟩ := h0 rfl; unfold sCell; rw [a, b]; rfl
    | 1, _ => rfl
    | 2, _ => rfl
    | 3, _ => rw [h3 rfl]; rfl
  · by_cases c2 : k < 16
    · by_cases c3 : k % 2 = 0
      · obtain ⟨i, rfl⟩ : ∃ i, k = 4 + 2 * i := ⟨(k - 4) / 2, by omega⟩
        obtain ⟨a, b⟩ := h4 i (by omega) rfl
        rw [sC_s (by omega), sC_s (by omega), a, b]
      · obtain ⟨i, rfl⟩ : ∃ i, k = 5 + 2 * i := ⟨(k - 5) / 2, by omega⟩
        rw [sC_c (by omega), sC_c (by omega), h5 i (by omega) rfl]
    · obtain ⟨i, rfl⟩ : ∃ i, k = 16 + i := ⟨k - 16, by omega⟩
      rw [sC_p, sC_p, h6 i (by omega) rfl]
theorem rowF_cg {s t : Nat → Int32} {i : Nat} (h : ∀ r, r < 9 → t (5 + 11 * i + r) = s (5 + 11 * i + r)) : rowF t i = rowF s i := by
  funext r
  unfold rowF
  split
  · next c => exact h r c
  · rfl
theorem pcC_cg {s t : Nat → Int32} {j : Nat} (h : ∀ f, f < 8 → f ≠ 2 → t (69 + 8 * j + f) = s (69 + 8 * j + f)) : pcC t j = pcC s j := by
  unfold pcC
  rw [h 0 (by omega) (by omega), h 1 (by omega) (by omega), h 7 (by omega) (by omega), h 5 (by omega) (by omega), h 6 (by omega) (by omega), h 3 (by omega) (by omega), h 4 (by omega) (by omega)]
/-- numbers that no cell holds do not count -/
theorem sput_cg {G : zG} {sh o : Nat} {s p t q : Nat → Int32} {hh : zH} (h : ∀ n, n < 453 → n ≠ 2 → ¬ (69 ≤ n ∧ (n - 69) % 8 = 2) → t n = s n) (hq : q = p) : sput G sh o s p hh = sput G sh o t q hh := by
  funext a
  unfold sput
  split
  · congr 1
    refine sC_eq ?_ ?_ ?_ ?_ ?_ (by omega)
    · intro _; exact ⟨h 0 (by omega) (by omega) (by omega), h 1 (by omega) (by omega) (by omega)⟩
    · intro _; exact hq
    · intro i hi _; exact ⟨h _ (by omega) (by omega) (by omega), h _ (by omega) (by omega) (by omega)⟩
    · intro i hi _; exact rowF_cg (fun r hr => h _ (by omega) (by omega) (by omega))
    · intro i hi _; exact pcC_cg (fun f hf h2 => h _ (by omega) (by omega) (by omega))
  · rfl
/-- a change of one cell -/
theorem sput_uo {G : zG} {sh o : Nat} {s p t : Nat → Int32} {hh : zH} (h : ∀ n, 3 ≤ n → t n = s n) : zup (sput G sh o s p hh) o (.inr (5, [.ref sh, .ref (o + 1), .ref (o + 2), .ref (o + 3), .int (t 0), .int (t 1)])) = sput G sh o t p hh := by
  refine sput_up (k := 0) (by omega) (fun j hj => ?_)
  by_cases e : j = 0
  · rw [if_pos e, e]; rfl
  · rw [if_neg e]
    refine sC_eq (fun z => absurd z e) (fun _ => rfl) ?_ ?_ ?_ hj
    · intro i hi _; exact ⟨h _ (by omega), h _ (by omega)⟩
    · intro i hi _; exact rowF_cg (fun r hr => h _ (by omega))
    · intro i hi _; exact pcC_cg (fun f hf h2 => h _ (by omega))
theorem sput_u3 {G : zG} {sh o : Nat} {s p q : Nat → Int32} {hh : zH} : zup (sput G sh o s p hh) (o + 3) (.inl (G.2.2.1 0, 36, .inl q)) = sput G sh o s q hh := by
  refine sput_up (k := 3) (by omega) (fun j hj => ?_)
  by_cases e : j = 3
  · rw [if_pos e, e]; rfl
  · rw [if_neg e]
    exact sC_eq (fun _ => ⟨rfl, rfl⟩) (fun z => absurd z e) (fun _ _ _ => ⟨rfl, rfl⟩) (fun _ _ _ => rfl) (fun _ _ _ => rfl) hj
theorem sput_us {G : zG} {sh o : Nat} {s p t : Nat → Int32} {hh : zH} {i : Nat} (hi : i < 6) (h : ∀ n, n ≠ 3 + 11 * i → n ≠ 4 + 11 * i → t n = s n) : zup (sput G sh o s p hh) (o + 4 + 2 * i) (.inr (4, [.ref sh, .ref (o + 4 + 2 * i + 1), .int (t (3 + 11 * i)), .int (t (4 + 11 * i))])) = sput G sh o t p hh := by
  rw [show o + 4 + 2 * i = o + (4 + 2 * i) by omega]
  refine sput_up (k := 4 + 2 * i) (by omega) (fun j hj => ?_)
  by_cases e : j = 4 + 2 * i
  · rw [if_pos e, e, sC_s hi]
  · rw [if_neg e]
    refine sC_eq (fun _ => ⟨h _ (by omega) (by omega), h _ (by omega) (by omega)⟩) (fun _ => rfl) ?_ ?_ ?_ hj
    · intro i2 hi2 e2; exact ⟨h _ (by omega) (by omega), h _ (by omega) (by omega)⟩
    · intro i2 hi2 _; exact rowF_cg (fun r hr => h _ (by omega) (by omega))
    · intro i2 hi2 _; exact pcC_cg (fun f hf h2 => h _ (by omega) (by omega))
theorem sput_uc {G : zG} {sh o : Nat} {s p t : Nat → Int32} {hh : zH} {i : Nat} (hi : i < 6) (h : ∀ n, (n < 5 + 11 * i ∨ 14 + 11 * i ≤ n) → t n = s n) : zup (sput G sh o s p hh) (o + 4 + 2 * i + 1) (.inl (G.2.2.1 0, 9, .inl (rowF t i))) = sput G sh o t p hh := by
  rw [show o + 4 + 2 * i + 1 = o + (5 + 2 * i) by omega]
  refine sput_up (k := 5 + 2 * i) (by omega) (fun j hj => ?_)
  by_cases e : j = 5 + 2 * i
  · rw [if_pos e, e, sC_c hi]
  · rw [if_neg e]
    refine sC_eq (fun _ => ⟨h _ (by omega), h _ (by omega)⟩) (fun _ => rfl) ?_ ?_ ?_ hj
    · intro i2 hi2 e2; exact ⟨h _ (by omega), h _ (by omega)⟩
    · intro i2 hi2 e2; exact rowF_cg (fun r hr => h _ (by omega))
    · intro i2 hi2 _; exact pcC_cg (fun f hf h2 => h _ (by omega))
theorem sput_up1 {G : zG} {sh o : Nat} {s p t : Nat → Int32} {hh : zH} {j : Nat} (hj : j < 48) (h : ∀ n, (n < 69 + 8 * j ∨ 77 + 8 * j ≤ n) → t n = s n) : zup (sput G sh o s p hh) (o + 16 + j) (pcC t j) = sput G sh o t p hh := by
  rw [show o + 16 + j = o + (16 + j) by omega]
  refine sput_up (k := 16 + j) (by omega) (fun i hi => ?_)
  by_cases e : i = 16 + j
  · rw [if_pos e, e, sC_p]
  · rw [if_neg e]
    refine sC_eq (fun _ => ⟨h _ (by omega), h _ (by omega)⟩) (fun _ => rfl) ?_ ?_ ?_ hi
    · intro i2 hi2 e2; exact ⟨h _ (by omega), h _ (by omega)⟩
    · intro i2 hi2 e2; exact rowF_cg (fun r hr => h _ (by omega))
    · intro i2 hi2 e2; exact pcC_cg (fun f hf h2 => h _ (by omega))
/-- the first m numbers of a, the others of b -/
def cpM (a b : Nat → Int32) (m : Nat) : Nat → Int32 := fun n => if n < m then a n else b n
theorem cpM_lt {a b : Nat → Int32} {m n : Nat} (h : n < m) : cpM a b m n = a n := if_pos h
theorem cpM_ge {a b : Nat → Int32} {m n : Nat} (h : m ≤ n) : cpM a b m n = b n := if_neg (by omega)
theorem sput_all {G : zG} {sh o : Nat} {s p t : Nat → Int32} {hh : zH} : sput G sh o (cpM s t 453) p hh = sput G sh o s p hh := sput_cg (fun n hn _ _ => (cpM_lt hn).symm) rfl
theorem cp_st {G : zG} {sh o : Nat} {s p t : Nat → Int32} {hh : zH} {i : Nat} (hi : i < 6) : stU G sh (o + 4 + 2 * i) s i (sput G sh o (cpM s t (3 + 11 * i)) p hh) = sput G sh o (cpM s t (3 + 11 * (i + 1))) p hh := by
  unfold stU
  have e1 : zup (sput G sh o (cpM s t (3 + 11 * i)) p hh) (o + 4 + 2 * i) (.inr (4, [.ref sh, .ref (o + 4 + 2 * i + 1), .int (s (3 + 11 * i)), .int (s (4 + 11 * i))])) = sput G sh o (cpM s t (5 + 11 * i)) p hh := by
    rw [show s (3 + 11 * i) = cpM s t (5 + 11 * i) (3 + 11 * i) from (cpM_lt (by omega)).symm, show s (4 + 11 * i) = cpM s t (5 + 11 * i) (4 + 11 * i) from (cpM_lt (by omega)).symm]
    refine sput_us hi (fun n h1 h2 => ?_)
    unfold cpM
    by_cases c : n < 3 + 11 * i
    · rw [if_pos (by omega), if_pos c]
    · rw [if_neg (by omega), if_neg c]
  rw [e1, show rowF s i = rowF (cpM s t (3 + 11 * (i + 1))) i from rowF_cg (fun r hr => (cpM_lt (by omega)).symm)]
  refine sput_uc hi (fun n h1 => ?_)
  unfold cpM
  by_cases c : n < 5 + 11 * i
  · rw [if_pos (by omega), if_pos c]
  · rw [if_neg (by omega), if_neg c]
theorem cp_pc {G : zG} {sh o : Nat} {s p t : Nat → Int32} {hh : zH} {j : Nat} (hj : j < 48) : zup (sput G sh o (cpM s t (69 + 8 * j)) p hh) (o + 16 + j) (pcC s j) = sput G sh o (cpM s t (69 + 8 * (j + 1))) p hh := by
  rw [show pcC s j = pcC (cpM s t (69 + 8 * (j + 1))) j from pcC_cg (fun f hf _ => (cpM_lt (by omega)).symm)]
  refine sput_up1 hj (fun n h1 => ?_)
  unfold cpM
  by_cases c : n < 69 + 8 * j
  · rw [if_pos (by omega), if_pos c]
  · rw [if_neg (by omega), if_neg c]
theorem aa_6 {o i : Nat} (h : i < 6) : va_rf ((fun i => if i < 6 then some (o + 4 + 2 * i) else none : Nat → Option Nat) i) = .ref (o + 4 + 2 * i) := by
  show va_rf (if i < 6 then _ else _) = _
  rw [if_pos h]; rfl
theorem aa_48 {o i : Nat} (h : i < 48) : va_rf ((fun i => if i < 48 then some (o + 16 + i) else none : Nat → Option Nat) i) = .ref (o + 16 + i) := by
  show va_rf (if i < 48 then _ else _) = _
  rw [if_pos h]; rfl
section
variable {M : zM} {G : zG} {d mc ms k n : Nat} {hh : zH} {sz pc : Nat} {lv : List (Option Value)} {st : List Value} {Post : Option Value → zH → Nat → Nat → Nat → Prop}
theorem z_eqV {a b : Value} (e : a = b) (kk : zS M G d mc ms k n hh sz pc lv (b :: st) Post) : zS M G d mc ms k n hh sz pc lv (a :: st) Post := e ▸ kk
end
set_option maxHeartbeats 4000000 in
set_option maxRecDepth 100000 in
theorem l3_X5_copyFrom {G : zG} {hh : zH} {sz sh o o2 : Nat} {s p t q : Nat → Int32} (ha : shopA G sh o t q hh) (hc : shopA G sh o2 s p hh) (hd : o2 + 64 ≤ o ∨ o + 64 ≤ o2) (hz : ∀ i, i < 6 → s (4 + 11 * i) = 0 ∨ s (4 + 11 * i) = 1) (hq : ∀ j, 36 ≤ j → q j = p j) : ∀ (n i : Nat), i + n = 36 → zS MX5_copyFrom G 1 0 0 0 0 (sput G sh o (cpM s t 453) (mixF p q i) hh) sz 76 [some (.ref o), some (.ref o2), some (.int (nI i))] [] (fun rr hh' ss' kk' nn' => zV (sput G sh o s p hh) sz rr hh' ss' ∧ kk' ≤ 0 ∧ nn' ≤ 0) := by
  intro n; induction n with
  | zero =>
    intro i hi
    refine z_iload_n dX5_copyFrom_76 rfl ?_
    refine z_bipush (v := (nI 36)) dX5_copyFrom_77 (by decide) ?_
    refine z_icmp_ge (tgt := 100) dX5_copyFrom_79 (by decide) (fun c_79 => ?_) (fun c_79 => absurd c_79 (not_not_intro (nI_le (by omega) (by omega))))
    exact z_vretV dX5_copyFrom_100 rfl (by rw [show i = 36 by omega, mixF_all hq, sput_all]) rfl (Nat.le_refl _) (Nat.le_refl _)
  | succ n ih =>
    intro i hi
    have hA : shopA G sh o (cpM s t (453)) (mixF p q i) (sput G sh o (cpM s t (453)) (mixF p q i) hh) := sput_A
    have hB : shopA G sh o2 s p (sput G sh o (cpM s t (453)) (mixF p q i) hh) := shopA_of hc (fun k hk => sput_out (by omega))
    refine z_iload_n dX5_copyFrom_76 rfl ?_
    refine z_bipush (v := (nI 36)) dX5_copyFrom_77 (by decide) ?_
    refine z_icmp_ge (tgt := 100) dX5_copyFrom_79 (by decide) (fun c_79 => absurd c_79 (nI_ge (by omega) (by omega))) (fun c_79 => ?_)
    refine z_aload_n dX5_copyFrom_82 rfl ?_
    refine z_get (ci := 5) (f := 3) dX5_copyFrom_83 ⟨by decide, by decide, zm_134, rfl⟩ (sA_o hA) rfl ?_
    refine z_iload_n dX5_copyFrom_86 rfl ?_
    refine z_aload_n dX5_copyFrom_87 rfl ?_
    refine z_get (ci := 5) (f := 3) dX5_copyFrom_88 ⟨by decide, by decide, zm_134, rfl⟩ (sA_o hB) rfl ?_
    refine z_iload_n dX5_copyFrom_91 rfl ?_
    refine z_ialdN (j := i) dX5_copyFrom_92 (sA_3 hB) rfl (by omega) (by decide) ?_
    refine z_iastN (j := i) dX5_copyFrom_93 (sA_3 hA) rfl (by omega) (by decide) ?_
    refine z_heap (sput_u3.trans (by rw [mixF_up])) ?_
    refine z_iincU dX5_copyFrom_94 rfl (by decide) rfl rfl ?_
    refine z_goto (tgt := 76) dX5_copyFrom_97 (by decide) ?_
    exact ih (i + 1) (by omega)
set_option maxHeartbeats 4000000 in
set_option maxRecDepth 100000 in
theorem l2_X5_copyFrom {G : zG} {hh : zH} {sz sh o o2 : Nat} {s p t q : Nat → Int32} (ha : shopA G sh o t q hh) (hc : shopA G sh o2 s p hh) (hd : o2 + 64 ≤ o ∨ o + 64 ≤ o2) (hz : ∀ i, i < 6 → s (4 + 11 * i) = 0 ∨ s (4 + 11 * i) = 1) (hq : ∀ j, 36 ≤ j → q j = p j) : ∀ (n i : Nat), i + n = 48 → zS MX5_copyFrom G 1 0 0 0 0 (sput G sh o (cpM s t (69 + 8 * i)) q hh) sz 47 [some (.ref o), some (.ref o2), some (.int (nI i))] [] (fun rr hh' ss' kk' nn' => zV (sput G sh o s p hh) sz rr hh' ss' ∧ kk' ≤ 0 ∧ nn' ≤ 0) := by
  intro n; induction n with
  | zero =>
    intro i hi
    refine z_iload_n dX5_copyFrom_47 rfl ?_
    refine z_bipush (v := (nI 48)) dX5_copyFrom_48 (by decide) ?_
    refine z_icmp_ge (tgt := 74) dX5_copyFrom_50 (by decide) (fun c_50 => ?_) (fun c_50 => absurd c_50 (not_not_intro (nI_le (by omega) (by omega))))
    refine z_iconst (v := (nI 0)) dX5_copyFrom_74 (by decide) ?_
    refine z_istore_n dX5_copyFrom_75 (by decide) rfl rfl ?_
    rw [show i = 48 by omega]
    exact l3_X5_copyFrom ha hc hd hz hq 36 0 (Nat.zero_add _)
  | succ n ih =>
    intro i hi
    have hA : shopA G sh o (cpM s t (69 + 8 * i)) (q) (sput G sh o (cpM s t (69 + 8 * i)) (q) hh) := sput_A
    have hB : shopA G sh o2 s p (sput G sh o (cpM s t (69 + 8 * i)) (q) hh) := shopA_of hc (fun k hk => sput_out (by omega))
    refine z_iload_n dX5_copyFrom_47 rfl ?_
    refine z_bipush (v := (nI 48)) dX5_copyFrom_48 (by decide) ?_
    refine z_icmp_ge (tgt := 74) dX5_copyFrom_50 (by decide) (fun c_50 => absurd c_50 (nI_ge (by omega) (by omega))) (fun c_50 => ?_)
    refine z_aload_n dX5_copyFrom_53 rfl ?_
    refine z_get (ci := 5) (f := 2) dX5_copyFrom_54 ⟨by decide, by decide, zm_133, rfl⟩ (sA_o hA) rfl ?_
    refine z_iload_n dX5_copyFrom_57 rfl ?_
    refine z_aaldN (j := i) (t := 5) dX5_copyFrom_58 (sA_2 hA) rfl rfl (by omega) (by decide) ?_
    refine z_eqV (aa_48 (by omega)) ?_
    refine z_aload_n dX5_copyFrom_59 rfl ?_
    refine z_get (ci := 5) (f := 2) dX5_copyFrom_60 ⟨by decide, by decide, zm_133, rfl⟩ (sA_o hB) rfl ?_
    refine z_iload_n dX5_copyFrom_63 rfl ?_
    refine z_aaldN (j := i) (t := 5) dX5_copyFrom_64 (sA_2 hB) rfl rfl (by omega) (by decide) ?_
    refine z_eqV (aa_48 (by omega)) ?_
    refine z_callVU (ci := 2) (k_X2_copyFrom (sA_pc hA (j := i) (by omega)) (sA_pc hB (j := i) (by omega)) (by omega)) dX5_copyFrom_65 ⟨zm_280, zm_283, zm_5, zm_281, zm_282, by decide⟩ (sA_pc hA (j := i) (by omega)) (by decide) zp_X2_copyFrom rfl (Nat.le_of_ble_eq_true rfl) (Nat.le_refl _) (Nat.le_refl _) ?_
    refine z_heap (cp_pc (by omega)) ?_
    refine z_iincU dX5_copyFrom_68 rfl (by decide) rfl rfl ?_
    refine z_goto (tgt := 47) dX5_copyFrom_71 (by decide) ?_
    exact ih (i + 1) (by omega)
set_option maxHeartbeats 4000000 in
set_option maxRecDepth 100000 in
theorem l1_X5_copyFrom {G : zG} {hh : zH} {sz sh o o2 : Nat} {s p t q : Nat → Int32} (ha : shopA G sh o t q hh) (hc : shopA G sh o2 s p hh) (hd : o2 + 64 ≤ o ∨ o + 64 ≤ o2) (hz : ∀ i, i < 6 → s (4 + 11 * i) = 0 ∨ s (4 + 11 * i) = 1) (hq : ∀ j, 36 ≤ j → q j = p j) : ∀ (n i : Nat), i + n = 6 → zS MX5_copyFrom G 1 0 0 0 0 (sput G sh o (cpM s t (3 + 11 * i)) q hh) sz 18 [some (.ref o), some (.ref o2), some (.int (nI i))] [] (fun rr hh' ss' kk' nn' => zV (sput G sh o s p hh) sz rr hh' ss' ∧ kk' ≤ 0 ∧ nn' ≤ 0) := by
  intro n; induction n with
  | zero =>
    intro i hi
    refine z_iload_n dX5_copyFrom_18 rfl ?_
    refine z_bipush (v := (nI 6)) dX5_copyFrom_19 (by decide) ?_
    refine z_icmp_ge (tgt := 45) dX5_copyFrom_21 (by decide) (fun c_21 => ?_) (fun c_21 => absurd c_21 (not_not_intro (nI_le (by omega) (by omega))))
    refine z_iconst (v := (nI 0)) dX5_copyFrom_45 (by decide) ?_
    refine z_istore_n dX5_copyFrom_46 (by decide) rfl rfl ?_
    rw [show i = 6 by omega]
    exact l2_X5_copyFrom ha hc hd hz hq 48 0 (Nat.zero_add _)
  | succ n ih =>
    intro i hi
    have hA : shopA G sh o (cpM s t (3 + 11 * i)) (q) (sput G sh o (cpM s t (3 + 11 * i)) (q) hh) := sput_A
    have hB : shopA G sh o2 s p (sput G sh o (cpM s t (3 + 11 * i)) (q) hh) := shopA_of hc (fun k hk => sput_out (by omega))
    refine z_iload_n dX5_copyFrom_18 rfl ?_
    refine z_bipush (v := (nI 6)) dX5_copyFrom_19 (by decide) ?_
    refine z_icmp_ge (tgt := 45) dX5_copyFrom_21 (by decide) (fun c_21 => absurd c_21 (nI_ge (by omega) (by omega))) (fun c_21 => ?_)
    refine z_aload_n dX5_copyFrom_24 rfl ?_
    refine z_get (ci := 5) (f := 1) dX5_copyFrom_25 ⟨by decide, by decide, zm_132, rfl⟩ (sA_o hA) rfl ?_
    refine z_iload_n dX5_copyFrom_28 rfl ?_
    refine z_aaldN (j := i) (t := 4) dX5_copyFrom_29 (sA_1 hA) rfl rfl (by omega) (by decide) ?_
    refine z_eqV (aa_6 (by omega)) ?_
    refine z_aload_n dX5_copyFrom_30 rfl ?_
    refine z_get (ci := 5) (f := 1) dX5_copyFrom_31 ⟨by decide, by decide, zm_132, rfl⟩ (sA_o hB) rfl ?_
    refine z_iload_n dX5_copyFrom_34 rfl ?_
    refine z_aaldN (j := i) (t := 4) dX5_copyFrom_35 (sA_1 hB) rfl rfl (by omega) (by decide) ?_
    refine z_eqV (aa_6 (by omega)) ?_
    refine z_callVU (ci := 4) (k_X4_copyFrom (sA_st hA (i := i) (by omega)).1 (sA_st hA (i := i) (by omega)).2 (fun j hj => if_neg (by omega)) (sA_st hB (i := i) (by omega)) (by omega) (hz i (by omega))) dX5_copyFrom_36 ⟨zm_276, zm_279, zm_4, zm_277, zm_278, by decide⟩ (sA_st hA (i := i) (by omega)).1 (by decide) zp_X4_copyFrom rfl (Nat.le_of_ble_eq_true rfl) (Nat.le_refl _) (Nat.le_refl _) ?_
    refine z_heap (cp_st (by omega)) ?_
    refine z_iincU dX5_copyFrom_39 rfl (by decide) rfl rfl ?_
    refine z_goto (tgt := 18) dX5_copyFrom_42 (by decide) ?_
    exact ih (i + 1) (by omega)
set_option maxHeartbeats 4000000 in
set_option maxRecDepth 100000 in
theorem k_X5_copyFrom {G : zG} {hh : zH} {sz sh o o2 : Nat} {s p t q : Nat → Int32} (ha : shopA G sh o t q hh) (hc : shopA G sh o2 s p hh) (hd : o2 + 64 ≤ o ∨ o + 64 ≤ o2) (hz : ∀ i, i < 6 → s (4 + 11 * i) = 0 ∨ s (4 + 11 * i) = 1) (hq : ∀ j, 36 ≤ j → q j = p j) : zC G 1 MX5_copyFrom yX5_copyFrom [.ref o, .ref o2] hh sz 0 0 (zV (sput G sh o s p hh) sz) := by
  refine z_intro _ rfl zy_X5_copyFrom (Nat.le_of_ble_eq_true rfl) ?_
  refine z_aload_n dX5_copyFrom_0 rfl ?_
  refine z_aload_n dX5_copyFrom_1 rfl ?_
  refine z_get (ci := 5) (f := 4) dX5_copyFrom_2 ⟨by decide, by decide, zm_136, rfl⟩ (sA_o hc) rfl ?_
  refine z_put (ci := 5) (f := 4) dX5_copyFrom_5 ⟨by decide, by decide, zm_136, rfl⟩ (sA_o ha) rfl rfl rfl (Nat.le_of_ble_eq_true rfl) ?_
  refine z_aload_n dX5_copyFrom_8 rfl ?_
  refine z_aload_n dX5_copyFrom_9 rfl ?_
  refine z_get (ci := 5) (f := 5) dX5_copyFrom_10 ⟨by decide, by decide, zm_138, rfl⟩ ((zup_ne (by omega)).trans (sA_o hc)) rfl ?_
  refine z_put (ci := 5) (f := 5) dX5_copyFrom_13 ⟨by decide, by decide, zm_138, rfl⟩ (zup_eq _ _ _) rfl rfl rfl (Nat.le_of_ble_eq_true rfl) ?_
  refine z_heap (h2 := sput G sh o (cpM s t (3 + 11 * 0)) q hh) ?_ ?_
  · rw [zup_zup]
    refine Eq.trans ?_ (sput_uo (s := t) (t := cpM s t 3) (fun n hn => cpM_ge hn))
    rw [sput_self ha]
    rfl
  refine z_iconst (v := (nI 0)) dX5_copyFrom_16 (by decide) ?_
  refine z_istore_n dX5_copyFrom_17 (by decide) rfl rfl ?_
  exact l1_X5_copyFrom ha hc hd hz hq 6 0 (Nat.zero_add _)
