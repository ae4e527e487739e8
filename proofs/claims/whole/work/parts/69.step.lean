/-- how many shops are not made yet -/
def nnF (st g : Nat → Option Nat) : Nat := sm (fun i => if adF st g i = none then 1 else 0) 8
theorem sm_upd {p q : Nat → Nat} {i : Nat} : ∀ n, i < n → (∀ j, j < n → j ≠ i → q j = p j) → p i = 1 → q i = 0 → sm q n + 1 = sm p n
  | 0, h, _, _, _ => absurd h (by omega)
  | n + 1, h, hj, h1, h0 => by
    rw [sm, sm]
    by_cases e : n = i
    · subst e
      rw [h1, h0, sm_cg n (fun j hj2 => hj j (by omega) (by omega))]
    · rw [hj n (by omega) e]
      have := sm_upd n (by omega) (fun j hj2 => hj j (by omega)) h1 h0
      omega
theorem nn_st {st g : Nat → Option Nat} {i a : Nat} (hi : i < 6) (h : st i = none) : nnF (va_up st i (some a)) g + 1 = nnF st g := by
  refine sm_upd 8 (show i < 8 by omega) (fun j hj hji => ?_) ?_ ?_
  · show (if adF (va_up st i (some a)) g j = none then 1 else 0) = if adF st g j = none then 1 else 0
    unfold adF
    rw [vu_ne hji]
  · show (if adF st g i = none then 1 else 0) = 1
    rw [adF_lt hi, h, if_pos rfl]
  · show (if adF (va_up st i (some a)) g i = none then 1 else 0) = 0
    rw [adF_lt hi, vu_eq, if_neg (by exact Option.some_ne_none _)]
theorem nn_g {st g : Nat → Option Nat} {e a : Nat} (he : e < 2) (h : g e = none) : nnF st (va_up g e (some a)) + 1 = nnF st g := by
  refine sm_upd (i := 6 + e) 8 (by omega) (fun j hj hji => ?_) ?_ ?_
  · show (if adF st (va_up g e (some a)) j = none then 1 else 0) = if adF st g j = none then 1 else 0
    unfold adF
    by_cases c : j < 6
    · rw [if_pos c, if_pos c]
    · rw [if_neg c, if_neg c, vu_ne (by omega)]
  · show (if adF st g (6 + e) = none then 1 else 0) = 1
    unfold adF
    rw [if_neg (show ¬ 6 + e < 6 by omega), show 6 + e - 6 = e by omega, h, if_pos rfl]
  · show (if adF st (va_up g e (some a)) (6 + e) = none then 1 else 0) = 0
    unfold adF
    rw [if_neg (show ¬ 6 + e < 6 by omega), show 6 + e - 6 = e by omega, vu_eq, if_neg (by exact Option.some_ne_none _)]
/-- both go on side by side, with what is left to be made -/
def go (G : zG) (B : Nat) (x : Int32) (c d nn : Nat) (r r2 : Option Value) (h2 : zH) (s3 : Nat) : Prop :=
  r = some (.int x) ∧ r2 = some (.int x) ∧ ∃ s f L K old st g ct fo τ, inv G B s f L K old st g ct fo τ h2 s3 ∧ c + 64 * nnF st g ≤ 64 * nn ∧ d + 510 * nnF st g ≤ 510 * nn
theorem go_se {G : zG} {B : Nat} {x : Int32} {s s2 f f2 fo : Nat → Int32} {L L2 K K2 old old2 : Nat} {st st2 g g2 : Nat → Option Nat} {ct ct2 : Nat → Nat → Int32} {τ τ2 : Nat → Nat → Int32} {hh h1 h2 : zH} {sz sz2 : Nat} {r r2 : Option Value} {s1 s3 c d : Nat}
    (hi : inv G B s f L K old st g ct fo τ hh sz) (hc : seP G B x s2 f2 L2 K2 old2 st2 g2 ct2 hh sz2 r h1 s1) (hm : zJ x G (B + 138) s2 τ2 (nI K2) (nI L2) h1 s1 r2 h2 s3) (hr : relA f2 L2 K2 old2 g2 ct2 τ2) (h3 : c + 64 * nnF st2 g2 ≤ 64 * nnF st g) (h4 : d + 510 * nnF st2 g2 ≤ 510 * nnF st g) : go G B x c d (nnF st g) r r2 h2 s3 := by
  obtain ⟨a1, a2, a3, fo', τ', a4⟩ := inv_go hi hc hm hr
  exact ⟨a1, a2, s2, f2, L2, K2, old2, st2, g2, ct2, fo', τ', a3 ▸ a4, h3, h4⟩
theorem go_set {G : zG} {B : Nat} {x : Int32} {s t f fo : Nat → Int32} {L L2 K old : Nat} {st g : Nat → Option Nat} {ct : Nat → Nat → Int32} {τ : Nat → Nat → Int32} {hh h1 h2 : zH} {sz : Nat} {r r2 : Option Value} {s1 s3 : Nat}
    (hi : inv G B s f L K old st g ct fo τ hh sz) (hc : setP G B x t s f L2 K old st g ct hh sz r h1 s1) (hL : L2 = L ∨ L2 = 0) (hm : zJ x G (B + 138) t (mu τ 2 (recH s (τ 2) K)) (nI (recB K + 1)) (nI L2) h1 s1 r2 h2 s3) : go G B x (alC st ((old + K) % 6)) (alS st ((old + K) % 6)) (nnF st g) r r2 h2 s3 := by
  obtain ⟨⟨⟨-, -, -, -, ho, hK, -, -, -, -⟩, -⟩, -, hr⟩ := id hi
  have hr2 : relA f L2 (hiK K) (hiO old K) g (ctU ct ((old + K) % 6) s) (mu τ 2 (recH s (τ 2) K)) := by
    have q := rel_rec (s := s) hr hK ho
    rcases hL with e | e
    · rw [e]; exact q
    · rw [e]; exact rel_0 q
  rw [← hiK_rec hK] at hm
  unfold setP at hc
  unfold alC alS
  have hi6 : (old + K) % 6 < 6 := Nat.mod_lt _ (by omega)
  cases e : st ((old + K) % 6) with
  | some a =>
    rw [e] at hc
    exact go_se hi hc hm hr2 (by show 0 + _ ≤ _; omega) (by show 0 + _ ≤ _; omega)
  | none =>
    rw [e] at hc
    have hn := nn_st (g := g) (a := sz) hi6 e
    exact go_se hi hc hm hr2 (by show 64 + _ ≤ _; omega) (by show 510 + _ ≤ _; omega)
theorem go_op {G : zG} {B : Nat} {o : Int32 × Option (Nat → Int32)} {s f fo : Nat → Int32} {L K old : Nat} {st g : Nat → Option Nat} {ct : Nat → Nat → Int32} {τ : Nat → Nat → Int32} {hh h1 h2 : zH} {sz : Nat} {r r2 : Option Value} {s1 s3 : Nat}
    (hi : inv G B s f L K old st g ct fo τ hh sz) (hc : opP G B o s f L K old st g ct hh sz r h1 s1) (hm : zJc o G (B + 138) s τ K (nI L) h1 s1 r2 h2 s3) : go G B o.1 (opC o st ((old + K) % 6)) (opS o st ((old + K) % 6)) (nnF st g) r r2 h2 s3 := by
  obtain ⟨x, y⟩ := o
  cases y with
  | none => exact go_se hi hc hm hi.2.2 (by show 0 + _ ≤ _; omega) (by show 0 + _ ≤ _; omega)
  | some t => exact go_set hi hc (Or.inl rfl) hm
