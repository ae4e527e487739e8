theorem rel_save {f s : Nat → Int32} {L K old e a : Nat} {g g2 : Nat → Option Nat} {ct : Nat → Nat → Int32} {τ : Nat → Nat → Int32} (h : relA f L K old g ct τ) (he : e < 2) (hg : g2 e = some a) (hn : ∀ e', e' ≠ e → g2 e' = g e') : relA f L K old g2 (ctU ct (6 + e) s) (savT s τ e) := by
  obtain ⟨h1, h2, h3, h4⟩ := h
  unfold savT
  refine ⟨?_, ?_, ?_, ?_⟩
  · rw [mu_ne (by decide), mu_ne (by decide)]; exact h1
  · intro j hj; rw [mu_ne (by decide), mu_ne (by decide)]; exact h2 j hj
  · intro j n hj hn
    rw [mu_ne (by decide), mu_ne (by decide)]
    unfold ctU
    rw [if_neg (by omega)]
    exact h3 j n hj hn
  · intro e' he'
    rw [mu_eq, mu_ne (by decide), mu_eq]
    by_cases c : e' = e
    · subst c
      refine Or.inr ⟨a, hg, pk_us, fun n hn => ?_⟩
      unfold va_cpy ctU
      rw [if_pos (by omega), if_pos rfl]
      congr 1
      omega
    · rw [hn e' c, pk_un c]
      rcases h4 e' he' with h5 | ⟨b, h5, h6, h7⟩
      · exact Or.inl h5
      · refine Or.inr ⟨b, h5, h6, fun n hn => ?_⟩
        unfold va_cpy ctU
        rw [if_neg (by omega), if_neg (by omega)]
        exact h7 n hn
theorem row_eq {f r s : Nat → Int32} {d : Nat} (h : ∀ n, n < 453 → f (d + n) = r n) (hr : okT r) (hs : okT s) : va_cpy f s d 0 453 = r := by
  funext n
  unfold va_cpy
  by_cases c : n < 453
  · rw [if_pos (by omega), show d + (n - 0) = d + n by omega]; exact h n c
  · rw [if_neg (by omega), hr n (by omega), hs n (by omega)]
theorem rel_undo {f : Nat → Int32} {L K old : Nat} {g : Nat → Option Nat} {ct : Nat → Nat → Int32} {τ : Nat → Nat → Int32} (h : relA f L (K + 1) old g ct τ) : relA f L K old g ct τ := ⟨h.1, h.2.1, fun j n hj hn => h.2.2.1 j n (by omega) hn, h.2.2.2⟩
theorem undo_eq {f s : Nat → Int32} {L K old : Nat} {g : Nat → Option Nat} {ct : Nat → Nat → Int32} {τ : Nat → Nat → Int32} (h : relA f L (K + 1) old g ct τ) (hr : okT (ct ((old + K) % 6))) (hs : okT s) : va_cpy (τ 2) s (453 * K) 0 453 = ct ((old + K) % 6) := row_eq (fun n hn => h.2.2.1 K n (by omega) hn) hr hs
theorem rest_eq {f s : Nat → Int32} {L K old e a : Nat} {g : Nat → Option Nat} {ct : Nat → Nat → Int32} {τ : Nat → Nat → Int32} (h : relA f L K old g ct τ) (he : e < 2) (hg : g e = some a) (hr : okT (ct (6 + e))) (hs : okT s) : τ 4 e = nI 1 ∧ va_cpy (τ 3) s (453 * e) 0 453 = ct (6 + e) := by
  rcases h.2.2.2 e he with h5 | ⟨b, h5, h6, h7⟩
  · rw [hg] at h5; cases h5.1
  · exact ⟨h6, row_eq h7 hr hs⟩
theorem rest_no {f : Nat → Int32} {L K old e : Nat} {g : Nat → Option Nat} {ct : Nat → Nat → Int32} {τ : Nat → Nat → Int32} (h : relA f L K old g ct τ) (he : e < 2) (hg : g e = none) : τ 4 e = nI 0 := by
  rcases h.2.2.2 e he with h5 | ⟨b, h5, h6, h7⟩
  · exact h5.2
  · rw [hg] at h5; cases h5
theorem rel_0 {f : Nat → Int32} {L K old : Nat} {g : Nat → Option Nat} {ct : Nat → Nat → Int32} {τ : Nat → Nat → Int32} (h : relA f L K old g ct τ) : relA f 0 K old g ct τ := ⟨h.1, fun j hj => absurd hj (by omega), h.2.2⟩
theorem rel_put {f : Nat → Int32} {L K old n : Nat} {g : Nat → Option Nat} {ct : Nat → Nat → Int32} {τ : Nat → Nat → Int32} (h : relA f L K old g ct τ) : relA (padF f n L (puM n 8) (puM n 8)) (L + puM n 8) K old g ct (mu τ 5 (pdA (τ 5) n (L + puM n 8) (puM n 8))) := by
  obtain ⟨h1, h2, h3, h4⟩ := h
  refine ⟨?_, ?_, ?_, ?_⟩
  · rw [mu_ne (by decide)]; exact h1
  · intro j hj; rw [mu_eq]; exact padF_pd h2 j hj
  · intro j m hj hm; rw [mu_ne (by decide)]; exact h3 j m hj hm
  · intro e he; rw [mu_ne (by decide), mu_ne (by decide)]; exact h4 e he
