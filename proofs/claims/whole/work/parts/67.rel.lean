theorem hiK_rec {K : Nat} (h : K ≤ 6) : hiK K = recB K + 1 := by
  unfold hiK recB
  by_cases c : K = 6
  · rw [if_neg (by omega), if_pos c]; omega
  · rw [if_pos (by omega), if_neg c]
theorem recH_at {s h : Nat → Int32} {K j n : Nat} (hK : K ≤ 6) (hj : j < recB K + 1) (hn : n < 453) : recH s h K (453 * j + n) = if j = recB K then s n else if K = 6 then h (453 * (j + 1) + n) else h (453 * j + n) := by
  have hb : recB K ≤ 5 := by unfold recB; split <;> omega
  unfold recH va_cpy
  by_cases c : j = recB K
  · rw [if_pos (by subst c; omega), if_pos c]
    congr 1
    subst c
    omega
  · rw [if_neg (by omega), if_neg c]
    by_cases c6 : K = 6
    · rw [if_pos c6, if_pos c6, if_pos (by omega)]
      congr 1
      omega
    · rw [if_neg c6, if_neg c6]
/-- a change is recorded -/
theorem rel_rec {f s : Nat → Int32} {L K old : Nat} {g : Nat → Option Nat} {ct : Nat → Nat → Int32} {τ : Nat → Nat → Int32} (h : relA f L K old g ct τ) (hK : K ≤ 6) (ho : old < 6) : relA f L (hiK K) (hiO old K) g (ctU ct ((old + K) % 6) s) (mu τ 2 (recH s (τ 2) K)) := by
  obtain ⟨h1, h2, h3, h4⟩ := h
  refine ⟨(mu_ne (by decide)).trans h1, fun j hj => by rw [mu_ne (by decide)]; exact h2 j hj, ?_, ?_⟩
  · intro j n hj hn
    rw [mu_eq, hiK_rec hK] at *
    rw [recH_at hK hj hn]
    unfold ctU hiO
    by_cases c6 : K = 6
    · subst c6
      rw [show recB 6 = 5 from rfl] at *
      rw [if_neg (show ¬ (6 : Nat) < 6 from by omega)]
      by_cases c : j = 5
      · rw [if_pos c, if_pos (by omega)]
      · rw [if_neg c, if_pos rfl, if_neg (by omega), h3 (j + 1) n (by omega) hn, show (old + (j + 1)) % 6 = ((old + 1) % 6 + j) % 6 by omega]
    · rw [show recB K = K from if_neg c6] at *
      rw [if_pos (show K < 6 by omega)]
      by_cases c : j = K
      · rw [if_pos c, c, if_pos rfl]
      · rw [if_neg c, if_neg c6, if_neg (by omega)]
        exact h3 j n (by omega) hn
  · intro e he
    rw [mu_ne (by decide), mu_ne (by decide)]
    rcases h4 e he with h5 | ⟨a, h5, h6, h7⟩
    · exact Or.inl h5
    · refine Or.inr ⟨a, h5, h6, fun n hn => ?_⟩
      unfold ctU
      rw [if_neg (by omega)]
      exact h7 n hn
