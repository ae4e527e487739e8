theorem nI_12 (a b : Nat) : nI 12 * nI a + nI b = nI (12 * a + b) := by rw [pk_mul, nI_add]
theorem isI_pa {s : Nat → Int32} {v : Int32} {m : Nat} (hm : m ≤ 48) : isI m (paF s v m) = true ↔ ¬ paF s v m = -6 := by
  rcases paF_v (s := s) (v := v) m with e | ⟨j, h1, h2, -⟩
  · rw [e]
    constructor
    · intro h
      obtain ⟨j, hj, e2⟩ := (isI_iff (by omega)).mp h
      exact absurd e2 (nI_n6 (by omega))
    · intro h; exact absurd rfl h
  · rw [h2]
    exact ⟨fun _ => nI_ne6 (by omega), fun _ => isI_nI (by omega) h1⟩
theorem clN_ip {s : Nat → Int32} {a : Nat} (ha : a < 3) (hm : nP s ≤ 48) : ∀ b, b ≤ 12 → clN (nP s) (spF s) a b = ipF s (nP s) (nI a) b
  | 0, _ => rfl
  | b + 1, hb => by
    rw [clN, ipF, clN_ip ha hm b (by omega), spF_eq (by omega), nI_12]
    congr 1
    by_cases c : paF s (nI (12 * a + b)) (nP s) = -6
    · rw [if_pos c, if_neg (fun z => (isI_pa hm).mp z c)]
    · rw [if_neg c, if_pos ((isI_pa hm).mpr c)]
theorem vS_cl {s : Nat → Int32} (h : vS s) {a : Nat} (ha : a < 3) : ∀ b, b ≤ 12 → vS (clT s (spF s) a b) ∧ spF (clT s (spF s) a b) = clQ (nP s) (spF s) a b ∧ nP (clT s (spF s) a b) = nP s ∧ nSh (clT s (spF s) a b) = nSh s
  | 0, _ => ⟨h, rfl, rfl, rfl⟩
  | b + 1, hb => by
    obtain ⟨h1, h2, h3, h4⟩ := vS_cl h ha b (by omega)
    have hm := h.1.2.1.2
    rw [clT, clQ]
    by_cases c : isI (nP s) (spF s (12 * a + b)) = true
    · rw [if_pos c, if_pos c]
      obtain ⟨j, hj, e⟩ := (isI_iff (by omega)).mp c
      have e2 : paF (clT s (spF s) a b) (nI (12 * a + b)) (nP (clT s (spF s) a b)) = nI j := by
        rw [← spF_eq (by omega), h2, clQ_ge b _ (Nat.le_refl _), e]
      obtain ⟨k1, k2, k3, k4, -⟩ := vS_ls h1 (show 12 * a + b < 36 by omega) (by omega) e2
      rw [e, nI_clamp (by omega)]
      exact ⟨k1, k2.trans (by rw [h2]), k3.trans h3, k4.trans h4⟩
    · rw [if_neg c, if_neg c]
      exact ⟨h1, h2, h3, h4⟩
theorem clT_ne {s p : Nat → Int32} {a n : Nat} (hm : nP s ≤ 48) : ∀ b, (∀ b' i, b' < b → i < nP s → p (12 * a + b') = nI i → n ≠ 69 + 8 * i + 3 ∧ n ≠ 69 + 8 * i + 4) → clT s p a b n = s n
  | 0, _ => rfl
  | b + 1, h => by
    rw [clT]
    by_cases c : isI (nP s) (p (12 * a + b)) = true
    · rw [if_pos c]
      obtain ⟨j, hj, e⟩ := (isI_iff (by omega)).mp c
      obtain ⟨n1, n2⟩ := h b j (by omega) hj e
      rw [e, nI_clamp (by omega), lsS_f.2.2 n n1 n2]
      exact clT_ne hm b (fun b' i h1 hi h2 => h b' i (by omega) hi h2)
    · rw [if_neg c]
      exact clT_ne hm b (fun b' i h1 hi h2 => h b' i (by omega) hi h2)
theorem clT_hit {s p : Nat → Int32} {a i : Nat} (hm : nP s ≤ 48) (hi : i < nP s) : ∀ b, (∃ b', b' < b ∧ p (12 * a + b') = nI i) → clT s p a b (69 + 8 * i + 3) = nI 0 ∧ clT s p a b (69 + 8 * i + 4) = -6
  | 0, ⟨_, h, _⟩ => absurd h (by omega)
  | b + 1, ⟨b', h1, h2⟩ => by
    rw [clT]
    by_cases e : b' = b
    · subst e
      rw [h2, if_pos (isI_nI (by omega) hi), nI_clamp (by omega)]
      exact ⟨lsS_f.1, lsS_f.2.1⟩
    · obtain ⟨k1, k2⟩ := clT_hit (s := s) (p := p) (a := a) hm hi b ⟨b', by omega, h2⟩
      by_cases c : isI (nP s) (p (12 * a + b)) = true
      · rw [if_pos c]
        obtain ⟨j, hj, ej⟩ := (isI_iff (by omega)).mp c
        rw [ej, nI_clamp (by omega)]
        by_cases c2 : j = i
        · rw [c2]; exact ⟨lsS_f.1, lsS_f.2.1⟩
        · rw [lsS_f.2.2 _ (by omega) (by omega), lsS_f.2.2 _ (by omega) (by omega)]
          exact ⟨k1, k2⟩
      · rw [if_neg c]; exact ⟨k1, k2⟩
theorem clS_at {s : Nat → Int32} {x : Int32} {i : Nat} : ∀ m, i < m → clS s x m (69 + 8 * i + 3) = (if ¬ s (69 + 8 * i + 4) = -6 ∧ s (69 + 8 * i + 4) / nI 12 = x then nI 0 else s (69 + 8 * i + 3)) ∧ clS s x m (69 + 8 * i + 4) = (if ¬ s (69 + 8 * i + 4) = -6 ∧ s (69 + 8 * i + 4) / nI 12 = x then -6 else s (69 + 8 * i + 4))
  | 0, h => absurd h (by omega)
  | m + 1, h => by
    rw [clS]
    by_cases e : i = m
    · subst e
      rw [pk_un (by omega), pk_us, pk_us]
      exact ⟨rfl, rfl⟩
    · rw [pk_un (by omega), pk_un (by omega), pk_un (by omega), pk_un (by omega)]
      exact clS_at m (by omega)
theorem clS_no {s : Nat → Int32} {x : Int32} {n : Nat} : ∀ m, (∀ i, i < m → n ≠ 69 + 8 * i + 3 ∧ n ≠ 69 + 8 * i + 4) → clS s x m n = s n
  | 0, _ => rfl
  | m + 1, h => by
    obtain ⟨h1, h2⟩ := h m (by omega)
    rw [clS, pk_un h2, pk_un h1]
    exact clS_no m (fun i hi => h i (by omega))
theorem cl_eq {s : Nat → Int32} (h : vS s) {a : Nat} (ha : a < 3) : clT s (spF s) a 12 = clS s (nI a) (nP s) := by
  have hm := h.1.2.1.2
  have hsp : ∀ b' i, b' < 12 → spF s (12 * a + b') = nI i → i < 2 ^ 31 → i < nP s ∧ s (69 + 8 * i + 4) = nI (12 * a + b') := by
    intro b' i h1 h2 h3
    rw [spF_eq (by omega)] at h2
    rcases paF_v (s := s) (v := nI (12 * a + b')) (nP s) with e | ⟨j, g1, g2, g3⟩
    · rw [e] at h2; exact absurd h2 (nI_n6 h3)
    · rw [g2] at h2
      have := (nI_eq (by omega) h3).mp h2
      rw [← this]; exact ⟨g1, g3⟩
  have key : ∀ i, i < nP s → clT s (spF s) a 12 (69 + 8 * i + 3) = clS s (nI a) (nP s) (69 + 8 * i + 3) ∧ clT s (spF s) a 12 (69 + 8 * i + 4) = clS s (nI a) (nP s) (69 + 8 * i + 4) := by
    intro i hi
    obtain ⟨c1, c2⟩ := clS_at (s := s) (x := nI a) (nP s) hi
    rw [c1, c2]
    by_cases hh : ∃ b', b' < 12 ∧ spF s (12 * a + b') = nI i
    · obtain ⟨b', g1, g2⟩ := hh
      obtain ⟨-, g3⟩ := hsp b' i g1 g2 (by omega)
      obtain ⟨k1, k2⟩ := clT_hit (s := s) (p := spF s) (a := a) hm hi 12 ⟨b', g1, g2⟩
      have hc : ¬ s (69 + 8 * i + 4) = -6 ∧ s (69 + 8 * i + 4) / nI 12 = nI a := by
        rw [g3, pk_div (by omega) (by omega) (by omega), show (12 * a + b') / 12 = a by omega]
        exact ⟨nI_ne6 (by omega), rfl⟩
      rw [k1, k2, if_pos hc, if_pos hc]
      exact ⟨rfl, rfl⟩
    · have hc : ¬ (¬ s (69 + 8 * i + 4) = -6 ∧ s (69 + 8 * i + 4) / nI 12 = nI a) := by
        rintro ⟨z1, z2⟩
        obtain ⟨-, -, q | q⟩ := h.2.2.2.2.2.1 i hi
        · obtain ⟨-, v, hv, e1, e2⟩ := q
          rw [e1, pk_div (by omega) (by omega) (by omega)] at z2
          have hva : v / 12 = a := (nI_eq (by omega) (by omega)).mp z2
          exact hh ⟨v % 12, by omega, by rw [spF_eq (by omega), show 12 * a + v % 12 = v by omega]; exact e2⟩
        · exact z1 q.2
      rw [if_neg hc, if_neg hc]
      have hn : ∀ f, (f = 3 ∨ f = 4) → clT s (spF s) a 12 (69 + 8 * i + f) = s (69 + 8 * i + f) := fun f hf => clT_ne hm 12 (fun b' j g1 gj g2 => by
        by_cases e : j = i
        · subst e; exact absurd ⟨b', g1, g2⟩ hh
        · omega)
      exact ⟨hn 3 (Or.inl rfl), hn 4 (Or.inr rfl)⟩
  funext n
  by_cases hn : ∃ i, i < nP s ∧ (n = 69 + 8 * i + 3 ∨ n = 69 + 8 * i + 4)
  · obtain ⟨i, hi, e | e⟩ := hn
    · rw [e]; exact (key i hi).1
    · rw [e]; exact (key i hi).2
  · rw [clS_no (nP s) (fun i hi => ⟨fun e => hn ⟨i, hi, Or.inl e⟩, fun e => hn ⟨i, hi, Or.inr e⟩⟩)]
    exact clT_ne hm 12 (fun b' j g1 gj g2 => ⟨fun e => hn ⟨j, gj, Or.inl e⟩, fun e => hn ⟨j, gj, Or.inr e⟩⟩)
theorem sm_one {i0 : Nat} : ∀ n, sm (fun i => if i = i0 then 1 else 0) n = if i0 < n then 1 else 0
  | 0 => by rw [sm, if_neg (by omega)]
  | n + 1 => by
    rw [sm, sm_one n]
    by_cases e : n = i0
    · rw [if_pos e, if_neg (by omega), if_pos (by omega)]
    · rw [if_neg e]
      by_cases c : i0 < n
      · rw [if_pos c, if_pos (by omega)]
      · rw [if_neg c, if_neg (by omega)]
theorem cin_sm {t : Nat → Int32} {x : Int32} : ∀ m, cinA t x m = nI (sm (fun j => if t (69 + 8 * j + 3) = nI 1 ∧ t (69 + 8 * j + 4) / nI 12 = x then 1 else 0) m)
  | 0 => rfl
  | m + 1 => by
    rw [cinA, cin_sm m, sm, ← nI_add]
    congr 1
    split <;> rfl
theorem ip_sm {t : Nat → Int32} {m a : Nat} : ∀ b, ipF t m (nI a) b = nI (sm (fun b => if paF t (nI (12 * a + b)) m = -6 then 0 else 1) b)
  | 0 => rfl
  | b + 1 => by
    rw [ipF, ip_sm b, sm, ← nI_add, nI_12]
    congr 1
    split <;> rfl
/-- the pieces in a pane are its places that are taken -/
theorem cin_ip {t : Nat → Int32} (h : vS t) {a : Nat} (ha : a < 3) : cinA t (nI a) (nP t) = ipF t (nP t) (nI a) 12 := by
  have hm := h.1.2.1.2
  rw [cin_sm, ip_sm]
  congr 1
  have e1 : sm (fun b => if paF t (nI (12 * a + b)) (nP t) = -6 then 0 else 1) 12 = sm (fun b => sm (fun j => if paF t (nI (12 * a + b)) (nP t) = nI j then 1 else 0) (nP t)) 12 := by
    refine sm_cg 12 (fun b hb => ?_)
    rcases paF_v (s := t) (v := nI (12 * a + b)) (nP t) with e | ⟨j, g1, g2, -⟩
    · rw [e, if_pos rfl, sm_cg (g := fun _ => 0) (nP t) (fun i hi => if_neg (nI_n6 (by omega))), sm_0]
    · rw [g2, if_neg (nI_ne6 (by omega)), sm_cg (g := fun i => if i = j then 1 else 0) (nP t) (fun i hi => ?_), sm_one, if_pos g1]
      by_cases c : i = j
      · rw [c, if_pos rfl, if_pos rfl]
      · rw [if_neg c, if_neg (fun z => c ((nI_eq (by omega) (by omega)).mp z).symm)]
  rw [e1, sm_swap]
  refine sm_cg (nP t) (fun j hj => ?_)
  obtain ⟨-, -, q | q⟩ := h.2.2.2.2.2.1 j hj
  · obtain ⟨q1, v, hv, q2, q3⟩ := q
    have hb : ∀ b, b < 12 → ((if paF t (nI (12 * a + b)) (nP t) = nI j then 1 else 0 : Nat) = if 12 * a + b = v then 1 else 0) := fun b hb => by
      by_cases c : 12 * a + b = v
      · rw [if_pos c, c, if_pos q3]
      · rw [if_neg c, if_neg]
        intro z
        rcases paF_v (s := t) (v := nI (12 * a + b)) (nP t) with e | ⟨i, g1, g2, g3⟩
        · rw [e] at z; exact nI_n6 (by omega) z
        · rw [g2] at z
          have e2 := (nI_eq (by omega) (by omega)).mp z
          rw [e2, q2] at g3
          exact c ((nI_eq (by omega) (by omega)).mp g3).symm
    rw [sm_cg 12 hb, q1, q2, pk_div (by omega) (by omega) (by omega)]
    by_cases c : v / 12 = a
    · rw [if_pos ⟨rfl, by rw [c]⟩, sm_cg (g := fun b => if b = v % 12 then 1 else 0) 12 (fun b hb => ?_), sm_one, if_pos (by omega)]
      by_cases c2 : b = v % 12
      · rw [if_pos c2, if_pos (by omega)]
      · rw [if_neg c2, if_neg (by omega)]
    · rw [if_neg (fun z => c ((nI_eq (by omega) (by omega)).mp z.2)), sm_cg (g := fun _ => 0) 12 (fun b hb => if_neg (by omega)), sm_0]
  · rw [if_neg (fun z => by rcases q.1 with e | e <;> rw [e] at z <;> exact absurd z.1 (by decide)), sm_cg (g := fun _ => 0) 12 (fun b hb => if_neg (fun z => ?_)), sm_0]
    rcases paF_v (s := t) (v := nI (12 * a + b)) (nP t) with e | ⟨i, g1, g2, g3⟩
    · rw [e] at z; exact nI_n6 (by omega) z
    · rw [g2] at z
      have e2 := (nI_eq (by omega) (by omega)).mp z
      rw [e2, q.2] at g3
      exact nI_n6 (by omega) g3
