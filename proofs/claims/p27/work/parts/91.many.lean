def agS (s t : Nat → Int32) (k : Nat) : Prop := ∀ n, 4 + 11 * k ≤ n → n < 14 + 11 * k → t n = s n
theorem agS_r {s t : Nat → Int32} {k q : Nat} (h : agS s t k) (hq : q < 9) : rN t k q = rN s k q := rN_cg (h _ (by omega) (by omega))
theorem okAt_cg {s t : Nat → Int32} {k l w r c : Nat} (h : agS s t k) : ∀ n, r + n ≤ 9 → okAt t k l w r c n = okAt s k l w r c n
  | 0, _ => rfl
  | n + 1, hn => by rw [okAt, okAt, okAt_cg h n (by omega), agS_r h (by omega)]
theorem canC_cg {s t : Nat → Int32} {k l w r c : Nat} (h : agS s t k) (hr : r < 2 ^ 31) (hc : c < 2 ^ 31) : canC t k l w r c = canC s k l w r c := by
  rw [can_on hr hc, can_on hr hc]
  have e : onB t k w r c = onB s k w r c := by unfold onB; rw [h _ (Nat.le_refl _) (by omega)]
  rw [e]
  cases c1 : onB s k w r c with
  | false => rw [Bool.false_and, Bool.false_and]
  | true =>
    have := of_decide_eq_true c1
    rw [okAt_cg h _ this.2.1]
theorem canQ_cg {s t : Nat → Int32} {k l mi q : Nat} (h : agS s t k) (hq : q < 504) : canQ t k l mi q = canQ s k l mi q := canC_cg h (by omega) (by omega)
theorem ffA_cg {s t : Nat → Int32} {k l mi : Nat} (h : agS s t k) : ∀ n q, q + n ≤ 504 → ffA t k l mi n q = ffA s k l mi n q
  | 0, _, _ => rfl
  | n + 1, q, hq => by rw [ffA, ffA, canQ_cg h (by omega), ffA_cg h n (q + 1) (by omega)]
theorem ff_cg {s t : Nat → Int32} {k l mi : Nat} (h : agS s t k) : ff t k l mi = ff s k l mi := ffA_cg h 504 0 (by omega)
theorem cutS_cg {s t : Nat → Int32} {k l w r c : Nat} (h : agS s t k) : ∀ i, r + i ≤ 9 → agS (cutS s k l w r c i) (cutS t k l w r c i) k
  | 0, _ => h
  | i + 1, hi => by
    intro n h1 h2
    rw [cutS, cutS]
    by_cases e : n = 5 + 11 * k + (r + i)
    · rw [e, pk_us, pk_us, agS_r h (by omega)]
    · rw [pk_un e, pk_un e]
      exact cutS_cg h i (by omega) n h1 h2
theorem cutF_cg {s t : Nat → Int32} {k l mi : Nat} (h : agS s t k) (hf : ff s k l mi < 504) : agS (cutF s k l mi) (cutF t k l mi) k := by
  obtain ⟨r1, -, -, -⟩ := ff_ok hf
  unfold cutF
  rw [ff_cg h]
  exact cutS_cg h _ r1
theorem mn_cg {k l mi : Nat} : ∀ (g n : Nat) (s t : Nat → Int32), agS s t k → mnA k l mi g t n = mnA k l mi g s n
  | 0, _, _, _, _ => rfl
  | g + 1, n, s, t, h => by
    rw [mnA, mnA, ff_cg h]
    by_cases c : ff s k l mi < 504
    · rw [if_pos c, if_pos c]
      exact mn_cg g (n + 1) _ _ (cutF_cg h c)
    · rw [if_neg c, if_neg c]
theorem mn_off {k l mi : Nat} : ∀ (g n : Nat) (s : Nat → Int32), mnA k l mi g s (n + 1) = mnA k l mi g s n + 1
  | 0, _, _ => rfl
  | g + 1, n, s => by
    rw [mnA, mnA]
    by_cases c : ff s k l mi < 504
    · rw [if_pos c, if_pos c]
      exact mn_off g (n + 1) _
    · rw [if_neg c, if_neg c]
theorem mn_fuel {k l mi : Nat} (hk : k < 6) (hl : l < 8) (hm : mi < 2) (M : Nat) (hM : M = 126) (g : Nat) : ∀ (n : Nat) (s : Nat → Int32), okR s → M ≤ g + cutN s k 9 → mnA k l mi (g + 1) s n = mnA k l mi g s n := by
  induction g with
  | zero =>
    intro n s hR h
    have hn : ¬ ff s k l mi < 504 := fun c => by
      obtain ⟨-, h2, h3⟩ := cutF_ok hk hl hm hR c
      omega
    rw [mn_0 hn, mn_0 hn]
  | succ g ih =>
    intro n s hR h
    by_cases c : ff s k l mi < 504
    · obtain ⟨h1, h2, h3⟩ := cutF_ok hk hl hm hR c
      have e1 : mnA k l mi (g + 1 + 1) s n = mnA k l mi (g + 1) (cutF s k l mi) (n + 1) := by rw [mnA, if_pos c]
      have e2 : mnA k l mi (g + 1) s n = mnA k l mi g (cutF s k l mi) (n + 1) := by rw [mnA, if_pos c]
      rw [e1, e2, ih (n + 1) _ h1 (by omega)]
    · rw [mn_0 c, mn_0 c]
theorem mn_1 {s : Nat → Int32} {k l mi g n : Nat} (c : ff s k l mi < 504) : mnA k l mi (g + 1) s n = mnA k l mi g (cutF s k l mi) (n + 1) := by rw [mnA, if_pos c]
theorem mn_le {k l mi : Nat} : ∀ (g n : Nat) (s : Nat → Int32), mnA k l mi g s n ≤ n + g
  | 0, _, _ => Nat.le_refl _
  | g + 1, n, s => by
    rw [mnA]
    split
    · have := mn_le (k := k) (l := l) (mi := mi) g (n + 1) (cutF s k l mi)
      omega
    · omega
theorem fit_ag {s : Nat → Int32} {m k l mi : Nat} (hk : k < 6) (hf : ff s k l mi < 504) : agS (cutF s k l mi) (fitS s m k l mi) k := by
  obtain ⟨r1, -, -, -⟩ := ff_ok hf
  intro n h1 h2
  have e := neU_o (s := s) (m := m) (k := k) (l := l) (w := 4 * mi + ff s k l mi % 4) (r := ff s k l mi / 4 / 14) (c := ff s k l mi / 4 % 14) hk r1 (n := n) (by omega)
  unfold neU at e
  rw [pk_un (by omega)] at e
  exact e
theorem mn_step {s : Nat → Int32} {m k l mi : Nat} (hk : k < 6) (hl : l < 8) (hm : mi < 2) (hR : okR s) (hf : ff s k l mi < 504) : mnA k l mi 126 s 0 = mnA k l mi 126 (fitS s m k l mi) 0 + 1 := by
  obtain ⟨h1, h2, h3⟩ := cutF_ok hk hl hm hR hf
  rw [mn_cg 126 0 _ _ (fit_ag (m := m) hk hf)]
  have e1 := mn_fuel hk hl hm 126 rfl 125 0 (cutF s k l mi) h1 (by omega)
  have e2 := mn_1 (g := 125) (n := 0) hf
  have e3 := mn_off (k := k) (l := l) (mi := mi) 125 0 (cutF s k l mi)
  exact e2.trans (e3.trans (congrArg (· + 1) e1.symm))
theorem mn_ff {s : Nat → Int32} {k l mi : Nat} (h : 0 < mnA k l mi 126 s 0) : ff s k l mi < 504 := by
  by_cases c : ff s k l mi < 504
  · exact c
  · rw [mn_0 c] at h; omega
theorem cut_fit {s : Nat → Int32} (h : vI s) {k l mi : Nat} (hk : k < nSh s) (hl : l < 8) (hmi : mi < 2) (hf : ff s k l mi < 504) (hm : nP s < 48) : o_cut s (nI k) (nI l) (fV s k l mi 0) (fV s k l mi 1) (fV s k l mi 2) = (nI (nP s), some (fitS s (nP s) k l mi)) := by
  have h6 := h.1.1.1.2
  have e0 : fV s k l mi 0 = nI (4 * mi + ff s k l mi % 4) := by unfold fV; rw [if_pos hf]; rfl
  have e1 : fV s k l mi 1 = nI (ff s k l mi / 4 / 14) := by unfold fV; rw [if_pos hf]; rfl
  have e2 : fV s k l mi 2 = nI (ff s k l mi / 4 % 14) := by unfold fV; rw [if_pos hf]; rfl
  have hc := ff_canQ hf
  rw [e0, e1, e2]
  unfold o_cut
  rw [if_pos (isI_nI (by omega) hk), if_pos (isI_nI (by omega) hl), if_pos (isI_nI (by omega) (show 4 * mi + ff s k l mi % 4 < 8 by omega)), nI_clamp (n := k) (by omega), nI_clamp (n := l) (by omega), nI_clamp (n := 4 * mi + ff s k l mi % 4) (by omega), nI_clamp (n := ff s k l mi / 4 / 14) (by omega), nI_clamp (n := ff s k l mi / 4 % 14) (by omega), if_pos (show canI s k l (4 * mi + ff s k l mi % 4) (nI (ff s k l mi / 4 / 14)) (nI (ff s k l mi / 4 % 14)) = true from hc), if_neg (by omega)]
  rfl
theorem fit_I {s : Nat → Int32} (h : vI s) {k l mi : Nat} (hm : nP s < 48) (hk : k < nSh s) (hl : l < 8) (hmi : mi < 2) (hf : ff s k l mi < 504) : nP (fitS s (nP s) k l mi) = nP s + 1 ∧ nSh (fitS s (nP s) k l mi) = nSh s := by
  obtain ⟨r1, r2, r3, -⟩ := ff_ok hf
  obtain ⟨-, -, k3, k4⟩ := vS_new h.1 (l := l) (w := 4 * mi + ff s k l mi % 4) (r := ff s k l mi / 4 / 14) (c := ff s k l mi / 4 % 14) hm hk r3 hl (by omega) r1 r2
  exact ⟨k3, k4⟩
theorem and_1 (x : Int32) : x &&& nI 1 = nI (x.toBitVec.toNat % 2) := by
  apply Int32.toBitVec_inj.mp
  apply BitVec.eq_of_toNat_eq
  show (x.toBitVec &&& 1#32).toNat = (BitVec.ofNat 32 (x.toBitVec.toNat % 2)).toNat
  rw [BitVec.toNat_and, BitVec.toNat_ofNat, BitVec.toNat_ofNat, show (1 % 2 ^ 32 : Nat) = 2 ^ 1 - 1 from rfl, Nat.and_two_pow_sub_one_eq_mod]
  exact (Nat.mod_eq_of_lt (Nat.lt_of_lt_of_le (Nat.mod_lt _ (by omega)) (by omega))).symm
def coB (b : Bool) (i : Nat) : Int32 := if b = true then nI 1 <<< (nI (i + 1) &&& 31) else nI 0
theorem co_bits : ∀ (b0 b1 b2 b3 : Bool) (c : Nat), c < 4 → ((((nI 0 ||| coB b0 0) ||| coB b1 1) ||| coB b2 2) ||| coB b3 3) >>> (nI (1 + c) &&& 31) &&& nI 1 = nI (if (if c = 0 then b0 else if c = 1 then b1 else if c = 2 then b2 else b3) = true then 1 else 0) := by decide +kernel
theorem co_bit {f s : Nat → Int32} {L p q mi c : Nat} (hc : c < 4) : coA f L s p q mi 4 >>> (nI (1 + c) &&& 31) &&& nI 1 = nI (if (wrZ f L (nI (1 + c)) mi p q s).1 = true then 1 else 0) := by
  have e : coA f L s p q mi 4 = ((((nI 0 ||| coB (wrZ f L (nI (0 + 1)) mi p q s).1 0) ||| coB (wrZ f L (nI (1 + 1)) mi p q s).1 1) ||| coB (wrZ f L (nI (2 + 1)) mi p q s).1 2) ||| coB (wrZ f L (nI (3 + 1)) mi p q s).1 3) := rfl
  rw [e, co_bits _ _ _ _ c hc]
  rcases (show c = 0 ∨ c = 1 ∨ c = 2 ∨ c = 3 by omega) with rfl | rfl | rfl | rfl <;> rfl
theorem fa_2 {f : Nat → Int32} {a b : Nat} (ha : a < 8) (hb : b < 8) : faI (padF (padF f (sgN a) 0 1 1) (sgN b) 1 1 1) 2 = -6 := by
  have e0 : padF (padF f (sgN a) 0 1 1) (sgN b) 1 1 1 0 = nI (chB (sgN a) 0) := by
    unfold padF
    rw [if_neg (by omega), if_pos (by omega)]
  have e1 : padF (padF f (sgN a) 0 1 1) (sgN b) 1 1 1 1 = nI (chB (sgN b) 0) := by
    unfold padF
    rw [if_pos (by omega)]
  have h : ∀ l, l < 8 → ¬ ltrI (nI (chB (sgN l) 0)) = -6 := by decide +kernel
  unfold faI
  rw [if_neg (by omega), faF, faF, faF, e0, e1, if_neg (fun z => z.elim (fun z => by omega) (h a ha)), if_neg (fun z => z.elim (fun z => by omega) (h b hb))]
theorem v_col {s f : Nat → Int32} {L p q mi : Nat} (hf : faI f L = -6) (hp : p < 3) (hq : q < 12) (hmi : mi < 2) : o_colours f L s (nI p) (nI q) (nI mi) = coA f L s p q mi 4 := by
  unfold o_colours
  rw [isI_nI (by omega) hp, isI_nI (by omega) hq, if_pos (show (true && true) = true from rfl), if_pos hf, if_pos (isI_nI (by omega) hmi), nI_clamp (by omega), nI_clamp (by omega), nI_clamp (by omega)]
theorem isC_nI {c : Nat} (hc : c < 4) : isC (nI (1 + c)) = true := by
  unfold isC
  rw [nI_t (by omega)]
  exact decide_eq_true (by omega)
theorem v_wr {s f : Nat → Int32} {L p q mi c : Nat} (hf : faI f L = -6) (hp : p < 3) (hq : q < 12) (hmi : mi < 2) (hc : c < 4) : o_write f L s (nI p) (nI q) (nI (1 + c)) (nI mi) = if (wrZ f L (nI (1 + c)) mi p q s).1 = true then ((wrZ f L (nI (1 + c)) mi p q s).2 1 - s 1, some (wrZ f L (nI (1 + c)) mi p q s).2) else (-5, none) := by
  unfold o_write
  rw [isI_nI (by omega) hp, isI_nI (by omega) hq, if_pos (show (true && true) = true from rfl), if_pos hf, if_pos (isC_nI hc), if_pos (isI_nI (by omega) hmi), nI_clamp (n := p) (by omega), nI_clamp (n := q) (by omega), nI_clamp (n := mi) (by omega)]
/-! the history -/
theorem recN_app {s : Nat → Int32} {S T : List (Nat → Int32)} (h : S.length < 6) : recN s (S ++ T) = (s :: S) ++ T.take (5 - S.length) := by
  unfold recN
  rw [← List.cons_append, List.take_append, List.take_of_length_le (by rw [List.length_cons]; omega), List.length_cons]
  congr 2
  omega
