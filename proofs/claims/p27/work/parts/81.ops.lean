def vI (s : Nat → Int32) : Prop := vS s ∧ vG s
/-- what a change's answer and new row are -/
def gO (o : Int32 × Option (Nat → Int32)) : Prop := match o.2 with | none => o.1 < 0 | some t => ¬ o.1 < 0 ∧ vG t
theorem gO_n {x : Int32} (h : x < 0) : gO (x, none) := h
theorem gO_s {x : Int32} {t : Nat → Int32} (h : ¬ x < 0) (g : vG t) : gO (x, some t) := ⟨h, g⟩
theorem ipF_nn {s : Nat → Int32} {m : Nat} {x : Int32} : ∀ i, ∃ u, u ≤ i ∧ ipF s m x i = nI u
  | 0 => ⟨0, Nat.le_refl _, rfl⟩
  | i + 1 => by
    obtain ⟨u, h1, h2⟩ := ipF_nn (s := s) (m := m) (x := x) i
    rw [ipF, h2]
    split
    · exact ⟨u, by omega, by rw [nI_add]; rfl⟩
    · exact ⟨u + 1, by omega, by rw [nI_add]⟩
theorem ipF_pos {s : Nat → Int32} {m : Nat} {x : Int32} : ¬ ipF s m x 12 < 0 := by
  obtain ⟨u, h1, h2⟩ := ipF_nn (s := s) (m := m) (x := x) 12
  rw [h2]
  exact nI_pos (by omega)
theorem cutN_sm {s : Nat → Int32} {k : Nat} : ∀ n, cutN s k n = sm (fun r => popc (rN s k r)) n
  | 0 => rfl
  | n + 1 => by rw [cutN, sm, cutN_sm n]
theorem unc_9 {s : Nat → Int32} {k : Nat} (hk : k < 6) (hR : okR s) : uncA s k 9 = nI (126 - cutN s k 9) ∧ cutN s k 9 ≤ 126 := by
  obtain ⟨h1, h2⟩ := unc_sm hk hR 9 (Nat.le_refl _)
  rw [cutN_sm]
  exact ⟨h1, h2⟩
theorem isI_cl {n : Nat} (hn : n < 2 ^ 31) {x : Int32} (h : isI n x = true) : x = nI x.toNatClampNeg ∧ x.toNatClampNeg < n := by
  obtain ⟨j, hj, e⟩ := (isI_iff hn).mp h
  rw [e, nI_clamp (by omega)]
  exact ⟨rfl, hj⟩
theorem gO_sheet {s : Nat → Int32} (h : vI s) (a : Int32) : gO (o_sheet s a) := by
  unfold o_sheet
  by_cases c1 : isC a = true
  · rw [if_pos c1]
    by_cases c2 : nSh s = 6
    · rw [if_pos c2]; exact gO_n (by decide)
    · rw [if_neg c2]
      have := h.1.1.1.2
      exact gO_s (nI_pos (by omega)) (vG_sheet h.1 h.2 (by omega) a).1
  · rw [if_neg c1]; exact gO_n (by decide)
theorem gO_cut {s : Nat → Int32} (h : vI s) (a b c d e : Int32) : gO (o_cut s a b c d e) := by
  have h6 := h.1.1.1.2
  have h48 := h.1.1.2.1.2
  unfold o_cut
  by_cases c1 : isI (nSh s) a = true
  · rw [if_pos c1]
    by_cases c2 : isI 8 b = true
    · rw [if_pos c2]
      by_cases c3 : isI 8 c = true
      · rw [if_pos c3]
        by_cases c4 : canI s a.toNatClampNeg b.toNatClampNeg c.toNatClampNeg d e = true
        · rw [if_pos c4]
          by_cases c5 : nP s = 48
          · rw [if_pos c5]; exact gO_n (by decide)
          · rw [if_neg c5]
            obtain ⟨r, q, e1, e2, e3, e4⟩ := canI_ok c4
            subst e1
            subst e2
            have hh := hiN_le c.toNatClampNeg
            have hw := wiN_le c.toNatClampNeg
            obtain ⟨k1, k2, k3, k4⟩ := canC_ok (by omega) (by omega) c4
            rw [nI_clamp (n := r) (by omega), nI_clamp (n := q) (by omega)]
            exact gO_s (nI_pos (by omega)) (vG_new h.1 h.2 (by omega) (isI_cl (by omega) c1).2 (isI_cl (by omega) c2).2 (isI_cl (by omega) c3).2 k1 k2 k4)
        · rw [if_neg c4]; exact gO_n (by decide)
      · rw [if_neg c3]; exact gO_n (by decide)
    · rw [if_neg c2]; exact gO_n (by decide)
  · rw [if_neg c1]; exact gO_n (by decide)
theorem vG_fit {s : Nat → Int32} (h : vI s) {k l mi : Nat} (hm : nP s < 48) (hk : k < nSh s) (hl : l < 8) (hmi : mi < 2) (hf : ff s k l mi < 504) : vG (fitS s (nP s) k l mi) := by
  obtain ⟨r1, r2, r3, r4⟩ := ff_ok hf
  exact vG_new h.1 h.2 hm hk hl (by omega) r1 r2 r4
theorem shF_lt {s : Nat → Int32} {col : Int32} {l mi : Nat} (h : shF s col l mi (nSh s) 0 < nSh s) : ff s (shF s col l mi (nSh s) 0) l mi < 504 := shF_ok (nSh s) 0 (by omega)
theorem gO_make {s : Nat → Int32} (h : vI s) (a b c : Int32) : gO (o_make s a b c) := by
  have h48 := h.1.1.2.1.2
  unfold o_make
  by_cases c1 : isI 8 b = true
  · rw [if_pos c1]
    by_cases c2 : isC a = true
    · rw [if_pos c2]
      by_cases c3 : isI 2 c = true
      · rw [if_pos c3]
        by_cases c4 : shF s a b.toNatClampNeg c.toNatClampNeg (nSh s) 0 < nSh s
        · rw [if_pos c4]
          by_cases c5 : nP s = 48
          · rw [if_pos c5]; exact gO_n (by decide)
          · rw [if_neg c5]
            exact gO_s (nI_pos (by omega)) (vG_fit h (by omega) c4 (isI_cl (by omega) c1).2 (isI_cl (by omega) c3).2 (shF_lt c4))
        · rw [if_neg c4]; exact gO_n (by decide)
      · rw [if_neg c3]; exact gO_n (by decide)
    · rw [if_neg c2]; exact gO_n (by decide)
  · rw [if_neg c1]; exact gO_n (by decide)
theorem gO_place {s : Nat → Int32} (h : vI s) (a b c : Int32) : gO (o_place s a b c) := by
  have h48 := h.1.1.2.1.2
  unfold o_place
  by_cases c1 : isI (nP s) a = true
  · rw [if_pos c1]
    by_cases c2 : (isI 3 b && isI 12 c) = true
    · rw [if_pos c2]
      by_cases c3 : s (69 + 8 * a.toNatClampNeg + 3) = 0
      · rw [if_pos c3]
        by_cases c4 : paF s (nI 12 * b + c) (nP s) = -6
        · rw [if_pos c4]
          exact gO_s ipF_pos (vG_put h.1 h.2 (isI_cl (by omega) c1).2).1
        · rw [if_neg c4]; exact gO_n (by decide)
      · rw [if_neg c3]; exact gO_n (by decide)
    · rw [if_neg c2]; exact gO_n (by decide)
  · rw [if_neg c1]; exact gO_n (by decide)
theorem gO_clear {s : Nat → Int32} (h : vI s) (a : Int32) : gO (o_clear s a) := by
  unfold o_clear
  by_cases c1 : isI 3 a = true
  · rw [if_pos c1]; exact gO_s ipF_pos (vG_clear h.1 h.2).1
  · rw [if_neg c1]; exact gO_n (by decide)
theorem gO_throw {s : Nat → Int32} (h : vI s) (a : Int32) : gO (o_throw s a) := by
  have h48 := h.1.1.2.1.2
  unfold o_throw
  by_cases c1 : isI (nP s) a = true
  · rw [if_pos c1]
    by_cases c2 : s (69 + 8 * a.toNatClampNeg + 3) = 0
    · rw [if_pos c2]
      have hj := (isI_cl (by omega) c1).2
      have hp := (h.1.2.2.2.2.2.1 _ hj).1.2
      have := sqA_12 _ hp
      exact gO_s (nI_pos (by omega)) (vG_throw h.1 h.2 hj c2).1
    · rw [if_neg c2]; exact gO_n (by decide)
  · rw [if_neg c1]; exact gO_n (by decide)
theorem gO_scrap {s : Nat → Int32} (h : vI s) (a : Int32) : gO (o_scrap s a) := by
  have h6 := h.1.1.1.2
  unfold o_scrap
  by_cases c1 : isI (nSh s) a = true
  · rw [if_pos c1]
    by_cases c2 : s (4 + 11 * a.toNatClampNeg) = nI 1
    · rw [if_pos c2]; exact gO_n (by decide)
    · rw [if_neg c2]
      have hk := (isI_cl (by omega) c1).2
      obtain ⟨u1, u2⟩ := unc_9 (s := s) (k := a.toNatClampNeg) (by omega) h.1.1.2.2
      refine gO_s (by rw [u1]; exact nI_pos (by omega)) (vG_scrap h.1 h.2 hk ?_).1
      rcases h.1.2.2.2.2.1 a.toNatClampNeg (by omega) with e | e
      · exact e
      · exact absurd e c2
  · rw [if_neg c1]; exact gO_n (by decide)
theorem wrStep_g {s s' : Nat → Int32} {col : Int32} {l mi p pl : Nat} (h : vI s) (hl : l < 8) (hmi : mi < 2) (hp : p < 3) (e : wrStep s col l mi p pl = some s') : vI s' ∧ ∃ u, u ≤ 1 ∧ nP s' = nP s + u := by
  have h6 := h.1.1.1.2
  have h48 := h.1.1.2.1.2
  by_cases c1 : pl < 12 ∧ paF s (nI (12 * p + pl)) (nP s) = -6
  · by_cases c2 : loF s col (nI l) (nI mi) (nP s) (-6) = -6
    · by_cases c3 : nP s < 48
      · by_cases c4 : shF s col l mi (nSh s) 0 < nSh s
        · have ev : pfV s col l mi (nSh s) (nP s) = nI (nP s) := by unfold pfV; rw [if_pos c2, if_pos c3, if_pos c4]
          have es : pfS s col l mi (nSh s) (nP s) = fitS s (nP s) (shF s col l mi (nSh s) 0) l mi := by unfold pfS; rw [if_pos c2, if_pos c3, if_pos c4]
          obtain ⟨f1, f2, f3, f4⟩ := vS_fit h.1 c3 c4 hl hmi (shF_lt c4)
          have f5 := vG_fit h c3 c4 hl hmi (shF_lt c4)
          rw [wrS_yes c1.1 c1.2 ev (by omega), es] at e
          have e := Option.some.inj e
          have hpa : paF (fitS s (nP s) (shF s col l mi (nSh s) 0) l mi) (nI (12 * p + pl)) (nP (fitS s (nP s) (shF s col l mi (nSh s) 0) l mi)) = -6 := by
            rw [← spF_eq (show 12 * p + pl < 36 by omega), f2, spF_eq (by omega)]
            exact c1.2
          obtain ⟨v1, v2, v3, v4⟩ := vS_put f1 (j := nP s) (v := 12 * p + pl) (by omega) (by omega) f4 hpa
          obtain ⟨w1, w2, w3⟩ := vG_put f1 f5 (j := nP s) (v := nI (12 * p + pl)) (by omega)
          rw [← e]
          exact ⟨⟨v1, w1⟩, 1, Nat.le_refl _, by rw [v3, f3]⟩
        · have ev : pfV s col l mi (nSh s) (nP s) = -6 := by unfold pfV; rw [if_pos c2, if_pos c3, if_neg c4]
          rw [wrS_no2 ev] at e
          cases e
      · have ev : pfV s col l mi (nSh s) (nP s) = -6 := by unfold pfV; rw [if_pos c2, if_neg c3]
        rw [wrS_no2 ev] at e
        cases e
    · rcases loF_val (s := s) (col := col) (lt := nI l) (mi := nI mi) (nP s) (-6) with e1 | ⟨j, j1, j2, -, -, -, j3⟩
      · exact absurd e1 c2
      · have ev : pfV s col l mi (nSh s) (nP s) = nI j := by unfold pfV; rw [if_neg c2, j2]
        have es : pfS s col l mi (nSh s) (nP s) = s := by unfold pfS; rw [if_neg c2]
        rw [wrS_yes c1.1 c1.2 ev (by omega), es] at e
        have e := Option.some.inj e
        obtain ⟨v1, v2, v3, v4⟩ := vS_put h.1 j1 (v := 12 * p + pl) (by omega) j3 c1.2
        obtain ⟨w1, w2, w3⟩ := vG_put h.1 h.2 (j := j) (v := nI (12 * p + pl)) j1
        rw [← e]
        exact ⟨⟨v1, w1⟩, 0, Nat.zero_le _, by rw [v3]; omega⟩
  · rw [wrS_no1 c1] at e
    cases e
theorem wrA_g {lt : Nat → Nat} {L mi p q : Nat} {col : Int32} (hmi : mi < 2) (hp : p < 3) (hlt : ∀ k, k < L → lt k < 8) : ∀ (n k : Nat) (s : Nat → Int32), k + n = L → vI s → (wrA lt L col mi p q n k s).1 = true → vI (wrA lt L col mi p q n k s).2 ∧ ∃ u, nP (wrA lt L col mi p q n k s).2 = nP s + u
  | 0, k, s, _, h, _ => ⟨h, 0, rfl⟩
  | n + 1, k, s, hk, h, e => by
    cases c : wrStep s col (lt (if mi = 1 then L - 1 - k else k)) mi p (q + k) with
    | none =>
      rw [wrA_n c] at e
      cases e
    | some s' =>
      rw [wrA_s c] at e ⊢
      have hl : lt (if mi = 1 then L - 1 - k else k) < 8 := by
        split
        · exact hlt _ (by omega)
        · exact hlt _ (by omega)
      obtain ⟨g1, u1, -, g2⟩ := wrStep_g h hl hmi hp c
      obtain ⟨g3, u2, g4⟩ := wrA_g hmi hp hlt n (k + 1) s' (by omega) g1 e
      exact ⟨g3, u1 + u2, by rw [g4, g2]; omega⟩
theorem faI_lt {f : Nat → Int32} {L : Nat} (hL : L ≤ 80) (h : faI f L = -6) : ∀ k, k < L → ltP f k < 8 := by
  obtain ⟨-, h2⟩ := faF_some L _ hL h
  intro k hk
  exact (ltrI_val (h2 k hk).2).2
theorem wrZ_g {f : Nat → Int32} {L mi p q : Nat} {col : Int32} {s : Nat → Int32} (h : vI s) (hmi : mi < 2) (hp : p < 3) (hL : L ≤ 80) (hf : faI f L = -6) (e : (wrZ f L col mi p q s).1 = true) : vI (wrZ f L col mi p q s).2 ∧ ∃ u, u ≤ 48 ∧ nP (wrZ f L col mi p q s).2 = nP s + u ∧ (wrZ f L col mi p q s).2 1 - s 1 = nI u := by
  obtain ⟨g1, u, g2⟩ := wrA_g (q := q) (col := col) hmi hp (faI_lt hL hf) L 0 s (Nat.zero_add _) h e
  have a1 := h.1.1.2.1
  have a2 := g1.1.1.2.1
  refine ⟨g1, u, ?_, g2, ?_⟩
  · have := a2.2; omega
  · show (wrA (ltP f) L col mi p q L 0 s).2 1 - s 1 = nI u
    rw [a2.1, a1.1, g2, pk_sub (by omega)]
    congr 1
    omega
theorem gO_write {s f : Nat → Int32} {L : Nat} (h : vI s) (hL : L ≤ 80) (a b c d : Int32) : gO (o_write f L s a b c d) := by
  unfold o_write
  by_cases c1 : (isI 3 a && isI 12 b) = true
  · rw [if_pos c1]
    by_cases c2 : faI f L = -6
    · rw [if_pos c2]
      by_cases c3 : isC c = true
      · rw [if_pos c3]
        by_cases c4 : isI 2 d = true
        · rw [if_pos c4]
          by_cases c5 : (wrZ f L c d.toNatClampNeg a.toNatClampNeg b.toNatClampNeg s).1 = true
          · rw [if_pos c5]
            rw [Bool.and_eq_true] at c1
            obtain ⟨g1, u, g2, g3, g4⟩ := wrZ_g h (isI_cl (by omega) c4).2 (isI_cl (by omega) c1.1).2 hL c2 c5
            exact gO_s (by rw [g4]; exact nI_pos (by omega)) g1.2
          · rw [if_neg c5]; exact gO_n (by decide)
        · rw [if_neg c4]; exact gO_n (by decide)
      · rw [if_neg c3]; exact gO_n (by decide)
    · rw [if_neg c2]; exact gO_n (by decide)
  · rw [if_neg c1]; exact gO_n (by decide)
