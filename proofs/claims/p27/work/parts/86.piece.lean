theorem tab_zz : ∀ j, j < 64 → ∀ q, q < 5 → hiN (j % 8) ≤ q → tabN (5 * j + q) = 0 := by decide +kernel
theorem tab_out {l w q : Nat} (hl : l < 8) (hw : w < 8) (hq : q < 5) (h : hiN w ≤ q) : tabN (40 * l + 5 * w + q) = 0 := by
  have := tab_zz (8 * l + w) (by omega) q hq (by rwa [show (8 * l + w) % 8 = w by omega])
  rwa [show 5 * (8 * l + w) + q = 40 * l + 5 * w + q by omega] at this
theorem ac_sub {s : Nat → Int32} {j i : Nat} : ∀ m, j < m → ac s m i &&& pm s j i = pm s j i
  | 0, h => absurd h (by omega)
  | m + 1, h => by
    rw [ac]
    apply Nat.eq_of_testBit_eq
    intro x
    rw [Nat.testBit_and, Nat.testBit_or]
    by_cases e : j = m
    · subst e
      cases (pm s j i).testBit x <;> cases (ac s j i).testBit x <;> rfl
    · have := congrArg (fun n => n.testBit x) (ac_sub (s := s) (j := j) (i := i) m (by omega))
      simp only [Nat.testBit_and] at this
      revert this
      cases (pm s j i).testBit x <;> cases (ac s m i).testBit x <;> cases (pm s m i).testBit x <;> decide
/-- what is laid of a piece behind q rows -/
def lq (l w b c q i : Nat) : Nat := if b ≤ i ∧ i < b + q then lm l w b c i else 0
def aq (s : Nat → Int32) (k l w b c q : Nat) : Nat → Int32 := fun i => nI (ac s k i ||| lq l w b c q i)
theorem aq_0 {s : Nat → Int32} {k l w b c : Nat} : aq s k l w b c 0 = fun i => nI (ac s k i) := by
  funext i
  unfold aq lq
  rw [if_neg (by omega), Nat.or_zero]
theorem aq_5 {s : Nat → Int32} {k : Nat} : aq s k (plN s k) (fW s k) (9 * fK s k + fC s k / 14) (fC s k % 14) 5 = fun i => nI (ac s (k + 1) i) := by
  funext i
  have h5 := hiN_le (fW s k)
  show nI (ac s k i ||| lq (plN s k) (fW s k) (9 * fK s k + fC s k / 14) (fC s k % 14) 5 i) = nI (ac s k i ||| pm s k i)
  unfold lq pm
  by_cases c : 9 * fK s k + fC s k / 14 ≤ i ∧ i < 9 * fK s k + fC s k / 14 + 5
  · rw [if_pos c]
  · rw [if_neg c]
    unfold lm
    rw [if_neg (by omega)]
theorem aq_z {s : Nat → Int32} {k l w b c q : Nat} (hl : l < 8) (hw : w < 8) (hq : q < 5) (h : tabN (40 * l + 5 * w + q) * 2 ^ c = 0) : aq s k l w b c (q + 1) = aq s k l w b c q := by
  funext i
  unfold aq lq
  by_cases e : i = b + q
  · rw [e, if_pos (by omega), if_neg (by omega)]
    unfold lm
    split
    · rw [Nat.add_sub_cancel_left, h]
    · rfl
  · by_cases c1 : b ≤ i ∧ i < b + q
    · rw [if_pos c1, if_pos (by omega)]
    · rw [if_neg c1, if_neg (by omega)]
theorem aq_at {s : Nat → Int32} {k l w b c q : Nat} : aq s k l w b c q (b + q) = nI (ac s k (b + q)) := by
  unfold aq lq
  rw [if_neg (by omega), Nat.or_zero]
theorem aq_up {s : Nat → Int32} {k l w b c q : Nat} (hq : q < hiN w) : upd (aq s k l w b c q) (b + q) (nI (ac s k (b + q) ||| tabN (40 * l + 5 * w + q) * 2 ^ c)) = aq s k l w b c (q + 1) := by
  funext i
  by_cases e : i = b + q
  · rw [e, pk_us]
    unfold aq lq
    rw [if_pos (by omega), lm_in hq]
  · rw [pk_un e]
    unfold aq lq
    by_cases c1 : b ≤ i ∧ i < b + q
    · rw [if_pos c1, if_pos (by omega)]
    · rw [if_neg c1, if_neg (by omega)]
/-- the heap with the law's row of what is cut -/
abbrev cH (G : zG) (hh : zH) (a : Nat) (F : Nat → Int32) : zH := zup hh a (.inl (G.2.2.1 0, 54, .inl F))
set_option maxHeartbeats 4000000 in
set_option maxRecDepth 100000 in
theorem l_L_isPiece {G : zG} {hh : zH} {B sz L : Nat} {s f : Nat → Int32} {H : List (Nat → Int32)} (hW : WH G B s f L H hh sz) {k : Nat} (hk : k < nP s) {x8 : Int32} : ∀ (n q : Nat) (p11 : Option Value), q + n = 5 → zS ML_isPiece G 6 0 0 0 0 (cH G hh sz (aq s k (plN s k) (fW s k) (9 * fK s k + fC s k / 14) (fC s k % 14) q)) (sz + 1) 150 [some (.ref (B)), some (.int (nI k)), some (.ref (sz)), some (.int (nI (plN s k))), some (.int (nI (fW s k))), some (.int (nI (fC s k / 14))), some (.int (nI (fC s k % 14))), some (.int (nI (fK s k))), some (.int (x8)), some (.int (1)), some (.int (nI q)), p11] [] (fun rr hh' ss' kk' nn' => (zR (.int 1) (cH G hh sz (fun i => nI (ac s (k + 1) i))) (sz + 1)) rr hh' ss' ∧ kk' ≤ 0 ∧ nn' ≤ 0) := by
  have hvs := hW.I
  obtain ⟨⟨g1, g2⟩, ⟨g3, g4⟩, ⟨g5, g6, g7⟩, g8, g9⟩ := hvs.2.1 k hk
  obtain ⟨⟨p1, hl8⟩, -, p3⟩ := hvs.1.2.2.2.2.2.1 k hk
  have hw8 := g4
  have hK := g2
  have hK6 := hvs.1.1.1.2
  have hh5 := hiN_le (fW s k)
  have hh3 := hiN_ge (fW s k)
  have hw3 := wiN_ge (fW s k)
  intro n
  induction n with
  | zero =>
    intro q p11 hq
    refine z_iload dL_isPiece_150 rfl ?_
    refine z_iconst (v := (nI 5)) dL_isPiece_152 (by decide) ?_
    refine z_icmp_ge (tgt := 254) dL_isPiece_153 (by decide) (fun c_153 => ?_) (fun c_153 => absurd c_153 (not_not_intro (nI_le (by omega) (by omega))))
    refine z_iload dL_isPiece_254 rfl ?_
    exact z_zretR dL_isPiece_256 rfl (by decide) rfl (by rw [show q = 5 by omega, aq_5]) rfl (Nat.le_refl _) (Nat.le_refl _)
  | succ n ih =>
    intro q p11 hq
    have hq5 : q < 5 := by omega
    by_cases hT : (tabN (40 * plN s k + 5 * fW s k + q) * 2 ^ (fC s k % 14)) = 0
    · 
      refine z_iload dL_isPiece_150 rfl ?_
      refine z_iconst (v := (nI 5)) dL_isPiece_152 (by decide) ?_
      refine z_icmp_ge (tgt := 254) dL_isPiece_153 (by decide) (fun c_153 => absurd c_153 (nI_ge (by omega) (by omega))) (fun c_153 => ?_)
      refine z_iload dL_isPiece_156 rfl ?_
      refine z_if_eq (tgt := 254) dL_isPiece_158 (by decide) (fun c_158 => absurd c_158 (by decide)) (fun c_158 => ?_)
      refine z_aload_n dL_isPiece_161 rfl ?_
      refine z_iload_n dL_isPiece_162 rfl ?_
      refine z_iload dL_isPiece_163 rfl ?_
      refine z_iload dL_isPiece_165 rfl ?_
      refine z_callVR (ci := 6) (zC_eq (v_sh hl8 hw8 hq5) (h_shape hW.new)) dL_isPiece_167 ⟨zm_599, zm_602, zm_1, zm_600, zm_601, by decide⟩ hW.new.o (by decide) zp_X6_shape rfl (Nat.le_of_ble_eq_true rfl) (Nat.le_refl _) (Nat.le_refl _) ?_
      refine z_iload dL_isPiece_170 rfl ?_
      refine z_ishlN dL_isPiece_172 (by omega) ?_
      refine z_istore dL_isPiece_173 (by decide) rfl rfl ?_
      refine z_iload dL_isPiece_175 rfl ?_
      refine z_if_eq (tgt := 218) dL_isPiece_177 (by decide) (fun c_177 => ?_) (fun c_177 => absurd c_177 (not_not_intro (by rw [hT]; rfl)))
      refine z_iconst (v := (nI 1)) dL_isPiece_218 (by decide) ?_
      refine z_goto (tgt := 223) dL_isPiece_219 (by decide) ?_
      refine z_istore dL_isPiece_223 (by decide) rfl rfl ?_
      refine z_iload dL_isPiece_225 rfl ?_
      refine z_if_eq (tgt := 248) dL_isPiece_227 (by decide) (fun c_227 => ?_) (fun c_227 => absurd c_227 (not_not_intro (by rw [hT]; rfl)))
      refine z_iincU dL_isPiece_248 rfl (by decide) rfl rfl ?_
      refine z_goto (tgt := 150) dL_isPiece_251 (by decide) ?_
      refine z_heap (h2 := (cH G hh sz (aq s k (plN s k) (fW s k) (9 * fK s k + fC s k / 14) (fC s k % 14) (q + 1)))) (by rw [aq_z hl8 hw8 hq5 hT]) ?_
      exact ih (q + 1) _ (by omega)
    · have hqh : q < hiN (fW s k) := by
        by_cases c1 : q < hiN (fW s k)
        · exact c1
        · exact absurd (by rw [tab_out hl8 hw8 hq5 (by omega), Nat.zero_mul]) hT
      have ht14 := tab_c hl8 hw8 hq5 g7
      have hpm : pm s k (9 * fK s k + fC s k / 14 + q) = (tabN (40 * plN s k + 5 * fW s k + q) * 2 ^ (fC s k % 14)) := by unfold pm; exact lm_in hqh
      have hdis : ac s k (9 * fK s k + fC s k / 14 + q) &&& (tabN (40 * plN s k + 5 * fW s k + q) * 2 ^ (fC s k % 14)) = 0 := by have := g9 (9 * fK s k + fC s k / 14 + q); rwa [hpm] at this
      have hsub : rN s (fK s k) (fC s k / 14 + q) &&& (tabN (40 * plN s k + 5 * fW s k + q) * 2 ^ (fC s k % 14)) = (tabN (40 * plN s k + 5 * fW s k + q) * 2 ^ (fC s k % 14)) := by
        have := ac_sub (s := s) (i := 9 * fK s k + fC s k / 14 + q) (nP s) hk
        rw [hpm] at this
        rw [hvs.2.2.1 _ _ hK (by omega), show 9 * fK s k + (fC s k / 14 + q) = 9 * fK s k + fC s k / 14 + q by omega]
        exact this
      refine z_iload dL_isPiece_150 rfl ?_
      refine z_iconst (v := (nI 5)) dL_isPiece_152 (by decide) ?_
      refine z_icmp_ge (tgt := 254) dL_isPiece_153 (by decide) (fun c_153 => absurd c_153 (nI_ge (by omega) (by omega))) (fun c_153 => ?_)
      refine z_iload dL_isPiece_156 rfl ?_
      refine z_if_eq (tgt := 254) dL_isPiece_158 (by decide) (fun c_158 => absurd c_158 (by decide)) (fun c_158 => ?_)
      refine z_aload_n dL_isPiece_161 rfl ?_
      refine z_iload_n dL_isPiece_162 rfl ?_
      refine z_iload dL_isPiece_163 rfl ?_
      refine z_iload dL_isPiece_165 rfl ?_
      refine z_callVR (ci := 6) (zC_eq (v_sh hl8 hw8 hq5) (h_shape hW.new)) dL_isPiece_167 ⟨zm_599, zm_602, zm_1, zm_600, zm_601, by decide⟩ hW.new.o (by decide) zp_X6_shape rfl (Nat.le_of_ble_eq_true rfl) (Nat.le_refl _) (Nat.le_refl _) ?_
      refine z_iload dL_isPiece_170 rfl ?_
      refine z_ishlN dL_isPiece_172 (by omega) ?_
      refine z_istore dL_isPiece_173 (by decide) rfl rfl ?_
      refine z_iload dL_isPiece_175 rfl ?_
      refine z_if_eq (tgt := 218) dL_isPiece_177 (by decide) (fun c_177 => absurd c_177 (nI_ne0 (by omega) (by omega))) (fun c_177 => ?_)
      refine z_aload_n dL_isPiece_180 rfl ?_
      refine z_bipush (v := (nI 9)) dL_isPiece_181 (by decide) ?_
      refine z_iload dL_isPiece_183 rfl ?_
      refine z_imulN dL_isPiece_185 ?_
      refine z_iload dL_isPiece_186 rfl ?_
      refine z_iaddN dL_isPiece_188 ?_
      refine z_iload dL_isPiece_189 rfl ?_
      refine z_iaddN dL_isPiece_191 ?_
      refine z_ialdN (j := 9 * fK s k + fC s k / 14 + q) dL_isPiece_192 (zup_eq _ _ _) rfl (by omega) (by decide) ?_
      refine z_eq (b := nI (ac s k (9 * fK s k + fC s k / 14 + q))) aq_at ?_
      refine z_iload dL_isPiece_193 rfl ?_
      refine z_iandN dL_isPiece_195 ?_
      refine z_if_ne (tgt := 222) dL_isPiece_196 (by decide) (fun c_196 => absurd c_196 (not_not_intro (by rw [hdis]; rfl))) (fun c_196 => ?_)
      refine z_aload_n dL_isPiece_199 rfl ?_
      refine z_iload dL_isPiece_200 rfl ?_
      refine z_iload dL_isPiece_202 rfl ?_
      refine z_iload dL_isPiece_204 rfl ?_
      refine z_iaddN dL_isPiece_206 ?_
      refine z_callVR (ci := 6) (zC_eq (v_row hW.I hK (r := fC s k / 14 + q) (by omega)) (h_row hW.new)) dL_isPiece_207 ⟨zm_604, zm_607, zm_1, zm_605, zm_606, by decide⟩ hW.new.o (by decide) zp_X6_row rfl (Nat.le_of_ble_eq_true rfl) (Nat.le_refl _) (Nat.le_refl _) ?_
      refine z_iload dL_isPiece_210 rfl ?_
      refine z_iandN dL_isPiece_212 ?_
      refine z_iload dL_isPiece_213 rfl ?_
      refine z_icmp_ne (tgt := 222) dL_isPiece_215 (by decide) (fun c_215 => absurd c_215 (not_not_intro (by rw [hsub]))) (fun c_215 => ?_)
      refine z_iconst (v := (nI 1)) dL_isPiece_218 (by decide) ?_
      refine z_goto (tgt := 223) dL_isPiece_219 (by decide) ?_
      refine z_istore dL_isPiece_223 (by decide) rfl rfl ?_
      refine z_iload dL_isPiece_225 rfl ?_
      refine z_if_eq (tgt := 248) dL_isPiece_227 (by decide) (fun c_227 => absurd c_227 (nI_ne0 (by omega) (by omega))) (fun c_227 => ?_)
      refine z_aload_n dL_isPiece_230 rfl ?_
      refine z_bipush (v := (nI 9)) dL_isPiece_231 (by decide) ?_
      refine z_iload dL_isPiece_233 rfl ?_
      refine z_imulN dL_isPiece_235 ?_
      refine z_iload dL_isPiece_236 rfl ?_
      refine z_iaddN dL_isPiece_238 ?_
      refine z_iload dL_isPiece_239 rfl ?_
      refine z_iaddN dL_isPiece_241 ?_
      refine z_dup2 dL_isPiece_242 rfl rfl ?_
      refine z_ialdN (j := 9 * fK s k + fC s k / 14 + q) dL_isPiece_243 (zup_eq _ _ _) rfl (by omega) (by decide) ?_
      refine z_eq (b := nI (ac s k (9 * fK s k + fC s k / 14 + q))) aq_at ?_
      refine z_iload dL_isPiece_244 rfl ?_
      refine z_iorN dL_isPiece_246 ?_
      refine z_iastN (j := 9 * fK s k + fC s k / 14 + q) dL_isPiece_247 (zup_eq _ _ _) rfl (by omega) (by decide) ?_
      refine z_heap (h2 := (cH G hh sz (aq s k (plN s k) (fW s k) (9 * fK s k + fC s k / 14) (fC s k % 14) (q + 1)))) (by rw [zup_zup, aq_up hqh]) ?_
      refine z_iincU dL_isPiece_248 rfl (by decide) rfl rfl ?_
      refine z_goto (tgt := 150) dL_isPiece_251 (by decide) ?_
      exact ih (q + 1) _ (by omega)
set_option maxHeartbeats 4000000 in
set_option maxRecDepth 100000 in
theorem k_L_isPiece {G : zG} {hh : zH} {B sz L : Nat} {s f : Nat → Int32} {H : List (Nat → Int32)} (hW : WH G B s f L H hh sz) {k : Nat} (hk : k < nP s) : zC G 6 ML_isPiece yL_isPiece [.ref B, .int (nI k), .ref sz] (cH G hh sz (fun i => nI (ac s k i))) (sz + 1) 0 0 (zR (.int 1) (cH G hh sz (fun i => nI (ac s (k + 1) i))) (sz + 1)) := by
  have hvs := hW.I
  obtain ⟨⟨g1, g2⟩, ⟨g3, g4⟩, ⟨g5, g6, g7⟩, g8, g9⟩ := hvs.2.1 k hk
  obtain ⟨⟨p1, hl8⟩, -, p3⟩ := hvs.1.2.2.2.2.2.1 k hk
  have hw8 := g4
  have hK := g2
  have hK6 := hvs.1.1.1.2
  have hh5 := hiN_le (fW s k)
  have hh3 := hiN_ge (fW s k)
  have hw3 := wiN_ge (fW s k)
  have e2 : s (69 + 8 * k + 2) = nI (fW s k / 4) := by
    obtain ⟨-, ⟨w, w1, w2, w3⟩, -⟩ := hvs.1.2.2.2.2.2.1 k hk
    have : w = fW s k := by unfold fW; rw [w2, nI_clamp (by omega)]
    rw [← this]; exact w3
  have e0 : (fun i => nI (ac s k i)) = aq s k (plN s k) (fW s k) (9 * fK s k + fC s k / 14) (fC s k % 14) 0 := aq_0.symm
  rw [e0]
  refine z_intro _ rfl zy_L_isPiece (Nat.le_of_ble_eq_true rfl) ?_
  refine z_aload_n dL_isPiece_0 rfl ?_
  refine z_iload_n dL_isPiece_1 rfl ?_
  refine z_iconst (v := (nI 0)) dL_isPiece_2 (by decide) ?_
  refine z_callVR (ci := 6) (zC_eq ((v_of hvs hk (f := 0) (by omega)).trans p1) (h_of hW.new)) dL_isPiece_3 ⟨zm_573, zm_576, zm_1, zm_574, zm_575, by decide⟩ hW.new.o (by decide) zp_X6_of rfl (Nat.le_of_ble_eq_true rfl) (Nat.le_refl _) (Nat.le_refl _) ?_
  refine z_istore_n dL_isPiece_6 (by decide) rfl rfl ?_
  refine z_aload_n dL_isPiece_7 rfl ?_
  refine z_iload_n dL_isPiece_8 rfl ?_
  refine z_bipush (v := (nI 7)) dL_isPiece_9 (by decide) ?_
  refine z_callVR (ci := 6) (zC_eq ((v_of hvs hk (f := 7) (by omega)).trans g3) (h_of hW.new)) dL_isPiece_11 ⟨zm_573, zm_576, zm_1, zm_574, zm_575, by decide⟩ hW.new.o (by decide) zp_X6_of rfl (Nat.le_of_ble_eq_true rfl) (Nat.le_refl _) (Nat.le_refl _) ?_
  refine z_istore dL_isPiece_14 (by decide) rfl rfl ?_
  refine z_aload_n dL_isPiece_16 rfl ?_
  refine z_iload_n dL_isPiece_17 rfl ?_
  refine z_bipush (v := (nI 6)) dL_isPiece_18 (by decide) ?_
  refine z_callVR (ci := 6) (zC_eq ((v_of hvs hk (f := 6) (by omega)).trans g5) (h_of hW.new)) dL_isPiece_20 ⟨zm_573, zm_576, zm_1, zm_574, zm_575, by decide⟩ hW.new.o (by decide) zp_X6_of rfl (Nat.le_of_ble_eq_true rfl) (Nat.le_refl _) (Nat.le_refl _) ?_
  refine z_bipush (v := (nI 14)) dL_isPiece_23 (by decide) ?_
  refine z_idivN dL_isPiece_25 (by omega) (by omega) (by omega) ?_
  refine z_istore dL_isPiece_26 (by decide) rfl rfl ?_
  refine z_aload_n dL_isPiece_28 rfl ?_
  refine z_iload_n dL_isPiece_29 rfl ?_
  refine z_bipush (v := (nI 6)) dL_isPiece_30 (by decide) ?_
  refine z_callVR (ci := 6) (zC_eq ((v_of hvs hk (f := 6) (by omega)).trans g5) (h_of hW.new)) dL_isPiece_32 ⟨zm_573, zm_576, zm_1, zm_574, zm_575, by decide⟩ hW.new.o (by decide) zp_X6_of rfl (Nat.le_of_ble_eq_true rfl) (Nat.le_refl _) (Nat.le_refl _) ?_
  refine z_bipush (v := (nI 14)) dL_isPiece_35 (by decide) ?_
  refine z_iremN dL_isPiece_37 (by omega) (by omega) (by omega) ?_
  refine z_istore dL_isPiece_38 (by decide) rfl rfl ?_
  refine z_aload_n dL_isPiece_40 rfl ?_
  refine z_iload_n dL_isPiece_41 rfl ?_
  refine z_iconst (v := (nI 5)) dL_isPiece_42 (by decide) ?_
  refine z_callVR (ci := 6) (zC_eq ((v_of hvs hk (f := 5) (by omega)).trans g1) (h_of hW.new)) dL_isPiece_43 ⟨zm_573, zm_576, zm_1, zm_574, zm_575, by decide⟩ hW.new.o (by decide) zp_X6_of rfl (Nat.le_of_ble_eq_true rfl) (Nat.le_refl _) (Nat.le_refl _) ?_
  refine z_istore dL_isPiece_46 (by decide) rfl rfl ?_
  refine z_aload_n dL_isPiece_48 rfl ?_
  refine z_iload_n dL_isPiece_49 rfl ?_
  refine z_iconst (v := (nI 4)) dL_isPiece_50 (by decide) ?_
  refine z_callVR (ci := 6) (zC_eq ((v_of hvs hk (f := 4) (by omega)).trans rfl) (h_of hW.new)) dL_isPiece_51 ⟨zm_573, zm_576, zm_1, zm_574, zm_575, by decide⟩ hW.new.o (by decide) zp_X6_of rfl (Nat.le_of_ble_eq_true rfl) (Nat.le_refl _) (Nat.le_refl _) ?_
  refine z_istore dL_isPiece_54 (by decide) rfl rfl ?_
  refine z_aload_n dL_isPiece_56 rfl ?_
  refine z_iload_n dL_isPiece_57 rfl ?_
  refine z_iconst (v := (nI 2)) dL_isPiece_58 (by decide) ?_
  refine z_callVR (ci := 6) (zC_eq ((v_of hvs hk (f := 2) (by omega)).trans e2) (h_of hW.new)) dL_isPiece_59 ⟨zm_573, zm_576, zm_1, zm_574, zm_575, by decide⟩ hW.new.o (by decide) zp_X6_of rfl (Nat.le_of_ble_eq_true rfl) (Nat.le_refl _) (Nat.le_refl _) ?_
  refine z_iload dL_isPiece_62 rfl ?_
  refine z_iconst (v := (nI 4)) dL_isPiece_64 (by decide) ?_
  refine z_idivN dL_isPiece_65 (by omega) (by omega) (by omega) ?_
  refine z_icmp_ne (tgt := 144) dL_isPiece_66 (by decide) (fun c_66 => absurd c_66 (not_not_intro rfl)) (fun c_66 => ?_)
  refine z_aload_n dL_isPiece_69 rfl ?_
  refine z_iload_n dL_isPiece_70 rfl ?_
  refine z_iconst (v := (nI 1)) dL_isPiece_71 (by decide) ?_
  refine z_callVR (ci := 6) (zC_eq ((v_of hvs hk (f := 1) (by omega)).trans rfl) (h_of hW.new)) dL_isPiece_72 ⟨zm_573, zm_576, zm_1, zm_574, zm_575, by decide⟩ hW.new.o (by decide) zp_X6_of rfl (Nat.le_of_ble_eq_true rfl) (Nat.le_refl _) (Nat.le_refl _) ?_
  refine z_aload_n dL_isPiece_75 rfl ?_
  refine z_iload dL_isPiece_76 rfl ?_
  refine z_iconst (v := (nI 0)) dL_isPiece_78 (by decide) ?_
  refine z_callVR (ci := 6) (zC_eq (v_s0 hvs hK) (h_ofSheet hW.new)) dL_isPiece_79 ⟨zm_578, zm_581, zm_1, zm_579, zm_580, by decide⟩ hW.new.o (by decide) zp_X6_ofSheet rfl (Nat.le_of_ble_eq_true rfl) (Nat.le_refl _) (Nat.le_refl _) ?_
  refine z_icmp_ne (tgt := 144) dL_isPiece_82 (by decide) (fun c_82 => absurd c_82 (not_not_intro g8)) (fun c_82 => ?_)
  rcases p3 with ⟨a1, v, hv, a2, a3⟩ | ⟨b1 | b1, b2⟩
  · rw [a2]
    refine z_iload dL_isPiece_85 rfl ?_
    refine z_bipush (v := (-6)) dL_isPiece_87 (by decide) ?_
    refine z_icmp_ne (tgt := 96) dL_isPiece_89 (by decide) (fun c_89 => ?_) (fun c_89 => absurd c_89 (nI_ne6 (by omega)))
    refine z_iconst (v := (nI 0)) dL_isPiece_96 (by decide) ?_
    refine z_aload_n dL_isPiece_97 rfl ?_
    refine z_iload_n dL_isPiece_98 rfl ?_
    refine z_iconst (v := (nI 3)) dL_isPiece_99 (by decide) ?_
    refine z_callVR (ci := 6) (zC_eq ((v_of hvs hk (f := 3) (by omega)).trans a1) (h_of hW.new)) dL_isPiece_100 ⟨zm_573, zm_576, zm_1, zm_574, zm_575, by decide⟩ hW.new.o (by decide) zp_X6_of rfl (Nat.le_of_ble_eq_true rfl) (Nat.le_refl _) (Nat.le_refl _) ?_
    refine z_iconst (v := (nI 1)) dL_isPiece_103 (by decide) ?_
    refine z_icmp_eq (tgt := 111) dL_isPiece_104 (by decide) (fun c_104 => ?_) (fun c_104 => absurd c_104 (not_not_intro rfl))
    refine z_iconst (v := (nI 0)) dL_isPiece_111 (by decide) ?_
    refine z_icmp_ne (tgt := 144) dL_isPiece_112 (by decide) (fun c_112 => absurd c_112 (by decide)) (fun c_112 => ?_)
    refine z_iload dL_isPiece_115 rfl ?_
    refine z_bipush (v := (-6)) dL_isPiece_117 (by decide) ?_
    refine z_icmp_eq (tgt := 140) dL_isPiece_119 (by decide) (fun c_119 => absurd c_119 (nI_ne6 (by omega))) (fun c_119 => ?_)
    refine z_aload_n dL_isPiece_122 rfl ?_
    refine z_iload dL_isPiece_123 rfl ?_
    refine z_bipush (v := (nI 12)) dL_isPiece_125 (by decide) ?_
    refine z_idivN dL_isPiece_127 (by omega) (by omega) (by omega) ?_
    refine z_iload dL_isPiece_128 rfl ?_
    refine z_bipush (v := (nI 12)) dL_isPiece_130 (by decide) ?_
    refine z_iremN dL_isPiece_132 (by omega) (by omega) (by omega) ?_
    refine z_callVR (ci := 6) (zC_eq ((v_pane hv).trans a3) (h_pane hW.new)) dL_isPiece_133 ⟨zm_595, zm_598, zm_1, zm_596, zm_597, by decide⟩ hW.new.o (by decide) zp_X6_pane rfl (Nat.le_of_ble_eq_true rfl) (Nat.le_refl _) (Nat.le_refl _) ?_
    refine z_iload_n dL_isPiece_136 rfl ?_
    refine z_icmp_ne (tgt := 144) dL_isPiece_137 (by decide) (fun c_137 => absurd c_137 (not_not_intro rfl)) (fun c_137 => ?_)
    refine z_iconst (v := (nI 1)) dL_isPiece_140 (by decide) ?_
    refine z_goto (tgt := 145) dL_isPiece_141 (by decide) ?_
    refine z_istore dL_isPiece_145 (by decide) rfl rfl ?_
    refine z_iconst (v := (nI 0)) dL_isPiece_147 (by decide) ?_
    refine z_istore dL_isPiece_148 (by decide) rfl rfl ?_
    exact l_L_isPiece hW hk 5 0 _ (Nat.zero_add _)
  · rw [b2]
    refine z_iload dL_isPiece_85 rfl ?_
    refine z_bipush (v := (-6)) dL_isPiece_87 (by decide) ?_
    refine z_icmp_ne (tgt := 96) dL_isPiece_89 (by decide) (fun c_89 => absurd c_89 (not_not_intro rfl)) (fun c_89 => ?_)
    refine z_iconst (v := (nI 1)) dL_isPiece_92 (by decide) ?_
    refine z_goto (tgt := 97) dL_isPiece_93 (by decide) ?_
    refine z_aload_n dL_isPiece_97 rfl ?_
    refine z_iload_n dL_isPiece_98 rfl ?_
    refine z_iconst (v := (nI 3)) dL_isPiece_99 (by decide) ?_
    refine z_callVR (ci := 6) (zC_eq ((v_of hvs hk (f := 3) (by omega)).trans b1) (h_of hW.new)) dL_isPiece_100 ⟨zm_573, zm_576, zm_1, zm_574, zm_575, by decide⟩ hW.new.o (by decide) zp_X6_of rfl (Nat.le_of_ble_eq_true rfl) (Nat.le_refl _) (Nat.le_refl _) ?_
    refine z_iconst (v := (nI 1)) dL_isPiece_103 (by decide) ?_
    refine z_icmp_eq (tgt := 111) dL_isPiece_104 (by decide) (fun c_104 => absurd c_104 (by decide)) (fun c_104 => ?_)
    refine z_iconst (v := (nI 1)) dL_isPiece_107 (by decide) ?_
    refine z_goto (tgt := 112) dL_isPiece_108 (by decide) ?_
    refine z_icmp_ne (tgt := 144) dL_isPiece_112 (by decide) (fun c_112 => absurd c_112 (by decide)) (fun c_112 => ?_)
    refine z_iload dL_isPiece_115 rfl ?_
    refine z_bipush (v := (-6)) dL_isPiece_117 (by decide) ?_
    refine z_icmp_eq (tgt := 140) dL_isPiece_119 (by decide) (fun c_119 => ?_) (fun c_119 => absurd c_119 (not_not_intro rfl))
    refine z_iconst (v := (nI 1)) dL_isPiece_140 (by decide) ?_
    refine z_goto (tgt := 145) dL_isPiece_141 (by decide) ?_
    refine z_istore dL_isPiece_145 (by decide) rfl rfl ?_
    refine z_iconst (v := (nI 0)) dL_isPiece_147 (by decide) ?_
    refine z_istore dL_isPiece_148 (by decide) rfl rfl ?_
    exact l_L_isPiece hW hk 5 0 _ (Nat.zero_add _)
  · rw [b2]
    refine z_iload dL_isPiece_85 rfl ?_
    refine z_bipush (v := (-6)) dL_isPiece_87 (by decide) ?_
    refine z_icmp_ne (tgt := 96) dL_isPiece_89 (by decide) (fun c_89 => absurd c_89 (not_not_intro rfl)) (fun c_89 => ?_)
    refine z_iconst (v := (nI 1)) dL_isPiece_92 (by decide) ?_
    refine z_goto (tgt := 97) dL_isPiece_93 (by decide) ?_
    refine z_aload_n dL_isPiece_97 rfl ?_
    refine z_iload_n dL_isPiece_98 rfl ?_
    refine z_iconst (v := (nI 3)) dL_isPiece_99 (by decide) ?_
    refine z_callVR (ci := 6) (zC_eq ((v_of hvs hk (f := 3) (by omega)).trans b1) (h_of hW.new)) dL_isPiece_100 ⟨zm_573, zm_576, zm_1, zm_574, zm_575, by decide⟩ hW.new.o (by decide) zp_X6_of rfl (Nat.le_of_ble_eq_true rfl) (Nat.le_refl _) (Nat.le_refl _) ?_
    refine z_iconst (v := (nI 1)) dL_isPiece_103 (by decide) ?_
    refine z_icmp_eq (tgt := 111) dL_isPiece_104 (by decide) (fun c_104 => absurd c_104 (by decide)) (fun c_104 => ?_)
    refine z_iconst (v := (nI 1)) dL_isPiece_107 (by decide) ?_
    refine z_goto (tgt := 112) dL_isPiece_108 (by decide) ?_
    refine z_icmp_ne (tgt := 144) dL_isPiece_112 (by decide) (fun c_112 => absurd c_112 (by decide)) (fun c_112 => ?_)
    refine z_iload dL_isPiece_115 rfl ?_
    refine z_bipush (v := (-6)) dL_isPiece_117 (by decide) ?_
    refine z_icmp_eq (tgt := 140) dL_isPiece_119 (by decide) (fun c_119 => ?_) (fun c_119 => absurd c_119 (not_not_intro rfl))
    refine z_iconst (v := (nI 1)) dL_isPiece_140 (by decide) ?_
    refine z_goto (tgt := 145) dL_isPiece_141 (by decide) ?_
    refine z_istore dL_isPiece_145 (by decide) rfl rfl ?_
    refine z_iconst (v := (nI 0)) dL_isPiece_147 (by decide) ?_
    refine z_istore dL_isPiece_148 (by decide) rfl rfl ?_
    exact l_L_isPiece hW hk 5 0 _ (Nat.zero_add _)
