theorem okT_upd {s : Nat → Int32} (h : okT s) {j : Nat} {x : Int32} (hj : j < 453) : okT (upd s j x) := fun i hi => by rw [pk_un (by omega)]; exact h i hi
theorem okT_cut {s : Nat → Int32} (h : okT s) {k l w r c : Nat} (hk : k < 6) : ∀ i, r + i ≤ 9 → okT (cutS s k l w r c i)
  | 0, _ => h
  | i + 1, h1 => by rw [cutS]; exact okT_upd (okT_cut h hk i (by omega)) (by omega)
theorem okT_new {s : Nat → Int32} (h : okT s) {m k l w r c : Nat} (hm : m < 48) (hk : k < 6) (hr : r + hiN w ≤ 9) : okT (newS s m k l w r c) := by
  unfold newS
  exact okT_upd (okT_upd (okT_upd (okT_upd (okT_upd (okT_upd (okT_upd (okT_upd (okT_cut (okT_upd h (by omega)) hk _ hr) (by omega)) (by omega)) (by omega)) (by omega)) (by omega)) (by omega)) (by omega)) (by omega)
theorem okT_put {s : Nat → Int32} (h : okT s) {p : Nat} (hp : p < 48) (v : Int32) : okT (putS s p v) := by
  unfold putS
  exact okT_upd (okT_upd h (by omega)) (by omega)
theorem okT_pf {s : Nat → Int32} (h : okT s) (hS : okS s) {col : Int32} {l mi : Nat} (hl : l < 8) : okT (pfS s col l mi (nSh s) (nP s)) := by
  unfold pfS
  obtain ⟨⟨a1, a2⟩, ⟨b1, b2⟩, hR⟩ := id hS
  split
  · split
    · split
      · next c2 c3 =>
        obtain ⟨q1, -⟩ := shF_fit (s := s) (col := col) (l := l) (mi := mi) (nSh s) 0 (fun _ => 0) (by omega)
        obtain ⟨r1, -⟩ := ff_ok q1
        exact okT_new h c2 (by omega) r1
      · exact h
    · exact h
  · exact h
theorem okT_step {s t : Nat → Int32} (h : okT s) (hS : okS s) {col : Int32} {l mi p pl : Nat} (hl : l < 8) (hmi : mi < 2) (e : wrStep s col l mi p pl = some t) : okT t := by
  unfold wrStep at e
  split at e
  · split at e
    · cases e
    · next h2 =>
      cases e
      obtain ⟨-, -, -, g4⟩ := pf_ok hS (col := col) hl hmi
      obtain ⟨pn, hp, -, ep⟩ := g4 h2
      rw [ep, nI_clamp (by omega)]
      exact okT_put (okT_pf h hS hl) hp _
  · cases e
theorem wrA_ok {lt : Nat → Nat} {L : Nat} {col : Int32} {mi p q : Nat} (hmi : mi < 2) (hlt : ∀ i, i < L → lt i < 8) : ∀ (n k : Nat) (s : Nat → Int32), k + n = L → okS s → okT s → okS (wrA lt L col mi p q n k s).2 ∧ okT (wrA lt L col mi p q n k s).2 ∧ nSh (wrA lt L col mi p q n k s).2 = nSh s
  | 0, k, s, _, h1, h2 => ⟨h1, h2, rfl⟩
  | n + 1, k, s, hk, h1, h2 => by
    rw [wrA]
    have hl : lt (if mi = 1 then L - 1 - k else k) < 8 := hlt _ (by split <;> omega)
    cases e : wrStep s col (lt (if mi = 1 then L - 1 - k else k)) mi p (q + k) with
    | none => exact ⟨h1, h2, rfl⟩
    | some t =>
      obtain ⟨g1, g2⟩ := wrStep_ok h1 hl hmi e
      obtain ⟨q1, q2, q3⟩ := wrA_ok hmi hlt n (k + 1) t (by omega) g1 (okT_step h2 h1 hl hmi e)
      exact ⟨q1, q2, q3.trans g2⟩
/-- the letters of the pad -/
def ltP (pad : Nat → Int32) : Nat → Nat := fun i => (ltrI (pad i)).toNatClampNeg
/-- whether the name can be written, and how it is then -/
def wrZ (pad : Nat → Int32) (L : Nat) (col : Int32) (mi p q : Nat) (s : Nat → Int32) : Bool × (Nat → Int32) := wrA (ltP pad) L col mi p q L 0 s
theorem z_iretJ {M : zM} {G : zG} {d mc ms k n : Nat} {hh : zH} {sz : Nat} {pc : Nat} {lv : List (Option Value)} {x y : Int32} {mo : Nat} {s : Nat → Int32} {τ : Nat → Nat → Int32} {kp ln : Int32} {h0 : zH} {s2 : Nat} (f : Nat → Int32) (t : Nat → Nat → Int32) (hd : decode M.2.1 pc = .ok (.ireturn, 1)) (hrt : M.2.2.2.1 = some .int) (e : x = y) (eh : hh = mq G mo s f t kp ln h0) (hM : MJ τ t) (es : sz = s2) (hk : k ≤ mc) (hn : n ≤ ms) : zS M G d mc ms k n hh sz pc lv [.int x] (fun r h' s' k' n' => zJ y G mo s τ kp ln h0 s2 r h' s' ∧ k' ≤ mc ∧ n' ≤ ms) :=
  z_ireturn hd ⟨.int, hrt, rfl⟩ ⟨⟨f, t, by rw [e], eh, hM, es⟩, hk, hn⟩
theorem z_zretJ {M : zM} {G : zG} {d mc ms k n : Nat} {hh : zH} {sz : Nat} {pc : Nat} {lv : List (Option Value)} {x y : Int32} {mo : Nat} {s : Nat → Int32} {τ : Nat → Nat → Int32} {kp ln : Int32} {h0 : zH} {s2 : Nat} (f : Nat → Int32) (t : Nat → Nat → Int32) (hd : decode M.2.1 pc = .ok (.ireturn, 1)) (hrt : M.2.2.2.1 = some .boolean) (hz : x = 0 ∨ x = 1) (e : x = y) (eh : hh = mq G mo s f t kp ln h0) (hM : MJ τ t) (es : sz = s2) (hk : k ≤ mc) (hn : n ≤ ms) : zS M G d mc ms k n hh sz pc lv [.int x] (fun r h' s' k' n' => zJ y G mo s τ kp ln h0 s2 r h' s' ∧ k' ≤ mc ∧ n' ≤ ms) :=
  z_ireturn hd ⟨.boolean, hrt, z_narZ hz⟩ ⟨⟨f, t, by rw [e], eh, hM, es⟩, hk, hn⟩
/-- a change: its answer, and the new row of numbers, if it is no error -/
def zJc (o : Int32 × Option (Nat → Int32)) (G : zG) (mo : Nat) (s : Nat → Int32) (τ : Nat → Nat → Int32) (K : Nat) (ln : Int32) (hh : zH) (sz : Nat) : Option Value → zH → Nat → Prop := match o.2 with
  | none => zJ o.1 G mo s τ (nI K) ln hh sz
  | some t => zJ o.1 G mo t (mu τ 2 (recH s (τ 2) K)) (nI (recB K + 1)) ln hh sz
set_option maxHeartbeats 4000000 in
set_option maxRecDepth 100000 in
theorem k_X7_canBeWritten {G : zG} {hh : zH} {sz mo : Nat} {s fo : Nat → Int32} {τ : Nat → Nat → Int32} {kp : Int32} {col : Int32} {mi p q L : Nat} (hm : mi < 2) (hp : p < 3) (hq : q < 12) (hL : L ≤ 12) (hlt : ∀ i, i < L → ltrI (τ 5 i) = nI (ltP (τ 5) i) ∧ ltP (τ 5) i < 8) (hT : τ 6 = tabI) (hS : okS s) (hTt : okT s) : zC G 7 MX7_canBeWritten yX7_canBeWritten [.ref mo, .int (nI p), .int (nI q), .int col, .int (nI mi)] (mq G mo s fo τ kp (nI L) hh) sz 0 0 (zJ (zb (wrZ (τ 5) L col mi p q s).1) G mo s τ kp (nI L) hh sz) := by
  refine z_intro _ rfl zy_X7_canBeWritten (Nat.le_of_ble_eq_true rfl) ?_
  refine z_aload_n dX7_canBeWritten_0 rfl ?_
  refine z_callVU (ci := 7) k_X7_putAside dX7_canBeWritten_1 ⟨zm_772, zm_775, zm_8, zm_774, zmp_15, by decide⟩ mq_o (by decide) zp_X7_putAside rfl (Nat.le_of_ble_eq_true rfl) (Nat.le_refl _) (Nat.le_refl _) ?_
  refine z_aload_n dX7_canBeWritten_4 rfl ?_
  refine z_iload_n dX7_canBeWritten_5 rfl ?_
  refine z_iload_n dX7_canBeWritten_6 rfl ?_
  refine z_iload_n dX7_canBeWritten_7 rfl ?_
  refine z_iload dX7_canBeWritten_8 rfl ?_
  refine z_callV (ci := 7) (k_X7_writes hm hp hq hL (by rw [mu_ne (by decide)]; exact hlt) (by rw [mu_ne (by decide)]; exact hT) hS) dX7_canBeWritten_10 ⟨zm_776, zm_779, zm_8, zm_778, zmp_16, by decide⟩ mq_o (by decide) zp_X7_writes (Nat.le_of_ble_eq_true rfl) (Nat.le_refl _) (Nat.le_refl _) (fun r_10 hh_10 sz_10 hp_10 => ?_) rfl
  obtain ⟨f1, rfl, rfl, rfl⟩ := hp_10
  simp only [mu_ne (show (5 : Nat) ≠ 1 by decide)]
  refine z_istore dX7_canBeWritten_13 (by decide) rfl rfl ?_
  refine z_aload_n dX7_canBeWritten_15 rfl ?_
  refine z_callVU (ci := 7) k_X7_putBack dX7_canBeWritten_16 ⟨zm_796, zm_799, zm_8, zm_798, zmp_21, by decide⟩ mq_o (by decide) zp_X7_putBack rfl (Nat.le_of_ble_eq_true rfl) (Nat.le_refl _) (Nat.le_refl _) ?_
  obtain ⟨g1, g2, g3⟩ := wrA_ok (col := col) (p := p) (q := q) hm (fun i hi => (hlt i hi).2) L 0 s (Nat.zero_add _) hS hTt
  refine z_heap (show _ = mq G mo s f1 (mu τ 1 (va_cpy s (τ 1) 0 0 453)) kp (nI L) hh from by rw [mu_eq, back_eq hTt g2]) ?_
  refine z_iload dX7_canBeWritten_19 rfl ?_
  exact z_zretJ f1 _ dX7_canBeWritten_21 rfl (zb_z _) rfl rfl MJ.mu1 rfl (Nat.le_refl _) (Nat.le_refl _)
def zfS (s : Nat → Int32) (b i : Nat) : Nat → Int32 := fun j => if b ≤ j ∧ j < b + i then nI 0 else s j
theorem zfS_step {s : Nat → Int32} {b i : Nat} : upd (zfS s b i) (b + i) (nI 0) = zfS s b (i + 1) := by
  funext j
  unfold upd zfS
  by_cases h : j = b + i
  · subst h
    rw [if_pos rfl, if_pos (by omega)]
  · rw [if_neg h]
    by_cases h2 : b ≤ j ∧ j < b + i
    · rw [if_pos h2, if_pos (by omega)]
    · rw [if_neg h2, if_neg (by omega)]
theorem zfS_0 {s : Nat → Int32} {b : Nat} : zfS s b 0 = s := by
  funext j
  unfold zfS
  rw [if_neg (by omega)]
def sheetS (s : Nat → Int32) (n : Nat) (col : Int32) : Nat → Int32 := upd (zfS (upd s 0 (nI (n + 1))) (3 + 11 * n) 11) (3 + 11 * n + 0) col
def o_sheet (s : Nat → Int32) (a : Int32) : Int32 × Option (Nat → Int32) := if isC a = true then (if nSh s = 6 then (-4, none) else (nI (nSh s), some (sheetS s (nSh s) a))) else (-2, none)
set_option maxHeartbeats 4000000 in
set_option maxRecDepth 100000 in
theorem k_X7_sheet {G : zG} {hh : zH} {sz mo : Nat} {s fo : Nat → Int32} {τ : Nat → Nat → Int32} {ln : Int32} {K : Nat} (hK : K ≤ 6) (hT : τ 6 = tabI) (hS : okS s) {a : Int32} : zC G 2 MX7_sheet yX7_sheet [.ref mo, .int a] (mq G mo s fo τ (nI K) ln hh) sz 0 0 (zJc (o_sheet s a) G mo s τ K ln hh sz) := by
  obtain ⟨⟨a1, a2⟩, ⟨b1, b2⟩, hR⟩ := id hS
  refine z_intro _ rfl zy_X7_sheet (Nat.le_of_ble_eq_true rfl) ?_
  refine z_iload_n dX7_sheet_0 rfl ?_
  refine z_callSR kn_isColour dX7_sheet_1 ⟨zm_699, zm_701, zm_8, zm_700⟩  (by decide) zp_X7_isColour rfl (Nat.le_of_ble_eq_true rfl) (Nat.le_refl _) (Nat.le_refl _) ?_
  refine z_if_ne (tgt := 10) dX7_sheet_4 (by decide) (fun c_4 => ?_) (fun c_4 => ?_)
  · refine z_aload_n dX7_sheet_10 rfl ?_
    refine z_get (ci := 7) (f := 0) dX7_sheet_11 ⟨by decide, by decide, zm_663, rfl⟩ mq_o rfl ?_
    refine z_iconst (v := (nI 0)) dX7_sheet_14 (by decide) ?_
    refine z_ialdN dX7_sheet_15 mq_a0 rfl (by omega) (by decide) ?_
    refine z_eq a1 ?_
    refine z_bipush (v := (nI 6)) dX7_sheet_16 (by decide) ?_
    refine z_icmp_ne (tgt := 24) dX7_sheet_18 (by decide) (fun c_18 => ?_) (fun c_18 => ?_)
    · have hC := zb_1 c_4
      have h6 : ¬ nSh s = 6 := fun e => c_18 (by rw [e])
      refine z_aload_n dX7_sheet_24 rfl ?_
      refine z_callVU (ci := 7) (k_X7_record hK) dX7_sheet_25 ⟨zm_705, zm_708, zm_8, zm_707, zmp_6, by decide⟩ mq_o (by decide) zp_X7_record rfl (Nat.le_of_ble_eq_true rfl) (Nat.le_refl _) (Nat.le_refl _) ?_
      refine z_aload_n dX7_sheet_28 rfl ?_
      refine z_get (ci := 7) (f := 0) dX7_sheet_29 ⟨by decide, by decide, zm_663, rfl⟩ mq_o rfl ?_
      refine z_iconst (v := (nI 0)) dX7_sheet_32 (by decide) ?_
      refine z_ialdN dX7_sheet_33 mq_a0 rfl (by omega) (by decide) ?_
      refine z_eq a1 ?_
      refine z_istore_n dX7_sheet_34 (by decide) rfl rfl ?_
      refine z_aload_n dX7_sheet_35 rfl ?_
      refine z_get (ci := 7) (f := 0) dX7_sheet_36 ⟨by decide, by decide, zm_663, rfl⟩ mq_o rfl ?_
      refine z_iconst (v := (nI 0)) dX7_sheet_39 (by decide) ?_
      refine z_dup2 dX7_sheet_40 rfl rfl ?_
      refine z_ialdN dX7_sheet_41 mq_a0 rfl (by omega) (by decide) ?_
      refine z_eq a1 ?_
      refine z_iconst (v := (nI 1)) dX7_sheet_42 (by decide) ?_
      refine z_iaddN dX7_sheet_43 ?_
      refine z_iastN dX7_sheet_44 mq_a0 rfl (by omega) (by decide) ?_
      refine z_heap mq_u0 ?_
      refine z_iconst (v := (nI 0)) dX7_sheet_45 (by decide) ?_
      refine z_istore_n dX7_sheet_46 (by decide) rfl rfl ?_
      have Lp : ∀ (n i : Nat), i + n = 11 → zS MX7_sheet G 2 0 0 0 0 (mq G mo (zfS (upd s 0 (nI (nSh s + 1))) (3 + 11 * nSh s) i) fo (mu τ 2 (recH s (τ 2) K)) (nI (recB K + 1)) ln hh) sz 47 [some (.ref mo), some (.int a), some (.int (nI (nSh s))), some (.int (nI i))] [] (fun rr hh' ss' kk' nn' => zJc (o_sheet s a) G mo s τ K ln hh sz rr hh' ss' ∧ kk' ≤ 0 ∧ nn' ≤ 0) := by
        intro n; induction n with
        | zero =>
          intro i hi
          have ei : i = 11 := by omega
          subst ei
          refine z_iload_n dX7_sheet_47 rfl ?_
          refine z_bipush (v := (nI 11)) dX7_sheet_48 (by decide) ?_
          refine z_icmp_ge (tgt := 70) dX7_sheet_50 (by decide) (fun c_50 => ?_) (fun c_50 => absurd c_50 (not_not_intro (nI_le (by omega) (by omega))))
          refine z_aload_n dX7_sheet_70 rfl ?_
          refine z_get (ci := 7) (f := 0) dX7_sheet_71 ⟨by decide, by decide, zm_663, rfl⟩ mq_o rfl ?_
          refine z_iload_n dX7_sheet_74 rfl ?_
          refine z_iconst (v := (nI 0)) dX7_sheet_75 (by decide) ?_
          refine z_callSR kn_ofOne dX7_sheet_76 ⟨zm_709, zm_711, zm_8, zm_710⟩  (by decide) zp_X7_ofOne rfl (Nat.le_of_ble_eq_true rfl) (Nat.le_refl _) (Nat.le_refl _) ?_
          refine z_iload_n dX7_sheet_79 rfl ?_
          refine z_iastN (j := 3 + 11 * nSh s + 0) dX7_sheet_80 mq_a0 rfl (by omega) (by decide) ?_
          refine z_heap mq_u0 ?_
          refine z_iload_n dX7_sheet_81 rfl ?_
          have e : o_sheet s a = (nI (nSh s), some (sheetS s (nSh s) a)) := by unfold o_sheet; rw [if_pos hC, if_neg h6]
          rw [e]
          exact z_iretJ fo _ dX7_sheet_82 rfl rfl rfl MJ.rfl rfl (Nat.le_refl _) (Nat.le_refl _)
        | succ n ih =>
          intro i hi
          refine z_iload_n dX7_sheet_47 rfl ?_
          refine z_bipush (v := (nI 11)) dX7_sheet_48 (by decide) ?_
          refine z_icmp_ge (tgt := 70) dX7_sheet_50 (by decide) (fun c_50 => absurd c_50 (nI_ge (by omega) (by omega))) (fun c_50 => ?_)
          refine z_aload_n dX7_sheet_53 rfl ?_
          refine z_get (ci := 7) (f := 0) dX7_sheet_54 ⟨by decide, by decide, zm_663, rfl⟩ mq_o rfl ?_
          refine z_iload_n dX7_sheet_57 rfl ?_
          refine z_iload_n dX7_sheet_58 rfl ?_
          refine z_callSR kn_ofOne dX7_sheet_59 ⟨zm_709, zm_711, zm_8, zm_710⟩  (by decide) zp_X7_ofOne rfl (Nat.le_of_ble_eq_true rfl) (Nat.le_refl _) (Nat.le_refl _) ?_
          refine z_iconst (v := (nI 0)) dX7_sheet_62 (by decide) ?_
          refine z_iastN (j := 3 + 11 * nSh s + i) dX7_sheet_63 mq_a0 rfl (by omega) (by decide) ?_
          refine z_heap mq_u0 ?_
          refine z_heap (show _ = mq G mo (zfS (upd s 0 (nI (nSh s + 1))) (3 + 11 * nSh s) (i + 1)) fo (mu τ 2 (recH s (τ 2) K)) (nI (recB K + 1)) ln hh from by rw [← zfS_step]) ?_
          refine z_iincU dX7_sheet_64 rfl (by decide) rfl rfl ?_
          refine z_goto (tgt := 47) dX7_sheet_67 (by decide) ?_
          exact ih (i + 1) (by omega)
      refine z_heap (show _ = mq G mo (zfS (upd s 0 (nI (nSh s + 1))) (3 + 11 * nSh s) 0) fo (mu τ 2 (recH s (τ 2) K)) (nI (recB K + 1)) ln hh from by rw [zfS_0]) ?_
      exact Lp 11 0 (by omega)
    · refine z_bipush (v := (-4)) dX7_sheet_21 (by decide) ?_
      have hC := zb_1 c_4
      have e : o_sheet s a = (-4, none) := by unfold o_sheet; rw [if_pos hC, if_pos ((nI_eq (by omega) (by omega)).mp c_18)]
      rw [e]
      exact z_iretJ fo τ dX7_sheet_23 rfl rfl rfl MJ.rfl rfl (Nat.le_refl _) (Nat.le_refl _)
  · refine z_bipush (v := (-2)) dX7_sheet_7 (by decide) ?_
    have e : o_sheet s a = (-2, none) := by unfold o_sheet; rw [zb_0 c_4]; rfl
    rw [e]
    exact z_iretJ fo τ dX7_sheet_9 rfl rfl rfl MJ.rfl rfl (Nat.le_refl _) (Nat.le_refl _)
def o_cut (s : Nat → Int32) (a b c d e : Int32) : Int32 × Option (Nat → Int32) :=
  if isI (nSh s) a = true then (if isI 8 b = true then (if isI 8 c = true then (if canI s a.toNatClampNeg b.toNatClampNeg c.toNatClampNeg d e = true then (if nP s = 48 then (-4, none) else (nI (nP s), some (newS s (nP s) a.toNatClampNeg b.toNatClampNeg c.toNatClampNeg d.toNatClampNeg e.toNatClampNeg))) else (-5, none)) else (-2, none)) else (-1, none)) else (-1, none)
theorem canI_ok {s : Nat → Int32} {k l w : Nat} {d e : Int32} (h : canI s k l w d e = true) : ∃ r c, d = nI r ∧ e = nI c ∧ r + hiN w ≤ 9 ∧ c + wiN w ≤ 14 := by
  have h0 := h
  unfold canI at h
  simp only [Bool.and_eq_true] at h
  obtain ⟨⟨⟨-, h1⟩, h2⟩, -⟩ := h
  obtain ⟨r, hr, rfl⟩ := (isI_iff (by omega)).mp h1
  obtain ⟨c, hc, rfl⟩ := (isI_iff (by omega)).mp h2
  have := hiN_le w
  have := wiN_le w
  exact ⟨r, c, rfl, rfl, by omega, by omega⟩
set_option maxHeartbeats 4000000 in
set_option maxRecDepth 100000 in
theorem k_X7_cut {G : zG} {hh : zH} {sz mo : Nat} {s fo : Nat → Int32} {τ : Nat → Nat → Int32} {ln : Int32} {K : Nat} (hK : K ≤ 6) (hT : τ 6 = tabI) (hS : okS s) {a b c d e : Int32} : zC G 3 MX7_cut yX7_cut [.ref mo, .int a, .int b, .int c, .int d, .int e] (mq G mo s fo τ (nI K) ln hh) sz 0 0 (zJc (o_cut s a b c d e) G mo s τ K ln hh sz) := by
  obtain ⟨⟨a1, a2⟩, ⟨b1, b2⟩, hR⟩ := id hS
  refine z_intro _ rfl zy_X7_cut (Nat.le_of_ble_eq_true rfl) ?_
  refine z_aload_n dX7_cut_0 rfl ?_
  refine z_iload_n dX7_cut_1 rfl ?_
  refine z_callVR (ci := 7) (k_X7_isSheet a1 (by omega)) dX7_cut_2 ⟨zm_716, zm_719, zm_8, zm_718, zmp_7, by decide⟩ mq_o (by decide) zp_X7_isSheet rfl (Nat.le_of_ble_eq_true rfl) (Nat.le_refl _) (Nat.le_refl _) ?_
  refine z_if_eq (tgt := 15) dX7_cut_5 (by decide) (fun c_5 => ?_) (fun c_5 => ?_)
  · refine z_iconst (v := (-1)) dX7_cut_15 (by decide) ?_
    have ee : o_cut s a b c d e = (-1, none) := by unfold o_cut; rw [zb_0 c_5]; rfl
    rw [ee]
    exact z_iretJ fo τ dX7_cut_16 rfl rfl rfl MJ.rfl rfl (Nat.le_refl _) (Nat.le_refl _)
  · refine z_iload_n dX7_cut_8 rfl ?_
    refine z_callSR kn_isLetter dX7_cut_9 ⟨zm_720, zm_722, zm_8, zm_721⟩  (by decide) zp_X7_isLetter rfl (Nat.le_of_ble_eq_true rfl) (Nat.le_refl _) (Nat.le_refl _) ?_
    refine z_if_ne (tgt := 17) dX7_cut_12 (by decide) (fun c_12 => ?_) (fun c_12 => ?_)
    · refine z_iload_n dX7_cut_17 rfl ?_
      refine z_iconst (v := (nI 0)) dX7_cut_18 (by decide) ?_
      refine z_bipush (v := (nI 7)) dX7_cut_19 (by decide) ?_
      have hA := zb_1 c_5
      have hB := zb_1 c_12
      refine z_callSR (kn_in (n := 7) (by omega)) dX7_cut_21 ⟨zm_702, zm_704, zm_8, zm_703⟩  (by decide) zp_X7_in rfl (Nat.le_of_ble_eq_true rfl) (Nat.le_refl _) (Nat.le_refl _) ?_
      refine z_if_ne (tgt := 30) dX7_cut_24 (by decide) (fun c_24 => ?_) (fun c_24 => ?_)
      · have hC := zb_1 c_24
        obtain ⟨k, hk, rfl⟩ := (isI_iff (by omega)).mp hA
        obtain ⟨l, hl, rfl⟩ := (isI_iff (by omega)).mp hB
        obtain ⟨w, hw, rfl⟩ := (isI_iff (by omega)).mp hC
        have ck : (nI k).toNatClampNeg = k := nI_clamp (by omega)
        have cl : (nI l).toNatClampNeg = l := nI_clamp (by omega)
        have cw : (nI w).toNatClampNeg = w := nI_clamp (by omega)
        refine z_aload_n dX7_cut_30 rfl ?_
        refine z_iload_n dX7_cut_31 rfl ?_
        refine z_iload_n dX7_cut_32 rfl ?_
        refine z_iload_n dX7_cut_33 rfl ?_
        refine z_iload dX7_cut_34 rfl ?_
        refine z_iload dX7_cut_36 rfl ?_
        refine z_callVR (ci := 7) (k_X7_canCut (by omega) hl hw hT hR) dX7_cut_38 ⟨zm_723, zm_726, zm_8, zm_725, zmp_8, by decide⟩ mq_o (by decide) zp_X7_canCut rfl (Nat.le_of_ble_eq_true rfl) (Nat.le_refl _) (Nat.le_refl _) ?_
        refine z_if_ne (tgt := 47) dX7_cut_41 (by decide) (fun c_41 => ?_) (fun c_41 => ?_)
        · have hD := zb_1 c_41
          refine z_aload_n dX7_cut_47 rfl ?_
          refine z_get (ci := 7) (f := 0) dX7_cut_48 ⟨by decide, by decide, zm_663, rfl⟩ mq_o rfl ?_
          refine z_iconst (v := (nI 1)) dX7_cut_51 (by decide) ?_
          refine z_ialdN dX7_cut_52 mq_a0 rfl (by omega) (by decide) ?_
          refine z_eq b1 ?_
          refine z_bipush (v := (nI 48)) dX7_cut_53 (by decide) ?_
          refine z_icmp_ne (tgt := 61) dX7_cut_55 (by decide) (fun c_55 => ?_) (fun c_55 => ?_)
          · have h48 : ¬ nP s = 48 := fun e1 => c_55 (by rw [e1])
            obtain ⟨r, c, rfl, rfl, hr, hc⟩ := canI_ok hD
            have cr : (nI r).toNatClampNeg = r := nI_clamp (by omega)
            have cc : (nI c).toNatClampNeg = c := nI_clamp (by omega)
            refine z_aload_n dX7_cut_61 rfl ?_
            refine z_callVU (ci := 7) (k_X7_record hK) dX7_cut_62 ⟨zm_705, zm_708, zm_8, zm_707, zmp_6, by decide⟩ mq_o (by decide) zp_X7_record rfl (Nat.le_of_ble_eq_true rfl) (Nat.le_refl _) (Nat.le_refl _) ?_
            refine z_aload_n dX7_cut_65 rfl ?_
            refine z_iload_n dX7_cut_66 rfl ?_
            refine z_iload_n dX7_cut_67 rfl ?_
            refine z_iload_n dX7_cut_68 rfl ?_
            refine z_iload dX7_cut_69 rfl ?_
            refine z_iload dX7_cut_71 rfl ?_
            refine z_callVR (ci := 7) (k_X7_newPiece (by omega) hl hw (by rw [mu_ne (by decide)]; exact hT) hR b1 (by omega) hr (by omega)) dX7_cut_73 ⟨zm_731, zm_734, zm_8, zm_733, zmp_10, by decide⟩ mq_o (by decide) zp_X7_newPiece rfl (Nat.le_of_ble_eq_true rfl) (Nat.le_refl _) (Nat.le_refl _) ?_
            have ee : o_cut s (nI k) (nI l) (nI w) (nI r) (nI c) = (nI (nP s), some (newS s (nP s) k l w r c)) := by unfold o_cut; rw [ck, cl, cw, cr, cc, if_pos hA, if_pos hB, if_pos hC, if_pos hD, if_neg h48]
            rw [ee]
            exact z_iretJ fo _ dX7_cut_76 rfl rfl rfl MJ.rfl rfl (Nat.le_refl _) (Nat.le_refl _)
          · refine z_bipush (v := (-4)) dX7_cut_58 (by decide) ?_
            have ee : o_cut s (nI k) (nI l) (nI w) d e = (-4, none) := by unfold o_cut; rw [ck, cl, cw, if_pos hA, if_pos hB, if_pos hC, if_pos hD, if_pos ((nI_eq (by omega) (by omega)).mp c_55)]
            rw [ee]
            exact z_iretJ fo τ dX7_cut_60 rfl rfl rfl MJ.rfl rfl (Nat.le_refl _) (Nat.le_refl _)
        · refine z_bipush (v := (-5)) dX7_cut_44 (by decide) ?_
          have ee : o_cut s (nI k) (nI l) (nI w) d e = (-5, none) := by unfold o_cut; rw [ck, cl, cw, if_pos hA, if_pos hB, if_pos hC, zb_0 c_41]; rfl
          rw [ee]
          exact z_iretJ fo τ dX7_cut_46 rfl rfl rfl MJ.rfl rfl (Nat.le_refl _) (Nat.le_refl _)
      · refine z_bipush (v := (-2)) dX7_cut_27 (by decide) ?_
        have ee : o_cut s a b c d e = (-2, none) := by unfold o_cut; rw [if_pos hA, if_pos hB, zb_0 c_24]; rfl
        rw [ee]
        exact z_iretJ fo τ dX7_cut_29 rfl rfl rfl MJ.rfl rfl (Nat.le_refl _) (Nat.le_refl _)
    · refine z_iconst (v := (-1)) dX7_cut_15 (by decide) ?_
      have ee : o_cut s a b c d e = (-1, none) := by unfold o_cut; rw [if_pos (zb_1 c_5), zb_0 c_12]; rfl
      rw [ee]
      exact z_iretJ fo τ dX7_cut_16 rfl rfl rfl MJ.rfl rfl (Nat.le_refl _) (Nat.le_refl _)
