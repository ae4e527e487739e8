section Z12
variable {M : zM} {G : zG} {d mc ms k n : Nat} {hh : zH} {sz : Nat} {pc : Nat} {lv : List (Option Value)} {st rest : List Value} {Post : Option Value → zH → Nat → Nat → Nat → Prop} {a b : Nat}
theorem z_iincM {i : Nat} {lv' : List (Option Value)} (hd : decode M.2.1 pc = .ok (.iinc i (-1), 3)) (hv : lv[i]? = some (some (.int (nI a)))) (hn : i < M.2.2.1) (hok : zok lv i = true) (hlv : lv.set i (some (.int (nI a - nI 1))) = lv') (kk : zS M G d mc ms k n hh sz (pc + 3) lv' st Post) : zS M G d mc ms k n hh sz pc lv st Post := z_iinc (v := nI a - nI 1) hd hv (by rw [Int32.sub_eq_add_neg]; rfl) hn hok hlv kk
end Z12
/-- the lowest sheet of a colour that has a fit, from i on, of m -/
def shF (s : Nat → Int32) (col : Int32) (l mi : Nat) : Nat → Nat → Nat
  | 0, i => i
  | m + 1, i => if s (3 + 11 * i) = col ∧ ff s i l mi < 504 then i else shF s col l mi m (i + 1)
def shO (s : Nat → Int32) (col : Int32) (l mi : Nat) : Nat → Nat → (Nat → Int32) → (Nat → Int32)
  | 0, _, f => f
  | m + 1, i, f => if s (3 + 11 * i) = col then (if ff s i l mi < 504 then fo3 mi (ff s i l mi) f else shO s col l mi m (i + 1) (fo3 mi 503 f)) else shO s col l mi m (i + 1) f
def shV (s : Nat → Int32) (col : Int32) (l mi n m i : Nat) : Int32 := if shF s col l mi m i < n then nI (shF s col l mi m i) else -6
theorem shF_ge {s : Nat → Int32} {col : Int32} {l mi : Nat} : ∀ m i, i ≤ shF s col l mi m i ∧ shF s col l mi m i ≤ i + m
  | 0, i => ⟨Nat.le_refl _, Nat.le_refl _⟩
  | m + 1, i => by
    unfold shF
    split
    · omega
    · have := shF_ge (s := s) (col := col) (l := l) (mi := mi) m (i + 1); omega
theorem shF_fit {s : Nat → Int32} {col : Int32} {l mi : Nat} : ∀ (m i : Nat) (f : Nat → Int32), shF s col l mi m i < i + m → ff s (shF s col l mi m i) l mi < 504 ∧ s (3 + 11 * shF s col l mi m i) = col ∧ ∃ g, shO s col l mi m i f = fo3 mi (ff s (shF s col l mi m i) l mi) g
  | 0, i, f, h => absurd h (by unfold shF; omega)
  | m + 1, i, f, h => by
    by_cases c : s (3 + 11 * i) = col ∧ ff s i l mi < 504
    · have e : shF s col l mi (m + 1) i = i := by rw [shF, if_pos c]
      rw [e]
      exact ⟨c.2, c.1, f, by rw [shO, if_pos c.1, if_pos c.2]⟩
    · have e : shF s col l mi (m + 1) i = shF s col l mi m (i + 1) := by rw [shF, if_neg c]
      rw [e] at h ⊢
      have key := fun g => shF_fit (s := s) (col := col) (l := l) (mi := mi) m (i + 1) g (by omega)
      by_cases c1 : s (3 + 11 * i) = col
      · have c2 : ¬ ff s i l mi < 504 := fun z => c ⟨c1, z⟩
        rw [shO, if_pos c1, if_neg c2]
        exact key _
      · rw [shO, if_neg c1]
        exact key _
/-- the row of numbers with a new piece, number m -/
def newS (s : Nat → Int32) (m k l w r c : Nat) : Nat → Int32 :=
  upd (upd (upd (upd (upd (upd (upd (upd (cutS (upd s 1 (nI (m + 1))) k l w r c (hiN w)) (69 + 8 * m + 0) (nI l)) (69 + 8 * m + 1) (s (3 + 11 * k))) (69 + 8 * m + 2) (nI (w / 4))) (69 + 8 * m + 3) (nI 0)) (69 + 8 * m + 4) (-6)) (69 + 8 * m + 5) (nI k)) (69 + 8 * m + 6) (nI (14 * r + c))) (69 + 8 * m + 7) (nI w)
theorem okR_1 {s : Nat → Int32} (h : okR s) (x : Int32) : okR (upd s 1 x) := by
  intro k r hk hr
  have e : upd s 1 x (5 + 11 * k + r) = s (5 + 11 * k + r) := pk_un (by omega)
  unfold rN
  rw [e]
  exact h k r hk hr
theorem cutS_out {s : Nat → Int32} {k l w r c : Nat} : ∀ (i j : Nat), (j < 5 + 11 * k + r ∨ 5 + 11 * k + r + i ≤ j) → cutS s k l w r c i j = s j
  | 0, _, _ => rfl
  | i + 1, j, h => by
    rw [cutS, pk_un (by omega)]
    exact cutS_out i j (by omega)
/-- the lowest loose piece of a kind among the first i, else f -/
def loF (s : Nat → Int32) (col lt mi : Int32) : Nat → Int32 → Int32
  | 0, f => f
  | i + 1, f => loF s col lt mi i (if s (69 + 8 * i + 0) = lt ∧ s (69 + 8 * i + 1) = col ∧ s (69 + 8 * i + 2) = mi ∧ s (69 + 8 * i + 3) = 0 then nI i else f)
/-- the piece at a spot -/
def paF (s : Nat → Int32) (v : Int32) : Nat → Int32
  | 0 => -6
  | i + 1 => if s (69 + 8 * i + 4) = v then nI i else paF s v i
def ipF (s : Nat → Int32) (m : Nat) (pane : Int32) : Nat → Int32
  | 0 => nI 0
  | i + 1 => ipF s m pane i + (if paF s (nI 12 * pane + nI i) m = -6 then nI 0 else nI 1)
def putS (s : Nat → Int32) (p : Nat) (v : Int32) : Nat → Int32 := upd (upd s (69 + 8 * p + 3) (nI 1)) (69 + 8 * p + 4) v
set_option maxHeartbeats 4000000 in
set_option maxRecDepth 100000 in
theorem l_sheetFor {G : zG} {hh : zH} {sz mo : Nat} {s fo : Nat → Int32} {τ : Nat → Nat → Int32} {kp ln : Int32} {col : Int32} {l mi n : Nat} (hn : n ≤ 6) (h0 : s 0 = nI n) (hl : l < 8) (hm : mi < 2) (hT : τ 6 = tabI) (hR : okR s) : ∀ (m i : Nat) (f : Nat → Int32), i + m = n → zS MX7_sheetFor G 3 0 0 0 0 (mq G mo s f τ kp ln hh) sz 3 [some (.ref mo), some (.int col), some (.int (nI l)), some (.int (nI mi)), some (.int (nI i))] [] (fun rr hh' ss' kk' nn' => zR (.int (shV s col l mi n m i)) (mq G mo s (shO s col l mi m i f) τ kp ln hh) sz rr hh' ss' ∧ kk' ≤ 0 ∧ nn' ≤ 0) := by
  intro m; induction m with
  | zero =>
    intro i f hi
    refine z_iload dX7_sheetFor_3 rfl ?_
    refine z_aload_n dX7_sheetFor_5 rfl ?_
    refine z_get (ci := 7) (f := 0) dX7_sheetFor_6 ⟨by decide, by decide, zm_663, rfl⟩ mq_o rfl ?_
    refine z_iconst (v := (nI 0)) dX7_sheetFor_9 (by decide) ?_
    refine z_ialdN dX7_sheetFor_10 mq_a0 rfl (by omega) (by decide) ?_
    refine z_eq h0 ?_
    refine z_icmp_ge (tgt := 49) dX7_sheetFor_11 (by decide) (fun c_11 => ?_) (fun c_11 => absurd c_11 (not_not_intro (nI_le (by omega) (by omega))))
    refine z_bipush (v := (-6)) dX7_sheetFor_49 (by decide) ?_
    exact z_iretR dX7_sheetFor_51 rfl (by unfold shV shF; rw [if_neg (by omega)]) rfl rfl (Nat.le_refl _) (Nat.le_refl _)
  | succ m ih =>
    intro i f hi
    refine z_iload dX7_sheetFor_3 rfl ?_
    refine z_aload_n dX7_sheetFor_5 rfl ?_
    refine z_get (ci := 7) (f := 0) dX7_sheetFor_6 ⟨by decide, by decide, zm_663, rfl⟩ mq_o rfl ?_
    refine z_iconst (v := (nI 0)) dX7_sheetFor_9 (by decide) ?_
    refine z_ialdN dX7_sheetFor_10 mq_a0 rfl (by omega) (by decide) ?_
    refine z_eq h0 ?_
    refine z_icmp_ge (tgt := 49) dX7_sheetFor_11 (by decide) (fun c_11 => absurd c_11 (nI_ge (by omega) (by omega))) (fun c_11 => ?_)
    refine z_aload_n dX7_sheetFor_14 rfl ?_
    refine z_get (ci := 7) (f := 0) dX7_sheetFor_15 ⟨by decide, by decide, zm_663, rfl⟩ mq_o rfl ?_
    refine z_iload dX7_sheetFor_18 rfl ?_
    refine z_iconst (v := (nI 0)) dX7_sheetFor_20 (by decide) ?_
    refine z_callSR kn_ofOne dX7_sheetFor_21 ⟨zm_709, zm_711, zm_8, zm_710⟩  (by decide) zp_X7_ofOne rfl (Nat.le_of_ble_eq_true rfl) (Nat.le_refl _) (Nat.le_refl _) ?_
    refine z_ialdN (j := 3 + 11 * i) dX7_sheetFor_24 mq_a0 (by congr 1) (by omega) (by decide) ?_
    refine z_iload_n dX7_sheetFor_25 rfl ?_
    refine z_icmp_ne (tgt := 43) dX7_sheetFor_26 (by decide) (fun c_26 => ?_) (fun c_26 => ?_)
    · have e0 : shF s col l mi (m + 1) i = shF s col l mi m (i + 1) := by rw [shF, if_neg (fun z => c_26 z.1)]
      have e1 : shV s col l mi n (m + 1) i = shV s col l mi n m (i + 1) := by unfold shV; rw [e0]
      have e2 : shO s col l mi (m + 1) i f = shO s col l mi m (i + 1) f := by rw [shO, if_neg c_26]
      rw [e1, e2]
      refine z_iincU dX7_sheetFor_43 rfl (by decide) rfl rfl ?_
      refine z_goto (tgt := 3) dX7_sheetFor_46 (by decide) ?_
      exact ih (i + 1) f (by omega)
    · refine z_aload_n dX7_sheetFor_29 rfl ?_
      refine z_iload dX7_sheetFor_30 rfl ?_
      refine z_iload_n dX7_sheetFor_32 rfl ?_
      refine z_iload_n dX7_sheetFor_33 rfl ?_
      refine z_callVR (ci := 7) (k_X7_findsFit (by omega) hl hm hT hR) dX7_sheetFor_34 ⟨zm_750, zm_753, zm_8, zm_752, zmp_13, by decide⟩ mq_o (by decide) zp_X7_findsFit rfl (Nat.le_of_ble_eq_true rfl) (Nat.le_refl _) (Nat.le_refl _) ?_
      refine z_if_eq (tgt := 43) dX7_sheetFor_37 (by decide) (fun c_37 => ?_) (fun c_37 => ?_)
      · have hf : ¬ ff s i l mi < 504 := by simpa using zb_0 c_37
        have hle : ff s i l mi = 504 := by have := (ffA_le (s := s) (k := i) (l := l) (mi := mi) 504 0).2; unfold ff at hf ⊢; omega
        have e0 : shF s col l mi (m + 1) i = shF s col l mi m (i + 1) := by rw [shF, if_neg (fun z => hf z.2)]
        have e1 : shV s col l mi n (m + 1) i = shV s col l mi n m (i + 1) := by unfold shV; rw [e0]
        have e2 : shO s col l mi (m + 1) i f = shO s col l mi m (i + 1) (fo3 mi 503 f) := by rw [shO, if_pos c_26, if_neg hf]
        rw [e1, e2, show min (ff s i l mi) 503 = 503 by omega]
        refine z_iincU dX7_sheetFor_43 rfl (by decide) rfl rfl ?_
        refine z_goto (tgt := 3) dX7_sheetFor_46 (by decide) ?_
        exact ih (i + 1) _ (by omega)
      · refine z_iload dX7_sheetFor_40 rfl ?_
        have hf : ff s i l mi < 504 := by simpa using zb_1 c_37
        have e1 : shF s col l mi (m + 1) i = i := by rw [shF, if_pos ⟨c_26, hf⟩]
        exact z_iretR dX7_sheetFor_42 rfl (by unfold shV; rw [e1, if_pos (by omega)]) (by rw [shO, if_pos c_26, if_pos hf, show min (ff s i l mi) 503 = ff s i l mi by omega]) rfl (Nat.le_refl _) (Nat.le_refl _)
set_option maxHeartbeats 4000000 in
set_option maxRecDepth 100000 in
theorem k_X7_sheetFor {G : zG} {hh : zH} {sz mo : Nat} {s fo : Nat → Int32} {τ : Nat → Nat → Int32} {kp ln : Int32} {col : Int32} {l mi n : Nat} (hn : n ≤ 6) (h0 : s 0 = nI n) (hl : l < 8) (hm : mi < 2) (hT : τ 6 = tabI) (hR : okR s) : zC G 3 MX7_sheetFor yX7_sheetFor [.ref mo, .int col, .int (nI l), .int (nI mi)] (mq G mo s fo τ kp ln hh) sz 0 0 (zR (.int (shV s col l mi n n 0)) (mq G mo s (shO s col l mi n 0 fo) τ kp ln hh) sz) := by
  refine z_intro _ rfl zy_X7_sheetFor (Nat.le_of_ble_eq_true rfl) ?_
  refine z_iconst (v := (nI 0)) dX7_sheetFor_0 (by decide) ?_
  refine z_istore dX7_sheetFor_1 (by decide) rfl rfl ?_
  exact l_sheetFor (fo := fo) hn h0 hl hm hT hR n 0 fo (Nat.zero_add _)
theorem y_X7_newPiece {s : Nat → Int32} {k l w r c m : Nat} (hm : m < 48) (hk : k < 6) (hr : r + hiN w ≤ 9) : (upd (cutS (upd s 1 (nI (m + 1))) k l w r c (hiN w)) (69 + 8 * m + 0) (nI l)) (3 + 11 * k) = s (3 + 11 * k) := by
  rw [pk_un (by omega), cutS_out _ _ (by omega), pk_un (by omega)]
set_option maxHeartbeats 4000000 in
set_option maxRecDepth 100000 in
theorem k_X7_newPiece {G : zG} {hh : zH} {sz mo : Nat} {s fo : Nat → Int32} {τ : Nat → Nat → Int32} {kp ln : Int32} {k l w r c m : Nat} (hk : k < 6) (hl : l < 8) (hw : w < 8) (hT : τ 6 = tabI) (hR : okR s) (h1 : s 1 = nI m) (hm : m < 48) (hr : r + hiN w ≤ 9) (hc : c < 32) : zC G 2 MX7_newPiece yX7_newPiece [.ref mo, .int (nI k), .int (nI l), .int (nI w), .int (nI r), .int (nI c)] (mq G mo s fo τ kp ln hh) sz 0 0 (zR (.int (nI m)) (mq G mo (newS s m k l w r c) fo τ kp ln hh) sz) := by
  refine z_intro _ rfl zy_X7_newPiece (Nat.le_of_ble_eq_true rfl) ?_
  refine z_aload_n dX7_newPiece_0 rfl ?_
  refine z_get (ci := 7) (f := 0) dX7_newPiece_1 ⟨by decide, by decide, zm_663, rfl⟩ mq_o rfl ?_
  refine z_iconst (v := (nI 1)) dX7_newPiece_4 (by decide) ?_
  refine z_ialdN dX7_newPiece_5 mq_a0 rfl (by omega) (by decide) ?_
  refine z_eq h1 ?_
  refine z_istore dX7_newPiece_6 (by decide) rfl rfl ?_
  refine z_aload_n dX7_newPiece_8 rfl ?_
  refine z_get (ci := 7) (f := 0) dX7_newPiece_9 ⟨by decide, by decide, zm_663, rfl⟩ mq_o rfl ?_
  refine z_iconst (v := (nI 1)) dX7_newPiece_12 (by decide) ?_
  refine z_dup2 dX7_newPiece_13 rfl rfl ?_
  refine z_ialdN dX7_newPiece_14 mq_a0 rfl (by omega) (by decide) ?_
  refine z_eq h1 ?_
  refine z_iconst (v := (nI 1)) dX7_newPiece_15 (by decide) ?_
  refine z_iaddN dX7_newPiece_16 ?_
  refine z_iastN dX7_newPiece_17 mq_a0 rfl (by omega) (by decide) ?_
  refine z_heap mq_u0 ?_
  refine z_aload_n dX7_newPiece_18 rfl ?_
  refine z_iload_n dX7_newPiece_19 rfl ?_
  refine z_iload_n dX7_newPiece_20 rfl ?_
  refine z_iload_n dX7_newPiece_21 rfl ?_
  refine z_iload dX7_newPiece_22 rfl ?_
  refine z_iload dX7_newPiece_24 rfl ?_
  refine z_callVU (ci := 7) (k_X7_cutsOut hk hl hw hT (okR_1 hR _) hr hc) dX7_newPiece_26 ⟨zm_735, zm_738, zm_8, zm_737, zmp_11, by decide⟩ mq_o (by decide) zp_X7_cutsOut rfl (Nat.le_of_ble_eq_true rfl) (Nat.le_refl _) (Nat.le_refl _) ?_
  refine z_aload_n dX7_newPiece_29 rfl ?_
  refine z_get (ci := 7) (f := 0) dX7_newPiece_30 ⟨by decide, by decide, zm_663, rfl⟩ mq_o rfl ?_
  refine z_iload dX7_newPiece_33 rfl ?_
  refine z_iconst (v := (nI 0)) dX7_newPiece_35 (by decide) ?_
  refine z_callSR kn_at dX7_newPiece_36 ⟨zm_739, zm_741, zm_8, zm_740⟩  (by decide) zp_X7_at rfl (Nat.le_of_ble_eq_true rfl) (Nat.le_refl _) (Nat.le_refl _) ?_
  refine z_iload_n dX7_newPiece_39 rfl ?_
  refine z_iastN dX7_newPiece_40 mq_a0 rfl (by omega) (by decide) ?_
  refine z_heap mq_u0 ?_
  refine z_aload_n dX7_newPiece_41 rfl ?_
  refine z_get (ci := 7) (f := 0) dX7_newPiece_42 ⟨by decide, by decide, zm_663, rfl⟩ mq_o rfl ?_
  refine z_iload dX7_newPiece_45 rfl ?_
  refine z_iconst (v := (nI 1)) dX7_newPiece_47 (by decide) ?_
  refine z_callSR kn_at dX7_newPiece_48 ⟨zm_739, zm_741, zm_8, zm_740⟩  (by decide) zp_X7_at rfl (Nat.le_of_ble_eq_true rfl) (Nat.le_refl _) (Nat.le_refl _) ?_
  refine z_aload_n dX7_newPiece_51 rfl ?_
  refine z_get (ci := 7) (f := 0) dX7_newPiece_52 ⟨by decide, by decide, zm_663, rfl⟩ mq_o rfl ?_
  refine z_iload_n dX7_newPiece_55 rfl ?_
  refine z_iconst (v := (nI 0)) dX7_newPiece_56 (by decide) ?_
  refine z_callSR kn_ofOne dX7_newPiece_57 ⟨zm_709, zm_711, zm_8, zm_710⟩  (by decide) zp_X7_ofOne rfl (Nat.le_of_ble_eq_true rfl) (Nat.le_refl _) (Nat.le_refl _) ?_
  refine z_ialdN (j := 3 + 11 * k) dX7_newPiece_60 mq_a0 (by congr 1) (by omega) (by decide) ?_
  refine z_eq (y_X7_newPiece hm hk hr) ?_
  refine z_iastN dX7_newPiece_61 mq_a0 rfl (by omega) (by decide) ?_
  refine z_heap mq_u0 ?_
  refine z_aload_n dX7_newPiece_62 rfl ?_
  refine z_get (ci := 7) (f := 0) dX7_newPiece_63 ⟨by decide, by decide, zm_663, rfl⟩ mq_o rfl ?_
  refine z_iload dX7_newPiece_66 rfl ?_
  refine z_iconst (v := (nI 2)) dX7_newPiece_68 (by decide) ?_
  refine z_callSR kn_at dX7_newPiece_69 ⟨zm_739, zm_741, zm_8, zm_740⟩  (by decide) zp_X7_at rfl (Nat.le_of_ble_eq_true rfl) (Nat.le_refl _) (Nat.le_refl _) ?_
  refine z_iload_n dX7_newPiece_72 rfl ?_
  refine z_iconst (v := (nI 4)) dX7_newPiece_73 (by decide) ?_
  refine z_idivN dX7_newPiece_74 (by omega) (by omega) (by omega) ?_
  refine z_iastN dX7_newPiece_75 mq_a0 rfl (by omega) (by decide) ?_
  refine z_heap mq_u0 ?_
  refine z_aload_n dX7_newPiece_76 rfl ?_
  refine z_get (ci := 7) (f := 0) dX7_newPiece_77 ⟨by decide, by decide, zm_663, rfl⟩ mq_o rfl ?_
  refine z_iload dX7_newPiece_80 rfl ?_
  refine z_iconst (v := (nI 3)) dX7_newPiece_82 (by decide) ?_
  refine z_callSR kn_at dX7_newPiece_83 ⟨zm_739, zm_741, zm_8, zm_740⟩  (by decide) zp_X7_at rfl (Nat.le_of_ble_eq_true rfl) (Nat.le_refl _) (Nat.le_refl _) ?_
  refine z_iconst (v := (nI 0)) dX7_newPiece_86 (by decide) ?_
  refine z_iastN dX7_newPiece_87 mq_a0 rfl (by omega) (by decide) ?_
  refine z_heap mq_u0 ?_
  refine z_aload_n dX7_newPiece_88 rfl ?_
  refine z_get (ci := 7) (f := 0) dX7_newPiece_89 ⟨by decide, by decide, zm_663, rfl⟩ mq_o rfl ?_
  refine z_iload dX7_newPiece_92 rfl ?_
  refine z_iconst (v := (nI 4)) dX7_newPiece_94 (by decide) ?_
  refine z_callSR kn_at dX7_newPiece_95 ⟨zm_739, zm_741, zm_8, zm_740⟩  (by decide) zp_X7_at rfl (Nat.le_of_ble_eq_true rfl) (Nat.le_refl _) (Nat.le_refl _) ?_
  refine z_bipush (v := (-6)) dX7_newPiece_98 (by decide) ?_
  refine z_iastN dX7_newPiece_100 mq_a0 rfl (by omega) (by decide) ?_
  refine z_heap mq_u0 ?_
  refine z_aload_n dX7_newPiece_101 rfl ?_
  refine z_get (ci := 7) (f := 0) dX7_newPiece_102 ⟨by decide, by decide, zm_663, rfl⟩ mq_o rfl ?_
  refine z_iload dX7_newPiece_105 rfl ?_
  refine z_iconst (v := (nI 5)) dX7_newPiece_107 (by decide) ?_
  refine z_callSR kn_at dX7_newPiece_108 ⟨zm_739, zm_741, zm_8, zm_740⟩  (by decide) zp_X7_at rfl (Nat.le_of_ble_eq_true rfl) (Nat.le_refl _) (Nat.le_refl _) ?_
  refine z_iload_n dX7_newPiece_111 rfl ?_
  refine z_iastN dX7_newPiece_112 mq_a0 rfl (by omega) (by decide) ?_
  refine z_heap mq_u0 ?_
  refine z_aload_n dX7_newPiece_113 rfl ?_
  refine z_get (ci := 7) (f := 0) dX7_newPiece_114 ⟨by decide, by decide, zm_663, rfl⟩ mq_o rfl ?_
  refine z_iload dX7_newPiece_117 rfl ?_
  refine z_bipush (v := (nI 6)) dX7_newPiece_119 (by decide) ?_
  refine z_callSR kn_at dX7_newPiece_121 ⟨zm_739, zm_741, zm_8, zm_740⟩  (by decide) zp_X7_at rfl (Nat.le_of_ble_eq_true rfl) (Nat.le_refl _) (Nat.le_refl _) ?_
  refine z_bipush (v := (nI 14)) dX7_newPiece_124 (by decide) ?_
  refine z_iload dX7_newPiece_126 rfl ?_
  refine z_imulN dX7_newPiece_128 ?_
  refine z_iload dX7_newPiece_129 rfl ?_
  refine z_iaddN dX7_newPiece_131 ?_
  refine z_iastN dX7_newPiece_132 mq_a0 rfl (by omega) (by decide) ?_
  refine z_heap mq_u0 ?_
  refine z_aload_n dX7_newPiece_133 rfl ?_
  refine z_get (ci := 7) (f := 0) dX7_newPiece_134 ⟨by decide, by decide, zm_663, rfl⟩ mq_o rfl ?_
  refine z_iload dX7_newPiece_137 rfl ?_
  refine z_bipush (v := (nI 7)) dX7_newPiece_139 (by decide) ?_
  refine z_callSR kn_at dX7_newPiece_141 ⟨zm_739, zm_741, zm_8, zm_740⟩  (by decide) zp_X7_at rfl (Nat.le_of_ble_eq_true rfl) (Nat.le_refl _) (Nat.le_refl _) ?_
  refine z_iload_n dX7_newPiece_144 rfl ?_
  refine z_iastN dX7_newPiece_145 mq_a0 rfl (by omega) (by decide) ?_
  refine z_heap mq_u0 ?_
  refine z_iload dX7_newPiece_146 rfl ?_
  exact z_iretR dX7_newPiece_148 rfl rfl rfl rfl (Nat.le_refl _) (Nat.le_refl _)
set_option maxHeartbeats 4000000 in
set_option maxRecDepth 100000 in
theorem l_looseOne {G : zG} {hh : zH} {sz mo : Nat} {s fo : Nat → Int32} {τ : Nat → Nat → Int32} {kp ln : Int32} {col lt mi : Int32} {m : Nat} (h1 : s 1 = nI m) (hm : m ≤ 48) : ∀ (i : Nat) (f : Int32) (p6 : Option Value), i ≤ 48 → zS MX7_looseOne G 1 0 0 0 0 (mq G mo s fo τ kp ln hh) sz 14 [some (.ref mo), some (.int col), some (.int lt), some (.int mi), some (.int f), some (.int (nI i - nI 1)), p6] [] (fun rr hh' ss' kk' nn' => zR (.int (loF s col lt mi i f)) (mq G mo s fo τ kp ln hh) sz rr hh' ss' ∧ kk' ≤ 0 ∧ nn' ≤ 0) := by
  intro i; induction i with
  | zero =>
    intro f p6 hi
    refine z_iload dX7_looseOne_14 rfl ?_
    refine z_if_lt (tgt := 105) dX7_looseOne_16 (by decide) (fun c_16 => ?_) (fun c_16 => absurd c_16 (not_not_intro (by decide)))
    refine z_iload dX7_looseOne_105 rfl ?_
    exact z_iretR dX7_looseOne_107 rfl rfl rfl rfl (Nat.le_refl _) (Nat.le_refl _)
  | succ i ih =>
    intro f p6 hi
    refine z_iload dX7_looseOne_14 rfl ?_
    rw [pk_sub (show 1 ≤ i + 1 by omega), Nat.add_sub_cancel]
    refine z_if_lt (tgt := 105) dX7_looseOne_16 (by decide) (fun c_16 => absurd c_16 (nI_pos (by omega))) (fun c_16 => ?_)
    refine z_aload_n dX7_looseOne_19 rfl ?_
    refine z_get (ci := 7) (f := 0) dX7_looseOne_20 ⟨by decide, by decide, zm_663, rfl⟩ mq_o rfl ?_
    refine z_iload dX7_looseOne_23 rfl ?_
    refine z_iconst (v := (nI 0)) dX7_looseOne_25 (by decide) ?_
    refine z_callSR kn_at dX7_looseOne_26 ⟨zm_739, zm_741, zm_8, zm_740⟩  (by decide) zp_X7_at rfl (Nat.le_of_ble_eq_true rfl) (Nat.le_refl _) (Nat.le_refl _) ?_
    refine z_ialdN dX7_looseOne_29 mq_a0 rfl (by omega) (by decide) ?_
    refine z_iload_n dX7_looseOne_30 rfl ?_
    refine z_icmp_ne (tgt := 68) dX7_looseOne_31 (by decide) (fun c_31 => ?_) (fun c_31 => ?_)
    · refine z_iconst (v := (nI 0)) dX7_looseOne_68 (by decide) ?_
      refine z_istore dX7_looseOne_69 (by decide) rfl rfl ?_
      refine z_iload dX7_looseOne_71 rfl ?_
      refine z_if_eq (tgt := 95) dX7_looseOne_73 (by decide) (fun c_73 => ?_) (fun c_73 => absurd c_73 (by decide))
      refine z_iload dX7_looseOne_95 rfl ?_
      refine z_istore dX7_looseOne_97 (by decide) rfl rfl ?_
      refine z_iincM dX7_looseOne_99 rfl (by decide) rfl rfl ?_
      refine z_goto (tgt := 14) dX7_looseOne_102 (by decide) ?_
      have e1 : loF s col lt mi (i + 1) f = loF s col lt mi i f := by rw [loF, if_neg (fun z => c_31 z.1)]
      rw [e1]
      exact ih _ _ (by omega)
    · refine z_aload_n dX7_looseOne_34 rfl ?_
      refine z_get (ci := 7) (f := 0) dX7_looseOne_35 ⟨by decide, by decide, zm_663, rfl⟩ mq_o rfl ?_
      refine z_iload dX7_looseOne_38 rfl ?_
      refine z_iconst (v := (nI 1)) dX7_looseOne_40 (by decide) ?_
      refine z_callSR kn_at dX7_looseOne_41 ⟨zm_739, zm_741, zm_8, zm_740⟩  (by decide) zp_X7_at rfl (Nat.le_of_ble_eq_true rfl) (Nat.le_refl _) (Nat.le_refl _) ?_
      refine z_ialdN dX7_looseOne_44 mq_a0 rfl (by omega) (by decide) ?_
      refine z_iload_n dX7_looseOne_45 rfl ?_
      refine z_icmp_ne (tgt := 68) dX7_looseOne_46 (by decide) (fun c_46 => ?_) (fun c_46 => ?_)
      · refine z_iconst (v := (nI 0)) dX7_looseOne_68 (by decide) ?_
        refine z_istore dX7_looseOne_69 (by decide) rfl rfl ?_
        refine z_iload dX7_looseOne_71 rfl ?_
        refine z_if_eq (tgt := 95) dX7_looseOne_73 (by decide) (fun c_73 => ?_) (fun c_73 => absurd c_73 (by decide))
        refine z_iload dX7_looseOne_95 rfl ?_
        refine z_istore dX7_looseOne_97 (by decide) rfl rfl ?_
        refine z_iincM dX7_looseOne_99 rfl (by decide) rfl rfl ?_
        refine z_goto (tgt := 14) dX7_looseOne_102 (by decide) ?_
        have e1 : loF s col lt mi (i + 1) f = loF s col lt mi i f := by rw [loF, if_neg (fun z => c_46 z.2.1)]
        rw [e1]
        exact ih _ _ (by omega)
      · refine z_aload_n dX7_looseOne_49 rfl ?_
        refine z_get (ci := 7) (f := 0) dX7_looseOne_50 ⟨by decide, by decide, zm_663, rfl⟩ mq_o rfl ?_
        refine z_iload dX7_looseOne_53 rfl ?_
        refine z_iconst (v := (nI 2)) dX7_looseOne_55 (by decide) ?_
        refine z_callSR kn_at dX7_looseOne_56 ⟨zm_739, zm_741, zm_8, zm_740⟩  (by decide) zp_X7_at rfl (Nat.le_of_ble_eq_true rfl) (Nat.le_refl _) (Nat.le_refl _) ?_
        refine z_ialdN dX7_looseOne_59 mq_a0 rfl (by omega) (by decide) ?_
        refine z_iload_n dX7_looseOne_60 rfl ?_
        refine z_icmp_ne (tgt := 68) dX7_looseOne_61 (by decide) (fun c_61 => ?_) (fun c_61 => ?_)
        · refine z_iconst (v := (nI 0)) dX7_looseOne_68 (by decide) ?_
          refine z_istore dX7_looseOne_69 (by decide) rfl rfl ?_
          refine z_iload dX7_looseOne_71 rfl ?_
          refine z_if_eq (tgt := 95) dX7_looseOne_73 (by decide) (fun c_73 => ?_) (fun c_73 => absurd c_73 (by decide))
          refine z_iload dX7_looseOne_95 rfl ?_
          refine z_istore dX7_looseOne_97 (by decide) rfl rfl ?_
          refine z_iincM dX7_looseOne_99 rfl (by decide) rfl rfl ?_
          refine z_goto (tgt := 14) dX7_looseOne_102 (by decide) ?_
          have e1 : loF s col lt mi (i + 1) f = loF s col lt mi i f := by rw [loF, if_neg (fun z => c_61 z.2.2.1)]
          rw [e1]
          exact ih _ _ (by omega)
        · refine z_iconst (v := (nI 1)) dX7_looseOne_64 (by decide) ?_
          refine z_goto (tgt := 69) dX7_looseOne_65 (by decide) ?_
          refine z_istore dX7_looseOne_69 (by decide) rfl rfl ?_
          refine z_iload dX7_looseOne_71 rfl ?_
          refine z_if_eq (tgt := 95) dX7_looseOne_73 (by decide) (fun c_73 => absurd c_73 (by decide)) (fun c_73 => ?_)
          refine z_aload_n dX7_looseOne_76 rfl ?_
          refine z_get (ci := 7) (f := 0) dX7_looseOne_77 ⟨by decide, by decide, zm_663, rfl⟩ mq_o rfl ?_
          refine z_iload dX7_looseOne_80 rfl ?_
          refine z_iconst (v := (nI 3)) dX7_looseOne_82 (by decide) ?_
          refine z_callSR kn_at dX7_looseOne_83 ⟨zm_739, zm_741, zm_8, zm_740⟩  (by decide) zp_X7_at rfl (Nat.le_of_ble_eq_true rfl) (Nat.le_refl _) (Nat.le_refl _) ?_
          refine z_ialdN dX7_looseOne_86 mq_a0 rfl (by omega) (by decide) ?_
          refine z_if_ne (tgt := 95) dX7_looseOne_87 (by decide) (fun c_87 => ?_) (fun c_87 => ?_)
          · refine z_iload dX7_looseOne_95 rfl ?_
            refine z_istore dX7_looseOne_97 (by decide) rfl rfl ?_
            refine z_iincM dX7_looseOne_99 rfl (by decide) rfl rfl ?_
            refine z_goto (tgt := 14) dX7_looseOne_102 (by decide) ?_
            have e1 : loF s col lt mi (i + 1) f = loF s col lt mi i f := by rw [loF, if_neg (fun z => c_87 z.2.2.2)]
            rw [e1]
            exact ih _ _ (by omega)
          · refine z_iload dX7_looseOne_90 rfl ?_
            refine z_goto (tgt := 97) dX7_looseOne_92 (by decide) ?_
            refine z_istore dX7_looseOne_97 (by decide) rfl rfl ?_
            refine z_iincM dX7_looseOne_99 rfl (by decide) rfl rfl ?_
            refine z_goto (tgt := 14) dX7_looseOne_102 (by decide) ?_
            have e1 : loF s col lt mi (i + 1) f = loF s col lt mi i (nI i) := by rw [loF, if_pos ⟨c_31, c_46, c_61, c_87⟩]
            rw [e1]
            exact ih _ _ (by omega)
set_option maxHeartbeats 4000000 in
set_option maxRecDepth 100000 in
theorem k_X7_looseOne {G : zG} {hh : zH} {sz mo : Nat} {s fo : Nat → Int32} {τ : Nat → Nat → Int32} {kp ln : Int32} {col lt mi : Int32} {m : Nat} (h1 : s 1 = nI m) (hm : m ≤ 48) : zC G 1 MX7_looseOne yX7_looseOne [.ref mo, .int col, .int lt, .int mi] (mq G mo s fo τ kp ln hh) sz 0 0 (zR (.int (loF s col lt mi m (-6))) (mq G mo s fo τ kp ln hh) sz) := by
  refine z_intro _ rfl zy_X7_looseOne (Nat.le_of_ble_eq_true rfl) ?_
  refine z_bipush (v := (-6)) dX7_looseOne_0 (by decide) ?_
  refine z_istore dX7_looseOne_2 (by decide) rfl rfl ?_
  refine z_aload_n dX7_looseOne_4 rfl ?_
  refine z_get (ci := 7) (f := 0) dX7_looseOne_5 ⟨by decide, by decide, zm_663, rfl⟩ mq_o rfl ?_
  refine z_iconst (v := (nI 1)) dX7_looseOne_8 (by decide) ?_
  refine z_ialdN dX7_looseOne_9 mq_a0 rfl (by omega) (by decide) ?_
  refine z_eq h1 ?_
  refine z_iconst (v := (nI 1)) dX7_looseOne_10 (by decide) ?_
  refine z_isub dX7_looseOne_11 ?_
  refine z_istore dX7_looseOne_12 (by decide) rfl rfl ?_
  exact l_looseOne h1 hm m _ _ hm
set_option maxHeartbeats 4000000 in
set_option maxRecDepth 100000 in
theorem l_pieceAt {G : zG} {hh : zH} {sz mo : Nat} {s fo : Nat → Int32} {τ : Nat → Nat → Int32} {kp ln : Int32} {pane place : Int32} {m : Nat} (h1 : s 1 = nI m) (hm : m ≤ 48) : ∀ (n i : Nat), i + n = m → zS MX7_pieceAt G 1 0 0 0 0 (mq G mo s fo τ kp ln hh) sz 6 [some (.ref mo), some (.int pane), some (.int place), some (.int (paF s (nI 12 * pane + place) i)), some (.int (nI i))] [] (fun rr hh' ss' kk' nn' => zR (.int (paF s (nI 12 * pane + place) m)) (mq G mo s fo τ kp ln hh) sz rr hh' ss' ∧ kk' ≤ 0 ∧ nn' ≤ 0) := by
  intro n; induction n with
  | zero =>
    intro i hi
    refine z_iload dX7_pieceAt_6 rfl ?_
    refine z_aload_n dX7_pieceAt_8 rfl ?_
    refine z_get (ci := 7) (f := 0) dX7_pieceAt_9 ⟨by decide, by decide, zm_663, rfl⟩ mq_o rfl ?_
    refine z_iconst (v := (nI 1)) dX7_pieceAt_12 (by decide) ?_
    refine z_ialdN dX7_pieceAt_13 mq_a0 rfl (by omega) (by decide) ?_
    refine z_eq h1 ?_
    refine z_icmp_ge (tgt := 50) dX7_pieceAt_14 (by decide) (fun c_14 => ?_) (fun c_14 => absurd c_14 (not_not_intro (nI_le (by omega) (by omega))))
    refine z_iload_n dX7_pieceAt_50 rfl ?_
    exact z_iretR dX7_pieceAt_51 rfl (by rw [show i = m by omega]) rfl rfl (Nat.le_refl _) (Nat.le_refl _)
  | succ n ih =>
    intro i hi
    refine z_iload dX7_pieceAt_6 rfl ?_
    refine z_aload_n dX7_pieceAt_8 rfl ?_
    refine z_get (ci := 7) (f := 0) dX7_pieceAt_9 ⟨by decide, by decide, zm_663, rfl⟩ mq_o rfl ?_
    refine z_iconst (v := (nI 1)) dX7_pieceAt_12 (by decide) ?_
    refine z_ialdN dX7_pieceAt_13 mq_a0 rfl (by omega) (by decide) ?_
    refine z_eq h1 ?_
    refine z_icmp_ge (tgt := 50) dX7_pieceAt_14 (by decide) (fun c_14 => absurd c_14 (nI_ge (by omega) (by omega))) (fun c_14 => ?_)
    refine z_aload_n dX7_pieceAt_17 rfl ?_
    refine z_get (ci := 7) (f := 0) dX7_pieceAt_18 ⟨by decide, by decide, zm_663, rfl⟩ mq_o rfl ?_
    refine z_iload dX7_pieceAt_21 rfl ?_
    refine z_iconst (v := (nI 4)) dX7_pieceAt_23 (by decide) ?_
    refine z_callSR kn_at dX7_pieceAt_24 ⟨zm_739, zm_741, zm_8, zm_740⟩  (by decide) zp_X7_at rfl (Nat.le_of_ble_eq_true rfl) (Nat.le_refl _) (Nat.le_refl _) ?_
    refine z_ialdN (j := 69 + 8 * i + 4) dX7_pieceAt_27 mq_a0 rfl (by omega) (by decide) ?_
    refine z_bipush (v := (nI 12)) dX7_pieceAt_28 (by decide) ?_
    refine z_iload_n dX7_pieceAt_30 rfl ?_
    refine z_imul dX7_pieceAt_31 ?_
    refine z_iload_n dX7_pieceAt_32 rfl ?_
    refine z_iadd dX7_pieceAt_33 ?_
    refine z_icmp_ne (tgt := 42) dX7_pieceAt_34 (by decide) (fun c_34 => ?_) (fun c_34 => ?_)
    · refine z_iload_n dX7_pieceAt_42 rfl ?_
      refine z_istore_n dX7_pieceAt_43 (by decide) rfl rfl ?_
      refine z_iincU dX7_pieceAt_44 rfl (by decide) rfl rfl ?_
      refine z_goto (tgt := 6) dX7_pieceAt_47 (by decide) ?_
      have e1 := ih (i + 1) (by omega)
      rw [show paF s (nI 12 * pane + place) (i + 1) = paF s (nI 12 * pane + place) i from by rw [paF, if_neg c_34]] at e1
      exact e1
    · refine z_iload dX7_pieceAt_37 rfl ?_
      refine z_goto (tgt := 43) dX7_pieceAt_39 (by decide) ?_
      refine z_istore_n dX7_pieceAt_43 (by decide) rfl rfl ?_
      refine z_iincU dX7_pieceAt_44 rfl (by decide) rfl rfl ?_
      refine z_goto (tgt := 6) dX7_pieceAt_47 (by decide) ?_
      have e1 := ih (i + 1) (by omega)
      rw [show paF s (nI 12 * pane + place) (i + 1) = nI i from by rw [paF, if_pos c_34]] at e1
      exact e1
set_option maxHeartbeats 4000000 in
set_option maxRecDepth 100000 in
theorem k_X7_pieceAt {G : zG} {hh : zH} {sz mo : Nat} {s fo : Nat → Int32} {τ : Nat → Nat → Int32} {kp ln : Int32} {pane place : Int32} {m : Nat} (h1 : s 1 = nI m) (hm : m ≤ 48) : zC G 1 MX7_pieceAt yX7_pieceAt [.ref mo, .int pane, .int place] (mq G mo s fo τ kp ln hh) sz 0 0 (zR (.int (paF s (nI 12 * pane + place) m)) (mq G mo s fo τ kp ln hh) sz) := by
  refine z_intro _ rfl zy_X7_pieceAt (Nat.le_of_ble_eq_true rfl) ?_
  refine z_bipush (v := (-6)) dX7_pieceAt_0 (by decide) ?_
  refine z_istore_n dX7_pieceAt_2 (by decide) rfl rfl ?_
  refine z_iconst (v := (nI 0)) dX7_pieceAt_3 (by decide) ?_
  refine z_istore dX7_pieceAt_4 (by decide) rfl rfl ?_
  exact l_pieceAt h1 hm m 0 (Nat.zero_add _)
set_option maxHeartbeats 4000000 in
set_option maxRecDepth 100000 in
theorem l_inPane {G : zG} {hh : zH} {sz mo : Nat} {s fo : Nat → Int32} {τ : Nat → Nat → Int32} {kp ln : Int32} {pane : Int32} {m : Nat} (h1 : s 1 = nI m) (hm : m ≤ 48) : ∀ (n i : Nat), i + n = 12 → zS MX7_inPane G 2 0 0 0 0 (mq G mo s fo τ kp ln hh) sz 4 [some (.ref mo), some (.int pane), some (.int (ipF s m pane i)), some (.int (nI i))] [] (fun rr hh' ss' kk' nn' => zR (.int (ipF s m pane 12)) (mq G mo s fo τ kp ln hh) sz rr hh' ss' ∧ kk' ≤ 0 ∧ nn' ≤ 0) := by
  intro n; induction n with
  | zero =>
    intro i hi
    refine z_iload_n dX7_inPane_4 rfl ?_
    refine z_bipush (v := (nI 12)) dX7_inPane_5 (by decide) ?_
    refine z_icmp_ge (tgt := 35) dX7_inPane_7 (by decide) (fun c_7 => ?_) (fun c_7 => absurd c_7 (not_not_intro (nI_le (by omega) (by omega))))
    refine z_iload_n dX7_inPane_35 rfl ?_
    exact z_iretR dX7_inPane_36 rfl (by rw [show i = 12 by omega]) rfl rfl (Nat.le_refl _) (Nat.le_refl _)
  | succ n ih =>
    intro i hi
    refine z_iload_n dX7_inPane_4 rfl ?_
    refine z_bipush (v := (nI 12)) dX7_inPane_5 (by decide) ?_
    refine z_icmp_ge (tgt := 35) dX7_inPane_7 (by decide) (fun c_7 => absurd c_7 (nI_ge (by omega) (by omega))) (fun c_7 => ?_)
    refine z_iload_n dX7_inPane_10 rfl ?_
    refine z_aload_n dX7_inPane_11 rfl ?_
    refine z_iload_n dX7_inPane_12 rfl ?_
    refine z_iload_n dX7_inPane_13 rfl ?_
    refine z_callVR (ci := 7) (k_X7_pieceAt h1 hm) dX7_inPane_14 ⟨zm_780, zm_783, zm_8, zm_782, zmp_17, by decide⟩ mq_o (by decide) zp_X7_pieceAt rfl (Nat.le_of_ble_eq_true rfl) (Nat.le_refl _) (Nat.le_refl _) ?_
    refine z_bipush (v := (-6)) dX7_inPane_17 (by decide) ?_
    refine z_icmp_ne (tgt := 26) dX7_inPane_19 (by decide) (fun c_19 => ?_) (fun c_19 => ?_)
    · refine z_iconst (v := (nI 1)) dX7_inPane_26 (by decide) ?_
      refine z_iadd dX7_inPane_27 ?_
      refine z_istore_n dX7_inPane_28 (by decide) rfl rfl ?_
      refine z_iincU dX7_inPane_29 rfl (by decide) rfl rfl ?_
      refine z_goto (tgt := 4) dX7_inPane_32 (by decide) ?_
      have e1 := ih (i + 1) (by omega)
      rw [ipF, if_neg c_19] at e1
      exact e1
    · refine z_iconst (v := (nI 0)) dX7_inPane_22 (by decide) ?_
      refine z_goto (tgt := 27) dX7_inPane_23 (by decide) ?_
      refine z_iadd dX7_inPane_27 ?_
      refine z_istore_n dX7_inPane_28 (by decide) rfl rfl ?_
      refine z_iincU dX7_inPane_29 rfl (by decide) rfl rfl ?_
      refine z_goto (tgt := 4) dX7_inPane_32 (by decide) ?_
      have e1 := ih (i + 1) (by omega)
      rw [ipF, if_pos c_19] at e1
      exact e1
set_option maxHeartbeats 4000000 in
set_option maxRecDepth 100000 in
theorem k_X7_inPane {G : zG} {hh : zH} {sz mo : Nat} {s fo : Nat → Int32} {τ : Nat → Nat → Int32} {kp ln : Int32} {pane : Int32} {m : Nat} (h1 : s 1 = nI m) (hm : m ≤ 48) : zC G 2 MX7_inPane yX7_inPane [.ref mo, .int pane] (mq G mo s fo τ kp ln hh) sz 0 0 (zR (.int (ipF s m pane 12)) (mq G mo s fo τ kp ln hh) sz) := by
  refine z_intro _ rfl zy_X7_inPane (Nat.le_of_ble_eq_true rfl) ?_
  refine z_iconst (v := (nI 0)) dX7_inPane_0 (by decide) ?_
  refine z_istore_n dX7_inPane_1 (by decide) rfl rfl ?_
  refine z_iconst (v := (nI 0)) dX7_inPane_2 (by decide) ?_
  refine z_istore_n dX7_inPane_3 (by decide) rfl rfl ?_
  exact l_inPane h1 hm 12 0 (Nat.zero_add _)
set_option maxHeartbeats 4000000 in
set_option maxRecDepth 100000 in
theorem k_X7_puts {G : zG} {hh : zH} {sz mo : Nat} {s fo : Nat → Int32} {τ : Nat → Nat → Int32} {kp ln : Int32} {p : Nat} {pane place : Int32} (hp : p < 48) : zC G 1 MX7_puts yX7_puts [.ref mo, .int (nI p), .int pane, .int place] (mq G mo s fo τ kp ln hh) sz 0 0 (zV (mq G mo (putS s p (nI 12 * pane + place)) fo τ kp ln hh) sz) := by
  refine z_intro _ rfl zy_X7_puts (Nat.le_of_ble_eq_true rfl) ?_
  refine z_aload_n dX7_puts_0 rfl ?_
  refine z_get (ci := 7) (f := 0) dX7_puts_1 ⟨by decide, by decide, zm_663, rfl⟩ mq_o rfl ?_
  refine z_iload_n dX7_puts_4 rfl ?_
  refine z_iconst (v := (nI 3)) dX7_puts_5 (by decide) ?_
  refine z_callSR kn_at dX7_puts_6 ⟨zm_739, zm_741, zm_8, zm_740⟩  (by decide) zp_X7_at rfl (Nat.le_of_ble_eq_true rfl) (Nat.le_refl _) (Nat.le_refl _) ?_
  refine z_iconst (v := (nI 1)) dX7_puts_9 (by decide) ?_
  refine z_iastN (j := 69 + 8 * p + 3) dX7_puts_10 mq_a0 rfl (by omega) (by decide) ?_
  refine z_heap mq_u0 ?_
  refine z_aload_n dX7_puts_11 rfl ?_
  refine z_get (ci := 7) (f := 0) dX7_puts_12 ⟨by decide, by decide, zm_663, rfl⟩ mq_o rfl ?_
  refine z_iload_n dX7_puts_15 rfl ?_
  refine z_iconst (v := (nI 4)) dX7_puts_16 (by decide) ?_
  refine z_callSR kn_at dX7_puts_17 ⟨zm_739, zm_741, zm_8, zm_740⟩  (by decide) zp_X7_at rfl (Nat.le_of_ble_eq_true rfl) (Nat.le_refl _) (Nat.le_refl _) ?_
  refine z_bipush (v := (nI 12)) dX7_puts_20 (by decide) ?_
  refine z_iload_n dX7_puts_22 rfl ?_
  refine z_imul dX7_puts_23 ?_
  refine z_iload_n dX7_puts_24 rfl ?_
  refine z_iadd dX7_puts_25 ?_
  refine z_iastN (j := 69 + 8 * p + 4) dX7_puts_26 mq_a0 rfl (by omega) (by decide) ?_
  refine z_heap mq_u0 ?_
  exact z_vretV dX7_puts_27 rfl rfl rfl (Nat.le_refl _) (Nat.le_refl _)
