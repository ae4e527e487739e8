/-- the row of numbers behind n rows of a letter that is cut out -/
def cutS (s : Nat → Int32) (k l w r c : Nat) : Nat → (Nat → Int32)
  | 0 => s
  | i + 1 => upd (cutS s k l w r c i) (5 + 11 * k + (r + i)) (nI (rN s k (r + i) ||| tabN (40 * l + 5 * w + i) * 2 ^ c))
theorem cutS_ge {s : Nat → Int32} {k l w r c i j : Nat} (h : i ≤ j) : cutS s k l w r c i (5 + 11 * k + (r + j)) = s (5 + 11 * k + (r + j)) := by
  induction i with
  | zero => rfl
  | succ i ih =>
    unfold cutS
    rw [pk_un (by omega)]
    exact ih (by omega)
def uncA (s : Nat → Int32) (k : Nat) : Nat → Int32
  | 0 => nI 126
  | i + 1 => uncA s k i - nI (popc (rN s k i))
def canQ (s : Nat → Int32) (k l mi q : Nat) : Bool := canC s k l (4 * mi + q % 4) (q / 4 / 14) (q / 4 % 14)
/-- the first place and way from q on, of n -/
def ffA (s : Nat → Int32) (k l mi : Nat) : Nat → Nat → Nat
  | 0, q => q
  | n + 1, q => if canQ s k l mi q = true then q else ffA s k l mi n (q + 1)
def ff (s : Nat → Int32) (k l mi : Nat) : Nat := ffA s k l mi 504 0
theorem ffA_le {s : Nat → Int32} {k l mi : Nat} : ∀ n q, q ≤ ffA s k l mi n q ∧ ffA s k l mi n q ≤ q + n
  | 0, q => ⟨Nat.le_refl _, Nat.le_refl _⟩
  | n + 1, q => by
    unfold ffA
    split
    · omega
    · have := ffA_le (s := s) (k := k) (l := l) (mi := mi) n (q + 1)
      omega
def fo3 (mi q : Nat) (f : Nat → Int32) : Nat → Int32 := upd (upd (upd f 0 (nI (4 * mi + q % 4))) 1 (nI (q / 4 / 14))) 2 (nI (q / 4 % 14))
theorem fo3_fo3 (mi q p : Nat) (f : Nat → Int32) : fo3 mi q (fo3 mi p f) = fo3 mi q f := by
  funext j
  unfold fo3 upd
  split
  · rfl
  · split
    · rfl
    · split <;> rfl
set_option maxHeartbeats 4000000 in
set_option maxRecDepth 100000 in
theorem l_cutsOut {G : zG} {hh : zH} {sz mo : Nat} {s fo : Nat → Int32} {τ : Nat → Nat → Int32} {kp ln : Int32} {k l w : Nat} (hk : k < 6) (hl : l < 8) (hw : w < 8) (hT : τ 6 = tabI) (hR : okR s) {r c : Nat} (hr : r + hiN w ≤ 9) (hc : c < 32) : ∀ (n i : Nat), i + n = hiN w → zS MX7_cutsOut G 1 0 0 0 0 (mq G mo (cutS s k l w r c i) fo τ kp ln hh) sz 3 [some (.ref mo), some (.int (nI k)), some (.int (nI l)), some (.int (nI w)), some (.int (nI r)), some (.int (nI c)), some (.int (nI i))] [] (fun rr hh' ss' kk' nn' => zV (mq G mo (cutS s k l w r c (hiN w)) fo τ kp ln hh) sz rr hh' ss' ∧ kk' ≤ 0 ∧ nn' ≤ 0) := by
  intro n; induction n with
  | zero =>
    intro i hi
    have h5 := hiN_le w
    refine z_iload dX7_cutsOut_3 rfl ?_
    refine z_iload_n dX7_cutsOut_5 rfl ?_
    refine z_callSR (kn_high (by omega)) dX7_cutsOut_6 ⟨zm_647, zm_649, zm_8, zm_648⟩  (by decide) zp_X7_high rfl (Nat.le_of_ble_eq_true rfl) (Nat.le_refl _) (Nat.le_refl _) ?_
    refine z_icmp_ge (tgt := 48) dX7_cutsOut_9 (by decide) (fun c_9 => ?_) (fun c_9 => absurd c_9 (not_not_intro (nI_le (by omega) (by omega))))
    exact z_vretV dX7_cutsOut_48 rfl (by rw [show i = hiN w by omega]) rfl (Nat.le_refl _) (Nat.le_refl _)
  | succ n ih =>
    intro i hi
    have h5 := hiN_le w
    refine z_iload dX7_cutsOut_3 rfl ?_
    refine z_iload_n dX7_cutsOut_5 rfl ?_
    refine z_callSR (kn_high (by omega)) dX7_cutsOut_6 ⟨zm_647, zm_649, zm_8, zm_648⟩  (by decide) zp_X7_high rfl (Nat.le_of_ble_eq_true rfl) (Nat.le_refl _) (Nat.le_refl _) ?_
    refine z_icmp_ge (tgt := 48) dX7_cutsOut_9 (by decide) (fun c_9 => absurd c_9 (nI_ge (by omega) (by omega))) (fun c_9 => ?_)
    refine z_aload_n dX7_cutsOut_12 rfl ?_
    refine z_get (ci := 7) (f := 0) dX7_cutsOut_13 ⟨by decide, by decide, zm_663, rfl⟩ mq_o rfl ?_
    refine z_iload_n dX7_cutsOut_16 rfl ?_
    refine z_iconst (v := (nI 2)) dX7_cutsOut_17 (by decide) ?_
    refine z_iload dX7_cutsOut_18 rfl ?_
    refine z_iaddN dX7_cutsOut_20 ?_
    refine z_iload dX7_cutsOut_21 rfl ?_
    refine z_iaddN dX7_cutsOut_23 ?_
    refine z_callSR kn_ofOne dX7_cutsOut_24 ⟨zm_709, zm_711, zm_8, zm_710⟩  (by decide) zp_X7_ofOne rfl (Nat.le_of_ble_eq_true rfl) (Nat.le_refl _) (Nat.le_refl _) ?_
    refine z_dup2 dX7_cutsOut_27 rfl rfl ?_
    refine z_ialdN (j := 5 + 11 * k + (r + i)) dX7_cutsOut_28 mq_a0 (by congr 1; omega) (by omega) (by decide) ?_
    refine z_eq ((cutS_ge (Nat.le_refl i)).trans (hR k (r + i) hk (by omega)).1) ?_
    refine z_aload_n dX7_cutsOut_29 rfl ?_
    refine z_iload_n dX7_cutsOut_30 rfl ?_
    refine z_iload_n dX7_cutsOut_31 rfl ?_
    refine z_iload dX7_cutsOut_32 rfl ?_
    refine z_callVR (ci := 7) (k_X7_shapeOf hl hw (by omega) hT) dX7_cutsOut_34 ⟨zm_727, zm_730, zm_8, zm_729, zmp_9, by decide⟩ mq_o (by decide) zp_X7_shapeOf rfl (Nat.le_of_ble_eq_true rfl) (Nat.le_refl _) (Nat.le_refl _) ?_
    unfold tabI
    refine z_iload dX7_cutsOut_37 rfl ?_
    refine z_ishlN dX7_cutsOut_39 (by omega) ?_
    refine z_iorN dX7_cutsOut_40 ?_
    refine z_iastN (j := 5 + 11 * k + (r + i)) dX7_cutsOut_41 mq_a0 (by congr 1; omega) (by omega) (by decide) ?_
    refine z_heap mq_u0 ?_
    refine z_iincU dX7_cutsOut_42 rfl (by decide) rfl rfl ?_
    refine z_goto (tgt := 3) dX7_cutsOut_45 (by decide) ?_
    exact ih (i + 1) (by omega)
set_option maxHeartbeats 4000000 in
set_option maxRecDepth 100000 in
theorem k_X7_cutsOut {G : zG} {hh : zH} {sz mo : Nat} {s fo : Nat → Int32} {τ : Nat → Nat → Int32} {kp ln : Int32} {k l w : Nat} (hk : k < 6) (hl : l < 8) (hw : w < 8) (hT : τ 6 = tabI) (hR : okR s) {r c : Nat} (hr : r + hiN w ≤ 9) (hc : c < 32) : zC G 1 MX7_cutsOut yX7_cutsOut [.ref mo, .int (nI k), .int (nI l), .int (nI w), .int (nI r), .int (nI c)] (mq G mo s fo τ kp ln hh) sz 0 0 (zV (mq G mo (cutS s k l w r c (hiN w)) fo τ kp ln hh) sz) := by
  refine z_intro _ rfl zy_X7_cutsOut (Nat.le_of_ble_eq_true rfl) ?_
  refine z_iconst (v := (nI 0)) dX7_cutsOut_0 (by decide) ?_
  refine z_istore dX7_cutsOut_1 (by decide) rfl rfl ?_
  exact l_cutsOut hk hl hw hT hR hr hc _ 0 (Nat.zero_add _)
set_option maxHeartbeats 4000000 in
set_option maxRecDepth 100000 in
theorem l_uncut {G : zG} {hh : zH} {sz mo : Nat} {s fo : Nat → Int32} {τ : Nat → Nat → Int32} {kp ln : Int32} {k : Nat} (hk : k < 6) (hR : okR s) : ∀ (n i : Nat), i + n = 9 → zS MX7_uncut G 1 0 0 0 0 (mq G mo s fo τ kp ln hh) sz 5 [some (.ref mo), some (.int (nI k)), some (.int (uncA s k i)), some (.int (nI i))] [] (fun rr hh' ss' kk' nn' => zR (.int (uncA s k 9)) (mq G mo s fo τ kp ln hh) sz rr hh' ss' ∧ kk' ≤ 0 ∧ nn' ≤ 0) := by
  intro n; induction n with
  | zero =>
    intro i hi
    refine z_iload_n dX7_uncut_5 rfl ?_
    refine z_bipush (v := (nI 9)) dX7_uncut_6 (by decide) ?_
    refine z_icmp_ge (tgt := 35) dX7_uncut_8 (by decide) (fun c_8 => ?_) (fun c_8 => absurd c_8 (not_not_intro (nI_le (by omega) (by omega))))
    refine z_iload_n dX7_uncut_35 rfl ?_
    exact z_iretR dX7_uncut_36 rfl (by rw [show i = 9 by omega]) rfl rfl (Nat.le_refl _) (Nat.le_refl _)
  | succ n ih =>
    intro i hi
    refine z_iload_n dX7_uncut_5 rfl ?_
    refine z_bipush (v := (nI 9)) dX7_uncut_6 (by decide) ?_
    refine z_icmp_ge (tgt := 35) dX7_uncut_8 (by decide) (fun c_8 => absurd c_8 (nI_ge (by omega) (by omega))) (fun c_8 => ?_)
    refine z_iload_n dX7_uncut_11 rfl ?_
    refine z_aload_n dX7_uncut_12 rfl ?_
    refine z_get (ci := 7) (f := 0) dX7_uncut_13 ⟨by decide, by decide, zm_663, rfl⟩ mq_o rfl ?_
    refine z_iload_n dX7_uncut_16 rfl ?_
    refine z_iconst (v := (nI 2)) dX7_uncut_17 (by decide) ?_
    refine z_iload_n dX7_uncut_18 rfl ?_
    refine z_iaddN dX7_uncut_19 ?_
    refine z_callSR kn_ofOne dX7_uncut_20 ⟨zm_709, zm_711, zm_8, zm_710⟩  (by decide) zp_X7_ofOne rfl (Nat.le_of_ble_eq_true rfl) (Nat.le_refl _) (Nat.le_refl _) ?_
    refine z_ialdN (j := 5 + 11 * k + i) dX7_uncut_23 mq_a0 (by congr 1; omega) (by omega) (by decide) ?_
    refine z_eq (hR k i hk (by omega)).1 ?_
    refine z_callSR (k_X7_bits (by have := (hR k i hk (by omega)).2; omega)) dX7_uncut_24 ⟨zm_828, zm_830, zm_8, zm_829⟩  (by decide) zp_X7_bits rfl (Nat.le_of_ble_eq_true rfl) (Nat.le_refl _) (Nat.le_refl _) ?_
    refine z_isub dX7_uncut_27 ?_
    refine z_istore_n dX7_uncut_28 (by decide) rfl rfl ?_
    refine z_iincU dX7_uncut_29 rfl (by decide) rfl rfl ?_
    refine z_goto (tgt := 5) dX7_uncut_32 (by decide) ?_
    exact ih (i + 1) (by omega)
set_option maxHeartbeats 4000000 in
set_option maxRecDepth 100000 in
theorem k_X7_uncut {G : zG} {hh : zH} {sz mo : Nat} {s fo : Nat → Int32} {τ : Nat → Nat → Int32} {kp ln : Int32} {k : Nat} (hk : k < 6) (hR : okR s) : zC G 1 MX7_uncut yX7_uncut [.ref mo, .int (nI k)] (mq G mo s fo τ kp ln hh) sz 0 0 (zR (.int (uncA s k 9)) (mq G mo s fo τ kp ln hh) sz) := by
  refine z_intro _ rfl zy_X7_uncut (Nat.le_of_ble_eq_true rfl) ?_
  refine z_bipush (v := (nI 126)) dX7_uncut_0 (by decide) ?_
  refine z_istore_n dX7_uncut_2 (by decide) rfl rfl ?_
  refine z_iconst (v := (nI 0)) dX7_uncut_3 (by decide) ?_
  refine z_istore_n dX7_uncut_4 (by decide) rfl rfl ?_
  exact l_uncut hk hR 9 0 (Nat.zero_add _)
set_option maxHeartbeats 4000000 in
set_option maxRecDepth 100000 in
theorem l_findsFit {G : zG} {hh : zH} {sz mo : Nat} {s fo : Nat → Int32} {τ : Nat → Nat → Int32} {kp ln : Int32} {k l mi : Nat} (hk : k < 6) (hl : l < 8) (hm : mi < 2) (hT : τ 6 = tabI) (hR : okR s) : ∀ (n q : Nat) (p6 p7 : Option Value) (f : Nat → Int32), q + n = 504 → (∀ p, fo3 mi p f = fo3 mi p fo) → (n = 0 → f = fo3 mi 503 fo) → zS MX7_findsFit G 2 0 0 0 0 (mq G mo s f τ kp ln hh) sz 6 [some (.ref mo), some (.int (nI k)), some (.int (nI l)), some (.int (nI mi)), some (.int 0), some (.int (nI q)), p6, p7] [] (fun rr hh' ss' kk' nn' => zR (.int (zb (decide (ffA s k l mi n q < 504)))) (mq G mo s (fo3 mi (min (ffA s k l mi n q) 503) fo) τ kp ln hh) sz rr hh' ss' ∧ kk' ≤ 0 ∧ nn' ≤ 0) := by
  intro n; induction n with
  | zero =>
    intro q p6 p7 f hq0 hf hn
    refine z_iload dX7_findsFit_6 rfl ?_
    refine z_sipush (v := (nI 504)) dX7_findsFit_8 (by decide) ?_
    refine z_icmp_ge (tgt := 91) dX7_findsFit_11 (by decide) (fun c_11 => ?_) (fun c_11 => absurd c_11 (not_not_intro (nI_le (by omega) (by omega))))
    refine z_iload dX7_findsFit_91 rfl ?_
    exact z_zretR dX7_findsFit_93 rfl (Or.inl rfl) (by unfold ffA; rw [decide_eq_false (by omega)]; rfl) (by rw [hn rfl]; unfold ffA; rw [show min q 503 = 503 by omega]) rfl (Nat.le_refl _) (Nat.le_refl _)
  | succ n ih =>
    intro q p6 p7 f hq0 hf hn
    refine z_iload dX7_findsFit_6 rfl ?_
    refine z_sipush (v := (nI 504)) dX7_findsFit_8 (by decide) ?_
    refine z_icmp_ge (tgt := 91) dX7_findsFit_11 (by decide) (fun c_11 => absurd c_11 (nI_ge (by omega) (by omega))) (fun c_11 => ?_)
    refine z_iload dX7_findsFit_14 rfl ?_
    refine z_if_ne (tgt := 91) dX7_findsFit_16 (by decide) (fun c_16 => absurd rfl c_16) (fun c_16 => ?_)
    refine z_iload dX7_findsFit_19 rfl ?_
    refine z_iconst (v := (nI 4)) dX7_findsFit_21 (by decide) ?_
    refine z_idivN dX7_findsFit_22 (by omega) (by omega) (by omega) ?_
    refine z_istore dX7_findsFit_23 (by decide) rfl rfl ?_
    refine z_iconst (v := (nI 4)) dX7_findsFit_25 (by decide) ?_
    refine z_iload_n dX7_findsFit_26 rfl ?_
    refine z_imulN dX7_findsFit_27 ?_
    refine z_iload dX7_findsFit_28 rfl ?_
    refine z_iconst (v := (nI 4)) dX7_findsFit_30 (by decide) ?_
    refine z_iremN dX7_findsFit_31 (by omega) (by omega) (by omega) ?_
    refine z_iaddN dX7_findsFit_32 ?_
    refine z_istore dX7_findsFit_33 (by decide) rfl rfl ?_
    refine z_aload_n dX7_findsFit_35 rfl ?_
    refine z_iload_n dX7_findsFit_36 rfl ?_
    refine z_iload_n dX7_findsFit_37 rfl ?_
    refine z_iload dX7_findsFit_38 rfl ?_
    refine z_iload dX7_findsFit_40 rfl ?_
    refine z_bipush (v := (nI 14)) dX7_findsFit_42 (by decide) ?_
    refine z_idivN dX7_findsFit_44 (by omega) (by omega) (by omega) ?_
    refine z_iload dX7_findsFit_45 rfl ?_
    refine z_bipush (v := (nI 14)) dX7_findsFit_47 (by decide) ?_
    refine z_iremN dX7_findsFit_49 (by omega) (by omega) (by omega) ?_
    refine z_callVR (ci := 7) (k_X7_canCut hk hl (by omega) hT hR) dX7_findsFit_50 ⟨zm_723, zm_726, zm_8, zm_725, zmp_8, by decide⟩ mq_o (by decide) zp_X7_canCut rfl (Nat.le_of_ble_eq_true rfl) (Nat.le_refl _) (Nat.le_refl _) ?_
    rw [show canI s k l (4 * mi + q % 4) (nI (q / 4 / 14)) (nI (q / 4 % 14)) = canQ s k l mi q from rfl]
    refine z_istore dX7_findsFit_53 (by decide) rfl rfl ?_
    refine z_aload_n dX7_findsFit_55 rfl ?_
    refine z_get (ci := 7) (f := 9) dX7_findsFit_56 ⟨by decide, by decide, zm_672, rfl⟩ mq_o rfl ?_
    refine z_iconst (v := (nI 0)) dX7_findsFit_59 (by decide) ?_
    refine z_iload dX7_findsFit_60 rfl ?_
    refine z_iastN dX7_findsFit_62 mq_a7 rfl (by omega) (by decide) ?_
    refine z_heap mq_u7 ?_
    refine z_aload_n dX7_findsFit_63 rfl ?_
    refine z_get (ci := 7) (f := 9) dX7_findsFit_64 ⟨by decide, by decide, zm_672, rfl⟩ mq_o rfl ?_
    refine z_iconst (v := (nI 1)) dX7_findsFit_67 (by decide) ?_
    refine z_iload dX7_findsFit_68 rfl ?_
    refine z_bipush (v := (nI 14)) dX7_findsFit_70 (by decide) ?_
    refine z_idivN dX7_findsFit_72 (by omega) (by omega) (by omega) ?_
    refine z_iastN dX7_findsFit_73 mq_a7 rfl (by omega) (by decide) ?_
    refine z_heap mq_u7 ?_
    refine z_aload_n dX7_findsFit_74 rfl ?_
    refine z_get (ci := 7) (f := 9) dX7_findsFit_75 ⟨by decide, by decide, zm_672, rfl⟩ mq_o rfl ?_
    refine z_iconst (v := (nI 2)) dX7_findsFit_78 (by decide) ?_
    refine z_iload dX7_findsFit_79 rfl ?_
    refine z_bipush (v := (nI 14)) dX7_findsFit_81 (by decide) ?_
    refine z_iremN dX7_findsFit_83 (by omega) (by omega) (by omega) ?_
    refine z_iastN dX7_findsFit_84 mq_a7 rfl (by omega) (by decide) ?_
    refine z_heap mq_u7 ?_
    refine z_iincU dX7_findsFit_85 rfl (by decide) rfl rfl ?_
    refine z_goto (tgt := 6) dX7_findsFit_88 (by decide) ?_
    by_cases hq : canQ s k l mi q = true
    · rw [hq]
      have e : ffA s k l mi (n + 1) q = q := by unfold ffA; rw [if_pos hq]
      rw [e]
      refine z_iload dX7_findsFit_6 rfl ?_
      refine z_sipush (v := (nI 504)) dX7_findsFit_8 (by decide) ?_
      refine z_icmp_ge (tgt := 91) dX7_findsFit_11 (by decide) (fun c_11 => ?_) (fun c_11 => ?_)
      · refine z_iload dX7_findsFit_91 rfl ?_
        exact z_zretR dX7_findsFit_93 rfl (Or.inr rfl) (by rw [decide_eq_true (by omega)]) (by rw [show min q 503 = q by omega, ← hf q]; rfl) rfl (Nat.le_refl _) (Nat.le_refl _)
      · refine z_iload dX7_findsFit_14 rfl ?_
        refine z_if_ne (tgt := 91) dX7_findsFit_16 (by decide) (fun c_16 => ?_) (fun c_16 => absurd c_16 (by decide))
        refine z_iload dX7_findsFit_91 rfl ?_
        exact z_zretR dX7_findsFit_93 rfl (Or.inr rfl) (by rw [decide_eq_true (by omega)]) (by rw [show min q 503 = q by omega, ← hf q]; rfl) rfl (Nat.le_refl _) (Nat.le_refl _)
    · have hq0 : canQ s k l mi q = false := by simpa using hq
      rw [hq0]
      have e : ffA s k l mi (n + 1) q = ffA s k l mi n (q + 1) := by
        rw [ffA, if_neg hq]
      rw [e]
      exact ih (q + 1) _ _ (fo3 mi q f) (by omega) (fun p => by rw [fo3_fo3]; exact hf p) (fun e0 => by rw [hf, show q = 503 by omega])
set_option maxHeartbeats 4000000 in
set_option maxRecDepth 100000 in
theorem k_X7_findsFit {G : zG} {hh : zH} {sz mo : Nat} {s fo : Nat → Int32} {τ : Nat → Nat → Int32} {kp ln : Int32} {k l mi : Nat} (hk : k < 6) (hl : l < 8) (hm : mi < 2) (hT : τ 6 = tabI) (hR : okR s) : zC G 2 MX7_findsFit yX7_findsFit [.ref mo, .int (nI k), .int (nI l), .int (nI mi)] (mq G mo s fo τ kp ln hh) sz 0 0 (zR (.int (zb (decide (ff s k l mi < 504)))) (mq G mo s (fo3 mi (min (ff s k l mi) 503) fo) τ kp ln hh) sz) := by
  refine z_intro _ rfl zy_X7_findsFit (Nat.le_of_ble_eq_true rfl) ?_
  refine z_iconst (v := (nI 0)) dX7_findsFit_0 (by decide) ?_
  refine z_istore dX7_findsFit_1 (by decide) rfl rfl ?_
  refine z_iconst (v := (nI 0)) dX7_findsFit_3 (by decide) ?_
  refine z_istore dX7_findsFit_4 (by decide) rfl rfl ?_
  exact l_findsFit hk hl hm hT hR 504 0 _ _ fo (by omega) (fun _ => rfl) (fun e => absurd e (by decide))
