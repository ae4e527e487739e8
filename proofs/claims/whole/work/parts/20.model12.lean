def o_of (s : Nat → Int32) (a b : Int32) : Int32 := if isI (nP s) a = true then (if isI 8 b = true then s (69 + 8 * a.toNatClampNeg + b.toNatClampNeg) else -2) else -1
set_option maxHeartbeats 4000000 in
set_option maxRecDepth 100000 in
theorem k_X7_of {G : zG} {hh : zH} {sz mo : Nat} {s fo : Nat → Int32} {τ : Nat → Nat → Int32} {kp ln : Int32} (hT : τ 6 = tabI) (hS : okS s) {a b : Int32} : zC G 2 MX7_of yX7_of [.ref mo, .int a, .int b] (mq G mo s fo τ kp ln hh) sz 0 0 (zJ (o_of s a b) G mo s τ kp ln hh sz) := by
  obtain ⟨⟨a1, a2⟩, ⟨b1, b2⟩, hR⟩ := id hS
  refine z_intro _ rfl zy_X7_of (Nat.le_of_ble_eq_true rfl) ?_
  refine z_aload_n dX7_of_0 rfl ?_
  refine z_iload_n dX7_of_1 rfl ?_
  refine z_callVR (ci := 7) (k_X7_isPiece b1 (by omega)) dX7_of_2 ⟨zm_804, zm_807, zm_8, zm_806, zmp_22, by decide⟩ mq_o (by decide) zp_X7_isPiece rfl (Nat.le_of_ble_eq_true rfl) (Nat.le_refl _) (Nat.le_refl _) ?_
  refine z_if_ne (tgt := 12) dX7_of_5 (by decide) (fun c_5 => ?_) (fun c_5 => ?_)
  · refine z_iload_n dX7_of_12 rfl ?_
    refine z_iconst (v := (nI 0)) dX7_of_13 (by decide) ?_
    refine z_bipush (v := (nI 7)) dX7_of_14 (by decide) ?_
    refine z_callSR (kn_in (n := 7) (by omega)) dX7_of_16 ⟨zm_702, zm_704, zm_8, zm_703⟩  (by decide) zp_X7_in rfl (Nat.le_of_ble_eq_true rfl) (Nat.le_refl _) (Nat.le_refl _) ?_
    refine z_if_eq (tgt := 35) dX7_of_19 (by decide) (fun c_19 => ?_) (fun c_19 => ?_)
    · refine z_bipush (v := (-2)) dX7_of_35 (by decide) ?_
      have ee : o_of s a b = -2 := by unfold o_of; rw [if_pos (zb_1 c_5), zb_0 c_19]; rfl
      rw [ee]
      exact z_iretJ fo τ dX7_of_37 rfl rfl rfl MJ.rfl rfl (Nat.le_refl _) (Nat.le_refl _)
    · have hA := zb_1 c_5
      have hB := zb_1 c_19
      obtain ⟨p, hp, rfl⟩ := (isI_iff (by omega)).mp hA
      obtain ⟨j, hj, rfl⟩ := (isI_iff (by omega)).mp hB
      have cp : (nI p).toNatClampNeg = p := nI_clamp (by omega)
      have cj : (nI j).toNatClampNeg = j := nI_clamp (by omega)
      refine z_aload_n dX7_of_22 rfl ?_
      refine z_get (ci := 7) (f := 0) dX7_of_23 ⟨by decide, by decide, zm_663, rfl⟩ mq_o rfl ?_
      refine z_iload_n dX7_of_26 rfl ?_
      refine z_iload_n dX7_of_27 rfl ?_
      refine z_callSR kn_at dX7_of_28 ⟨zm_739, zm_741, zm_8, zm_740⟩  (by decide) zp_X7_at rfl (Nat.le_of_ble_eq_true rfl) (Nat.le_refl _) (Nat.le_refl _) ?_
      refine z_ialdN (j := 69 + 8 * p + j) dX7_of_31 mq_a0 rfl (by omega) (by decide) ?_
      refine z_goto (tgt := 37) dX7_of_32 (by decide) ?_
      have ee : o_of s (nI p) (nI j) = s (69 + 8 * p + j) := by unfold o_of; rw [cp, cj, if_pos hA, if_pos hB]
      rw [ee]
      exact z_iretJ fo τ dX7_of_37 rfl rfl rfl MJ.rfl rfl (Nat.le_refl _) (Nat.le_refl _)
  · refine z_iconst (v := (-1)) dX7_of_8 (by decide) ?_
    refine z_goto (tgt := 37) dX7_of_9 (by decide) ?_
    have ee : o_of s a b = -1 := by unfold o_of; rw [zb_0 c_5]; rfl
    rw [ee]
    exact z_iretJ fo τ dX7_of_37 rfl rfl rfl MJ.rfl rfl (Nat.le_refl _) (Nat.le_refl _)
def pfrA (s : Nat → Int32) (x : Int32) : Nat → Int32
  | 0 => nI 0
  | i + 1 => pfrA s x i + (if s (69 + 8 * i + 5) = x then nI 1 else nI 0)
set_option maxHeartbeats 4000000 in
set_option maxRecDepth 100000 in
theorem l_piecesFrom {G : zG} {hh : zH} {sz mo : Nat} {s fo : Nat → Int32} {τ : Nat → Nat → Int32} {kp ln : Int32} {x : Int32} {m : Nat} (h1 : s 1 = nI m) (hm : m ≤ 48) : ∀ (n i : Nat), i + n = m → zS MX7_piecesFrom G 1 0 0 0 0 (mq G mo s fo τ kp ln hh) sz 4 [some (.ref mo), some (.int x), some (.int (pfrA s x i)), some (.int (nI i))] [] (fun rr hh' ss' kk' nn' => zR (.int (pfrA s x m)) (mq G mo s fo τ kp ln hh) sz rr hh' ss' ∧ kk' ≤ 0 ∧ nn' ≤ 0) := by
  intro n; induction n with
  | zero =>
    intro i hi
    refine z_iload_n dX7_piecesFrom_4 rfl ?_
    refine z_aload_n dX7_piecesFrom_5 rfl ?_
    refine z_get (ci := 7) (f := 0) dX7_piecesFrom_6 ⟨by decide, by decide, zm_663, rfl⟩ mq_o rfl ?_
    refine z_iconst (v := (nI 1)) dX7_piecesFrom_9 (by decide) ?_
    refine z_ialdN dX7_piecesFrom_10 mq_a0 rfl (by omega) (by decide) ?_
    refine z_eq h1 ?_
    refine z_icmp_ge (tgt := 42) dX7_piecesFrom_11 (by decide) (fun c_11 => ?_) (fun c_11 => absurd c_11 (not_not_intro (nI_le (by omega) (by omega))))
    refine z_iload_n dX7_piecesFrom_42 rfl ?_
    exact z_iretR dX7_piecesFrom_43 rfl (by rw [show i = m by omega]) rfl rfl (Nat.le_refl _) (Nat.le_refl _)
  | succ n ih =>
    intro i hi
    refine z_iload_n dX7_piecesFrom_4 rfl ?_
    refine z_aload_n dX7_piecesFrom_5 rfl ?_
    refine z_get (ci := 7) (f := 0) dX7_piecesFrom_6 ⟨by decide, by decide, zm_663, rfl⟩ mq_o rfl ?_
    refine z_iconst (v := (nI 1)) dX7_piecesFrom_9 (by decide) ?_
    refine z_ialdN dX7_piecesFrom_10 mq_a0 rfl (by omega) (by decide) ?_
    refine z_eq h1 ?_
    refine z_icmp_ge (tgt := 42) dX7_piecesFrom_11 (by decide) (fun c_11 => absurd c_11 (nI_ge (by omega) (by omega))) (fun c_11 => ?_)
    refine z_iload_n dX7_piecesFrom_14 rfl ?_
    refine z_aload_n dX7_piecesFrom_15 rfl ?_
    refine z_get (ci := 7) (f := 0) dX7_piecesFrom_16 ⟨by decide, by decide, zm_663, rfl⟩ mq_o rfl ?_
    refine z_iload_n dX7_piecesFrom_19 rfl ?_
    refine z_iconst (v := (nI 5)) dX7_piecesFrom_20 (by decide) ?_
    refine z_callSR kn_at dX7_piecesFrom_21 ⟨zm_739, zm_741, zm_8, zm_740⟩  (by decide) zp_X7_at rfl (Nat.le_of_ble_eq_true rfl) (Nat.le_refl _) (Nat.le_refl _) ?_
    refine z_ialdN (j := 69 + 8 * i + 5) dX7_piecesFrom_24 mq_a0 rfl (by omega) (by decide) ?_
    refine z_iload_n dX7_piecesFrom_25 rfl ?_
    refine z_icmp_ne (tgt := 33) dX7_piecesFrom_26 (by decide) (fun c_26 => ?_) (fun c_26 => ?_)
    · refine z_iconst (v := (nI 0)) dX7_piecesFrom_33 (by decide) ?_
      refine z_iadd dX7_piecesFrom_34 ?_
      refine z_istore_n dX7_piecesFrom_35 (by decide) rfl rfl ?_
      refine z_iincU dX7_piecesFrom_36 rfl (by decide) rfl rfl ?_
      refine z_goto (tgt := 4) dX7_piecesFrom_39 (by decide) ?_
      have e1 := ih (i + 1) (by omega)
      rw [pfrA, if_neg c_26] at e1
      exact e1
    · refine z_iconst (v := (nI 1)) dX7_piecesFrom_29 (by decide) ?_
      refine z_goto (tgt := 34) dX7_piecesFrom_30 (by decide) ?_
      refine z_iadd dX7_piecesFrom_34 ?_
      refine z_istore_n dX7_piecesFrom_35 (by decide) rfl rfl ?_
      refine z_iincU dX7_piecesFrom_36 rfl (by decide) rfl rfl ?_
      refine z_goto (tgt := 4) dX7_piecesFrom_39 (by decide) ?_
      have e1 := ih (i + 1) (by omega)
      rw [pfrA, if_pos c_26] at e1
      exact e1
set_option maxHeartbeats 4000000 in
set_option maxRecDepth 100000 in
theorem k_X7_piecesFrom {G : zG} {hh : zH} {sz mo : Nat} {s fo : Nat → Int32} {τ : Nat → Nat → Int32} {kp ln : Int32} {x : Int32} {m : Nat} (h1 : s 1 = nI m) (hm : m ≤ 48) : zC G 1 MX7_piecesFrom yX7_piecesFrom [.ref mo, .int x] (mq G mo s fo τ kp ln hh) sz 0 0 (zR (.int (pfrA s x m)) (mq G mo s fo τ kp ln hh) sz) := by
  refine z_intro _ rfl zy_X7_piecesFrom (Nat.le_of_ble_eq_true rfl) ?_
  refine z_iconst (v := (nI 0)) dX7_piecesFrom_0 (by decide) ?_
  refine z_istore_n dX7_piecesFrom_1 (by decide) rfl rfl ?_
  refine z_iconst (v := (nI 0)) dX7_piecesFrom_2 (by decide) ?_
  refine z_istore_n dX7_piecesFrom_3 (by decide) rfl rfl ?_
  exact l_piecesFrom h1 hm m 0 (Nat.zero_add _)
def ptaA (s : Nat → Int32) (x : Int32) : Nat → Int32
  | 0 => nI 0
  | i + 1 => ptaA s x i + (if s (69 + 8 * i + 3) = x then nI 1 else nI 0)
set_option maxHeartbeats 4000000 in
set_option maxRecDepth 100000 in
theorem l_piecesThatAre {G : zG} {hh : zH} {sz mo : Nat} {s fo : Nat → Int32} {τ : Nat → Nat → Int32} {kp ln : Int32} {x : Int32} {m : Nat} (h1 : s 1 = nI m) (hm : m ≤ 48) : ∀ (n i : Nat), i + n = m → zS MX7_piecesThatAre G 1 0 0 0 0 (mq G mo s fo τ kp ln hh) sz 4 [some (.ref mo), some (.int x), some (.int (ptaA s x i)), some (.int (nI i))] [] (fun rr hh' ss' kk' nn' => zR (.int (ptaA s x m)) (mq G mo s fo τ kp ln hh) sz rr hh' ss' ∧ kk' ≤ 0 ∧ nn' ≤ 0) := by
  intro n; induction n with
  | zero =>
    intro i hi
    refine z_iload_n dX7_piecesThatAre_4 rfl ?_
    refine z_aload_n dX7_piecesThatAre_5 rfl ?_
    refine z_get (ci := 7) (f := 0) dX7_piecesThatAre_6 ⟨by decide, by decide, zm_663, rfl⟩ mq_o rfl ?_
    refine z_iconst (v := (nI 1)) dX7_piecesThatAre_9 (by decide) ?_
    refine z_ialdN dX7_piecesThatAre_10 mq_a0 rfl (by omega) (by decide) ?_
    refine z_eq h1 ?_
    refine z_icmp_ge (tgt := 42) dX7_piecesThatAre_11 (by decide) (fun c_11 => ?_) (fun c_11 => absurd c_11 (not_not_intro (nI_le (by omega) (by omega))))
    refine z_iload_n dX7_piecesThatAre_42 rfl ?_
    exact z_iretR dX7_piecesThatAre_43 rfl (by rw [show i = m by omega]) rfl rfl (Nat.le_refl _) (Nat.le_refl _)
  | succ n ih =>
    intro i hi
    refine z_iload_n dX7_piecesThatAre_4 rfl ?_
    refine z_aload_n dX7_piecesThatAre_5 rfl ?_
    refine z_get (ci := 7) (f := 0) dX7_piecesThatAre_6 ⟨by decide, by decide, zm_663, rfl⟩ mq_o rfl ?_
    refine z_iconst (v := (nI 1)) dX7_piecesThatAre_9 (by decide) ?_
    refine z_ialdN dX7_piecesThatAre_10 mq_a0 rfl (by omega) (by decide) ?_
    refine z_eq h1 ?_
    refine z_icmp_ge (tgt := 42) dX7_piecesThatAre_11 (by decide) (fun c_11 => absurd c_11 (nI_ge (by omega) (by omega))) (fun c_11 => ?_)
    refine z_iload_n dX7_piecesThatAre_14 rfl ?_
    refine z_aload_n dX7_piecesThatAre_15 rfl ?_
    refine z_get (ci := 7) (f := 0) dX7_piecesThatAre_16 ⟨by decide, by decide, zm_663, rfl⟩ mq_o rfl ?_
    refine z_iload_n dX7_piecesThatAre_19 rfl ?_
    refine z_iconst (v := (nI 3)) dX7_piecesThatAre_20 (by decide) ?_
    refine z_callSR kn_at dX7_piecesThatAre_21 ⟨zm_739, zm_741, zm_8, zm_740⟩  (by decide) zp_X7_at rfl (Nat.le_of_ble_eq_true rfl) (Nat.le_refl _) (Nat.le_refl _) ?_
    refine z_ialdN (j := 69 + 8 * i + 3) dX7_piecesThatAre_24 mq_a0 rfl (by omega) (by decide) ?_
    refine z_iload_n dX7_piecesThatAre_25 rfl ?_
    refine z_icmp_ne (tgt := 33) dX7_piecesThatAre_26 (by decide) (fun c_26 => ?_) (fun c_26 => ?_)
    · refine z_iconst (v := (nI 0)) dX7_piecesThatAre_33 (by decide) ?_
      refine z_iadd dX7_piecesThatAre_34 ?_
      refine z_istore_n dX7_piecesThatAre_35 (by decide) rfl rfl ?_
      refine z_iincU dX7_piecesThatAre_36 rfl (by decide) rfl rfl ?_
      refine z_goto (tgt := 4) dX7_piecesThatAre_39 (by decide) ?_
      have e1 := ih (i + 1) (by omega)
      rw [ptaA, if_neg c_26] at e1
      exact e1
    · refine z_iconst (v := (nI 1)) dX7_piecesThatAre_29 (by decide) ?_
      refine z_goto (tgt := 34) dX7_piecesThatAre_30 (by decide) ?_
      refine z_iadd dX7_piecesThatAre_34 ?_
      refine z_istore_n dX7_piecesThatAre_35 (by decide) rfl rfl ?_
      refine z_iincU dX7_piecesThatAre_36 rfl (by decide) rfl rfl ?_
      refine z_goto (tgt := 4) dX7_piecesThatAre_39 (by decide) ?_
      have e1 := ih (i + 1) (by omega)
      rw [ptaA, if_pos c_26] at e1
      exact e1
set_option maxHeartbeats 4000000 in
set_option maxRecDepth 100000 in
theorem k_X7_piecesThatAre {G : zG} {hh : zH} {sz mo : Nat} {s fo : Nat → Int32} {τ : Nat → Nat → Int32} {kp ln : Int32} {x : Int32} {m : Nat} (h1 : s 1 = nI m) (hm : m ≤ 48) : zC G 1 MX7_piecesThatAre yX7_piecesThatAre [.ref mo, .int x] (mq G mo s fo τ kp ln hh) sz 0 0 (zR (.int (ptaA s x m)) (mq G mo s fo τ kp ln hh) sz) := by
  refine z_intro _ rfl zy_X7_piecesThatAre (Nat.le_of_ble_eq_true rfl) ?_
  refine z_iconst (v := (nI 0)) dX7_piecesThatAre_0 (by decide) ?_
  refine z_istore_n dX7_piecesThatAre_1 (by decide) rfl rfl ?_
  refine z_iconst (v := (nI 0)) dX7_piecesThatAre_2 (by decide) ?_
  refine z_istore_n dX7_piecesThatAre_3 (by decide) rfl rfl ?_
  exact l_piecesThatAre h1 hm m 0 (Nat.zero_add _)
def lfA (s : Nat → Int32) (k : Nat) : Nat → Int32
  | 0 => nI 0
  | i + 1 => lfA s k i ||| (if ff s k i 0 < 504 ∨ ff s k i 1 < 504 then nI 1 <<< (nI i &&& 31) else nI 0)
set_option maxHeartbeats 4000000 in
set_option maxRecDepth 100000 in
theorem l_lettersThatFit {G : zG} {hh : zH} {sz mo : Nat} {s : Nat → Int32} {τ : Nat → Nat → Int32} {kp ln : Int32} {k : Nat} (hk : k < 6) (hT : τ 6 = tabI) (hR : okR s) : ∀ (n i : Nat) (f : Nat → Int32), i + n = 8 → zS MX7_lettersThatFit G 3 0 0 0 0 (mq G mo s f τ kp ln hh) sz 4 [some (.ref mo), some (.int (nI k)), some (.int (lfA s k i)), some (.int (nI i))] [] (fun rr hh' ss' kk' nn' => zJ (lfA s k 8) G mo s τ kp ln hh sz rr hh' ss' ∧ kk' ≤ 0 ∧ nn' ≤ 0) := by
  intro n; induction n with
  | zero =>
    intro i f hi
    refine z_iload_n dX7_lettersThatFit_4 rfl ?_
    refine z_bipush (v := (nI 8)) dX7_lettersThatFit_5 (by decide) ?_
    refine z_icmp_ge (tgt := 46) dX7_lettersThatFit_7 (by decide) (fun c_7 => ?_) (fun c_7 => absurd c_7 (not_not_intro (nI_le (by omega) (by omega))))
    refine z_iload_n dX7_lettersThatFit_46 rfl ?_
    exact z_iretJ f τ dX7_lettersThatFit_47 rfl (by rw [show i = 8 by omega]) rfl MJ.rfl rfl (Nat.le_refl _) (Nat.le_refl _)
  | succ n ih =>
    intro i f hi
    refine z_iload_n dX7_lettersThatFit_4 rfl ?_
    refine z_bipush (v := (nI 8)) dX7_lettersThatFit_5 (by decide) ?_
    refine z_icmp_ge (tgt := 46) dX7_lettersThatFit_7 (by decide) (fun c_7 => absurd c_7 (nI_ge (by omega) (by omega))) (fun c_7 => ?_)
    refine z_iload_n dX7_lettersThatFit_10 rfl ?_
    refine z_aload_n dX7_lettersThatFit_11 rfl ?_
    refine z_iload_n dX7_lettersThatFit_12 rfl ?_
    refine z_iload_n dX7_lettersThatFit_13 rfl ?_
    refine z_iconst (v := (nI 0)) dX7_lettersThatFit_14 (by decide) ?_
    refine z_callVR (ci := 7) (k_X7_findsFit hk (by omega) (by omega) hT hR) dX7_lettersThatFit_15 ⟨zm_750, zm_753, zm_8, zm_752, zmp_13, by decide⟩ mq_o (by decide) zp_X7_findsFit rfl (Nat.le_of_ble_eq_true rfl) (Nat.le_refl _) (Nat.le_refl _) ?_
    refine z_if_ne (tgt := 31) dX7_lettersThatFit_18 (by decide) (fun c_18 => ?_) (fun c_18 => ?_)
    · refine z_iconst (v := (nI 1)) dX7_lettersThatFit_31 (by decide) ?_
      refine z_iload_n dX7_lettersThatFit_32 rfl ?_
      refine z_ishl dX7_lettersThatFit_33 ?_
      refine z_goto (tgt := 38) dX7_lettersThatFit_34 (by decide) ?_
      refine z_ior dX7_lettersThatFit_38 ?_
      refine z_istore_n dX7_lettersThatFit_39 (by decide) rfl rfl ?_
      refine z_iincU dX7_lettersThatFit_40 rfl (by decide) rfl rfl ?_
      refine z_goto (tgt := 4) dX7_lettersThatFit_43 (by decide) ?_
      have e1 := fun f2 => ih (i + 1) f2 (by omega)
      rw [lfA, if_pos (Or.inl (by simpa using zb_1 c_18))] at e1
      exact e1 _
    · refine z_aload_n dX7_lettersThatFit_21 rfl ?_
      refine z_iload_n dX7_lettersThatFit_22 rfl ?_
      refine z_iload_n dX7_lettersThatFit_23 rfl ?_
      refine z_iconst (v := (nI 1)) dX7_lettersThatFit_24 (by decide) ?_
      refine z_callVR (ci := 7) (k_X7_findsFit hk (by omega) (by omega) hT hR) dX7_lettersThatFit_25 ⟨zm_750, zm_753, zm_8, zm_752, zmp_13, by decide⟩ mq_o (by decide) zp_X7_findsFit rfl (Nat.le_of_ble_eq_true rfl) (Nat.le_refl _) (Nat.le_refl _) ?_
      refine z_if_eq (tgt := 37) dX7_lettersThatFit_28 (by decide) (fun c_28 => ?_) (fun c_28 => ?_)
      · refine z_iconst (v := (nI 0)) dX7_lettersThatFit_37 (by decide) ?_
        refine z_ior dX7_lettersThatFit_38 ?_
        refine z_istore_n dX7_lettersThatFit_39 (by decide) rfl rfl ?_
        refine z_iincU dX7_lettersThatFit_40 rfl (by decide) rfl rfl ?_
        refine z_goto (tgt := 4) dX7_lettersThatFit_43 (by decide) ?_
        have e1 := fun f2 => ih (i + 1) f2 (by omega)
        rw [lfA, if_neg (fun z => z.elim (by simpa using zb_0 c_18) (by simpa using zb_0 c_28))] at e1
        exact e1 _
      · refine z_iconst (v := (nI 1)) dX7_lettersThatFit_31 (by decide) ?_
        refine z_iload_n dX7_lettersThatFit_32 rfl ?_
        refine z_ishl dX7_lettersThatFit_33 ?_
        refine z_goto (tgt := 38) dX7_lettersThatFit_34 (by decide) ?_
        refine z_ior dX7_lettersThatFit_38 ?_
        refine z_istore_n dX7_lettersThatFit_39 (by decide) rfl rfl ?_
        refine z_iincU dX7_lettersThatFit_40 rfl (by decide) rfl rfl ?_
        refine z_goto (tgt := 4) dX7_lettersThatFit_43 (by decide) ?_
        have e1 := fun f2 => ih (i + 1) f2 (by omega)
        rw [lfA, if_pos (Or.inr (by simpa using zb_1 c_28))] at e1
        exact e1 _
set_option maxHeartbeats 4000000 in
set_option maxRecDepth 100000 in
theorem k_X7_lettersThatFit {G : zG} {hh : zH} {sz mo : Nat} {s fo : Nat → Int32} {τ : Nat → Nat → Int32} {kp ln : Int32} {k : Nat} (hk : k < 6) (hT : τ 6 = tabI) (hR : okR s) : zC G 3 MX7_lettersThatFit yX7_lettersThatFit [.ref mo, .int (nI k)] (mq G mo s fo τ kp ln hh) sz 0 0 (zJ (lfA s k 8) G mo s τ kp ln hh sz) := by
  refine z_intro _ rfl zy_X7_lettersThatFit (Nat.le_of_ble_eq_true rfl) ?_
  refine z_iconst (v := (nI 0)) dX7_lettersThatFit_0 (by decide) ?_
  refine z_istore_n dX7_lettersThatFit_1 (by decide) rfl rfl ?_
  refine z_iconst (v := (nI 0)) dX7_lettersThatFit_2 (by decide) ?_
  refine z_istore_n dX7_lettersThatFit_3 (by decide) rfl rfl ?_
  exact l_lettersThatFit hk hT hR 8 0 fo (Nat.zero_add _)
def o_ofSheet (s : Nat → Int32) (a b : Int32) : Int32 := if isI (nSh s) a = true then (if b = nI 0 then s (3 + 11 * a.toNatClampNeg + 0) else if b = nI 1 then uncA s a.toNatClampNeg 9 else if b = nI 2 then pfrA s a (nP s) else if b = nI 3 then s (3 + 11 * a.toNatClampNeg + 1) else if b = nI 4 then lfA s a.toNatClampNeg 8 else -2) else -1
set_option maxHeartbeats 4000000 in
set_option maxRecDepth 100000 in
theorem k_X7_ofSheet {G : zG} {hh : zH} {sz mo : Nat} {s fo : Nat → Int32} {τ : Nat → Nat → Int32} {kp ln : Int32} (hT : τ 6 = tabI) (hS : okS s) {a b : Int32} : zC G 4 MX7_ofSheet yX7_ofSheet [.ref mo, .int a, .int b] (mq G mo s fo τ kp ln hh) sz 0 0 (zJ (o_ofSheet s a b) G mo s τ kp ln hh sz) := by
  obtain ⟨⟨a1, a2⟩, ⟨b1, b2⟩, hR⟩ := id hS
  refine z_intro _ rfl zy_X7_ofSheet (Nat.le_of_ble_eq_true rfl) ?_
  refine z_aload_n dX7_ofSheet_0 rfl ?_
  refine z_iload_n dX7_ofSheet_1 rfl ?_
  refine z_callVR (ci := 7) (k_X7_isSheet a1 (by omega)) dX7_ofSheet_2 ⟨zm_716, zm_719, zm_8, zm_718, zmp_7, by decide⟩ mq_o (by decide) zp_X7_isSheet rfl (Nat.le_of_ble_eq_true rfl) (Nat.le_refl _) (Nat.le_refl _) ?_
  refine z_if_ne (tgt := 10) dX7_ofSheet_5 (by decide) (fun c_5 => ?_) (fun c_5 => ?_)
  · have hA := zb_1 c_5
    obtain ⟨k, hk, rfl⟩ := (isI_iff (by omega)).mp hA
    have ck : (nI k).toNatClampNeg = k := nI_clamp (by omega)
    refine z_iload_n dX7_ofSheet_10 rfl ?_
    by_cases q0 : b = nI 0
    · refine z_tableIn (tgt := 44) dX7_ofSheet_11 (by rw [q0]; decide) (by rw [q0]; decide) (by rw [q0]; rfl) (by decide) ?_
      refine z_aload_n dX7_ofSheet_44 rfl ?_
      refine z_get (ci := 7) (f := 0) dX7_ofSheet_45 ⟨by decide, by decide, zm_663, rfl⟩ mq_o rfl ?_
      refine z_iload_n dX7_ofSheet_48 rfl ?_
      refine z_iconst (v := (nI 0)) dX7_ofSheet_49 (by decide) ?_
      refine z_callSR kn_ofOne dX7_ofSheet_50 ⟨zm_709, zm_711, zm_8, zm_710⟩  (by decide) zp_X7_ofOne rfl (Nat.le_of_ble_eq_true rfl) (Nat.le_refl _) (Nat.le_refl _) ?_
      refine z_ialdN (j := 3 + 11 * k + 0) dX7_ofSheet_53 mq_a0 rfl (by omega) (by decide) ?_
      have ee : o_ofSheet s (nI k) b = s (3 + 11 * k + 0) := by unfold o_ofSheet; rw [ck, if_pos hA, if_pos q0]
      rw [ee]
      exact z_iretJ fo τ dX7_ofSheet_54 rfl rfl rfl MJ.rfl rfl (Nat.le_refl _) (Nat.le_refl _)
    by_cases q1 : b = nI 1
    · refine z_tableIn (tgt := 55) dX7_ofSheet_11 (by rw [q1]; decide) (by rw [q1]; decide) (by rw [q1]; rfl) (by decide) ?_
      refine z_aload_n dX7_ofSheet_55 rfl ?_
      refine z_iload_n dX7_ofSheet_56 rfl ?_
      refine z_callVR (ci := 7) (k_X7_uncut (by omega) hR) dX7_ofSheet_57 ⟨zm_835, zm_838, zm_8, zm_837, zmp_26, by decide⟩ mq_o (by decide) zp_X7_uncut rfl (Nat.le_of_ble_eq_true rfl) (Nat.le_refl _) (Nat.le_refl _) ?_
      have ee : o_ofSheet s (nI k) b = uncA s k 9 := by unfold o_ofSheet; rw [ck, if_pos hA, if_neg q0, if_pos q1]
      rw [ee]
      exact z_iretJ fo τ dX7_ofSheet_60 rfl rfl rfl MJ.rfl rfl (Nat.le_refl _) (Nat.le_refl _)
    by_cases q2 : b = nI 2
    · refine z_tableIn (tgt := 61) dX7_ofSheet_11 (by rw [q2]; decide) (by rw [q2]; decide) (by rw [q2]; rfl) (by decide) ?_
      refine z_aload_n dX7_ofSheet_61 rfl ?_
      refine z_iload_n dX7_ofSheet_62 rfl ?_
      refine z_callVR (ci := 7) (k_X7_piecesFrom b1 b2) dX7_ofSheet_63 ⟨zm_847, zm_850, zm_8, zm_849, zmp_27, by decide⟩ mq_o (by decide) zp_X7_piecesFrom rfl (Nat.le_of_ble_eq_true rfl) (Nat.le_refl _) (Nat.le_refl _) ?_
      have ee : o_ofSheet s (nI k) b = pfrA s (nI k) (nP s) := by unfold o_ofSheet; rw [ck, if_pos hA, if_neg q0, if_neg q1, if_pos q2]
      rw [ee]
      exact z_iretJ fo τ dX7_ofSheet_66 rfl rfl rfl MJ.rfl rfl (Nat.le_refl _) (Nat.le_refl _)
    by_cases q3 : b = nI 3
    · refine z_tableIn (tgt := 67) dX7_ofSheet_11 (by rw [q3]; decide) (by rw [q3]; decide) (by rw [q3]; rfl) (by decide) ?_
      refine z_aload_n dX7_ofSheet_67 rfl ?_
      refine z_get (ci := 7) (f := 0) dX7_ofSheet_68 ⟨by decide, by decide, zm_663, rfl⟩ mq_o rfl ?_
      refine z_iload_n dX7_ofSheet_71 rfl ?_
      refine z_iconst (v := (nI 1)) dX7_ofSheet_72 (by decide) ?_
      refine z_callSR kn_ofOne dX7_ofSheet_73 ⟨zm_709, zm_711, zm_8, zm_710⟩  (by decide) zp_X7_ofOne rfl (Nat.le_of_ble_eq_true rfl) (Nat.le_refl _) (Nat.le_refl _) ?_
      refine z_ialdN (j := 3 + 11 * k + 1) dX7_ofSheet_76 mq_a0 rfl (by omega) (by decide) ?_
      have ee : o_ofSheet s (nI k) b = s (3 + 11 * k + 1) := by unfold o_ofSheet; rw [ck, if_pos hA, if_neg q0, if_neg q1, if_neg q2, if_pos q3]
      rw [ee]
      exact z_iretJ fo τ dX7_ofSheet_77 rfl rfl rfl MJ.rfl rfl (Nat.le_refl _) (Nat.le_refl _)
    by_cases q4 : b = nI 4
    · refine z_tableIn (tgt := 78) dX7_ofSheet_11 (by rw [q4]; decide) (by rw [q4]; decide) (by rw [q4]; rfl) (by decide) ?_
      refine z_aload_n dX7_ofSheet_78 rfl ?_
      refine z_iload_n dX7_ofSheet_79 rfl ?_
      refine z_callV (ci := 7) (k_X7_lettersThatFit (by omega) hT hR) dX7_ofSheet_80 ⟨zm_851, zm_854, zm_8, zm_853, zmp_28, by decide⟩ mq_o (by decide) zp_X7_lettersThatFit (Nat.le_of_ble_eq_true rfl) (Nat.le_refl _) (Nat.le_refl _) (fun r_80 hh_80 sz_80 hp_80 => ?_) rfl
      obtain ⟨f1, t1, rfl, rfl, hM1, rfl⟩ := hp_80
      have ee : o_ofSheet s (nI k) b = lfA s k 8 := by unfold o_ofSheet; rw [ck, if_pos hA, if_neg q0, if_neg q1, if_neg q2, if_neg q3, if_pos q4]
      rw [ee]
      exact z_iretJ f1 t1 dX7_ofSheet_83 rfl rfl rfl hM1 rfl (Nat.le_refl _) (Nat.le_refl _)
    refine z_tableOut (tgt := 84) dX7_ofSheet_11 (z_out5 q0 q1 q2 q3 q4) (by decide) ?_
    refine z_bipush (v := (-2)) dX7_ofSheet_84 (by decide) ?_
    have ee : o_ofSheet s (nI k) b = -2 := by unfold o_ofSheet; rw [ck, if_pos hA, if_neg q0, if_neg q1, if_neg q2, if_neg q3, if_neg q4]
    rw [ee]
    exact z_iretJ fo τ dX7_ofSheet_86 rfl rfl rfl MJ.rfl rfl (Nat.le_refl _) (Nat.le_refl _)
  · refine z_iconst (v := (-1)) dX7_ofSheet_8 (by decide) ?_
    have ee : o_ofSheet s a b = -1 := by unfold o_ofSheet; rw [zb_0 c_5]; rfl
    rw [ee]
    exact z_iretJ fo τ dX7_ofSheet_9 rfl rfl rfl MJ.rfl rfl (Nat.le_refl _) (Nat.le_refl _)
def o_row (s : Nat → Int32) (a b : Int32) : Int32 := if isI (nSh s) a = true then (if isI 9 b = true then s (5 + 11 * a.toNatClampNeg + b.toNatClampNeg) else -1) else -1
set_option maxHeartbeats 4000000 in
set_option maxRecDepth 100000 in
theorem k_X7_row {G : zG} {hh : zH} {sz mo : Nat} {s fo : Nat → Int32} {τ : Nat → Nat → Int32} {kp ln : Int32} (hT : τ 6 = tabI) (hS : okS s) {a b : Int32} : zC G 2 MX7_row yX7_row [.ref mo, .int a, .int b] (mq G mo s fo τ kp ln hh) sz 0 0 (zJ (o_row s a b) G mo s τ kp ln hh sz) := by
  obtain ⟨⟨a1, a2⟩, ⟨b1, b2⟩, hR⟩ := id hS
  refine z_intro _ rfl zy_X7_row (Nat.le_of_ble_eq_true rfl) ?_
  refine z_aload_n dX7_row_0 rfl ?_
  refine z_iload_n dX7_row_1 rfl ?_
  refine z_callVR (ci := 7) (k_X7_isSheet a1 (by omega)) dX7_row_2 ⟨zm_716, zm_719, zm_8, zm_718, zmp_7, by decide⟩ mq_o (by decide) zp_X7_isSheet rfl (Nat.le_of_ble_eq_true rfl) (Nat.le_refl _) (Nat.le_refl _) ?_
  refine z_if_eq (tgt := 33) dX7_row_5 (by decide) (fun c_5 => ?_) (fun c_5 => ?_)
  · refine z_iconst (v := (-1)) dX7_row_33 (by decide) ?_
    have ee : o_row s a b = -1 := by unfold o_row; rw [zb_0 c_5]; rfl
    rw [ee]
    exact z_iretJ fo τ dX7_row_34 rfl rfl rfl MJ.rfl rfl (Nat.le_refl _) (Nat.le_refl _)
  · refine z_iload_n dX7_row_8 rfl ?_
    refine z_iconst (v := (nI 0)) dX7_row_9 (by decide) ?_
    refine z_bipush (v := (nI 8)) dX7_row_10 (by decide) ?_
    refine z_callSR (kn_in (n := 8) (by omega)) dX7_row_12 ⟨zm_702, zm_704, zm_8, zm_703⟩  (by decide) zp_X7_in rfl (Nat.le_of_ble_eq_true rfl) (Nat.le_refl _) (Nat.le_refl _) ?_
    refine z_if_eq (tgt := 33) dX7_row_15 (by decide) (fun c_15 => ?_) (fun c_15 => ?_)
    · refine z_iconst (v := (-1)) dX7_row_33 (by decide) ?_
      have ee : o_row s a b = -1 := by unfold o_row; rw [if_pos (zb_1 c_5), zb_0 c_15]; rfl
      rw [ee]
      exact z_iretJ fo τ dX7_row_34 rfl rfl rfl MJ.rfl rfl (Nat.le_refl _) (Nat.le_refl _)
    · have hA := zb_1 c_5
      have hB := zb_1 c_15
      obtain ⟨k, hk, rfl⟩ := (isI_iff (by omega)).mp hA
      obtain ⟨r, hr, rfl⟩ := (isI_iff (by omega)).mp hB
      have ck : (nI k).toNatClampNeg = k := nI_clamp (by omega)
      have cr : (nI r).toNatClampNeg = r := nI_clamp (by omega)
      refine z_aload_n dX7_row_18 rfl ?_
      refine z_get (ci := 7) (f := 0) dX7_row_19 ⟨by decide, by decide, zm_663, rfl⟩ mq_o rfl ?_
      refine z_iload_n dX7_row_22 rfl ?_
      refine z_iconst (v := (nI 2)) dX7_row_23 (by decide) ?_
      refine z_iload_n dX7_row_24 rfl ?_
      refine z_iaddN dX7_row_25 ?_
      refine z_callSR kn_ofOne dX7_row_26 ⟨zm_709, zm_711, zm_8, zm_710⟩  (by decide) zp_X7_ofOne rfl (Nat.le_of_ble_eq_true rfl) (Nat.le_refl _) (Nat.le_refl _) ?_
      refine z_ialdN (j := 5 + 11 * k + r) dX7_row_29 mq_a0 (by congr 1; omega) (by omega) (by decide) ?_
      refine z_goto (tgt := 34) dX7_row_30 (by decide) ?_
      have ee : o_row s (nI k) (nI r) = s (5 + 11 * k + r) := by unfold o_row; rw [ck, cr, if_pos hA, if_pos hB]
      rw [ee]
      exact z_iretJ fo τ dX7_row_34 rfl rfl rfl MJ.rfl rfl (Nat.le_refl _) (Nat.le_refl _)
def o_pane (s : Nat → Int32) (a b : Int32) : Int32 := if (isI 3 a && isI 12 b) = true then paF s (nI 12 * a + b) (nP s) else -1
set_option maxHeartbeats 4000000 in
set_option maxRecDepth 100000 in
theorem k_X7_pane {G : zG} {hh : zH} {sz mo : Nat} {s fo : Nat → Int32} {τ : Nat → Nat → Int32} {kp ln : Int32} (hT : τ 6 = tabI) (hS : okS s) {a b : Int32} : zC G 2 MX7_pane yX7_pane [.ref mo, .int a, .int b] (mq G mo s fo τ kp ln hh) sz 0 0 (zJ (o_pane s a b) G mo s τ kp ln hh sz) := by
  obtain ⟨⟨a1, a2⟩, ⟨b1, b2⟩, hR⟩ := id hS
  refine z_intro _ rfl zy_X7_pane (Nat.le_of_ble_eq_true rfl) ?_
  refine z_iload_n dX7_pane_0 rfl ?_
  refine z_iload_n dX7_pane_1 rfl ?_
  refine z_callSR kn_isSpot dX7_pane_2 ⟨zm_758, zm_760, zm_8, zm_759⟩  (by decide) zp_X7_isSpot rfl (Nat.le_of_ble_eq_true rfl) (Nat.le_refl _) (Nat.le_refl _) ?_
  refine z_if_eq (tgt := 17) dX7_pane_5 (by decide) (fun c_5 => ?_) (fun c_5 => ?_)
  · refine z_iconst (v := (-1)) dX7_pane_17 (by decide) ?_
    have ee : o_pane s a b = -1 := by unfold o_pane; rw [zb_0 c_5]; rfl
    rw [ee]
    exact z_iretJ fo τ dX7_pane_18 rfl rfl rfl MJ.rfl rfl (Nat.le_refl _) (Nat.le_refl _)
  · refine z_aload_n dX7_pane_8 rfl ?_
    refine z_iload_n dX7_pane_9 rfl ?_
    refine z_iload_n dX7_pane_10 rfl ?_
    refine z_callVR (ci := 7) (k_X7_pieceAt b1 b2) dX7_pane_11 ⟨zm_780, zm_783, zm_8, zm_782, zmp_17, by decide⟩ mq_o (by decide) zp_X7_pieceAt rfl (Nat.le_of_ble_eq_true rfl) (Nat.le_refl _) (Nat.le_refl _) ?_
    refine z_goto (tgt := 18) dX7_pane_14 (by decide) ?_
    have ee : o_pane s a b = paF s (nI 12 * a + b) (nP s) := by unfold o_pane; rw [if_pos (zb_1 c_5)]
    rw [ee]
    exact z_iretJ fo τ dX7_pane_18 rfl rfl rfl MJ.rfl rfl (Nat.le_refl _) (Nat.le_refl _)
def o_shape (a b c : Int32) : Int32 := if isI 8 a = true then (if isI 8 b = true then (if isI 5 c = true then tabI (40 * a.toNatClampNeg + 5 * b.toNatClampNeg + c.toNatClampNeg) else -2) else -2) else -1
set_option maxHeartbeats 4000000 in
set_option maxRecDepth 100000 in
theorem k_X7_shape {G : zG} {hh : zH} {sz mo : Nat} {s fo : Nat → Int32} {τ : Nat → Nat → Int32} {kp ln : Int32} (hT : τ 6 = tabI) (hS : okS s) {a b c : Int32} : zC G 2 MX7_shape yX7_shape [.ref mo, .int a, .int b, .int c] (mq G mo s fo τ kp ln hh) sz 0 0 (zJ (o_shape a b c) G mo s τ kp ln hh sz) := by
  obtain ⟨⟨a1, a2⟩, ⟨b1, b2⟩, hR⟩ := id hS
  refine z_intro _ rfl zy_X7_shape (Nat.le_of_ble_eq_true rfl) ?_
  refine z_iload_n dX7_shape_0 rfl ?_
  refine z_callSR kn_isLetter dX7_shape_1 ⟨zm_720, zm_722, zm_8, zm_721⟩  (by decide) zp_X7_isLetter rfl (Nat.le_of_ble_eq_true rfl) (Nat.le_refl _) (Nat.le_refl _) ?_
  refine z_if_ne (tgt := 9) dX7_shape_4 (by decide) (fun c_4 => ?_) (fun c_4 => ?_)
  · refine z_iload_n dX7_shape_9 rfl ?_
    refine z_iconst (v := (nI 0)) dX7_shape_10 (by decide) ?_
    refine z_bipush (v := (nI 7)) dX7_shape_11 (by decide) ?_
    refine z_callSR (kn_in (n := 7) (by omega)) dX7_shape_13 ⟨zm_702, zm_704, zm_8, zm_703⟩  (by decide) zp_X7_in rfl (Nat.le_of_ble_eq_true rfl) (Nat.le_refl _) (Nat.le_refl _) ?_
    refine z_if_eq (tgt := 38) dX7_shape_16 (by decide) (fun c_16 => ?_) (fun c_16 => ?_)
    · refine z_bipush (v := (-2)) dX7_shape_38 (by decide) ?_
      have ee : o_shape a b c = -2 := by unfold o_shape; rw [if_pos (zb_1 c_4), zb_0 c_16]; rfl
      rw [ee]
      exact z_iretJ fo τ dX7_shape_40 rfl rfl rfl MJ.rfl rfl (Nat.le_refl _) (Nat.le_refl _)
    · refine z_iload_n dX7_shape_19 rfl ?_
      refine z_iconst (v := (nI 0)) dX7_shape_20 (by decide) ?_
      refine z_iconst (v := (nI 4)) dX7_shape_21 (by decide) ?_
      refine z_callSR (kn_in (n := 4) (by omega)) dX7_shape_22 ⟨zm_702, zm_704, zm_8, zm_703⟩  (by decide) zp_X7_in rfl (Nat.le_of_ble_eq_true rfl) (Nat.le_refl _) (Nat.le_refl _) ?_
      refine z_if_eq (tgt := 38) dX7_shape_25 (by decide) (fun c_25 => ?_) (fun c_25 => ?_)
      · refine z_bipush (v := (-2)) dX7_shape_38 (by decide) ?_
        have ee : o_shape a b c = -2 := by unfold o_shape; rw [if_pos (zb_1 c_4), if_pos (zb_1 c_16), zb_0 c_25]; rfl
        rw [ee]
        exact z_iretJ fo τ dX7_shape_40 rfl rfl rfl MJ.rfl rfl (Nat.le_refl _) (Nat.le_refl _)
      · have hA := zb_1 c_4
        have hB := zb_1 c_16
        have hC := zb_1 c_25
        obtain ⟨l, hl, rfl⟩ := (isI_iff (by omega)).mp hA
        obtain ⟨w, hw, rfl⟩ := (isI_iff (by omega)).mp hB
        obtain ⟨r, hr, rfl⟩ := (isI_iff (by omega)).mp hC
        have cl : (nI l).toNatClampNeg = l := nI_clamp (by omega)
        have cw : (nI w).toNatClampNeg = w := nI_clamp (by omega)
        have cr : (nI r).toNatClampNeg = r := nI_clamp (by omega)
        refine z_aload_n dX7_shape_28 rfl ?_
        refine z_iload_n dX7_shape_29 rfl ?_
        refine z_iload_n dX7_shape_30 rfl ?_
        refine z_iload_n dX7_shape_31 rfl ?_
        refine z_callVR (ci := 7) (k_X7_shapeOf hl hw hr hT) dX7_shape_32 ⟨zm_727, zm_730, zm_8, zm_729, zmp_9, by decide⟩ mq_o (by decide) zp_X7_shapeOf rfl (Nat.le_of_ble_eq_true rfl) (Nat.le_refl _) (Nat.le_refl _) ?_
        refine z_goto (tgt := 40) dX7_shape_35 (by decide) ?_
        have ee : o_shape (nI l) (nI w) (nI r) = tabI (40 * l + 5 * w + r) := by unfold o_shape; rw [cl, cw, cr, if_pos hA, if_pos hB, if_pos hC]
        rw [ee]
        exact z_iretJ fo τ dX7_shape_40 rfl rfl rfl MJ.rfl rfl (Nat.le_refl _) (Nat.le_refl _)
  · refine z_iconst (v := (-1)) dX7_shape_7 (by decide) ?_
    have ee : o_shape a b c = -1 := by unfold o_shape; rw [zb_0 c_4]; rfl
    rw [ee]
    exact z_iretJ fo τ dX7_shape_8 rfl rfl rfl MJ.rfl rfl (Nat.le_refl _) (Nat.le_refl _)
