set_option maxHeartbeats 4000000 in
set_option maxRecDepth 100000 in
theorem k_X5_sheetAt {G : zG} {hh : zH} {sz sh o : Nat} {s p : Nat → Int32} (hA : shopA G sh o s p hh) (h0 : s 0 = nI (nSh s)) (hn : nSh s ≤ 6) {i : Nat} (hi : i < nSh s) : zC G 0 MX5_sheetAt yX5_sheetAt [.ref o, .int (nI i)] hh sz 0 0 (zR (.ref (o + 4 + 2 * i)) hh sz) := by
  refine z_intro _ rfl zy_X5_sheetAt (Nat.le_of_ble_eq_true rfl) ?_
  refine z_iload_n dX5_sheetAt_0 rfl ?_
  refine z_if_lt (tgt := 27) dX5_sheetAt_1 (by decide) (fun c_1 => absurd c_1 (nI_pos (by omega))) (fun c_1 => ?_)
  refine z_iload_n dX5_sheetAt_4 rfl ?_
  refine z_aload_n dX5_sheetAt_5 rfl ?_
  refine z_get (ci := 5) (f := 4) dX5_sheetAt_6 ⟨by decide, by decide, zm_136, rfl⟩ (sA_o hA) rfl ?_
  refine z_eq h0 ?_
  refine z_icmp_ge (tgt := 27) dX5_sheetAt_9 (by decide) (fun c_9 => absurd c_9 (nI_ge (by omega) (by omega))) (fun c_9 => ?_)
  refine z_iload_n dX5_sheetAt_12 rfl ?_
  refine z_bipush (v := (nI 6)) dX5_sheetAt_13 (by decide) ?_
  refine z_icmp_ge (tgt := 27) dX5_sheetAt_15 (by decide) (fun c_15 => absurd c_15 (nI_ge (by omega) (by omega))) (fun c_15 => ?_)
  refine z_aload_n dX5_sheetAt_18 rfl ?_
  refine z_get (ci := 5) (f := 1) dX5_sheetAt_19 ⟨by decide, by decide, zm_132, rfl⟩ (sA_o hA) rfl ?_
  refine z_iload_n dX5_sheetAt_22 rfl ?_
  refine z_aaldN (j := i) (t := 4) dX5_sheetAt_23 (sA_1 hA) rfl rfl (by omega) (by decide) ?_
  refine z_eqV (aa_6 (by omega)) ?_
  refine z_goto (tgt := 28) dX5_sheetAt_24 (by decide) ?_
  exact z_aretR dX5_sheetAt_28 rfl rfl rfl rfl (Nat.le_refl _) (Nat.le_refl _)
set_option maxHeartbeats 4000000 in
set_option maxRecDepth 100000 in
theorem kz_X5_sheetAt {G : zG} {hh : zH} {sz sh o : Nat} {s p : Nat → Int32} (hA : shopA G sh o s p hh) (h0 : s 0 = nI (nSh s)) (hn : nSh s ≤ 6) {x : Int32} (hx : isI (nSh s) x = false) : zC G 0 MX5_sheetAt yX5_sheetAt [.ref o, .int x] hh sz 0 0 (zR .null hh sz) := by
  refine z_intro _ rfl zy_X5_sheetAt (Nat.le_of_ble_eq_true rfl) ?_
  refine z_iload_n dX5_sheetAt_0 rfl ?_
  refine z_if_lt (tgt := 27) dX5_sheetAt_1 (by decide) (fun c_1 => ?_) (fun c_1 => ?_)
  · refine z_null dX5_sheetAt_27 ?_
    exact z_aretRN dX5_sheetAt_28 rfl rfl rfl (Nat.le_refl _) (Nat.le_refl _)
  · refine z_iload_n dX5_sheetAt_4 rfl ?_
    refine z_aload_n dX5_sheetAt_5 rfl ?_
    refine z_get (ci := 5) (f := 4) dX5_sheetAt_6 ⟨by decide, by decide, zm_136, rfl⟩ (sA_o hA) rfl ?_
    refine z_eq h0 ?_
    refine z_icmp_ge (tgt := 27) dX5_sheetAt_9 (by decide) (fun c_9 => ?_) (fun c_9 => absurd c_9 (not_not_intro (by rw [Int32.le_iff_toInt_le, nI_t (by omega)]; rw [Int32.lt_iff_toInt_lt, Int32.toInt_zero] at c_1; rcases isI_not hx with z | z <;> omega)))
    refine z_null dX5_sheetAt_27 ?_
    exact z_aretRN dX5_sheetAt_28 rfl rfl rfl (Nat.le_refl _) (Nat.le_refl _)
set_option maxHeartbeats 4000000 in
set_option maxRecDepth 100000 in
theorem k_X5_pieceAt {G : zG} {hh : zH} {sz sh o : Nat} {s p : Nat → Int32} (hA : shopA G sh o s p hh) (h1 : s 1 = nI (nP s)) (hm : nP s ≤ 48) {i : Nat} (hi : i < nP s) : zC G 0 MX5_pieceAt yX5_pieceAt [.ref o, .int (nI i)] hh sz 0 0 (zR (.ref (o + 16 + i)) hh sz) := by
  refine z_intro _ rfl zy_X5_pieceAt (Nat.le_of_ble_eq_true rfl) ?_
  refine z_iload_n dX5_pieceAt_0 rfl ?_
  refine z_if_lt (tgt := 27) dX5_pieceAt_1 (by decide) (fun c_1 => absurd c_1 (nI_pos (by omega))) (fun c_1 => ?_)
  refine z_iload_n dX5_pieceAt_4 rfl ?_
  refine z_aload_n dX5_pieceAt_5 rfl ?_
  refine z_get (ci := 5) (f := 5) dX5_pieceAt_6 ⟨by decide, by decide, zm_138, rfl⟩ (sA_o hA) rfl ?_
  refine z_eq h1 ?_
  refine z_icmp_ge (tgt := 27) dX5_pieceAt_9 (by decide) (fun c_9 => absurd c_9 (nI_ge (by omega) (by omega))) (fun c_9 => ?_)
  refine z_iload_n dX5_pieceAt_12 rfl ?_
  refine z_bipush (v := (nI 48)) dX5_pieceAt_13 (by decide) ?_
  refine z_icmp_ge (tgt := 27) dX5_pieceAt_15 (by decide) (fun c_15 => absurd c_15 (nI_ge (by omega) (by omega))) (fun c_15 => ?_)
  refine z_aload_n dX5_pieceAt_18 rfl ?_
  refine z_get (ci := 5) (f := 2) dX5_pieceAt_19 ⟨by decide, by decide, zm_133, rfl⟩ (sA_o hA) rfl ?_
  refine z_iload_n dX5_pieceAt_22 rfl ?_
  refine z_aaldN (j := i) (t := 5) dX5_pieceAt_23 (sA_2 hA) rfl rfl (by omega) (by decide) ?_
  refine z_eqV (aa_48 (by omega)) ?_
  refine z_goto (tgt := 28) dX5_pieceAt_24 (by decide) ?_
  exact z_aretR dX5_pieceAt_28 rfl rfl rfl rfl (Nat.le_refl _) (Nat.le_refl _)
set_option maxHeartbeats 4000000 in
set_option maxRecDepth 100000 in
theorem kz_X5_pieceAt {G : zG} {hh : zH} {sz sh o : Nat} {s p : Nat → Int32} (hA : shopA G sh o s p hh) (h1 : s 1 = nI (nP s)) (hm : nP s ≤ 48) {x : Int32} (hx : isI (nP s) x = false) : zC G 0 MX5_pieceAt yX5_pieceAt [.ref o, .int x] hh sz 0 0 (zR .null hh sz) := by
  refine z_intro _ rfl zy_X5_pieceAt (Nat.le_of_ble_eq_true rfl) ?_
  refine z_iload_n dX5_pieceAt_0 rfl ?_
  refine z_if_lt (tgt := 27) dX5_pieceAt_1 (by decide) (fun c_1 => ?_) (fun c_1 => ?_)
  · refine z_null dX5_pieceAt_27 ?_
    exact z_aretRN dX5_pieceAt_28 rfl rfl rfl (Nat.le_refl _) (Nat.le_refl _)
  · refine z_iload_n dX5_pieceAt_4 rfl ?_
    refine z_aload_n dX5_pieceAt_5 rfl ?_
    refine z_get (ci := 5) (f := 5) dX5_pieceAt_6 ⟨by decide, by decide, zm_138, rfl⟩ (sA_o hA) rfl ?_
    refine z_eq h1 ?_
    refine z_icmp_ge (tgt := 27) dX5_pieceAt_9 (by decide) (fun c_9 => ?_) (fun c_9 => absurd c_9 (not_not_intro (by rw [Int32.le_iff_toInt_le, nI_t (by omega)]; rw [Int32.lt_iff_toInt_lt, Int32.toInt_zero] at c_1; rcases isI_not hx with z | z <;> omega)))
    refine z_null dX5_pieceAt_27 ?_
    exact z_aretRN dX5_pieceAt_28 rfl rfl rfl (Nat.le_refl _) (Nat.le_refl _)
/-- the squares of the pieces in a state -/
def cpsA (s : Nat → Int32) (x : Int32) : Nat → Int32
  | 0 => nI 0
  | i + 1 => cpsA s x i + (if s (69 + 8 * i + 3) = x then nI (sqA (plN s i) 5) else nI 0)
/-- the squares of the sheets that are scrapped, or not -/
def cssA (s : Nat → Int32) (x : Int32) : Nat → Int32
  | 0 => nI 0
  | i + 1 => cssA s x i + (if s (4 + 11 * i) = x then uncA s i 9 else nI 0)
/-- the pieces in a pane -/
def cinA (s : Nat → Int32) (x : Int32) : Nat → Int32
  | 0 => nI 0
  | i + 1 => cinA s x i + (if s (69 + 8 * i + 3) = nI 1 ∧ s (69 + 8 * i + 4) / nI 12 = x then nI 1 else nI 0)
theorem add_n0 (x : Int32) : x + nI 0 = x := Int32.add_zero x
set_option maxHeartbeats 4000000 in
set_option maxRecDepth 100000 in
theorem l_X5_piecesFrom {G : zG} {hh : zH} {sz sh o : Nat} {s p : Nat → Int32} (hA : shopA G sh o s p hh) (h1 : s 1 = nI (nP s)) (hm : nP s ≤ 48) {x : Int32} : ∀ (n i : Nat) (p4 : Option Value), i + n = nP s → zS MX5_piecesFrom G 1 0 0 0 0 hh sz 4 [some (.ref o), some (.int x), some (.int (pfrA s x i)), some (.int (nI i)), p4] [] (fun rr hh' ss' kk' nn' => zR (.int (pfrA s x (nP s))) hh sz rr hh' ss' ∧ kk' ≤ 0 ∧ nn' ≤ 0) := by
  intro n; induction n with
  | zero =>
    intro i p4 hi
    refine z_iload_n dX5_piecesFrom_4 rfl ?_
    refine z_aload_n dX5_piecesFrom_5 rfl ?_
    refine z_get (ci := 5) (f := 5) dX5_piecesFrom_6 ⟨by decide, by decide, zm_138, rfl⟩ (sA_o hA) rfl ?_
    refine z_eq h1 ?_
    refine z_icmp_ge (tgt := 42) dX5_piecesFrom_9 (by decide) (fun c_9 => ?_) (fun c_9 => absurd c_9 (not_not_intro (nI_le (by omega) (by omega))))
    refine z_iload_n dX5_piecesFrom_42 rfl ?_
    exact z_iretR dX5_piecesFrom_43 rfl (by rw [show i = nP s by omega]) rfl rfl (Nat.le_refl _) (Nat.le_refl _)
  | succ n ih =>
    intro i p4 hi
    refine z_iload_n dX5_piecesFrom_4 rfl ?_
    refine z_aload_n dX5_piecesFrom_5 rfl ?_
    refine z_get (ci := 5) (f := 5) dX5_piecesFrom_6 ⟨by decide, by decide, zm_138, rfl⟩ (sA_o hA) rfl ?_
    refine z_eq h1 ?_
    refine z_icmp_ge (tgt := 42) dX5_piecesFrom_9 (by decide) (fun c_9 => absurd c_9 (nI_ge (by omega) (by omega))) (fun c_9 => ?_)
    refine z_aload_n dX5_piecesFrom_12 rfl ?_
    refine z_iload_n dX5_piecesFrom_13 rfl ?_
    refine z_callVR (ci := 5) (k_X5_pieceAt hA h1 hm (show i < nP s by omega)) dX5_piecesFrom_14 ⟨zm_223, zm_226, zm_3, zm_224, zm_225, by decide⟩ (sA_o hA) (by decide) zp_X5_pieceAt rfl (Nat.le_of_ble_eq_true rfl) (Nat.le_refl _) (Nat.le_refl _) ?_
    refine z_astore dX5_piecesFrom_17 (by decide) rfl rfl ?_
    refine z_aload dX5_piecesFrom_19 rfl ?_
    refine z_ifnull dX5_piecesFrom_21 ?_
    refine z_aload dX5_piecesFrom_24 rfl ?_
    refine z_getN (ci := 2) (f := 3) dX5_piecesFrom_26 ⟨by decide, by decide, zm_105, rfl⟩ (sA_pc hA (j := i) (by omega)) rfl ?_
    refine z_iload_n dX5_piecesFrom_29 rfl ?_
    refine z_icmp_ne (tgt := 36) dX5_piecesFrom_30 (by decide) (fun c_30 => ?_) (fun c_30 => ?_)
    · refine z_iincU dX5_piecesFrom_36 rfl (by decide) rfl rfl ?_
      refine z_goto (tgt := 4) dX5_piecesFrom_39 (by decide) ?_
      rw [show pfrA s x i = pfrA s x (i + 1) by rw [pfrA, if_neg c_30, add_n0]]
      exact ih (i + 1) _ (by omega)
    · refine z_iincC (c := (nI 1)) dX5_piecesFrom_33 (by decide) rfl (by decide) rfl rfl ?_
      refine z_iincU dX5_piecesFrom_36 rfl (by decide) rfl rfl ?_
      refine z_goto (tgt := 4) dX5_piecesFrom_39 (by decide) ?_
      rw [show pfrA s x i + nI 1 = pfrA s x (i + 1) by rw [pfrA, if_pos c_30]]
      exact ih (i + 1) _ (by omega)
set_option maxHeartbeats 4000000 in
set_option maxRecDepth 100000 in
theorem k_X5_piecesFrom {G : zG} {hh : zH} {sz sh o : Nat} {s p : Nat → Int32} (hA : shopA G sh o s p hh) (h1 : s 1 = nI (nP s)) (hm : nP s ≤ 48) {x : Int32} : zC G 1 MX5_piecesFrom yX5_piecesFrom [.ref o, .int x] hh sz 0 0 (zR (.int (pfrA s x (nP s))) hh sz) := by
  refine z_intro _ rfl zy_X5_piecesFrom (Nat.le_of_ble_eq_true rfl) ?_
  refine z_iconst (v := (nI 0)) dX5_piecesFrom_0 (by decide) ?_
  refine z_istore_n dX5_piecesFrom_1 (by decide) rfl rfl ?_
  refine z_iconst (v := (nI 0)) dX5_piecesFrom_2 (by decide) ?_
  refine z_istore_n dX5_piecesFrom_3 (by decide) rfl rfl ?_
  exact l_X5_piecesFrom hA h1 hm  _ 0 _ (Nat.zero_add _)
set_option maxHeartbeats 4000000 in
set_option maxRecDepth 100000 in
theorem l_X5_piecesThatAre {G : zG} {hh : zH} {sz sh o : Nat} {s p : Nat → Int32} (hA : shopA G sh o s p hh) (h1 : s 1 = nI (nP s)) (hm : nP s ≤ 48) {x : Int32} : ∀ (n i : Nat) (p4 : Option Value), i + n = nP s → zS MX5_piecesThatAre G 1 0 0 0 0 hh sz 4 [some (.ref o), some (.int x), some (.int (ptaA s x i)), some (.int (nI i)), p4] [] (fun rr hh' ss' kk' nn' => zR (.int (ptaA s x (nP s))) hh sz rr hh' ss' ∧ kk' ≤ 0 ∧ nn' ≤ 0) := by
  intro n; induction n with
  | zero =>
    intro i p4 hi
    refine z_iload_n dX5_piecesThatAre_4 rfl ?_
    refine z_aload_n dX5_piecesThatAre_5 rfl ?_
    refine z_get (ci := 5) (f := 5) dX5_piecesThatAre_6 ⟨by decide, by decide, zm_138, rfl⟩ (sA_o hA) rfl ?_
    refine z_eq h1 ?_
    refine z_icmp_ge (tgt := 42) dX5_piecesThatAre_9 (by decide) (fun c_9 => ?_) (fun c_9 => absurd c_9 (not_not_intro (nI_le (by omega) (by omega))))
    refine z_iload_n dX5_piecesThatAre_42 rfl ?_
    exact z_iretR dX5_piecesThatAre_43 rfl (by rw [show i = nP s by omega]) rfl rfl (Nat.le_refl _) (Nat.le_refl _)
  | succ n ih =>
    intro i p4 hi
    refine z_iload_n dX5_piecesThatAre_4 rfl ?_
    refine z_aload_n dX5_piecesThatAre_5 rfl ?_
    refine z_get (ci := 5) (f := 5) dX5_piecesThatAre_6 ⟨by decide, by decide, zm_138, rfl⟩ (sA_o hA) rfl ?_
    refine z_eq h1 ?_
    refine z_icmp_ge (tgt := 42) dX5_piecesThatAre_9 (by decide) (fun c_9 => absurd c_9 (nI_ge (by omega) (by omega))) (fun c_9 => ?_)
    refine z_aload_n dX5_piecesThatAre_12 rfl ?_
    refine z_iload_n dX5_piecesThatAre_13 rfl ?_
    refine z_callVR (ci := 5) (k_X5_pieceAt hA h1 hm (show i < nP s by omega)) dX5_piecesThatAre_14 ⟨zm_223, zm_226, zm_3, zm_224, zm_225, by decide⟩ (sA_o hA) (by decide) zp_X5_pieceAt rfl (Nat.le_of_ble_eq_true rfl) (Nat.le_refl _) (Nat.le_refl _) ?_
    refine z_astore dX5_piecesThatAre_17 (by decide) rfl rfl ?_
    refine z_aload dX5_piecesThatAre_19 rfl ?_
    refine z_ifnull dX5_piecesThatAre_21 ?_
    refine z_aload dX5_piecesThatAre_24 rfl ?_
    refine z_getN (ci := 2) (f := 5) dX5_piecesThatAre_26 ⟨by decide, by decide, zm_111, rfl⟩ (sA_pc hA (j := i) (by omega)) rfl ?_
    refine z_iload_n dX5_piecesThatAre_29 rfl ?_
    refine z_icmp_ne (tgt := 36) dX5_piecesThatAre_30 (by decide) (fun c_30 => ?_) (fun c_30 => ?_)
    · refine z_iincU dX5_piecesThatAre_36 rfl (by decide) rfl rfl ?_
      refine z_goto (tgt := 4) dX5_piecesThatAre_39 (by decide) ?_
      rw [show ptaA s x i = ptaA s x (i + 1) by rw [ptaA, if_neg c_30, add_n0]]
      exact ih (i + 1) _ (by omega)
    · refine z_iincC (c := (nI 1)) dX5_piecesThatAre_33 (by decide) rfl (by decide) rfl rfl ?_
      refine z_iincU dX5_piecesThatAre_36 rfl (by decide) rfl rfl ?_
      refine z_goto (tgt := 4) dX5_piecesThatAre_39 (by decide) ?_
      rw [show ptaA s x i + nI 1 = ptaA s x (i + 1) by rw [ptaA, if_pos c_30]]
      exact ih (i + 1) _ (by omega)
set_option maxHeartbeats 4000000 in
set_option maxRecDepth 100000 in
theorem k_X5_piecesThatAre {G : zG} {hh : zH} {sz sh o : Nat} {s p : Nat → Int32} (hA : shopA G sh o s p hh) (h1 : s 1 = nI (nP s)) (hm : nP s ≤ 48) {x : Int32} : zC G 1 MX5_piecesThatAre yX5_piecesThatAre [.ref o, .int x] hh sz 0 0 (zR (.int (ptaA s x (nP s))) hh sz) := by
  refine z_intro _ rfl zy_X5_piecesThatAre (Nat.le_of_ble_eq_true rfl) ?_
  refine z_iconst (v := (nI 0)) dX5_piecesThatAre_0 (by decide) ?_
  refine z_istore_n dX5_piecesThatAre_1 (by decide) rfl rfl ?_
  refine z_iconst (v := (nI 0)) dX5_piecesThatAre_2 (by decide) ?_
  refine z_istore_n dX5_piecesThatAre_3 (by decide) rfl rfl ?_
  exact l_X5_piecesThatAre hA h1 hm  _ 0 _ (Nat.zero_add _)
set_option maxHeartbeats 4000000 in
set_option maxRecDepth 100000 in
theorem l_X5_piecesIn {G : zG} {hh : zH} {sz sh o : Nat} {s p : Nat → Int32} (hA : shopA G sh o s p hh) (h1 : s 1 = nI (nP s)) (hm : nP s ≤ 48) {x : Int32} : ∀ (n i : Nat) (p4 : Option Value), i + n = nP s → zS MX5_piecesIn G 1 0 0 0 0 hh sz 4 [some (.ref o), some (.int x), some (.int (cinA s x i)), some (.int (nI i)), p4] [] (fun rr hh' ss' kk' nn' => zR (.int (cinA s x (nP s))) hh sz rr hh' ss' ∧ kk' ≤ 0 ∧ nn' ≤ 0) := by
  intro n; induction n with
  | zero =>
    intro i p4 hi
    refine z_iload_n dX5_piecesIn_4 rfl ?_
    refine z_aload_n dX5_piecesIn_5 rfl ?_
    refine z_get (ci := 5) (f := 5) dX5_piecesIn_6 ⟨by decide, by decide, zm_138, rfl⟩ (sA_o hA) rfl ?_
    refine z_eq h1 ?_
    refine z_icmp_ge (tgt := 54) dX5_piecesIn_9 (by decide) (fun c_9 => ?_) (fun c_9 => absurd c_9 (not_not_intro (nI_le (by omega) (by omega))))
    refine z_iload_n dX5_piecesIn_54 rfl ?_
    exact z_iretR dX5_piecesIn_55 rfl (by rw [show i = nP s by omega]) rfl rfl (Nat.le_refl _) (Nat.le_refl _)
  | succ n ih =>
    intro i p4 hi
    refine z_iload_n dX5_piecesIn_4 rfl ?_
    refine z_aload_n dX5_piecesIn_5 rfl ?_
    refine z_get (ci := 5) (f := 5) dX5_piecesIn_6 ⟨by decide, by decide, zm_138, rfl⟩ (sA_o hA) rfl ?_
    refine z_eq h1 ?_
    refine z_icmp_ge (tgt := 54) dX5_piecesIn_9 (by decide) (fun c_9 => absurd c_9 (nI_ge (by omega) (by omega))) (fun c_9 => ?_)
    refine z_aload_n dX5_piecesIn_12 rfl ?_
    refine z_iload_n dX5_piecesIn_13 rfl ?_
    refine z_callVR (ci := 5) (k_X5_pieceAt hA h1 hm (show i < nP s by omega)) dX5_piecesIn_14 ⟨zm_223, zm_226, zm_3, zm_224, zm_225, by decide⟩ (sA_o hA) (by decide) zp_X5_pieceAt rfl (Nat.le_of_ble_eq_true rfl) (Nat.le_refl _) (Nat.le_refl _) ?_
    refine z_astore dX5_piecesIn_17 (by decide) rfl rfl ?_
    refine z_aload dX5_piecesIn_19 rfl ?_
    refine z_ifnull dX5_piecesIn_21 ?_
    refine z_aload dX5_piecesIn_24 rfl ?_
    refine z_getN (ci := 2) (f := 5) dX5_piecesIn_26 ⟨by decide, by decide, zm_111, rfl⟩ (sA_pc hA (j := i) (by omega)) rfl ?_
    refine z_iconst (v := (nI 1)) dX5_piecesIn_29 (by decide) ?_
    refine z_icmp_ne (tgt := 48) dX5_piecesIn_30 (by decide) (fun c_30 => ?_) (fun c_30 => ?_)
    · refine z_iincU dX5_piecesIn_48 rfl (by decide) rfl rfl ?_
      refine z_goto (tgt := 4) dX5_piecesIn_51 (by decide) ?_
      rw [show cinA s x i = cinA s x (i + 1) by rw [cinA, if_neg (fun z => c_30 z.1), add_n0]]
      exact ih (i + 1) _ (by omega)
    · refine z_aload dX5_piecesIn_33 rfl ?_
      refine z_getN (ci := 2) (f := 6) dX5_piecesIn_35 ⟨by decide, by decide, zm_115, rfl⟩ (sA_pc hA (j := i) (by omega)) rfl ?_
      refine z_bipush (v := (nI 12)) dX5_piecesIn_38 (by decide) ?_
      refine z_idiv dX5_piecesIn_40 (by decide) ?_
      refine z_iload_n dX5_piecesIn_41 rfl ?_
      refine z_icmp_ne (tgt := 48) dX5_piecesIn_42 (by decide) (fun c_42 => ?_) (fun c_42 => ?_)
      · refine z_iincU dX5_piecesIn_48 rfl (by decide) rfl rfl ?_
        refine z_goto (tgt := 4) dX5_piecesIn_51 (by decide) ?_
        rw [show cinA s x i = cinA s x (i + 1) by rw [cinA, if_neg (fun z => c_42 z.2), add_n0]]
        exact ih (i + 1) _ (by omega)
      · refine z_iincC (c := (nI 1)) dX5_piecesIn_45 (by decide) rfl (by decide) rfl rfl ?_
        refine z_iincU dX5_piecesIn_48 rfl (by decide) rfl rfl ?_
        refine z_goto (tgt := 4) dX5_piecesIn_51 (by decide) ?_
        rw [show cinA s x i + nI 1 = cinA s x (i + 1) by rw [cinA, if_pos ⟨c_30, c_42⟩]]
        exact ih (i + 1) _ (by omega)
set_option maxHeartbeats 4000000 in
set_option maxRecDepth 100000 in
theorem k_X5_piecesIn {G : zG} {hh : zH} {sz sh o : Nat} {s p : Nat → Int32} (hA : shopA G sh o s p hh) (h1 : s 1 = nI (nP s)) (hm : nP s ≤ 48) {x : Int32} : zC G 1 MX5_piecesIn yX5_piecesIn [.ref o, .int x] hh sz 0 0 (zR (.int (cinA s x (nP s))) hh sz) := by
  refine z_intro _ rfl zy_X5_piecesIn (Nat.le_of_ble_eq_true rfl) ?_
  refine z_iconst (v := (nI 0)) dX5_piecesIn_0 (by decide) ?_
  refine z_istore_n dX5_piecesIn_1 (by decide) rfl rfl ?_
  refine z_iconst (v := (nI 0)) dX5_piecesIn_2 (by decide) ?_
  refine z_istore_n dX5_piecesIn_3 (by decide) rfl rfl ?_
  exact l_X5_piecesIn hA h1 hm  _ 0 _ (Nat.zero_add _)
set_option maxHeartbeats 4000000 in
set_option maxRecDepth 100000 in
theorem l_X5_squaresOfPieces {G : zG} {hh : zH} {sz sh o : Nat} {s p : Nat → Int32} (hA : shopA G sh o s p hh) (h1 : s 1 = nI (nP s)) (hm : nP s ≤ 48) {x : Int32} (hP : okP s) (hs : shH G sh hh) : ∀ (n i : Nat) (p4 : Option Value), i + n = nP s → zS MX5_squaresOfPieces G 3 0 0 0 0 hh sz 4 [some (.ref o), some (.int x), some (.int (cpsA s x i)), some (.int (nI i)), p4] [] (fun rr hh' ss' kk' nn' => zR (.int (cpsA s x (nP s))) hh sz rr hh' ss' ∧ kk' ≤ 0 ∧ nn' ≤ 0) := by
  intro n; induction n with
  | zero =>
    intro i p4 hi
    refine z_iload_n dX5_squaresOfPieces_4 rfl ?_
    refine z_aload_n dX5_squaresOfPieces_5 rfl ?_
    refine z_get (ci := 5) (f := 5) dX5_squaresOfPieces_6 ⟨by decide, by decide, zm_138, rfl⟩ (sA_o hA) rfl ?_
    refine z_eq h1 ?_
    refine z_icmp_ge (tgt := 54) dX5_squaresOfPieces_9 (by decide) (fun c_9 => ?_) (fun c_9 => absurd c_9 (not_not_intro (nI_le (by omega) (by omega))))
    refine z_iload_n dX5_squaresOfPieces_54 rfl ?_
    exact z_iretR dX5_squaresOfPieces_55 rfl (by rw [show i = nP s by omega]) rfl rfl (Nat.le_refl _) (Nat.le_refl _)
  | succ n ih =>
    intro i p4 hi
    refine z_iload_n dX5_squaresOfPieces_4 rfl ?_
    refine z_aload_n dX5_squaresOfPieces_5 rfl ?_
    refine z_get (ci := 5) (f := 5) dX5_squaresOfPieces_6 ⟨by decide, by decide, zm_138, rfl⟩ (sA_o hA) rfl ?_
    refine z_eq h1 ?_
    refine z_icmp_ge (tgt := 54) dX5_squaresOfPieces_9 (by decide) (fun c_9 => absurd c_9 (nI_ge (by omega) (by omega))) (fun c_9 => ?_)
    refine z_aload_n dX5_squaresOfPieces_12 rfl ?_
    refine z_iload_n dX5_squaresOfPieces_13 rfl ?_
    refine z_callVR (ci := 5) (k_X5_pieceAt hA h1 hm (show i < nP s by omega)) dX5_squaresOfPieces_14 ⟨zm_223, zm_226, zm_3, zm_224, zm_225, by decide⟩ (sA_o hA) (by decide) zp_X5_pieceAt rfl (Nat.le_of_ble_eq_true rfl) (Nat.le_refl _) (Nat.le_refl _) ?_
    refine z_astore dX5_squaresOfPieces_17 (by decide) rfl rfl ?_
    refine z_aload dX5_squaresOfPieces_19 rfl ?_
    refine z_ifnull dX5_squaresOfPieces_21 ?_
    refine z_aload dX5_squaresOfPieces_24 rfl ?_
    refine z_getN (ci := 2) (f := 5) dX5_squaresOfPieces_26 ⟨by decide, by decide, zm_111, rfl⟩ (sA_pc hA (j := i) (by omega)) rfl ?_
    refine z_iload_n dX5_squaresOfPieces_29 rfl ?_
    refine z_icmp_ne (tgt := 48) dX5_squaresOfPieces_30 (by decide) (fun c_30 => ?_) (fun c_30 => ?_)
    · refine z_iincU dX5_squaresOfPieces_48 rfl (by decide) rfl rfl ?_
      refine z_goto (tgt := 4) dX5_squaresOfPieces_51 (by decide) ?_
      rw [show cpsA s x i = cpsA s x (i + 1) by rw [cpsA, if_neg c_30, add_n0]]
      exact ih (i + 1) _ (by omega)
    · refine z_iload_n dX5_squaresOfPieces_33 rfl ?_
      refine z_aload_n dX5_squaresOfPieces_34 rfl ?_
      refine z_get (ci := 5) (f := 0) dX5_squaresOfPieces_35 ⟨by decide, by decide, zm_131, rfl⟩ (sA_o hA) rfl ?_
      refine z_aload dX5_squaresOfPieces_38 rfl ?_
      refine z_getN (ci := 2) (f := 0) dX5_squaresOfPieces_40 ⟨by decide, by decide, zm_96, rfl⟩ (sA_pc hA (j := i) (by omega)) rfl ?_
      refine z_eq (hP i (by omega)).1 ?_
      refine z_callVR (ci := 3) (k_X3_squaresOf (hP i (by omega)).2 hs) dX5_squaresOfPieces_43 ⟨zm_231, zm_234, zm_2, zm_232, zm_233, by decide⟩ hs.1 (by decide) zp_X3_squaresOf rfl (Nat.le_of_ble_eq_true rfl) (Nat.le_refl _) (Nat.le_refl _) ?_
      refine z_iadd dX5_squaresOfPieces_46 ?_
      refine z_istore_n dX5_squaresOfPieces_47 (by decide) rfl rfl ?_
      refine z_iincU dX5_squaresOfPieces_48 rfl (by decide) rfl rfl ?_
      refine z_goto (tgt := 4) dX5_squaresOfPieces_51 (by decide) ?_
      rw [show cpsA s x i + nI (sqA (plN s i) 5) = cpsA s x (i + 1) by rw [cpsA, if_pos c_30]]
      exact ih (i + 1) _ (by omega)
set_option maxHeartbeats 4000000 in
set_option maxRecDepth 100000 in
theorem k_X5_squaresOfPieces {G : zG} {hh : zH} {sz sh o : Nat} {s p : Nat → Int32} (hA : shopA G sh o s p hh) (h1 : s 1 = nI (nP s)) (hm : nP s ≤ 48) {x : Int32} (hP : okP s) (hs : shH G sh hh) : zC G 3 MX5_squaresOfPieces yX5_squaresOfPieces [.ref o, .int x] hh sz 0 0 (zR (.int (cpsA s x (nP s))) hh sz) := by
  refine z_intro _ rfl zy_X5_squaresOfPieces (Nat.le_of_ble_eq_true rfl) ?_
  refine z_iconst (v := (nI 0)) dX5_squaresOfPieces_0 (by decide) ?_
  refine z_istore_n dX5_squaresOfPieces_1 (by decide) rfl rfl ?_
  refine z_iconst (v := (nI 0)) dX5_squaresOfPieces_2 (by decide) ?_
  refine z_istore_n dX5_squaresOfPieces_3 (by decide) rfl rfl ?_
  exact l_X5_squaresOfPieces hA h1 hm hP hs _ 0 _ (Nat.zero_add _)
set_option maxHeartbeats 4000000 in
set_option maxRecDepth 100000 in
theorem l_X5_squaresOfSheets {G : zG} {hh : zH} {sz sh o : Nat} {s p : Nat → Int32} (hA : shopA G sh o s p hh) (h0 : s 0 = nI (nSh s)) (hn : nSh s ≤ 6) {x : Int32} (hR : okR s) : ∀ (n i : Nat) (p4 : Option Value), i + n = nSh s → zS MX5_squaresOfSheets G 2 0 0 0 0 hh sz 4 [some (.ref o), some (.int x), some (.int (cssA s x i)), some (.int (nI i)), p4] [] (fun rr hh' ss' kk' nn' => zR (.int (cssA s x (nSh s))) hh sz rr hh' ss' ∧ kk' ≤ 0 ∧ nn' ≤ 0) := by
  intro n; induction n with
  | zero =>
    intro i p4 hi
    refine z_iload_n dX5_squaresOfSheets_4 rfl ?_
    refine z_aload_n dX5_squaresOfSheets_5 rfl ?_
    refine z_get (ci := 5) (f := 4) dX5_squaresOfSheets_6 ⟨by decide, by decide, zm_136, rfl⟩ (sA_o hA) rfl ?_
    refine z_eq h0 ?_
    refine z_icmp_ge (tgt := 47) dX5_squaresOfSheets_9 (by decide) (fun c_9 => ?_) (fun c_9 => absurd c_9 (not_not_intro (nI_le (by omega) (by omega))))
    refine z_iload_n dX5_squaresOfSheets_47 rfl ?_
    exact z_iretR dX5_squaresOfSheets_48 rfl (by rw [show i = nSh s by omega]) rfl rfl (Nat.le_refl _) (Nat.le_refl _)
  | succ n ih =>
    intro i p4 hi
    refine z_iload_n dX5_squaresOfSheets_4 rfl ?_
    refine z_aload_n dX5_squaresOfSheets_5 rfl ?_
    refine z_get (ci := 5) (f := 4) dX5_squaresOfSheets_6 ⟨by decide, by decide, zm_136, rfl⟩ (sA_o hA) rfl ?_
    refine z_eq h0 ?_
    refine z_icmp_ge (tgt := 47) dX5_squaresOfSheets_9 (by decide) (fun c_9 => absurd c_9 (nI_ge (by omega) (by omega))) (fun c_9 => ?_)
    refine z_aload_n dX5_squaresOfSheets_12 rfl ?_
    refine z_iload_n dX5_squaresOfSheets_13 rfl ?_
    refine z_callVR (ci := 5) (k_X5_sheetAt hA h0 hn (show i < nSh s by omega)) dX5_squaresOfSheets_14 ⟨zm_252, zm_255, zm_3, zm_253, zm_254, by decide⟩ (sA_o hA) (by decide) zp_X5_sheetAt rfl (Nat.le_of_ble_eq_true rfl) (Nat.le_refl _) (Nat.le_refl _) ?_
    refine z_astore dX5_squaresOfSheets_17 (by decide) rfl rfl ?_
    refine z_aload dX5_squaresOfSheets_19 rfl ?_
    refine z_ifnull dX5_squaresOfSheets_21 ?_
    refine z_aload dX5_squaresOfSheets_24 rfl ?_
    refine z_getN (ci := 4) (f := 3) dX5_squaresOfSheets_26 ⟨by decide, by decide, zm_80, rfl⟩ (sA_st hA (i := i) (by omega)).1 rfl ?_
    refine z_iload_n dX5_squaresOfSheets_29 rfl ?_
    refine z_icmp_ne (tgt := 41) dX5_squaresOfSheets_30 (by decide) (fun c_30 => ?_) (fun c_30 => ?_)
    · refine z_iincU dX5_squaresOfSheets_41 rfl (by decide) rfl rfl ?_
      refine z_goto (tgt := 4) dX5_squaresOfSheets_44 (by decide) ?_
      rw [show cssA s x i = cssA s x (i + 1) by rw [cssA, if_neg c_30, add_n0]]
      exact ih (i + 1) _ (by omega)
    · refine z_iload_n dX5_squaresOfSheets_33 rfl ?_
      refine z_aload dX5_squaresOfSheets_34 rfl ?_
      refine z_callVR (ci := 4) (k_X4_squaresLeft (by omega) hR (sA_st hA (by omega))) dX5_squaresOfSheets_36 ⟨zm_256, zm_259, zm_4, zm_257, zm_258, by decide⟩ (sA_st hA (i := i) (by omega)).1 (by decide) zp_X4_squaresLeft rfl (Nat.le_of_ble_eq_true rfl) (Nat.le_refl _) (Nat.le_refl _) ?_
      refine z_iadd dX5_squaresOfSheets_39 ?_
      refine z_istore_n dX5_squaresOfSheets_40 (by decide) rfl rfl ?_
      refine z_iincU dX5_squaresOfSheets_41 rfl (by decide) rfl rfl ?_
      refine z_goto (tgt := 4) dX5_squaresOfSheets_44 (by decide) ?_
      rw [show cssA s x i + uncA s i 9 = cssA s x (i + 1) by rw [cssA, if_pos c_30]]
      exact ih (i + 1) _ (by omega)
set_option maxHeartbeats 4000000 in
set_option maxRecDepth 100000 in
theorem k_X5_squaresOfSheets {G : zG} {hh : zH} {sz sh o : Nat} {s p : Nat → Int32} (hA : shopA G sh o s p hh) (h0 : s 0 = nI (nSh s)) (hn : nSh s ≤ 6) {x : Int32} (hR : okR s) : zC G 2 MX5_squaresOfSheets yX5_squaresOfSheets [.ref o, .int x] hh sz 0 0 (zR (.int (cssA s x (nSh s))) hh sz) := by
  refine z_intro _ rfl zy_X5_squaresOfSheets (Nat.le_of_ble_eq_true rfl) ?_
  refine z_iconst (v := (nI 0)) dX5_squaresOfSheets_0 (by decide) ?_
  refine z_istore_n dX5_squaresOfSheets_1 (by decide) rfl rfl ?_
  refine z_iconst (v := (nI 0)) dX5_squaresOfSheets_2 (by decide) ?_
  refine z_istore_n dX5_squaresOfSheets_3 (by decide) rfl rfl ?_
  exact l_X5_squaresOfSheets hA h0 hn hR _ 0 _ (Nat.zero_add _)
def loC (s : Nat → Int32) (col lt mi : Int32) (i : Nat) : Prop := s (69 + 8 * i + 0) = lt ∧ s (69 + 8 * i + 1) = col ∧ s (69 + 8 * i + 2) = mi ∧ s (69 + 8 * i + 3) = 0
theorem loF_no {s : Nat → Int32} {col lt mi : Int32} : ∀ (m : Nat) (f : Int32), (∀ i, i < m → ¬ loC s col lt mi i) → loF s col lt mi m f = f
  | 0, _, _ => rfl
  | m + 1, f, h => by
    have h' : ¬ (s (69 + 8 * m + 0) = lt ∧ s (69 + 8 * m + 1) = col ∧ s (69 + 8 * m + 2) = mi ∧ s (69 + 8 * m + 3) = 0) := h m (by omega)
    rw [loF, if_neg h']
    exact loF_no m f (fun i hi => h i (by omega))
theorem loF_at {s : Nat → Int32} {col lt mi : Int32} {j : Nat} (hj : loC s col lt mi j) (hb : ∀ i, i < j → ¬ loC s col lt mi i) : ∀ (m : Nat) (f : Int32), j < m → loF s col lt mi m f = nI j
  | 0, _, h => absurd h (by omega)
  | m + 1, f, h => by
    rw [loF]
    by_cases e : j = m
    · subst e
      have h' : s (69 + 8 * j + 0) = lt ∧ s (69 + 8 * j + 1) = col ∧ s (69 + 8 * j + 2) = mi ∧ s (69 + 8 * j + 3) = 0 := hj
      rw [if_pos h']
      exact loF_no j _ hb
    · exact loF_at hj hb m _ (by omega)
set_option maxHeartbeats 4000000 in
set_option maxRecDepth 100000 in
theorem l_X5_lowestLoose {G : zG} {hh : zH} {sz sh o : Nat} {s p : Nat → Int32} (hA : shopA G sh o s p hh) (h1 : s 1 = nI (nP s)) (hm : nP s ≤ 48) (hW : ∀ i, i < nP s → ∃ w, w < 8 ∧ s (69 + 8 * i + 7) = nI w ∧ s (69 + 8 * i + 2) = nI (w / 4)) {lt col mi : Int32} : ∀ (n i : Nat) (p5 : Option Value), i + n = nP s → (∀ i2, i2 < i → ¬ loC s col lt mi i2) → zS MX5_lowestLoose G 1 0 0 0 0 hh sz 3 [some (.ref o), some (.int lt), some (.int col), some (.int mi), some (.int (nI i)), p5] [] (fun rr hh' ss' kk' nn' => zR (.int (loF s col lt mi (nP s) (-6))) hh sz rr hh' ss' ∧ kk' ≤ 0 ∧ nn' ≤ 0) := by
  intro n; induction n with
  | zero =>
    intro i p5 hi hb
    refine z_iload dX5_lowestLoose_3 rfl ?_
    refine z_aload_n dX5_lowestLoose_5 rfl ?_
    refine z_get (ci := 5) (f := 5) dX5_lowestLoose_6 ⟨by decide, by decide, zm_138, rfl⟩ (sA_o hA) rfl ?_
    refine z_eq h1 ?_
    refine z_icmp_ge (tgt := 72) dX5_lowestLoose_9 (by decide) (fun c_9 => ?_) (fun c_9 => absurd c_9 (not_not_intro (nI_le (by omega) (by omega))))
    refine z_bipush (v := (-6)) dX5_lowestLoose_72 (by decide) ?_
    exact z_iretR dX5_lowestLoose_74 rfl (loF_no _ _ (fun i2 h2 => hb i2 (by omega))).symm rfl rfl (Nat.le_refl _) (Nat.le_refl _)
  | succ n ih =>
    intro i p5 hi hb
    refine z_iload dX5_lowestLoose_3 rfl ?_
    refine z_aload_n dX5_lowestLoose_5 rfl ?_
    refine z_get (ci := 5) (f := 5) dX5_lowestLoose_6 ⟨by decide, by decide, zm_138, rfl⟩ (sA_o hA) rfl ?_
    refine z_eq h1 ?_
    refine z_icmp_ge (tgt := 72) dX5_lowestLoose_9 (by decide) (fun c_9 => absurd c_9 (nI_ge (by omega) (by omega))) (fun c_9 => ?_)
    refine z_aload_n dX5_lowestLoose_12 rfl ?_
    refine z_iload dX5_lowestLoose_13 rfl ?_
    refine z_callVR (ci := 5) (k_X5_pieceAt hA h1 hm (show i < nP s by omega)) dX5_lowestLoose_15 ⟨zm_223, zm_226, zm_3, zm_224, zm_225, by decide⟩ (sA_o hA) (by decide) zp_X5_pieceAt rfl (Nat.le_of_ble_eq_true rfl) (Nat.le_refl _) (Nat.le_refl _) ?_
    refine z_astore dX5_lowestLoose_18 (by decide) rfl rfl ?_
    refine z_aload dX5_lowestLoose_20 rfl ?_
    refine z_ifnull dX5_lowestLoose_22 ?_
    refine z_aload dX5_lowestLoose_25 rfl ?_
    refine z_getN (ci := 2) (f := 5) dX5_lowestLoose_27 ⟨by decide, by decide, zm_111, rfl⟩ (sA_pc hA (j := i) (by omega)) rfl ?_
    refine z_if_ne (tgt := 66) dX5_lowestLoose_30 (by decide) (fun c_30 => ?_) (fun c_30 => ?_)
    · refine z_iincU dX5_lowestLoose_66 rfl (by decide) rfl rfl ?_
      refine z_goto (tgt := 3) dX5_lowestLoose_69 (by decide) ?_
      exact ih (i + 1) _ (by omega) (fun i2 hi2 => by
        by_cases e : i2 = i
        · subst e; exact fun z => c_30 z.2.2.2
        · exact hb i2 (by omega))
    · refine z_aload dX5_lowestLoose_33 rfl ?_
      refine z_getN (ci := 2) (f := 0) dX5_lowestLoose_35 ⟨by decide, by decide, zm_96, rfl⟩ (sA_pc hA (j := i) (by omega)) rfl ?_
      refine z_iload_n dX5_lowestLoose_38 rfl ?_
      refine z_icmp_ne (tgt := 66) dX5_lowestLoose_39 (by decide) (fun c_39 => ?_) (fun c_39 => ?_)
      · refine z_iincU dX5_lowestLoose_66 rfl (by decide) rfl rfl ?_
        refine z_goto (tgt := 3) dX5_lowestLoose_69 (by decide) ?_
        exact ih (i + 1) _ (by omega) (fun i2 hi2 => by
          by_cases e : i2 = i
          · subst e; exact fun z => c_39 z.1
          · exact hb i2 (by omega))
      · refine z_aload dX5_lowestLoose_42 rfl ?_
        refine z_getN (ci := 2) (f := 1) dX5_lowestLoose_44 ⟨by decide, by decide, zm_99, rfl⟩ (sA_pc hA (j := i) (by omega)) rfl ?_
        refine z_iload_n dX5_lowestLoose_47 rfl ?_
        refine z_icmp_ne (tgt := 66) dX5_lowestLoose_48 (by decide) (fun c_48 => ?_) (fun c_48 => ?_)
        · refine z_iincU dX5_lowestLoose_66 rfl (by decide) rfl rfl ?_
          refine z_goto (tgt := 3) dX5_lowestLoose_69 (by decide) ?_
          exact ih (i + 1) _ (by omega) (fun i2 hi2 => by
            by_cases e : i2 = i
            · subst e; exact fun z => c_48 z.2.1
            · exact hb i2 (by omega))
        · refine z_aload dX5_lowestLoose_51 rfl ?_
          refine z_getN (ci := 2) (f := 2) dX5_lowestLoose_53 ⟨by decide, by decide, zm_102, rfl⟩ (sA_pc hA (j := i) (by omega)) rfl ?_
          obtain ⟨w, hw, w1, w2⟩ := hW i (by omega)
          refine z_eq w1 ?_
          refine z_callSNR (zC_eq (mir6 hw) k_X6_mirroringOf) dX5_lowestLoose_56 ⟨zm_519, zm_43, zm_1, zm_42⟩  (by decide) zp_X6_mirroringOf rfl (Nat.le_of_ble_eq_true rfl) (Nat.le_refl _) (Nat.le_refl _) ?_
          refine z_iload_n dX5_lowestLoose_59 rfl ?_
          refine z_icmp_ne (tgt := 66) dX5_lowestLoose_60 (by decide) (fun c_60 => ?_) (fun c_60 => ?_)
          · refine z_iincU dX5_lowestLoose_66 rfl (by decide) rfl rfl ?_
            refine z_goto (tgt := 3) dX5_lowestLoose_69 (by decide) ?_
            exact ih (i + 1) _ (by omega) (fun i2 hi2 => by
              by_cases e : i2 = i
              · subst e; exact fun z => c_60 (w2.symm.trans z.2.2.1)
              · exact hb i2 (by omega))
          · refine z_iload dX5_lowestLoose_63 rfl ?_
            exact z_iretR dX5_lowestLoose_65 rfl (loF_at ⟨c_39, c_48, w2.trans c_60, c_30⟩ hb _ _ (by omega)).symm rfl rfl (Nat.le_refl _) (Nat.le_refl _)
set_option maxHeartbeats 4000000 in
set_option maxRecDepth 100000 in
theorem k_X5_lowestLoose {G : zG} {hh : zH} {sz sh o : Nat} {s p : Nat → Int32} (hA : shopA G sh o s p hh) (h1 : s 1 = nI (nP s)) (hm : nP s ≤ 48) (hW : ∀ i, i < nP s → ∃ w, w < 8 ∧ s (69 + 8 * i + 7) = nI w ∧ s (69 + 8 * i + 2) = nI (w / 4)) {lt col mi : Int32} : zC G 1 MX5_lowestLoose yX5_lowestLoose [.ref o, .int lt, .int col, .int mi] hh sz 0 0 (zR (.int (loF s col lt mi (nP s) (-6))) hh sz) := by
  refine z_intro _ rfl zy_X5_lowestLoose (Nat.le_of_ble_eq_true rfl) ?_
  refine z_iconst (v := (nI 0)) dX5_lowestLoose_0 (by decide) ?_
  refine z_istore dX5_lowestLoose_1 (by decide) rfl rfl ?_
  exact l_X5_lowestLoose hA h1 hm hW _ 0 _ (Nat.zero_add _) (fun i h => absurd h (by omega))
