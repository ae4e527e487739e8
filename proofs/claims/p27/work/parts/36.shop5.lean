/-- what a cut answers, and what it leaves -/
def ctV (s : Nat → Int32) (k l w : Nat) (x y : Int32) : Int32 := if canI s k l w x y = true then (if nP s = 48 then -4 else nI (nP s)) else -5
def ctS (s : Nat → Int32) (k l w : Nat) (x y : Int32) : Nat → Int32 := if canI s k l w x y = true then (if nP s = 48 then s else newS s (nP s) k l w x.toNatClampNeg y.toNatClampNeg) else s
set_option maxHeartbeats 4000000 in
set_option maxRecDepth 100000 in
theorem k_X5_cutPiece {G : zG} {hh : zH} {sz sh o : Nat} {s p : Nat → Int32} (hA : shopA G sh o s p hh) (hs : shH G sh hh) (hd : sh + 2 ≤ o ∨ o + 64 ≤ sh) (hS : okS s) {k l w : Nat} (hk : k < nSh s) (hl : l < 8) (hw : w < 8) {x y : Int32} : zC G 4 MX5_cutPiece yX5_cutPiece [.ref o, .int (nI k), .int (nI l), .int (nI w), .int x, .int y] hh sz 0 0 (zR (.int (ctV s k l w x y)) (sput G sh o (ctS s k l w x y) p hh) sz) := by
  obtain ⟨⟨a1, a2⟩, ⟨b1, b2⟩, hR⟩ := id hS
  refine z_intro _ rfl zy_X5_cutPiece (Nat.le_of_ble_eq_true rfl) ?_
  refine z_aload_n dX5_cutPiece_0 rfl ?_
  refine z_iload_n dX5_cutPiece_1 rfl ?_
  refine z_callVR (ci := 5) (k_X5_sheetAt hA a1 a2 hk) dX5_cutPiece_2 ⟨zm_252, zm_255, zm_3, zm_253, zm_254, by decide⟩ (sA_o hA) (by decide) zp_X5_sheetAt rfl (Nat.le_of_ble_eq_true rfl) (Nat.le_refl _) (Nat.le_refl _) ?_
  refine z_astore dX5_cutPiece_5 (by decide) rfl rfl ?_
  refine z_aload dX5_cutPiece_7 rfl ?_
  refine z_ifnull dX5_cutPiece_9 ?_
  refine z_aload dX5_cutPiece_12 rfl ?_
  refine z_iload_n dX5_cutPiece_14 rfl ?_
  refine z_iload_n dX5_cutPiece_15 rfl ?_
  refine z_iload dX5_cutPiece_16 rfl ?_
  refine z_iload dX5_cutPiece_18 rfl ?_
  refine z_callVR (ci := 4) (k_X4_canCut hl hw (by omega) hR hs (sA_st hA (i := k) (by omega))) dX5_cutPiece_20 ⟨zm_331, zm_334, zm_4, zm_332, zm_333, by decide⟩ (sA_st hA (i := k) (by omega)).1 (by decide) zp_X4_canCut rfl (Nat.le_of_ble_eq_true rfl) (Nat.le_refl _) (Nat.le_refl _) ?_
  refine z_if_ne (tgt := 29) dX5_cutPiece_23 (by decide) (fun c_23 => ?_) (fun c_23 => ?_)
  · have hcan := zb_1 c_23
    obtain ⟨r, c, rfl, rfl, q1, q2⟩ := canI_ok hcan
    by_cases hm : nP s = 48
    · have e1 : ctV s k l w (nI r) (nI c) = -4 := by unfold ctV; rw [if_pos hcan, if_pos hm]
      have e2 : ctS s k l w (nI r) (nI c) = s := by unfold ctS; rw [if_pos hcan, if_pos hm]
      rw [e1, e2, sput_self hA]
      refine z_aload_n dX5_cutPiece_29 rfl ?_
      refine z_iload_n dX5_cutPiece_30 rfl ?_
      refine z_iload_n dX5_cutPiece_31 rfl ?_
      refine z_iload_n dX5_cutPiece_32 rfl ?_
      refine z_iload dX5_cutPiece_33 rfl ?_
      refine z_iload dX5_cutPiece_35 rfl ?_
      refine z_callVR (ci := 5) (kz_X5_addPiece hA b1 hm) dX5_cutPiece_37 ⟨zm_345, zm_348, zm_3, zm_347, zmp_3, by decide⟩ (sA_o hA) (by decide) zp_X5_addPiece rfl (Nat.le_of_ble_eq_true rfl) (Nat.le_refl _) (Nat.le_refl _) ?_
      exact z_iretR dX5_cutPiece_40 rfl rfl rfl rfl (Nat.le_refl _) (Nat.le_refl _)
    · have h3 := hiN_ge w
      have h3' := wiN_ge w
      have e1 : ctV s k l w (nI r) (nI c) = nI (nP s) := by unfold ctV; rw [if_pos hcan, if_neg hm]
      have e2 : ctS s k l w (nI r) (nI c) = newS s (nP s) k l w r c := by unfold ctS; rw [if_pos hcan, if_neg hm, nI_clamp (by omega), nI_clamp (by omega)]
      rw [e1, e2]
      refine z_aload_n dX5_cutPiece_29 rfl ?_
      refine z_iload_n dX5_cutPiece_30 rfl ?_
      refine z_iload_n dX5_cutPiece_31 rfl ?_
      refine z_iload_n dX5_cutPiece_32 rfl ?_
      refine z_iload dX5_cutPiece_33 rfl ?_
      refine z_iload dX5_cutPiece_35 rfl ?_
      refine z_callVR (ci := 5) (kr_X5_addPiece hA hs hd a1 a2 b1 hR hk hl hw q1 q2 (by omega)) dX5_cutPiece_37 ⟨zm_345, zm_348, zm_3, zm_347, zmp_3, by decide⟩ (sA_o hA) (by decide) zp_X5_addPiece rfl (Nat.le_of_ble_eq_true rfl) (Nat.le_refl _) (Nat.le_refl _) ?_
      exact z_iretR dX5_cutPiece_40 rfl rfl rfl rfl (Nat.le_refl _) (Nat.le_refl _)
  · refine z_bipush (v := (-5)) dX5_cutPiece_26 (by decide) ?_
    have e1 : ctV s k l w x y = -5 := by unfold ctV; rw [zb_0 c_23]; rfl
    have e2 : ctS s k l w x y = s := by unfold ctS; rw [zb_0 c_23]; rfl
    rw [e1, e2, sput_self hA]
    exact z_iretR dX5_cutPiece_28 rfl rfl rfl rfl (Nat.le_refl _) (Nat.le_refl _)
/-- what making a piece answers, and what it leaves -/
def mkV (s : Nat → Int32) (col : Int32) (l mi : Nat) : Int32 := if shF s col l mi (nSh s) 0 < nSh s then (if nP s = 48 then -4 else nI (nP s)) else -5
def mkS (s : Nat → Int32) (col : Int32) (l mi : Nat) : Nat → Int32 := if shF s col l mi (nSh s) 0 < nSh s then (if nP s = 48 then s else fitS s (nP s) (shF s col l mi (nSh s) 0) l mi) else s
set_option maxHeartbeats 4000000 in
set_option maxRecDepth 100000 in
theorem l_X5_makePiece {G : zG} {hh : zH} {sz sh o : Nat} {s p : Nat → Int32} (hA : shopA G sh o s p hh) (hs : shH G sh hh) (hd : sh + 2 ≤ o ∨ o + 64 ≤ sh) (hS : okS s) {l mi : Nat} (hl : l < 8) (hm : mi < 2) {col : Int32} : ∀ (n i : Nat) (p5 p6 : Option Value), i + n = nSh s → shF s col l mi (nSh s) 0 = shF s col l mi n i → zS MX5_makePiece G 4 0 0 0 0 hh sz 3 [some (.ref o), some (.int col), some (.int (nI l)), some (.int (nI mi)), some (.int (nI i)), p5, p6] [] (fun rr hh' ss' kk' nn' => zR (.int (mkV s col l mi)) (sput G sh o (mkS s col l mi) p hh) sz rr hh' ss' ∧ kk' ≤ 0 ∧ nn' ≤ 0) := by
  intro n; induction n with
  | zero =>
    intro i p5 p6 hi hb
    obtain ⟨⟨a1, a2⟩, ⟨b1, b2⟩, hR⟩ := id hS
    refine z_iload dX5_makePiece_3 rfl ?_
    refine z_aload_n dX5_makePiece_5 rfl ?_
    refine z_get (ci := 5) (f := 4) dX5_makePiece_6 ⟨by decide, by decide, zm_136, rfl⟩ (sA_o hA) rfl ?_
    refine z_eq a1 ?_
    refine z_icmp_ge (tgt := 82) dX5_makePiece_9 (by decide) (fun c_9 => ?_) (fun c_9 => absurd c_9 (not_not_intro (nI_le (by omega) (by omega))))
    refine z_bipush (v := (-5)) dX5_makePiece_82 (by decide) ?_
    have es : ¬ shF s col l mi (nSh s) 0 < nSh s := by rw [hb, shF]; omega
    have e1 : mkV s col l mi = -5 := if_neg es
    have e2 : mkS s col l mi = s := if_neg es
    rw [e1, e2, sput_self hA]
    exact z_iretR dX5_makePiece_84 rfl rfl rfl rfl (Nat.le_refl _) (Nat.le_refl _)
  | succ n ih =>
    intro i p5 p6 hi hb
    obtain ⟨⟨a1, a2⟩, ⟨b1, b2⟩, hR⟩ := id hS
    refine z_iload dX5_makePiece_3 rfl ?_
    refine z_aload_n dX5_makePiece_5 rfl ?_
    refine z_get (ci := 5) (f := 4) dX5_makePiece_6 ⟨by decide, by decide, zm_136, rfl⟩ (sA_o hA) rfl ?_
    refine z_eq a1 ?_
    refine z_icmp_ge (tgt := 82) dX5_makePiece_9 (by decide) (fun c_9 => absurd c_9 (nI_ge (by omega) (by omega))) (fun c_9 => ?_)
    refine z_aload_n dX5_makePiece_12 rfl ?_
    refine z_iload dX5_makePiece_13 rfl ?_
    refine z_callVR (ci := 5) (k_X5_sheetAt hA a1 a2 (show i < nSh s by omega)) dX5_makePiece_15 ⟨zm_252, zm_255, zm_3, zm_253, zm_254, by decide⟩ (sA_o hA) (by decide) zp_X5_sheetAt rfl (Nat.le_of_ble_eq_true rfl) (Nat.le_refl _) (Nat.le_refl _) ?_
    refine z_astore dX5_makePiece_18 (by decide) rfl rfl ?_
    refine z_aload dX5_makePiece_20 rfl ?_
    refine z_ifnull dX5_makePiece_22 ?_
    refine z_aload dX5_makePiece_25 rfl ?_
    refine z_getN (ci := 4) (f := 2) dX5_makePiece_27 ⟨by decide, by decide, zm_76, rfl⟩ (sA_st hA (i := i) (by omega)).1 rfl ?_
    refine z_iload_n dX5_makePiece_30 rfl ?_
    refine z_icmp_eq (tgt := 37) dX5_makePiece_31 (by decide) (fun c_31 => ?_) (fun c_31 => ?_)
    · refine z_aload dX5_makePiece_37 rfl ?_
      refine z_iload_n dX5_makePiece_39 rfl ?_
      refine z_iload_n dX5_makePiece_40 rfl ?_
      refine z_callVR (ci := 4) (k_X4_firstFit hl hm (by omega) hR hs (sA_st hA (i := i) (by omega))) dX5_makePiece_41 ⟨zm_368, zm_371, zm_4, zm_369, zm_370, by decide⟩ (sA_st hA (i := i) (by omega)).1 (by decide) zp_X4_firstFit rfl (Nat.le_of_ble_eq_true rfl) (Nat.le_refl _) (Nat.le_refl _) ?_
      refine z_istore dX5_makePiece_44 (by decide) rfl rfl ?_
      refine z_iload dX5_makePiece_46 rfl ?_
      refine z_bipush (v := (-6)) dX5_makePiece_48 (by decide) ?_
      refine z_icmp_eq (tgt := 76) dX5_makePiece_50 (by decide) (fun c_50 => ?_) (fun c_50 => ?_)
      · refine z_iincU dX5_makePiece_76 rfl (by decide) rfl rfl ?_
        refine z_goto (tgt := 3) dX5_makePiece_79 (by decide) ?_
        exact ih (i + 1) _ _ (by omega) (hb.trans (by rw [shF, if_neg (fun z => (ffI_6 hm).mp c_50 z.2)]))
      · have hf : ff s i l mi < 504 := Decidable.of_not_not (fun z => c_50 ((ffI_6 hm).mpr z))
        obtain ⟨q1, q2, -⟩ := ff_ok hf
        have es : shF s col l mi (nSh s) 0 = i := hb.trans (by rw [shF, if_pos ⟨c_31, hf⟩])
        rw [show ffI s i l mi = nI (ff s i l mi / 4 * 8 + (4 * mi + ff s i l mi % 4)) from if_pos hf]
        by_cases h48 : nP s = 48
        · have e1 : mkV s col l mi = -4 := by unfold mkV; rw [es, if_pos (by omega), if_pos h48]
          have e2 : mkS s col l mi = s := by unfold mkS; rw [es, if_pos (by omega), if_pos h48]
          rw [e1, e2, sput_self hA]
          refine z_aload_n dX5_makePiece_53 rfl ?_
          refine z_iload dX5_makePiece_54 rfl ?_
          refine z_iload_n dX5_makePiece_56 rfl ?_
          refine z_iload dX5_makePiece_57 rfl ?_
          refine z_callSNR (kn6_wayIn (by omega)) dX5_makePiece_59 ⟨zm_376, zm_378, zm_1, zm_377⟩  (by decide) zp_X6_wayIn rfl (Nat.le_of_ble_eq_true rfl) (Nat.le_refl _) (Nat.le_refl _) ?_
          refine z_iload dX5_makePiece_62 rfl ?_
          refine z_callSNR (kn6_rowIn (by omega)) dX5_makePiece_64 ⟨zm_379, zm_381, zm_1, zm_380⟩  (by decide) zp_X6_rowIn rfl (Nat.le_of_ble_eq_true rfl) (Nat.le_refl _) (Nat.le_refl _) ?_
          refine z_iload dX5_makePiece_67 rfl ?_
          refine z_callSNR (kn6_columnIn (by omega)) dX5_makePiece_69 ⟨zm_382, zm_384, zm_1, zm_383⟩  (by decide) zp_X6_columnIn rfl (Nat.le_of_ble_eq_true rfl) (Nat.le_refl _) (Nat.le_refl _) ?_
          have e8 : (ff s i l mi / 4 * 8 + (4 * mi + ff s i l mi % 4)) % 8 = 4 * mi + ff s i l mi % 4 := by omega
          have e9 : (ff s i l mi / 4 * 8 + (4 * mi + ff s i l mi % 4)) / 8 = ff s i l mi / 4 := by omega
          rw [e8, e9]
          refine z_callVR (ci := 5) (kz_X5_addPiece hA b1 h48) dX5_makePiece_72 ⟨zm_345, zm_348, zm_3, zm_347, zmp_3, by decide⟩ (sA_o hA) (by decide) zp_X5_addPiece rfl (Nat.le_of_ble_eq_true rfl) (Nat.le_refl _) (Nat.le_refl _) ?_
          exact z_iretR dX5_makePiece_75 rfl rfl rfl rfl (Nat.le_refl _) (Nat.le_refl _)
        · have e1 : mkV s col l mi = nI (nP s) := by unfold mkV; rw [es, if_pos (by omega), if_neg h48]
          have e2 : mkS s col l mi = fitS s (nP s) i l mi := by unfold mkS; rw [es, if_pos (by omega), if_neg h48]
          rw [e1, e2]
          refine z_aload_n dX5_makePiece_53 rfl ?_
          refine z_iload dX5_makePiece_54 rfl ?_
          refine z_iload_n dX5_makePiece_56 rfl ?_
          refine z_iload dX5_makePiece_57 rfl ?_
          refine z_callSNR (kn6_wayIn (by omega)) dX5_makePiece_59 ⟨zm_376, zm_378, zm_1, zm_377⟩  (by decide) zp_X6_wayIn rfl (Nat.le_of_ble_eq_true rfl) (Nat.le_refl _) (Nat.le_refl _) ?_
          refine z_iload dX5_makePiece_62 rfl ?_
          refine z_callSNR (kn6_rowIn (by omega)) dX5_makePiece_64 ⟨zm_379, zm_381, zm_1, zm_380⟩  (by decide) zp_X6_rowIn rfl (Nat.le_of_ble_eq_true rfl) (Nat.le_refl _) (Nat.le_refl _) ?_
          refine z_iload dX5_makePiece_67 rfl ?_
          refine z_callSNR (kn6_columnIn (by omega)) dX5_makePiece_69 ⟨zm_382, zm_384, zm_1, zm_383⟩  (by decide) zp_X6_columnIn rfl (Nat.le_of_ble_eq_true rfl) (Nat.le_refl _) (Nat.le_refl _) ?_
          have e8 : (ff s i l mi / 4 * 8 + (4 * mi + ff s i l mi % 4)) % 8 = 4 * mi + ff s i l mi % 4 := by omega
          have e9 : (ff s i l mi / 4 * 8 + (4 * mi + ff s i l mi % 4)) / 8 = ff s i l mi / 4 := by omega
          rw [e8, e9]
          refine z_callVR (ci := 5) (kr_X5_addPiece hA hs hd a1 a2 b1 hR (k := i) (by omega) hl (w := 4 * mi + ff s i l mi % 4) (by omega) q1 q2 (by omega)) dX5_makePiece_72 ⟨zm_345, zm_348, zm_3, zm_347, zmp_3, by decide⟩ (sA_o hA) (by decide) zp_X5_addPiece rfl (Nat.le_of_ble_eq_true rfl) (Nat.le_refl _) (Nat.le_refl _) ?_
          exact z_iretR dX5_makePiece_75 rfl rfl rfl rfl (Nat.le_refl _) (Nat.le_refl _)
    · refine z_goto (tgt := 76) dX5_makePiece_34 (by decide) ?_
      refine z_iincU dX5_makePiece_76 rfl (by decide) rfl rfl ?_
      refine z_goto (tgt := 3) dX5_makePiece_79 (by decide) ?_
      exact ih (i + 1) _ _ (by omega) (hb.trans (by rw [shF, if_neg (fun z => c_31 z.1)]))
set_option maxHeartbeats 4000000 in
set_option maxRecDepth 100000 in
theorem k_X5_makePiece {G : zG} {hh : zH} {sz sh o : Nat} {s p : Nat → Int32} (hA : shopA G sh o s p hh) (hs : shH G sh hh) (hd : sh + 2 ≤ o ∨ o + 64 ≤ sh) (hS : okS s) {l mi : Nat} (hl : l < 8) (hm : mi < 2) {col : Int32} : zC G 4 MX5_makePiece yX5_makePiece [.ref o, .int col, .int (nI l), .int (nI mi)] hh sz 0 0 (zR (.int (mkV s col l mi)) (sput G sh o (mkS s col l mi) p hh) sz) := by
  refine z_intro _ rfl zy_X5_makePiece (Nat.le_of_ble_eq_true rfl) ?_
  refine z_iconst (v := (nI 0)) dX5_makePiece_0 (by decide) ?_
  refine z_istore dX5_makePiece_1 (by decide) rfl rfl ?_
  exact l_X5_makePiece hA hs hd hS hl hm _ 0 _ _ (Nat.zero_add _) rfl
set_option maxHeartbeats 4000000 in
set_option maxRecDepth 100000 in
theorem kr_X5_wastePiece {G : zG} {hh : zH} {sz sh o : Nat} {s p : Nat → Int32} (hA : shopA G sh o s p hh) (hs : shH G sh hh) (hd : sh + 2 ≤ o ∨ o + 64 ≤ sh) (h1 : s 1 = nI (nP s)) (hm : nP s ≤ 48) (hP : okP s) {j : Nat} (hj : j < nP s) (hst : s (69 + 8 * j + 3) = 0) : zC G 3 MX5_wastePiece yX5_wastePiece [.ref o, .int (nI j)] hh sz 0 0 (zR (.int (nI (sqA (plN s j) 5))) (sput G sh o (upd s (69 + 8 * j + 3) (nI 2)) p hh) sz) := by
  refine z_intro _ rfl zy_X5_wastePiece (Nat.le_of_ble_eq_true rfl) ?_
  refine z_heap (sput_self hA).symm ?_
  have hB : shopA G sh o s p (sput G sh o s p hh) := sput_A
  refine z_aload_n dX5_wastePiece_0 rfl ?_
  refine z_iload_n dX5_wastePiece_1 rfl ?_
  refine z_callVR (ci := 5) (k_X5_pieceAt hB h1 hm hj) dX5_wastePiece_2 ⟨zm_223, zm_226, zm_3, zm_224, zm_225, by decide⟩ (sA_o hB) (by decide) zp_X5_pieceAt rfl (Nat.le_of_ble_eq_true rfl) (Nat.le_refl _) (Nat.le_refl _) ?_
  refine z_astore_n dX5_wastePiece_5 (by decide) rfl rfl ?_
  refine z_aload_n dX5_wastePiece_6 rfl ?_
  refine z_ifnull dX5_wastePiece_7 ?_
  refine z_aload_n dX5_wastePiece_10 rfl ?_
  refine z_getN (ci := 2) (f := 5) dX5_wastePiece_11 ⟨by decide, by decide, zm_111, rfl⟩ (sA_pc hB (j := j) (by omega)) rfl ?_
  refine z_if_eq (tgt := 20) dX5_wastePiece_14 (by decide) (fun c_14 => ?_) (fun c_14 => absurd hst c_14)
  refine z_aload_n dX5_wastePiece_20 rfl ?_
  refine z_iconst (v := (nI 2)) dX5_wastePiece_21 (by decide) ?_
  refine z_putN (ci := 2) (f := 5) dX5_wastePiece_22 ⟨by decide, by decide, zm_111, rfl⟩ (sA_pc hB (j := j) (by omega)) rfl rfl rfl (Nat.le_of_ble_eq_true rfl) ?_
  refine z_heap (h2 := sput G sh o (upd s (69 + 8 * j + 3) (nI 2)) p hh) (sput_up2 (by omega) (pk_un (by omega)) (pk_un (by omega)) (pk_un (by omega)) (pk_un (by omega)) (pk_un (by omega)) pk_us (pk_un (by omega)) (fun n hn2 => pk_un (by omega))) ?_
  have hC : shopA G sh o (upd s (69 + 8 * j + 3) (nI 2)) p (sput G sh o (upd s (69 + 8 * j + 3) (nI 2)) p hh) := sput_A
  refine z_aload_n dX5_wastePiece_25 rfl ?_
  refine z_get (ci := 5) (f := 0) dX5_wastePiece_26 ⟨by decide, by decide, zm_131, rfl⟩ (sA_o hC) rfl ?_
  refine z_aload_n dX5_wastePiece_29 rfl ?_
  refine z_getN (ci := 2) (f := 0) dX5_wastePiece_30 ⟨by decide, by decide, zm_96, rfl⟩ (sA_pc hC (j := j) (by omega)) rfl ?_
  refine z_eq ((pk_un (by omega)).trans (hP j hj).1) ?_
  refine z_callVR (ci := 3) (k_X3_squaresOf (hP j hj).2 (sput_sh hs hd)) dX5_wastePiece_33 ⟨zm_231, zm_234, zm_2, zm_232, zm_233, by decide⟩ (sput_sh hs hd).1 (by decide) zp_X3_squaresOf rfl (Nat.le_of_ble_eq_true rfl) (Nat.le_refl _) (Nat.le_refl _) ?_
  exact z_iretR dX5_wastePiece_36 rfl rfl rfl rfl (Nat.le_refl _) (Nat.le_refl _)
set_option maxHeartbeats 4000000 in
set_option maxRecDepth 100000 in
theorem kz_X5_wastePiece {G : zG} {hh : zH} {sz sh o : Nat} {s p : Nat → Int32} (hA : shopA G sh o s p hh) (h1 : s 1 = nI (nP s)) (hm : nP s ≤ 48) {j : Nat} (hj : j < nP s) (hst : ¬ s (69 + 8 * j + 3) = 0) : zC G 3 MX5_wastePiece yX5_wastePiece [.ref o, .int (nI j)] hh sz 0 0 (zR (.int (-5)) hh sz) := by
  refine z_intro _ rfl zy_X5_wastePiece (Nat.le_of_ble_eq_true rfl) ?_
  refine z_aload_n dX5_wastePiece_0 rfl ?_
  refine z_iload_n dX5_wastePiece_1 rfl ?_
  refine z_callVR (ci := 5) (k_X5_pieceAt hA h1 hm hj) dX5_wastePiece_2 ⟨zm_223, zm_226, zm_3, zm_224, zm_225, by decide⟩ (sA_o hA) (by decide) zp_X5_pieceAt rfl (Nat.le_of_ble_eq_true rfl) (Nat.le_refl _) (Nat.le_refl _) ?_
  refine z_astore_n dX5_wastePiece_5 (by decide) rfl rfl ?_
  refine z_aload_n dX5_wastePiece_6 rfl ?_
  refine z_ifnull dX5_wastePiece_7 ?_
  refine z_aload_n dX5_wastePiece_10 rfl ?_
  refine z_getN (ci := 2) (f := 5) dX5_wastePiece_11 ⟨by decide, by decide, zm_111, rfl⟩ (sA_pc hA (j := j) (by omega)) rfl ?_
  refine z_if_eq (tgt := 20) dX5_wastePiece_14 (by decide) (fun c_14 => absurd c_14 hst) (fun c_14 => ?_)
  refine z_bipush (v := (-5)) dX5_wastePiece_17 (by decide) ?_
  exact z_iretR dX5_wastePiece_19 rfl rfl rfl rfl (Nat.le_refl _) (Nat.le_refl _)
theorem uncA_cg {s t : Nat → Int32} {k : Nat} : ∀ {n : Nat}, (∀ r, r < n → t (5 + 11 * k + r) = s (5 + 11 * k + r)) → uncA t k n = uncA s k n
  | 0, _ => rfl
  | n + 1, h => by
    rw [uncA, uncA, uncA_cg (fun r hr => h r (by omega))]
    unfold rN
    rw [h n (by omega)]
set_option maxHeartbeats 4000000 in
set_option maxRecDepth 100000 in
theorem kr_X5_scrapSheet {G : zG} {hh : zH} {sz sh o : Nat} {s p : Nat → Int32} (hA : shopA G sh o s p hh) (h0 : s 0 = nI (nSh s)) (hn : nSh s ≤ 6) (hR : okR s) {k : Nat} (hk : k < nSh s) (hst : s (4 + 11 * k) = 0) : zC G 2 MX5_scrapSheet yX5_scrapSheet [.ref o, .int (nI k)] hh sz 0 0 (zR (.int (uncA s k 9)) (sput G sh o (upd s (4 + 11 * k) (nI 1)) p hh) sz) := by
  refine z_intro _ rfl zy_X5_scrapSheet (Nat.le_of_ble_eq_true rfl) ?_
  refine z_heap (sput_self hA).symm ?_
  have hB : shopA G sh o s p (sput G sh o s p hh) := sput_A
  refine z_aload_n dX5_scrapSheet_0 rfl ?_
  refine z_iload_n dX5_scrapSheet_1 rfl ?_
  refine z_callVR (ci := 5) (k_X5_sheetAt hB h0 hn hk) dX5_scrapSheet_2 ⟨zm_252, zm_255, zm_3, zm_253, zm_254, by decide⟩ (sA_o hB) (by decide) zp_X5_sheetAt rfl (Nat.le_of_ble_eq_true rfl) (Nat.le_refl _) (Nat.le_refl _) ?_
  refine z_astore_n dX5_scrapSheet_5 (by decide) rfl rfl ?_
  refine z_aload_n dX5_scrapSheet_6 rfl ?_
  refine z_ifnull dX5_scrapSheet_7 ?_
  refine z_aload_n dX5_scrapSheet_10 rfl ?_
  refine z_getN (ci := 4) (f := 3) dX5_scrapSheet_11 ⟨by decide, by decide, zm_80, rfl⟩ (sA_st hB (i := k) (by omega)).1 rfl ?_
  refine z_if_eq (tgt := 20) dX5_scrapSheet_14 (by decide) (fun c_14 => ?_) (fun c_14 => absurd hst c_14)
  refine z_aload_n dX5_scrapSheet_20 rfl ?_
  refine z_iconst (v := (nI 1)) dX5_scrapSheet_21 (by decide) ?_
  refine z_putN (ci := 4) (f := 3) dX5_scrapSheet_22 ⟨by decide, by decide, zm_80, rfl⟩ (sA_st hB (i := k) (by omega)).1 rfl rfl rfl (Nat.le_of_ble_eq_true rfl) ?_
  refine z_heap (h2 := sput G sh o (upd s (4 + 11 * k) (nI 1)) p hh) (sput_us2 (by omega) (pk_un (by omega)) pk_us (fun n n1 n2 => pk_un n2)) ?_
  have hC : shopA G sh o (upd s (4 + 11 * k) (nI 1)) p (sput G sh o (upd s (4 + 11 * k) (nI 1)) p hh) := sput_A
  have hR2 : okR (upd s (4 + 11 * k) (nI 1)) := okR_j hR (fun k2 r2 _ _ => by omega)
  refine z_aload_n dX5_scrapSheet_25 rfl ?_
  refine z_callVR (ci := 4) (k_X4_squaresLeft (by omega) hR2 (sA_st hC (i := k) (by omega))) dX5_scrapSheet_26 ⟨zm_256, zm_259, zm_4, zm_257, zm_258, by decide⟩ (sA_st hC (i := k) (by omega)).1 (by decide) zp_X4_squaresLeft rfl (Nat.le_of_ble_eq_true rfl) (Nat.le_refl _) (Nat.le_refl _) ?_
  exact z_iretR dX5_scrapSheet_29 rfl (uncA_cg (fun r hr => pk_un (by omega))) rfl rfl (Nat.le_refl _) (Nat.le_refl _)
set_option maxHeartbeats 4000000 in
set_option maxRecDepth 100000 in
theorem kz_X5_scrapSheet {G : zG} {hh : zH} {sz sh o : Nat} {s p : Nat → Int32} (hA : shopA G sh o s p hh) (h0 : s 0 = nI (nSh s)) (hn : nSh s ≤ 6) {k : Nat} (hk : k < nSh s) (hst : ¬ s (4 + 11 * k) = 0) : zC G 2 MX5_scrapSheet yX5_scrapSheet [.ref o, .int (nI k)] hh sz 0 0 (zR (.int (-5)) hh sz) := by
  refine z_intro _ rfl zy_X5_scrapSheet (Nat.le_of_ble_eq_true rfl) ?_
  refine z_aload_n dX5_scrapSheet_0 rfl ?_
  refine z_iload_n dX5_scrapSheet_1 rfl ?_
  refine z_callVR (ci := 5) (k_X5_sheetAt hA h0 hn hk) dX5_scrapSheet_2 ⟨zm_252, zm_255, zm_3, zm_253, zm_254, by decide⟩ (sA_o hA) (by decide) zp_X5_sheetAt rfl (Nat.le_of_ble_eq_true rfl) (Nat.le_refl _) (Nat.le_refl _) ?_
  refine z_astore_n dX5_scrapSheet_5 (by decide) rfl rfl ?_
  refine z_aload_n dX5_scrapSheet_6 rfl ?_
  refine z_ifnull dX5_scrapSheet_7 ?_
  refine z_aload_n dX5_scrapSheet_10 rfl ?_
  refine z_getN (ci := 4) (f := 3) dX5_scrapSheet_11 ⟨by decide, by decide, zm_80, rfl⟩ (sA_st hA (i := k) (by omega)).1 rfl ?_
  refine z_if_eq (tgt := 20) dX5_scrapSheet_14 (by decide) (fun c_14 => absurd c_14 hst) (fun c_14 => ?_)
  refine z_bipush (v := (-5)) dX5_scrapSheet_17 (by decide) ?_
  exact z_iretR dX5_scrapSheet_19 rfl rfl rfl rfl (Nat.le_refl _) (Nat.le_refl _)
