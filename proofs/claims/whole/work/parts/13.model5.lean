theorem ffA_can {s : Nat → Int32} {k l mi : Nat} : ∀ n q, ffA s k l mi n q < q + n → canQ s k l mi (ffA s k l mi n q) = true
  | 0, q, h => absurd h (by unfold ffA; omega)
  | n + 1, q, h => by
    by_cases c : canQ s k l mi q = true
    · rw [ffA, if_pos c]; exact c
    · rw [ffA, if_neg c] at h ⊢
      exact ffA_can n (q + 1) (by omega)
theorem canC_ok {s : Nat → Int32} {k l w r c : Nat} (hr : r < 2 ^ 31) (hc : c < 2 ^ 31) (h : canC s k l w r c = true) : r + hiN w ≤ 9 ∧ c + wiN w ≤ 14 ∧ s (4 + 11 * k) = 0 ∧ okAt s k l w r c (hiN w) = true := by
  unfold canC canI at h
  simp only [Bool.and_eq_true, decide_eq_true_eq] at h
  obtain ⟨⟨⟨h0, h1⟩, h2⟩, h3⟩ := h
  rw [nI_clamp hr, nI_clamp hc] at h3
  unfold isI at h1 h2
  rw [decide_eq_true_iff, nI_t hr] at h1
  rw [decide_eq_true_iff, nI_t hc] at h2
  have := hiN_le w
  have := wiN_le w
  exact ⟨by omega, by omega, h0, h3⟩
theorem ff_ok {s : Nat → Int32} {k l mi : Nat} (h : ff s k l mi < 504) : ff s k l mi / 4 / 14 + hiN (4 * mi + ff s k l mi % 4) ≤ 9 ∧ ff s k l mi / 4 % 14 + wiN (4 * mi + ff s k l mi % 4) ≤ 14 ∧ s (4 + 11 * k) = 0 ∧ okAt s k l (4 * mi + ff s k l mi % 4) (ff s k l mi / 4 / 14) (ff s k l mi / 4 % 14) (hiN (4 * mi + ff s k l mi % 4)) = true :=
  canC_ok (by omega) (by omega) (ffA_can 504 0 (by unfold ff at h; omega))
/-- the row of numbers with a new piece at the first fit -/
def fitS (s : Nat → Int32) (m k l mi : Nat) : Nat → Int32 := newS s m k l (4 * mi + ff s k l mi % 4) (ff s k l mi / 4 / 14) (ff s k l mi / 4 % 14)
def pfV (s : Nat → Int32) (col : Int32) (l mi n m : Nat) : Int32 :=
  if loF s col (nI l) (nI mi) m (-6) = -6 then (if m < 48 then (if shF s col l mi n 0 < n then nI m else -6) else -6) else loF s col (nI l) (nI mi) m (-6)
def pfS (s : Nat → Int32) (col : Int32) (l mi n m : Nat) : Nat → Int32 :=
  if loF s col (nI l) (nI mi) m (-6) = -6 then (if m < 48 then (if shF s col l mi n 0 < n then fitS s m (shF s col l mi n 0) l mi else s) else s) else s
def pfO (s : Nat → Int32) (col : Int32) (l mi n m : Nat) (fo : Nat → Int32) : Nat → Int32 :=
  if loF s col (nI l) (nI mi) m (-6) = -6 then (if m < 48 then shO s col l mi n 0 fo else fo) else fo
theorem fo3_0 (mi q : Nat) (f : Nat → Int32) : fo3 mi q f 0 = nI (4 * mi + q % 4) := rfl
theorem fo3_1 (mi q : Nat) (f : Nat → Int32) : fo3 mi q f 1 = nI (q / 4 / 14) := rfl
theorem fo3_2 (mi q : Nat) (f : Nat → Int32) : fo3 mi q f 2 = nI (q / 4 % 14) := rfl
def ltrI (c : Int32) : Int32 := if c = nI 105 then nI 0 else if c = nI 108 then nI 1 else if c = nI 111 then nI 2 else if c = nI 116 then nI 3 else if c = nI 117 then nI 4 else if c = nI 101 then nI 5 else if c = nI 104 then nI 6 else if c = nI 115 then nI 7 else -6
theorem ltrI_out {c : Int32} (h : c.toInt < 101 ∨ 117 < c.toInt) : ltrI c = -6 := by
  have key : ∀ j, 101 ≤ j → j ≤ 117 → ¬ c = nI j := by
    intro j h1 h2 e
    rw [e, nI_t (by omega)] at h
    omega
  unfold ltrI
  rw [if_neg (key 105 (by omega) (by omega)), if_neg (key 108 (by omega) (by omega)), if_neg (key 111 (by omega) (by omega)), if_neg (key 116 (by omega) (by omega)), if_neg (key 117 (by omega) (by omega)), if_neg (key 101 (by omega) (by omega)), if_neg (key 104 (by omega) (by omega)), if_neg (key 115 (by omega) (by omega))]
set_option maxHeartbeats 4000000 in
set_option maxRecDepth 100000 in
theorem k_X7_pieceFor {G : zG} {hh : zH} {sz mo : Nat} {s fo : Nat → Int32} {τ : Nat → Nat → Int32} {kp ln : Int32} {col : Int32} {l mi n m : Nat} (hn : n ≤ 6) (h0 : s 0 = nI n) (h1 : s 1 = nI m) (hm48 : m ≤ 48) (hl : l < 8) (hm : mi < 2) (hT : τ 6 = tabI) (hR : okR s) : zC G 4 MX7_pieceFor yX7_pieceFor [.ref mo, .int col, .int (nI l), .int (nI mi)] (mq G mo s fo τ kp ln hh) sz 0 0 (zR (.int (pfV s col l mi n m)) (mq G mo (pfS s col l mi n m) (pfO s col l mi n m fo) τ kp ln hh) sz) := by
  refine z_intro _ rfl zy_X7_pieceFor (Nat.le_of_ble_eq_true rfl) ?_
  refine z_aload_n dX7_pieceFor_0 rfl ?_
  refine z_iload_n dX7_pieceFor_1 rfl ?_
  refine z_iload_n dX7_pieceFor_2 rfl ?_
  refine z_iload_n dX7_pieceFor_3 rfl ?_
  refine z_callVR (ci := 7) (k_X7_looseOne h1 hm48) dX7_pieceFor_4 ⟨zm_788, zm_791, zm_8, zm_790, zmp_19, by decide⟩ mq_o (by decide) zp_X7_looseOne rfl (Nat.le_of_ble_eq_true rfl) (Nat.le_refl _) (Nat.le_refl _) ?_
  refine z_istore dX7_pieceFor_7 (by decide) rfl rfl ?_
  refine z_iload dX7_pieceFor_9 rfl ?_
  refine z_bipush (v := (-6)) dX7_pieceFor_11 (by decide) ?_
  refine z_icmp_ne (tgt := 75) dX7_pieceFor_13 (by decide) (fun c_13 => ?_) (fun c_13 => ?_)
  · refine z_iload dX7_pieceFor_75 rfl ?_
    exact z_iretR dX7_pieceFor_77 rfl (by unfold pfV; rw [if_neg c_13]) (by unfold pfS pfO; rw [if_neg c_13, if_neg c_13]) rfl (Nat.le_refl _) (Nat.le_refl _)
  · refine z_aload_n dX7_pieceFor_16 rfl ?_
    refine z_get (ci := 7) (f := 0) dX7_pieceFor_17 ⟨by decide, by decide, zm_663, rfl⟩ mq_o rfl ?_
    refine z_iconst (v := (nI 1)) dX7_pieceFor_20 (by decide) ?_
    refine z_ialdN dX7_pieceFor_21 mq_a0 rfl (by omega) (by decide) ?_
    refine z_eq h1 ?_
    refine z_bipush (v := (nI 48)) dX7_pieceFor_22 (by decide) ?_
    refine z_icmp_ge (tgt := 75) dX7_pieceFor_24 (by decide) (fun c_24 => ?_) (fun c_24 => ?_)
    · refine z_iload dX7_pieceFor_75 rfl ?_
      have hm4 : ¬ m < 48 := fun z => nI_ge z (by omega) c_24
      exact z_iretR dX7_pieceFor_77 rfl (by unfold pfV; rw [if_pos c_13, if_neg hm4, c_13]) (by unfold pfS pfO; rw [if_pos c_13, if_neg hm4, if_pos c_13, if_neg hm4]) rfl (Nat.le_refl _) (Nat.le_refl _)
    · refine z_aload_n dX7_pieceFor_27 rfl ?_
      refine z_iload_n dX7_pieceFor_28 rfl ?_
      refine z_iload_n dX7_pieceFor_29 rfl ?_
      refine z_iload_n dX7_pieceFor_30 rfl ?_
      have hm4 : m < 48 := by rcases Nat.lt_or_ge m 48 with z | z; exact z; exact absurd (nI_le z (by omega)) c_24
      refine z_callVR (ci := 7) (k_X7_sheetFor hn h0 hl hm hT hR) dX7_pieceFor_31 ⟨zm_746, zm_749, zm_8, zm_748, zmp_12, by decide⟩ mq_o (by decide) zp_X7_sheetFor rfl (Nat.le_of_ble_eq_true rfl) (Nat.le_refl _) (Nat.le_refl _) ?_
      refine z_istore dX7_pieceFor_34 (by decide) rfl rfl ?_
      refine z_iload dX7_pieceFor_36 rfl ?_
      refine z_bipush (v := (-6)) dX7_pieceFor_38 (by decide) ?_
      refine z_icmp_ne (tgt := 48) dX7_pieceFor_40 (by decide) (fun c_40 => ?_) (fun c_40 => ?_)
      · have hv : shF s col l mi n 0 < n := by
          by_cases z : shF s col l mi n 0 < n
          · exact z
          · exact absurd (by unfold shV; rw [if_neg z]) c_40
        obtain ⟨q1, q2, g, q3⟩ := shF_fit (s := s) (col := col) (l := l) (mi := mi) n 0 fo (by omega)
        obtain ⟨r1, r2, r3, r4⟩ := ff_ok q1
        have ev : shV s col l mi n n 0 = nI (shF s col l mi n 0) := by unfold shV; rw [if_pos hv]
        refine z_aload_n dX7_pieceFor_48 rfl ?_
        refine z_iload dX7_pieceFor_49 rfl ?_
        refine z_eq ev ?_
        refine z_iload_n dX7_pieceFor_51 rfl ?_
        refine z_aload_n dX7_pieceFor_52 rfl ?_
        refine z_get (ci := 7) (f := 9) dX7_pieceFor_53 ⟨by decide, by decide, zm_672, rfl⟩ mq_o rfl ?_
        refine z_iconst (v := (nI 0)) dX7_pieceFor_56 (by decide) ?_
        refine z_ialdN dX7_pieceFor_57 mq_a7 rfl (by omega) (by decide) ?_
        refine z_eq (by rw [q3, fo3_0]) ?_
        refine z_aload_n dX7_pieceFor_58 rfl ?_
        refine z_get (ci := 7) (f := 9) dX7_pieceFor_59 ⟨by decide, by decide, zm_672, rfl⟩ mq_o rfl ?_
        refine z_iconst (v := (nI 1)) dX7_pieceFor_62 (by decide) ?_
        refine z_ialdN dX7_pieceFor_63 mq_a7 rfl (by omega) (by decide) ?_
        refine z_eq (by rw [q3, fo3_1]) ?_
        refine z_aload_n dX7_pieceFor_64 rfl ?_
        refine z_get (ci := 7) (f := 9) dX7_pieceFor_65 ⟨by decide, by decide, zm_672, rfl⟩ mq_o rfl ?_
        refine z_iconst (v := (nI 2)) dX7_pieceFor_68 (by decide) ?_
        refine z_ialdN dX7_pieceFor_69 mq_a7 rfl (by omega) (by decide) ?_
        refine z_eq (by rw [q3, fo3_2]) ?_
        refine z_callVR (ci := 7) (k_X7_newPiece (by omega) hl (by omega) hT hR h1 hm4 r1 (by omega)) dX7_pieceFor_70 ⟨zm_731, zm_734, zm_8, zm_733, zmp_10, by decide⟩ mq_o (by decide) zp_X7_newPiece rfl (Nat.le_of_ble_eq_true rfl) (Nat.le_refl _) (Nat.le_refl _) ?_
        refine z_istore dX7_pieceFor_73 (by decide) rfl rfl ?_
        refine z_iload dX7_pieceFor_75 rfl ?_
        exact z_iretR dX7_pieceFor_77 rfl (by unfold pfV; rw [if_pos c_13, if_pos hm4, if_pos hv]) (by unfold pfS pfO; rw [if_pos c_13, if_pos hm4, if_pos hv, if_pos c_13, if_pos hm4]; rfl) rfl (Nat.le_refl _) (Nat.le_refl _)
      · refine z_bipush (v := (-6)) dX7_pieceFor_43 (by decide) ?_
        refine z_goto (tgt := 73) dX7_pieceFor_45 (by decide) ?_
        refine z_istore dX7_pieceFor_73 (by decide) rfl rfl ?_
        refine z_iload dX7_pieceFor_75 rfl ?_
        have hv : ¬ shF s col l mi n 0 < n := fun z => by unfold shV at c_40; rw [if_pos z] at c_40; exact nI_pos (n := shF s col l mi n 0) (by omega) (by rw [c_40]; decide)
        exact z_iretR dX7_pieceFor_77 rfl (by unfold pfV; rw [if_pos c_13, if_pos hm4, if_neg hv]) (by unfold pfS pfO; rw [if_pos c_13, if_pos hm4, if_neg hv, if_pos c_13, if_pos hm4]) rfl (Nat.le_refl _) (Nat.le_refl _)
set_option maxHeartbeats 4000000 in
set_option maxRecDepth 100000 in
theorem k_X7_letterOf {G : zG} {hh : zH} {sz : Nat} {c : Int32} : zC G 0 MX7_letterOf yX7_letterOf [.int c] hh sz 0 0 (zR (.int (ltrI c)) hh sz) := by
  refine z_intro _ rfl zy_X7_letterOf (Nat.le_of_ble_eq_true rfl) ?_
  refine z_iload_n dX7_letterOf_0 rfl ?_
  by_cases h : 101 ≤ c.toInt ∧ c.toInt ≤ 117
  · obtain ⟨j, hj, rfl⟩ : ∃ j, (101 ≤ j ∧ j ≤ 117) ∧ c = nI j := by
      rcases pk_ix c (n := 118) (by omega) with z | z | ⟨j, hj, e⟩
      · rw [Int32.lt_iff_toInt_lt, Int32.toInt_zero] at z; omega
      · rw [Int32.le_iff_toInt_le, nI_t (by omega)] at z; omega
      · exact ⟨j, ⟨by rw [e, nI_t (by omega)] at h; omega, by omega⟩, e⟩
    match j, hj with
    | j, hj =>
      have hj2 : j = 101 ∨ j = 102 ∨ j = 103 ∨ j = 104 ∨ j = 105 ∨ j = 106 ∨ j = 107 ∨ j = 108 ∨ j = 109 ∨ j = 110 ∨ j = 111 ∨ j = 112 ∨ j = 113 ∨ j = 114 ∨ j = 115 ∨ j = 116 ∨ j = 117 := by omega
      rcases hj2 with rfl | rfl | rfl | rfl | rfl | rfl | rfl | rfl | rfl | rfl | rfl | rfl | rfl | rfl | rfl | rfl | rfl
      · refine z_tableIn (tgt := 94) dX7_letterOf_1 (by decide) (by decide) rfl (by decide) ?_
        refine z_iconst (v := (nI 5)) dX7_letterOf_94 (by decide) ?_
        exact z_iretR dX7_letterOf_95 rfl (by decide) rfl rfl (Nat.le_refl _) (Nat.le_refl _)
      · refine z_tableIn (tgt := 102) dX7_letterOf_1 (by decide) (by decide) rfl (by decide) ?_
        refine z_bipush (v := (-6)) dX7_letterOf_102 (by decide) ?_
        exact z_iretR dX7_letterOf_104 rfl (by decide) rfl rfl (Nat.le_refl _) (Nat.le_refl _)
      · refine z_tableIn (tgt := 102) dX7_letterOf_1 (by decide) (by decide) rfl (by decide) ?_
        refine z_bipush (v := (-6)) dX7_letterOf_102 (by decide) ?_
        exact z_iretR dX7_letterOf_104 rfl (by decide) rfl rfl (Nat.le_refl _) (Nat.le_refl _)
      · refine z_tableIn (tgt := 96) dX7_letterOf_1 (by decide) (by decide) rfl (by decide) ?_
        refine z_bipush (v := (nI 6)) dX7_letterOf_96 (by decide) ?_
        exact z_iretR dX7_letterOf_98 rfl (by decide) rfl rfl (Nat.le_refl _) (Nat.le_refl _)
      · refine z_tableIn (tgt := 84) dX7_letterOf_1 (by decide) (by decide) rfl (by decide) ?_
        refine z_iconst (v := (nI 0)) dX7_letterOf_84 (by decide) ?_
        exact z_iretR dX7_letterOf_85 rfl (by decide) rfl rfl (Nat.le_refl _) (Nat.le_refl _)
      · refine z_tableIn (tgt := 102) dX7_letterOf_1 (by decide) (by decide) rfl (by decide) ?_
        refine z_bipush (v := (-6)) dX7_letterOf_102 (by decide) ?_
        exact z_iretR dX7_letterOf_104 rfl (by decide) rfl rfl (Nat.le_refl _) (Nat.le_refl _)
      · refine z_tableIn (tgt := 102) dX7_letterOf_1 (by decide) (by decide) rfl (by decide) ?_
        refine z_bipush (v := (-6)) dX7_letterOf_102 (by decide) ?_
        exact z_iretR dX7_letterOf_104 rfl (by decide) rfl rfl (Nat.le_refl _) (Nat.le_refl _)
      · refine z_tableIn (tgt := 86) dX7_letterOf_1 (by decide) (by decide) rfl (by decide) ?_
        refine z_iconst (v := (nI 1)) dX7_letterOf_86 (by decide) ?_
        exact z_iretR dX7_letterOf_87 rfl (by decide) rfl rfl (Nat.le_refl _) (Nat.le_refl _)
      · refine z_tableIn (tgt := 102) dX7_letterOf_1 (by decide) (by decide) rfl (by decide) ?_
        refine z_bipush (v := (-6)) dX7_letterOf_102 (by decide) ?_
        exact z_iretR dX7_letterOf_104 rfl (by decide) rfl rfl (Nat.le_refl _) (Nat.le_refl _)
      · refine z_tableIn (tgt := 102) dX7_letterOf_1 (by decide) (by decide) rfl (by decide) ?_
        refine z_bipush (v := (-6)) dX7_letterOf_102 (by decide) ?_
        exact z_iretR dX7_letterOf_104 rfl (by decide) rfl rfl (Nat.le_refl _) (Nat.le_refl _)
      · refine z_tableIn (tgt := 88) dX7_letterOf_1 (by decide) (by decide) rfl (by decide) ?_
        refine z_iconst (v := (nI 2)) dX7_letterOf_88 (by decide) ?_
        exact z_iretR dX7_letterOf_89 rfl (by decide) rfl rfl (Nat.le_refl _) (Nat.le_refl _)
      · refine z_tableIn (tgt := 102) dX7_letterOf_1 (by decide) (by decide) rfl (by decide) ?_
        refine z_bipush (v := (-6)) dX7_letterOf_102 (by decide) ?_
        exact z_iretR dX7_letterOf_104 rfl (by decide) rfl rfl (Nat.le_refl _) (Nat.le_refl _)
      · refine z_tableIn (tgt := 102) dX7_letterOf_1 (by decide) (by decide) rfl (by decide) ?_
        refine z_bipush (v := (-6)) dX7_letterOf_102 (by decide) ?_
        exact z_iretR dX7_letterOf_104 rfl (by decide) rfl rfl (Nat.le_refl _) (Nat.le_refl _)
      · refine z_tableIn (tgt := 102) dX7_letterOf_1 (by decide) (by decide) rfl (by decide) ?_
        refine z_bipush (v := (-6)) dX7_letterOf_102 (by decide) ?_
        exact z_iretR dX7_letterOf_104 rfl (by decide) rfl rfl (Nat.le_refl _) (Nat.le_refl _)
      · refine z_tableIn (tgt := 99) dX7_letterOf_1 (by decide) (by decide) rfl (by decide) ?_
        refine z_bipush (v := (nI 7)) dX7_letterOf_99 (by decide) ?_
        exact z_iretR dX7_letterOf_101 rfl (by decide) rfl rfl (Nat.le_refl _) (Nat.le_refl _)
      · refine z_tableIn (tgt := 90) dX7_letterOf_1 (by decide) (by decide) rfl (by decide) ?_
        refine z_iconst (v := (nI 3)) dX7_letterOf_90 (by decide) ?_
        exact z_iretR dX7_letterOf_91 rfl (by decide) rfl rfl (Nat.le_refl _) (Nat.le_refl _)
      · refine z_tableIn (tgt := 92) dX7_letterOf_1 (by decide) (by decide) rfl (by decide) ?_
        refine z_iconst (v := (nI 4)) dX7_letterOf_92 (by decide) ?_
        exact z_iretR dX7_letterOf_93 rfl (by decide) rfl rfl (Nat.le_refl _) (Nat.le_refl _)
  · refine z_tableOut (tgt := 102) dX7_letterOf_1 (by omega) (by decide) ?_
    refine z_bipush (v := (-6)) dX7_letterOf_102 (by decide) ?_
    exact z_iretR dX7_letterOf_104 rfl (ltrI_out (by omega)).symm rfl rfl (Nat.le_refl _) (Nat.le_refl _)
