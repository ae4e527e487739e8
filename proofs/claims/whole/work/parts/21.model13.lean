/-! the kit's laws of long bits, pasted (laws/BITS) -/
theorem wb_tb (n : Nat) : (lN n).toBitVec = BitVec.ofNat 64 n := rfl
theorem wb_inj {a b : Int64} (h : a.toBitVec = b.toBitVec) : a = b := Int64.toBitVec_inj.mp h
theorem wb_tn {n : Nat} (h : n < 2 ^ 64) : (lN n).toBitVec.toNat = n := by rw [wb_tb, BitVec.toNat_ofNat, Nat.mod_eq_of_lt h]
theorem wb_of (x : Int64) : ∃ n, n < 2 ^ 64 ∧ x = lN n := ⟨x.toBitVec.toNat, x.toBitVec.isLt, wb_inj (by rw [wb_tb]; simp)⟩
theorem wb_of32 (x : Int32) : ∃ n, n < 2 ^ 32 ∧ x = nI n := ⟨x.toBitVec.toNat, x.toBitVec.isLt, Int32.toBitVec_inj.mp (by show _ = BitVec.ofNat 32 _; simp)⟩
theorem wb_c : ∀ k, k < 64 → ((nI k).toInt64 &&& 63) = lN k := by decide +kernel
theorem wb_cu : ∀ k, k < 64 → ((nI k).toInt64.toUInt64 &&& Int64.toUInt64 63) = UInt64.ofNat k := by decide +kernel
theorem wb_sm : ∀ k, k < 64 → (BitVec.ofNat 64 k).smod 64 = BitVec.ofNat 64 k := by decide +kernel
theorem wb_pw {a b : Nat} (h : a ≤ b) : 2 ^ b = 2 ^ a * 2 ^ (b - a) := by rw [← Nat.pow_add]; congr 1; omega
theorem wb_lt2 {a b : Nat} (h : a < b) : 2 ^ a < 2 ^ b := Nat.pow_lt_pow_right (by decide) h
theorem wb_mod (n : Nat) : lN n = lN (n % 2 ^ 64) := wb_inj (by rw [wb_tb, wb_tb]; apply BitVec.eq_of_toNat_eq; rw [BitVec.toNat_ofNat, BitVec.toNat_ofNat, Nat.mod_mod])
theorem wb_shr {n k : Nat} (hn : n < 2 ^ 64) (hk : k < 64) : ((lN n).toUInt64 >>> ((nI k).toInt64.toUInt64 &&& Int64.toUInt64 63)).toInt64 = lN (n / 2 ^ k) := by
  rw [wb_cu k hk]
  apply wb_inj
  apply BitVec.eq_of_toNat_eq
  show ((lN n).toUInt64 >>> UInt64.ofNat k).toNat = (BitVec.ofNat 64 _).toNat
  have h1 : (UInt64.ofNat k).toNat = k := by
    show (BitVec.ofNat 64 k).toNat = k
    rw [BitVec.toNat_ofNat, Nat.mod_eq_of_lt (by omega)]
  have h2 : (lN n).toUInt64.toNat = n := wb_tn hn
  rw [UInt64.toNat_shiftRight, h1, h2, Nat.mod_eq_of_lt hk, Nat.shiftRight_eq_div_pow, BitVec.toNat_ofNat, Nat.mod_eq_of_lt (Nat.lt_of_le_of_lt (Nat.div_le_self _ _) hn)]
theorem wb_shl (n : Nat) {k : Nat} (hk : k < 64) : lN n <<< ((nI k).toInt64 &&& 63) = lN (n * 2 ^ k) := by
  rw [wb_c k hk]
  apply wb_inj
  rw [Int64.toBitVec_shiftLeft, wb_tb, wb_tb, wb_tb, wb_sm k hk]
  apply BitVec.eq_of_toNat_eq
  rw [BitVec.shiftLeft_eq', BitVec.toNat_shiftLeft, BitVec.toNat_ofNat, BitVec.toNat_ofNat, BitVec.toNat_ofNat, Nat.mod_eq_of_lt (show k < 2 ^ 64 by omega), Nat.shiftLeft_eq, Nat.mul_mod, Nat.mod_mod, ← Nat.mul_mod]
theorem wb_and {a b : Nat} (ha : a < 2 ^ 64) (hb : b < 2 ^ 64) : lN a &&& lN b = lN (a &&& b) := by
  apply wb_inj
  rw [Int64.toBitVec_and, wb_tb, wb_tb, wb_tb]
  apply BitVec.eq_of_toNat_eq
  rw [BitVec.toNat_and, BitVec.toNat_ofNat, BitVec.toNat_ofNat, BitVec.toNat_ofNat, Nat.mod_eq_of_lt ha, Nat.mod_eq_of_lt hb, Nat.mod_eq_of_lt (Nat.and_lt_two_pow _ hb)]
theorem wb_or {a b : Nat} (ha : a < 2 ^ 64) (hb : b < 2 ^ 64) : lN a ||| lN b = lN (a ||| b) := by
  apply wb_inj
  rw [Int64.toBitVec_or, wb_tb, wb_tb, wb_tb]
  apply BitVec.eq_of_toNat_eq
  rw [BitVec.toNat_or, BitVec.toNat_ofNat, BitVec.toNat_ofNat, BitVec.toNat_ofNat, Nat.mod_eq_of_lt ha, Nat.mod_eq_of_lt hb, Nat.mod_eq_of_lt (Nat.or_lt_two_pow ha hb)]
theorem wb_mask {n k : Nat} (hn : n < 2 ^ 64) (hk : k < 64) : lN n &&& lN (2 ^ k - 1) = lN (n % 2 ^ k) := by
  rw [wb_and hn (by have := wb_lt2 hk; omega), Nat.and_two_pow_sub_one_eq_mod]
theorem wb_a1 {n : Nat} (hn : n < 2 ^ 64) : lN n &&& 1 = lN (n % 2) := wb_mask (k := 1) hn (by decide)
def sqpA (s : Nat → Int32) : Nat → Int32
  | 0 => nI 0
  | i + 1 => sqpA s i + (if s (69 + 8 * i + 3) = nI 2 then nI 0 else nI (sqA (plN s i) 5))
def sqsA (s : Nat → Int32) : Nat → Int32
  | 0 => nI 0
  | i + 1 => sqsA s i + (if s (4 + 11 * i) = nI 1 then nI 0 else uncA s i 9)
set_option maxHeartbeats 4000000 in
set_option maxRecDepth 100000 in
theorem l_squaresOfPieces {G : zG} {hh : zH} {sz mo : Nat} {s fo : Nat → Int32} {τ : Nat → Nat → Int32} {kp ln : Int32} (h1 : s 1 = nI (nP s)) (hm : nP s ≤ 48) (hT : τ 6 = tabI) (hP : okP s) : ∀ (n i : Nat), i + n = nP s → zS MX7_squaresOfPieces G 2 0 0 0 0 (mq G mo s fo τ kp ln hh) sz 4 [some (.ref mo), some (.int (sqpA s i)), some (.int (nI i))] [] (fun rr hh' ss' kk' nn' => zR (.int (sqpA s (nP s))) (mq G mo s fo τ kp ln hh) sz rr hh' ss' ∧ kk' ≤ 0 ∧ nn' ≤ 0) := by
  intro n; induction n with
  | zero =>
    intro i hi
    refine z_iload_n dX7_squaresOfPieces_4 rfl ?_
    refine z_aload_n dX7_squaresOfPieces_5 rfl ?_
    refine z_get (ci := 7) (f := 0) dX7_squaresOfPieces_6 ⟨by decide, by decide, zm_663, rfl⟩ mq_o rfl ?_
    refine z_iconst (v := (nI 1)) dX7_squaresOfPieces_9 (by decide) ?_
    refine z_ialdN dX7_squaresOfPieces_10 mq_a0 rfl (by omega) (by decide) ?_
    refine z_eq h1 ?_
    refine z_icmp_ge (tgt := 55) dX7_squaresOfPieces_11 (by decide) (fun c_11 => ?_) (fun c_11 => absurd c_11 (not_not_intro (nI_le (by omega) (by omega))))
    refine z_iload_n dX7_squaresOfPieces_55 rfl ?_
    exact z_iretR dX7_squaresOfPieces_56 rfl (by rw [show i = nP s by omega]) rfl rfl (Nat.le_refl _) (Nat.le_refl _)
  | succ n ih =>
    intro i hi
    refine z_iload_n dX7_squaresOfPieces_4 rfl ?_
    refine z_aload_n dX7_squaresOfPieces_5 rfl ?_
    refine z_get (ci := 7) (f := 0) dX7_squaresOfPieces_6 ⟨by decide, by decide, zm_663, rfl⟩ mq_o rfl ?_
    refine z_iconst (v := (nI 1)) dX7_squaresOfPieces_9 (by decide) ?_
    refine z_ialdN dX7_squaresOfPieces_10 mq_a0 rfl (by omega) (by decide) ?_
    refine z_eq h1 ?_
    refine z_icmp_ge (tgt := 55) dX7_squaresOfPieces_11 (by decide) (fun c_11 => absurd c_11 (nI_ge (by omega) (by omega))) (fun c_11 => ?_)
    refine z_iload_n dX7_squaresOfPieces_14 rfl ?_
    refine z_aload_n dX7_squaresOfPieces_15 rfl ?_
    refine z_get (ci := 7) (f := 0) dX7_squaresOfPieces_16 ⟨by decide, by decide, zm_663, rfl⟩ mq_o rfl ?_
    refine z_iload_n dX7_squaresOfPieces_19 rfl ?_
    refine z_iconst (v := (nI 3)) dX7_squaresOfPieces_20 (by decide) ?_
    refine z_callSR kn_at dX7_squaresOfPieces_21 ⟨zm_739, zm_741, zm_8, zm_740⟩  (by decide) zp_X7_at rfl (Nat.le_of_ble_eq_true rfl) (Nat.le_refl _) (Nat.le_refl _) ?_
    refine z_ialdN (j := 69 + 8 * i + 3) dX7_squaresOfPieces_24 mq_a0 rfl (by omega) (by decide) ?_
    refine z_iconst (v := (nI 2)) dX7_squaresOfPieces_25 (by decide) ?_
    refine z_icmp_ne (tgt := 33) dX7_squaresOfPieces_26 (by decide) (fun c_26 => ?_) (fun c_26 => ?_)
    · refine z_aload_n dX7_squaresOfPieces_33 rfl ?_
      refine z_aload_n dX7_squaresOfPieces_34 rfl ?_
      refine z_get (ci := 7) (f := 0) dX7_squaresOfPieces_35 ⟨by decide, by decide, zm_663, rfl⟩ mq_o rfl ?_
      refine z_iload_n dX7_squaresOfPieces_38 rfl ?_
      refine z_iconst (v := (nI 0)) dX7_squaresOfPieces_39 (by decide) ?_
      refine z_callSR kn_at dX7_squaresOfPieces_40 ⟨zm_739, zm_741, zm_8, zm_740⟩  (by decide) zp_X7_at rfl (Nat.le_of_ble_eq_true rfl) (Nat.le_refl _) (Nat.le_refl _) ?_
      refine z_ialdN (j := 69 + 8 * i + 0) dX7_squaresOfPieces_43 mq_a0 rfl (by omega) (by decide) ?_
      refine z_eq (hP i (by omega)).1 ?_
      refine z_callVR (ci := 7) (k_X7_squaresOf (hP i (by omega)).2 hT) dX7_squaresOfPieces_44 ⟨zm_824, zm_827, zm_8, zm_826, zmp_25, by decide⟩ mq_o (by decide) zp_X7_squaresOf rfl (Nat.le_of_ble_eq_true rfl) (Nat.le_refl _) (Nat.le_refl _) ?_
      refine z_iadd dX7_squaresOfPieces_47 ?_
      refine z_istore_n dX7_squaresOfPieces_48 (by decide) rfl rfl ?_
      refine z_iincU dX7_squaresOfPieces_49 rfl (by decide) rfl rfl ?_
      refine z_goto (tgt := 4) dX7_squaresOfPieces_52 (by decide) ?_
      have e1 := ih (i + 1) (by omega)
      rw [sqpA, if_neg c_26] at e1
      exact e1
    · refine z_iconst (v := (nI 0)) dX7_squaresOfPieces_29 (by decide) ?_
      refine z_goto (tgt := 47) dX7_squaresOfPieces_30 (by decide) ?_
      refine z_iadd dX7_squaresOfPieces_47 ?_
      refine z_istore_n dX7_squaresOfPieces_48 (by decide) rfl rfl ?_
      refine z_iincU dX7_squaresOfPieces_49 rfl (by decide) rfl rfl ?_
      refine z_goto (tgt := 4) dX7_squaresOfPieces_52 (by decide) ?_
      have e1 := ih (i + 1) (by omega)
      rw [sqpA, if_pos c_26] at e1
      exact e1
set_option maxHeartbeats 4000000 in
set_option maxRecDepth 100000 in
theorem k_X7_squaresOfPieces {G : zG} {hh : zH} {sz mo : Nat} {s fo : Nat → Int32} {τ : Nat → Nat → Int32} {kp ln : Int32} (h1 : s 1 = nI (nP s)) (hm : nP s ≤ 48) (hT : τ 6 = tabI) (hP : okP s) : zC G 2 MX7_squaresOfPieces yX7_squaresOfPieces [.ref mo] (mq G mo s fo τ kp ln hh) sz 0 0 (zR (.int (sqpA s (nP s))) (mq G mo s fo τ kp ln hh) sz) := by
  refine z_intro _ rfl zy_X7_squaresOfPieces (Nat.le_of_ble_eq_true rfl) ?_
  refine z_iconst (v := (nI 0)) dX7_squaresOfPieces_0 (by decide) ?_
  refine z_istore_n dX7_squaresOfPieces_1 (by decide) rfl rfl ?_
  refine z_iconst (v := (nI 0)) dX7_squaresOfPieces_2 (by decide) ?_
  refine z_istore_n dX7_squaresOfPieces_3 (by decide) rfl rfl ?_
  exact l_squaresOfPieces h1 hm hT hP (nP s) 0 (Nat.zero_add _)
set_option maxHeartbeats 4000000 in
set_option maxRecDepth 100000 in
theorem l_squaresOfSheets {G : zG} {hh : zH} {sz mo : Nat} {s fo : Nat → Int32} {τ : Nat → Nat → Int32} {kp ln : Int32} {n0 : Nat} (h0 : s 0 = nI n0) (hn : n0 ≤ 6) (hR : okR s) : ∀ (n i : Nat), i + n = n0 → zS MX7_squaresOfSheets G 2 0 0 0 0 (mq G mo s fo τ kp ln hh) sz 4 [some (.ref mo), some (.int (sqsA s i)), some (.int (nI i))] [] (fun rr hh' ss' kk' nn' => zR (.int (sqsA s n0)) (mq G mo s fo τ kp ln hh) sz rr hh' ss' ∧ kk' ≤ 0 ∧ nn' ≤ 0) := by
  intro n; induction n with
  | zero =>
    intro i hi
    refine z_iload_n dX7_squaresOfSheets_4 rfl ?_
    refine z_aload_n dX7_squaresOfSheets_5 rfl ?_
    refine z_get (ci := 7) (f := 0) dX7_squaresOfSheets_6 ⟨by decide, by decide, zm_663, rfl⟩ mq_o rfl ?_
    refine z_iconst (v := (nI 0)) dX7_squaresOfSheets_9 (by decide) ?_
    refine z_ialdN dX7_squaresOfSheets_10 mq_a0 rfl (by omega) (by decide) ?_
    refine z_eq h0 ?_
    refine z_icmp_ge (tgt := 46) dX7_squaresOfSheets_11 (by decide) (fun c_11 => ?_) (fun c_11 => absurd c_11 (not_not_intro (nI_le (by omega) (by omega))))
    refine z_iload_n dX7_squaresOfSheets_46 rfl ?_
    exact z_iretR dX7_squaresOfSheets_47 rfl (by rw [show i = n0 by omega]) rfl rfl (Nat.le_refl _) (Nat.le_refl _)
  | succ n ih =>
    intro i hi
    refine z_iload_n dX7_squaresOfSheets_4 rfl ?_
    refine z_aload_n dX7_squaresOfSheets_5 rfl ?_
    refine z_get (ci := 7) (f := 0) dX7_squaresOfSheets_6 ⟨by decide, by decide, zm_663, rfl⟩ mq_o rfl ?_
    refine z_iconst (v := (nI 0)) dX7_squaresOfSheets_9 (by decide) ?_
    refine z_ialdN dX7_squaresOfSheets_10 mq_a0 rfl (by omega) (by decide) ?_
    refine z_eq h0 ?_
    refine z_icmp_ge (tgt := 46) dX7_squaresOfSheets_11 (by decide) (fun c_11 => absurd c_11 (nI_ge (by omega) (by omega))) (fun c_11 => ?_)
    refine z_iload_n dX7_squaresOfSheets_14 rfl ?_
    refine z_aload_n dX7_squaresOfSheets_15 rfl ?_
    refine z_get (ci := 7) (f := 0) dX7_squaresOfSheets_16 ⟨by decide, by decide, zm_663, rfl⟩ mq_o rfl ?_
    refine z_iload_n dX7_squaresOfSheets_19 rfl ?_
    refine z_iconst (v := (nI 1)) dX7_squaresOfSheets_20 (by decide) ?_
    refine z_callSR kn_ofOne dX7_squaresOfSheets_21 ⟨zm_709, zm_711, zm_8, zm_710⟩  (by decide) zp_X7_ofOne rfl (Nat.le_of_ble_eq_true rfl) (Nat.le_refl _) (Nat.le_refl _) ?_
    refine z_ialdN (j := 4 + 11 * i) dX7_squaresOfSheets_24 mq_a0 (by congr 1; omega) (by omega) (by decide) ?_
    refine z_iconst (v := (nI 1)) dX7_squaresOfSheets_25 (by decide) ?_
    refine z_icmp_ne (tgt := 33) dX7_squaresOfSheets_26 (by decide) (fun c_26 => ?_) (fun c_26 => ?_)
    · refine z_aload_n dX7_squaresOfSheets_33 rfl ?_
      refine z_iload_n dX7_squaresOfSheets_34 rfl ?_
      refine z_callVR (ci := 7) (k_X7_uncut (by omega) hR) dX7_squaresOfSheets_35 ⟨zm_835, zm_838, zm_8, zm_837, zmp_26, by decide⟩ mq_o (by decide) zp_X7_uncut rfl (Nat.le_of_ble_eq_true rfl) (Nat.le_refl _) (Nat.le_refl _) ?_
      refine z_iadd dX7_squaresOfSheets_38 ?_
      refine z_istore_n dX7_squaresOfSheets_39 (by decide) rfl rfl ?_
      refine z_iincU dX7_squaresOfSheets_40 rfl (by decide) rfl rfl ?_
      refine z_goto (tgt := 4) dX7_squaresOfSheets_43 (by decide) ?_
      have e1 := ih (i + 1) (by omega)
      rw [sqsA, if_neg c_26] at e1
      exact e1
    · refine z_iconst (v := (nI 0)) dX7_squaresOfSheets_29 (by decide) ?_
      refine z_goto (tgt := 38) dX7_squaresOfSheets_30 (by decide) ?_
      refine z_iadd dX7_squaresOfSheets_38 ?_
      refine z_istore_n dX7_squaresOfSheets_39 (by decide) rfl rfl ?_
      refine z_iincU dX7_squaresOfSheets_40 rfl (by decide) rfl rfl ?_
      refine z_goto (tgt := 4) dX7_squaresOfSheets_43 (by decide) ?_
      have e1 := ih (i + 1) (by omega)
      rw [sqsA, if_pos c_26] at e1
      exact e1
set_option maxHeartbeats 4000000 in
set_option maxRecDepth 100000 in
theorem k_X7_squaresOfSheets {G : zG} {hh : zH} {sz mo : Nat} {s fo : Nat → Int32} {τ : Nat → Nat → Int32} {kp ln : Int32} {n0 : Nat} (h0 : s 0 = nI n0) (hn : n0 ≤ 6) (hR : okR s) : zC G 2 MX7_squaresOfSheets yX7_squaresOfSheets [.ref mo] (mq G mo s fo τ kp ln hh) sz 0 0 (zR (.int (sqsA s n0)) (mq G mo s fo τ kp ln hh) sz) := by
  refine z_intro _ rfl zy_X7_squaresOfSheets (Nat.le_of_ble_eq_true rfl) ?_
  refine z_iconst (v := (nI 0)) dX7_squaresOfSheets_0 (by decide) ?_
  refine z_istore_n dX7_squaresOfSheets_1 (by decide) rfl rfl ?_
  refine z_iconst (v := (nI 0)) dX7_squaresOfSheets_2 (by decide) ?_
  refine z_istore_n dX7_squaresOfSheets_3 (by decide) rfl rfl ?_
  exact l_squaresOfSheets h0 hn hR n0 0 (Nat.zero_add _)
def o_count (s : Nat → Int32) (kp ln : Int32) (b : Int32) : Int32 := if b = nI 0 then s 0 else if b = nI 1 then s 1 else if b = nI 2 then ptaA s (b - nI 2) (nP s) else if b = nI 3 then ptaA s (b - nI 2) (nP s) else if b = nI 4 then ptaA s (b - nI 2) (nP s) else if b = nI 5 then s 2 else if b = nI 6 then sqsA s (nSh s) else if b = nI 7 then sqpA s (nP s) else if b = nI 8 then ln else if b = nI 9 then kp else -2
set_option maxHeartbeats 4000000 in
set_option maxRecDepth 100000 in
theorem k_X7_count {G : zG} {hh : zH} {sz mo : Nat} {s fo : Nat → Int32} {τ : Nat → Nat → Int32} {kp ln : Int32} (hT : τ 6 = tabI) (hS : okS s) (hP : okP s) {b : Int32} : zC G 3 MX7_count yX7_count [.ref mo, .int b] (mq G mo s fo τ kp ln hh) sz 0 0 (zJ (o_count s kp ln b) G mo s τ kp ln hh sz) := by
  obtain ⟨⟨a1, a2⟩, ⟨b1, b2⟩, hR⟩ := id hS
  refine z_intro _ rfl zy_X7_count (Nat.le_of_ble_eq_true rfl) ?_
  refine z_iload_n dX7_count_0 rfl ?_
  by_cases q0 : b = nI 0
  · refine z_tableIn (tgt := 56) dX7_count_1 (by rw [q0]; decide) (by rw [q0]; decide) (by rw [q0]; rfl) (by decide) ?_
    refine z_aload_n dX7_count_56 rfl ?_
    refine z_get (ci := 7) (f := 0) dX7_count_57 ⟨by decide, by decide, zm_663, rfl⟩ mq_o rfl ?_
    refine z_iload_n dX7_count_60 rfl ?_
    refine z_ialdN (j := 0) dX7_count_61 mq_a0 q0 (by omega) (by decide) ?_
    have ee : o_count s kp ln b = s 0 := by unfold o_count; rw [if_pos q0]
    rw [ee]
    exact z_iretJ fo τ dX7_count_62 rfl rfl rfl MJ.rfl rfl (Nat.le_refl _) (Nat.le_refl _)
  by_cases q1 : b = nI 1
  · refine z_tableIn (tgt := 56) dX7_count_1 (by rw [q1]; decide) (by rw [q1]; decide) (by rw [q1]; rfl) (by decide) ?_
    refine z_aload_n dX7_count_56 rfl ?_
    refine z_get (ci := 7) (f := 0) dX7_count_57 ⟨by decide, by decide, zm_663, rfl⟩ mq_o rfl ?_
    refine z_iload_n dX7_count_60 rfl ?_
    refine z_ialdN (j := 1) dX7_count_61 mq_a0 q1 (by omega) (by decide) ?_
    have ee : o_count s kp ln b = s 1 := by unfold o_count; rw [if_neg q0, if_pos q1]
    rw [ee]
    exact z_iretJ fo τ dX7_count_62 rfl rfl rfl MJ.rfl rfl (Nat.le_refl _) (Nat.le_refl _)
  by_cases q2 : b = nI 2
  · refine z_tableIn (tgt := 63) dX7_count_1 (by rw [q2]; decide) (by rw [q2]; decide) (by rw [q2]; rfl) (by decide) ?_
    refine z_aload_n dX7_count_63 rfl ?_
    refine z_iload_n dX7_count_64 rfl ?_
    refine z_iconst (v := (nI 2)) dX7_count_65 (by decide) ?_
    refine z_isub dX7_count_66 ?_
    refine z_callVR (ci := 7) (k_X7_piecesThatAre b1 b2) dX7_count_67 ⟨zm_871, zm_874, zm_8, zm_873, zmp_29, by decide⟩ mq_o (by decide) zp_X7_piecesThatAre rfl (Nat.le_of_ble_eq_true rfl) (Nat.le_refl _) (Nat.le_refl _) ?_
    have ee : o_count s kp ln b = ptaA s (b - nI 2) (nP s) := by unfold o_count; rw [if_neg q0, if_neg q1, if_pos q2]
    rw [ee]
    exact z_iretJ fo τ dX7_count_70 rfl rfl rfl MJ.rfl rfl (Nat.le_refl _) (Nat.le_refl _)
  by_cases q3 : b = nI 3
  · refine z_tableIn (tgt := 63) dX7_count_1 (by rw [q3]; decide) (by rw [q3]; decide) (by rw [q3]; rfl) (by decide) ?_
    refine z_aload_n dX7_count_63 rfl ?_
    refine z_iload_n dX7_count_64 rfl ?_
    refine z_iconst (v := (nI 2)) dX7_count_65 (by decide) ?_
    refine z_isub dX7_count_66 ?_
    refine z_callVR (ci := 7) (k_X7_piecesThatAre b1 b2) dX7_count_67 ⟨zm_871, zm_874, zm_8, zm_873, zmp_29, by decide⟩ mq_o (by decide) zp_X7_piecesThatAre rfl (Nat.le_of_ble_eq_true rfl) (Nat.le_refl _) (Nat.le_refl _) ?_
    have ee : o_count s kp ln b = ptaA s (b - nI 2) (nP s) := by unfold o_count; rw [if_neg q0, if_neg q1, if_neg q2, if_pos q3]
    rw [ee]
    exact z_iretJ fo τ dX7_count_70 rfl rfl rfl MJ.rfl rfl (Nat.le_refl _) (Nat.le_refl _)
  by_cases q4 : b = nI 4
  · refine z_tableIn (tgt := 63) dX7_count_1 (by rw [q4]; decide) (by rw [q4]; decide) (by rw [q4]; rfl) (by decide) ?_
    refine z_aload_n dX7_count_63 rfl ?_
    refine z_iload_n dX7_count_64 rfl ?_
    refine z_iconst (v := (nI 2)) dX7_count_65 (by decide) ?_
    refine z_isub dX7_count_66 ?_
    refine z_callVR (ci := 7) (k_X7_piecesThatAre b1 b2) dX7_count_67 ⟨zm_871, zm_874, zm_8, zm_873, zmp_29, by decide⟩ mq_o (by decide) zp_X7_piecesThatAre rfl (Nat.le_of_ble_eq_true rfl) (Nat.le_refl _) (Nat.le_refl _) ?_
    have ee : o_count s kp ln b = ptaA s (b - nI 2) (nP s) := by unfold o_count; rw [if_neg q0, if_neg q1, if_neg q2, if_neg q3, if_pos q4]
    rw [ee]
    exact z_iretJ fo τ dX7_count_70 rfl rfl rfl MJ.rfl rfl (Nat.le_refl _) (Nat.le_refl _)
  by_cases q5 : b = nI 5
  · refine z_tableIn (tgt := 71) dX7_count_1 (by rw [q5]; decide) (by rw [q5]; decide) (by rw [q5]; rfl) (by decide) ?_
    refine z_aload_n dX7_count_71 rfl ?_
    refine z_get (ci := 7) (f := 0) dX7_count_72 ⟨by decide, by decide, zm_663, rfl⟩ mq_o rfl ?_
    refine z_iconst (v := (nI 2)) dX7_count_75 (by decide) ?_
    refine z_ialdN dX7_count_76 mq_a0 rfl (by omega) (by decide) ?_
    have ee : o_count s kp ln b = s 2 := by unfold o_count; rw [if_neg q0, if_neg q1, if_neg q2, if_neg q3, if_neg q4, if_pos q5]
    rw [ee]
    exact z_iretJ fo τ dX7_count_77 rfl rfl rfl MJ.rfl rfl (Nat.le_refl _) (Nat.le_refl _)
  by_cases q6 : b = nI 6
  · refine z_tableIn (tgt := 78) dX7_count_1 (by rw [q6]; decide) (by rw [q6]; decide) (by rw [q6]; rfl) (by decide) ?_
    refine z_aload_n dX7_count_78 rfl ?_
    refine z_callVR (ci := 7) (k_X7_squaresOfSheets a1 a2 hR) dX7_count_79 ⟨zm_875, zm_878, zm_8, zm_877, zmp_30, by decide⟩ mq_o (by decide) zp_X7_squaresOfSheets rfl (Nat.le_of_ble_eq_true rfl) (Nat.le_refl _) (Nat.le_refl _) ?_
    have ee : o_count s kp ln b = sqsA s (nSh s) := by unfold o_count; rw [if_neg q0, if_neg q1, if_neg q2, if_neg q3, if_neg q4, if_neg q5, if_pos q6]
    rw [ee]
    exact z_iretJ fo τ dX7_count_82 rfl rfl rfl MJ.rfl rfl (Nat.le_refl _) (Nat.le_refl _)
  by_cases q7 : b = nI 7
  · refine z_tableIn (tgt := 83) dX7_count_1 (by rw [q7]; decide) (by rw [q7]; decide) (by rw [q7]; rfl) (by decide) ?_
    refine z_aload_n dX7_count_83 rfl ?_
    refine z_callVR (ci := 7) (k_X7_squaresOfPieces b1 b2 hT hP) dX7_count_84 ⟨zm_879, zm_882, zm_8, zm_881, zmp_31, by decide⟩ mq_o (by decide) zp_X7_squaresOfPieces rfl (Nat.le_of_ble_eq_true rfl) (Nat.le_refl _) (Nat.le_refl _) ?_
    have ee : o_count s kp ln b = sqpA s (nP s) := by unfold o_count; rw [if_neg q0, if_neg q1, if_neg q2, if_neg q3, if_neg q4, if_neg q5, if_neg q6, if_pos q7]
    rw [ee]
    exact z_iretJ fo τ dX7_count_87 rfl rfl rfl MJ.rfl rfl (Nat.le_refl _) (Nat.le_refl _)
  by_cases q8 : b = nI 8
  · refine z_tableIn (tgt := 88) dX7_count_1 (by rw [q8]; decide) (by rw [q8]; decide) (by rw [q8]; rfl) (by decide) ?_
    refine z_aload_n dX7_count_88 rfl ?_
    refine z_get (ci := 7) (f := 7) dX7_count_89 ⟨by decide, by decide, zm_670, rfl⟩ mq_o rfl ?_
    have ee : o_count s kp ln b = ln := by unfold o_count; rw [if_neg q0, if_neg q1, if_neg q2, if_neg q3, if_neg q4, if_neg q5, if_neg q6, if_neg q7, if_pos q8]
    rw [ee]
    exact z_iretJ fo τ dX7_count_92 rfl rfl rfl MJ.rfl rfl (Nat.le_refl _) (Nat.le_refl _)
  by_cases q9 : b = nI 9
  · refine z_tableIn (tgt := 93) dX7_count_1 (by rw [q9]; decide) (by rw [q9]; decide) (by rw [q9]; rfl) (by decide) ?_
    refine z_aload_n dX7_count_93 rfl ?_
    refine z_get (ci := 7) (f := 3) dX7_count_94 ⟨by decide, by decide, zm_666, rfl⟩ mq_o rfl ?_
    have ee : o_count s kp ln b = kp := by unfold o_count; rw [if_neg q0, if_neg q1, if_neg q2, if_neg q3, if_neg q4, if_neg q5, if_neg q6, if_neg q7, if_neg q8, if_pos q9]
    rw [ee]
    exact z_iretJ fo τ dX7_count_97 rfl rfl rfl MJ.rfl rfl (Nat.le_refl _) (Nat.le_refl _)
  refine z_tableOut (tgt := 98) dX7_count_1 (z_out10 q0 q1 q2 q3 q4 q5 q6 q7 q8 q9) (by decide) ?_
  refine z_bipush (v := (-2)) dX7_count_98 (by decide) ?_
  have ee : o_count s kp ln b = -2 := by unfold o_count; rw [if_neg q0, if_neg q1, if_neg q2, if_neg q3, if_neg q4, if_neg q5, if_neg q6, if_neg q7, if_neg q8, if_neg q9]
  rw [ee]
  exact z_iretJ fo τ dX7_count_100 rfl rfl rfl MJ.rfl rfl (Nat.le_refl _) (Nat.le_refl _)
set_option maxHeartbeats 4000000 in
set_option maxRecDepth 100000 in
theorem k_X7_wipe {G : zG} {hh : zH} {sz mo : Nat} {s fo : Nat → Int32} {τ : Nat → Nat → Int32} {kp ln : Int32}  : zC G 1 MX7_wipe yX7_wipe [.ref mo] (mq G mo s fo τ kp ln hh) sz 0 0 (zJ ln G mo s τ kp (nI 0) hh sz) := by
  refine z_intro _ rfl zy_X7_wipe (Nat.le_of_ble_eq_true rfl) ?_
  refine z_aload_n dX7_wipe_0 rfl ?_
  refine z_get (ci := 7) (f := 7) dX7_wipe_1 ⟨by decide, by decide, zm_670, rfl⟩ mq_o rfl ?_
  refine z_istore_n dX7_wipe_4 (by decide) rfl rfl ?_
  refine z_aload_n dX7_wipe_5 rfl ?_
  refine z_iconst (v := (nI 0)) dX7_wipe_6 (by decide) ?_
  refine z_put (ci := 7) (f := 7) dX7_wipe_7 ⟨by decide, by decide, zm_670, rfl⟩ mq_o rfl rfl rfl (Nat.le_of_ble_eq_true rfl) ?_
  refine z_heap mq_ul ?_
  refine z_iload_n dX7_wipe_10 rfl ?_
  exact z_iretJ fo τ dX7_wipe_11 rfl rfl rfl MJ.rfl rfl (Nat.le_refl _) (Nat.le_refl _)
theorem cpy_all {f g : Nat → Int32} {b : Nat} (hg : okT g) (t : Nat → Int32) (ht : okT t) (h : ∀ i, i < 453 → f (b + i) = t i) : va_cpy f g b 0 453 = t := by
  funext j
  unfold va_cpy
  by_cases c : j < 453
  · rw [if_pos (by omega), Nat.sub_zero, h j c]
  · rw [if_neg (by omega), hg j (by omega), ht j (by omega)]
set_option maxHeartbeats 4000000 in
set_option maxRecDepth 100000 in
theorem k_X7_undoS {G : zG} {hh : zH} {sz mo : Nat} {s fo : Nat → Int32} {τ : Nat → Nat → Int32} {ln : Int32} {K : Nat} (hK : K < 6) : zC G 1 MX7_undo yX7_undo [.ref mo] (mq G mo s fo τ (nI (K + 1)) ln hh) sz 0 0 (zJ (nI K) G mo (va_cpy (τ 2) s (453 * K) 0 453) τ (nI K) ln hh sz) := by
  refine z_intro _ rfl zy_X7_undo (Nat.le_of_ble_eq_true rfl) ?_
  refine z_aload_n dX7_undo_0 rfl ?_
  refine z_get (ci := 7) (f := 3) dX7_undo_1 ⟨by decide, by decide, zm_666, rfl⟩ mq_o rfl ?_
  refine z_if_ne (tgt := 10) dX7_undo_4 (by decide) (fun c_4 => ?_) (fun c_4 => absurd c_4 (nI_ne0 (by omega) (by omega)))
  refine z_aload_n dX7_undo_10 rfl ?_
  refine z_dup dX7_undo_11 rfl ?_
  refine z_get (ci := 7) (f := 3) dX7_undo_12 ⟨by decide, by decide, zm_666, rfl⟩ mq_o rfl ?_
  refine z_iconst (v := (nI 1)) dX7_undo_15 (by decide) ?_
  refine z_isubN dX7_undo_16 (by omega) ?_
  refine z_put (ci := 7) (f := 3) dX7_undo_17 ⟨by decide, by decide, zm_666, rfl⟩ mq_o rfl rfl rfl (Nat.le_of_ble_eq_true rfl) ?_
  refine z_heap mq_uk ?_
  rw [Nat.add_sub_cancel]
  refine z_iconst (v := (nI 0)) dX7_undo_20 (by decide) ?_
  refine z_istore_n dX7_undo_21 (by decide) rfl rfl ?_
  have Lp : ∀ (n i : Nat), i + n = 453 → zS MX7_undo G 1 0 0 0 0 (mq G mo (va_cpy (τ 2) s (453 * K) 0 i) fo τ (nI K) ln hh) sz 22 [some (.ref mo), some (.int (nI i))] [] (fun rr hh' ss' kk' nn' => zJ (nI K) G mo (va_cpy (τ 2) s (453 * K) 0 453) τ (nI K) ln hh sz rr hh' ss' ∧ kk' ≤ 0 ∧ nn' ≤ 0) := by
    intro n; induction n with
    | zero =>
      intro i hi
      have ei : i = 453 := by omega
      subst ei
      refine z_iload_n dX7_undo_22 rfl ?_
      refine z_sipush (v := (nI 453)) dX7_undo_23 (by decide) ?_
      refine z_icmp_ge (tgt := 56) dX7_undo_26 (by decide) (fun c_26 => ?_) (fun c_26 => absurd c_26 (not_not_intro (nI_le (by omega) (by omega))))
      refine z_aload_n dX7_undo_56 rfl ?_
      refine z_get (ci := 7) (f := 3) dX7_undo_57 ⟨by decide, by decide, zm_666, rfl⟩ mq_o rfl ?_
      exact z_iretJ fo τ dX7_undo_60 rfl rfl rfl MJ.rfl rfl (Nat.le_refl _) (Nat.le_refl _)
    | succ n ih =>
      intro i hi
      refine z_iload_n dX7_undo_22 rfl ?_
      refine z_sipush (v := (nI 453)) dX7_undo_23 (by decide) ?_
      refine z_icmp_ge (tgt := 56) dX7_undo_26 (by decide) (fun c_26 => absurd c_26 (nI_ge (by omega) (by omega))) (fun c_26 => ?_)
      refine z_aload_n dX7_undo_29 rfl ?_
      refine z_get (ci := 7) (f := 0) dX7_undo_30 ⟨by decide, by decide, zm_663, rfl⟩ mq_o rfl ?_
      refine z_iload_n dX7_undo_33 rfl ?_
      refine z_aload_n dX7_undo_34 rfl ?_
      refine z_get (ci := 7) (f := 2) dX7_undo_35 ⟨by decide, by decide, zm_665, rfl⟩ mq_o rfl ?_
      refine z_sipush (v := (nI 453)) dX7_undo_38 (by decide) ?_
      refine z_aload_n dX7_undo_41 rfl ?_
      refine z_get (ci := 7) (f := 3) dX7_undo_42 ⟨by decide, by decide, zm_666, rfl⟩ mq_o rfl ?_
      refine z_imulN dX7_undo_45 ?_
      refine z_iload_n dX7_undo_46 rfl ?_
      refine z_iaddN dX7_undo_47 ?_
      refine z_ialdN (j := 453 * K + i) dX7_undo_48 mq_a2 rfl (by omega) (by decide) ?_
      refine z_iastN (j := i) dX7_undo_49 mq_a0 rfl (by omega) (by decide) ?_
      refine z_heap mq_u0 ?_
      refine z_heap (show _ = mq G mo (va_cpy (τ 2) s (453 * K) 0 (i + 1)) fo τ (nI K) ln hh from by rw [← cpy_step, Nat.zero_add]) ?_
      refine z_iincU dX7_undo_50 rfl (by decide) rfl rfl ?_
      refine z_goto (tgt := 22) dX7_undo_53 (by decide) ?_
      exact ih (i + 1) (by omega)
  refine z_heap (show _ = mq G mo (va_cpy (τ 2) s (453 * K) 0 0) fo τ (nI K) ln hh from by rw [cpy_0]) ?_
  exact Lp 453 0 (by omega)
set_option maxHeartbeats 4000000 in
set_option maxRecDepth 100000 in
theorem k_X7_undo0 {G : zG} {hh : zH} {sz mo : Nat} {s fo : Nat → Int32} {τ : Nat → Nat → Int32} {ln : Int32}  : zC G 1 MX7_undo yX7_undo [.ref mo] (mq G mo s fo τ (nI 0) ln hh) sz 0 0 (zJ (-5) G mo s τ (nI 0) ln hh sz) := by
  refine z_intro _ rfl zy_X7_undo (Nat.le_of_ble_eq_true rfl) ?_
  refine z_aload_n dX7_undo_0 rfl ?_
  refine z_get (ci := 7) (f := 3) dX7_undo_1 ⟨by decide, by decide, zm_666, rfl⟩ mq_o rfl ?_
  refine z_if_ne (tgt := 10) dX7_undo_4 (by decide) (fun c_4 => absurd rfl c_4) (fun c_4 => ?_)
  refine z_bipush (v := (-5)) dX7_undo_7 (by decide) ?_
  exact z_iretJ fo τ dX7_undo_9 rfl rfl rfl MJ.rfl rfl (Nat.le_refl _) (Nat.le_refl _)
def savT (s : Nat → Int32) (τ : Nat → Nat → Int32) (e : Nat) : Nat → Nat → Int32 := mu (mu τ 3 (va_cpy s (τ 3) 0 (453 * e) 453)) 4 (upd (τ 4) e (nI 1))
set_option maxHeartbeats 4000000 in
set_option maxRecDepth 100000 in
theorem k_X7_saveS {G : zG} {hh : zH} {sz mo : Nat} {s fo : Nat → Int32} {τ : Nat → Nat → Int32} {kp ln : Int32} {e : Nat} (he2 : e < 2) (b1 : s 1 = nI (nP s)) : zC G 1 MX7_save yX7_save [.ref mo, .int (nI e)] (mq G mo s fo τ kp ln hh) sz 0 0 (zJ (nI (nP s)) G mo s (savT s τ e) kp ln hh sz) := by
  refine z_intro _ rfl zy_X7_save (Nat.le_of_ble_eq_true rfl) ?_
  refine z_iload_n dX7_save_0 rfl ?_
  refine z_iconst (v := (nI 0)) dX7_save_1 (by decide) ?_
  refine z_iconst (v := (nI 1)) dX7_save_2 (by decide) ?_
  refine z_callSR (kn_in (n := 1) (by omega)) dX7_save_3 ⟨zm_702, zm_704, zm_8, zm_703⟩  (by decide) zp_X7_in rfl (Nat.le_of_ble_eq_true rfl) (Nat.le_refl _) (Nat.le_refl _) ?_
  refine z_if_ne (tgt := 12) dX7_save_6 (by decide) (fun c_6 => ?_) (fun c_6 => absurd c_6 (by rw [isI_nI (by omega) he2]; decide))
  refine z_iconst (v := (nI 0)) dX7_save_12 (by decide) ?_
  refine z_istore_n dX7_save_13 (by decide) rfl rfl ?_
  have Lp : ∀ (n i : Nat), i + n = 453 → zS MX7_save G 1 0 0 0 0 (mq G mo s fo (mu τ 3 (va_cpy s (τ 3) 0 (453 * e) i)) kp ln hh) sz 14 [some (.ref mo), some (.int (nI e)), some (.int (nI i))] [] (fun rr hh' ss' kk' nn' => zJ (nI (nP s)) G mo s (savT s τ e) kp ln hh sz rr hh' ss' ∧ kk' ≤ 0 ∧ nn' ≤ 0) := by
    intro n; induction n with
    | zero =>
      intro i hi
      have ei : i = 453 := by omega
      subst ei
      refine z_iload_n dX7_save_14 rfl ?_
      refine z_sipush (v := (nI 453)) dX7_save_15 (by decide) ?_
      refine z_icmp_ge (tgt := 45) dX7_save_18 (by decide) (fun c_18 => ?_) (fun c_18 => absurd c_18 (not_not_intro (nI_le (by omega) (by omega))))
      refine z_aload_n dX7_save_45 rfl ?_
      refine z_get (ci := 7) (f := 5) dX7_save_46 ⟨by decide, by decide, zm_668, rfl⟩ mq_o rfl ?_
      refine z_iload_n dX7_save_49 rfl ?_
      refine z_iconst (v := (nI 1)) dX7_save_50 (by decide) ?_
      refine z_zast dX7_save_51 mq_a4 (vp_in_nI he2 (by omega)) ?_
      rw [nI_clamp (by omega), show vp_nar .boolean (nI 1) = nI 1 from rfl]
      refine z_heap (show _ = mq G mo s fo (savT s τ e) kp ln hh from by rw [mq_u4, mu_ne (show (4 : Nat) ≠ 3 by decide)]; rfl) ?_
      refine z_aload_n dX7_save_52 rfl ?_
      refine z_get (ci := 7) (f := 0) dX7_save_53 ⟨by decide, by decide, zm_663, rfl⟩ mq_o rfl ?_
      refine z_iconst (v := (nI 1)) dX7_save_56 (by decide) ?_
      refine z_ialdN dX7_save_57 mq_a0 rfl (by omega) (by decide) ?_
      refine z_eq b1 ?_
      exact z_iretJ fo _ dX7_save_58 rfl rfl rfl MJ.rfl rfl (Nat.le_refl _) (Nat.le_refl _)
    | succ n ih =>
      intro i hi
      refine z_iload_n dX7_save_14 rfl ?_
      refine z_sipush (v := (nI 453)) dX7_save_15 (by decide) ?_
      refine z_icmp_ge (tgt := 45) dX7_save_18 (by decide) (fun c_18 => absurd c_18 (nI_ge (by omega) (by omega))) (fun c_18 => ?_)
      refine z_aload_n dX7_save_21 rfl ?_
      refine z_get (ci := 7) (f := 4) dX7_save_22 ⟨by decide, by decide, zm_667, rfl⟩ mq_o rfl ?_
      refine z_sipush (v := (nI 453)) dX7_save_25 (by decide) ?_
      refine z_iload_n dX7_save_28 rfl ?_
      refine z_imulN dX7_save_29 ?_
      refine z_iload_n dX7_save_30 rfl ?_
      refine z_iaddN dX7_save_31 ?_
      refine z_aload_n dX7_save_32 rfl ?_
      refine z_get (ci := 7) (f := 0) dX7_save_33 ⟨by decide, by decide, zm_663, rfl⟩ mq_o rfl ?_
      refine z_iload_n dX7_save_36 rfl ?_
      refine z_ialdN dX7_save_37 mq_a0 rfl (by omega) (by decide) ?_
      refine z_iastN (j := 453 * e + i) dX7_save_38 mq_a3 rfl (by omega) (by decide) ?_
      refine z_heap mq_u3 ?_
      refine z_heap (show _ = mq G mo s fo (mu τ 3 (va_cpy s (τ 3) 0 (453 * e) (i + 1))) kp ln hh from by rw [mu_eq, mu_mu, ← cpy_step, Nat.zero_add]) ?_
      refine z_iincU dX7_save_39 rfl (by decide) rfl rfl ?_
      refine z_goto (tgt := 14) dX7_save_42 (by decide) ?_
      exact ih (i + 1) (by omega)
  refine z_heap (show _ = mq G mo s fo (mu τ 3 (va_cpy s (τ 3) 0 (453 * e) 0)) kp ln hh from by rw [cpy_0, mu_self]) ?_
  exact Lp 453 0 (by omega)
set_option maxHeartbeats 4000000 in
set_option maxRecDepth 100000 in
theorem k_X7_save0 {G : zG} {hh : zH} {sz mo : Nat} {s fo : Nat → Int32} {τ : Nat → Nat → Int32} {kp ln : Int32} {x : Int32} (hx : isI 2 x = false) : zC G 1 MX7_save yX7_save [.ref mo, .int x] (mq G mo s fo τ kp ln hh) sz 0 0 (zJ (-2) G mo s τ kp ln hh sz) := by
  refine z_intro _ rfl zy_X7_save (Nat.le_of_ble_eq_true rfl) ?_
  refine z_iload_n dX7_save_0 rfl ?_
  refine z_iconst (v := (nI 0)) dX7_save_1 (by decide) ?_
  refine z_iconst (v := (nI 1)) dX7_save_2 (by decide) ?_
  refine z_callSR (kn_in (n := 1) (by omega)) dX7_save_3 ⟨zm_702, zm_704, zm_8, zm_703⟩  (by decide) zp_X7_in rfl (Nat.le_of_ble_eq_true rfl) (Nat.le_refl _) (Nat.le_refl _) ?_
  refine z_if_ne (tgt := 12) dX7_save_6 (by decide) (fun c_6 => absurd (by rw [hx]; rfl) c_6) (fun c_6 => ?_)
  refine z_bipush (v := (-2)) dX7_save_9 (by decide) ?_
  exact z_iretJ fo τ dX7_save_11 rfl rfl rfl MJ.rfl rfl (Nat.le_refl _) (Nat.le_refl _)
set_option maxHeartbeats 4000000 in
set_option maxRecDepth 100000 in
theorem k_X7_restore0 {G : zG} {hh : zH} {sz mo : Nat} {s fo : Nat → Int32} {τ : Nat → Nat → Int32} {kp ln : Int32} {x : Int32} (hx : isI 2 x = false) : zC G 1 MX7_restore yX7_restore [.ref mo, .int x] (mq G mo s fo τ kp ln hh) sz 0 0 (zJ (-2) G mo s τ kp ln hh sz) := by
  refine z_intro _ rfl zy_X7_restore (Nat.le_of_ble_eq_true rfl) ?_
  refine z_iload_n dX7_restore_0 rfl ?_
  refine z_iconst (v := (nI 0)) dX7_restore_1 (by decide) ?_
  refine z_iconst (v := (nI 1)) dX7_restore_2 (by decide) ?_
  refine z_callSR (kn_in (n := 1) (by omega)) dX7_restore_3 ⟨zm_702, zm_704, zm_8, zm_703⟩  (by decide) zp_X7_in rfl (Nat.le_of_ble_eq_true rfl) (Nat.le_refl _) (Nat.le_refl _) ?_
  refine z_if_ne (tgt := 12) dX7_restore_6 (by decide) (fun c_6 => absurd (by rw [hx]; rfl) c_6) (fun c_6 => ?_)
  refine z_bipush (v := (-2)) dX7_restore_9 (by decide) ?_
  exact z_iretJ fo τ dX7_restore_11 rfl rfl rfl MJ.rfl rfl (Nat.le_refl _) (Nat.le_refl _)
set_option maxHeartbeats 4000000 in
set_option maxRecDepth 100000 in
theorem k_X7_restoreS {G : zG} {hh : zH} {sz mo : Nat} {s fo : Nat → Int32} {τ : Nat → Nat → Int32} {ln : Int32} {e K : Nat} (he2 : e < 2) (hK : K ≤ 6) (hsv : τ 4 e = nI 1) : zC G 2 MX7_restore yX7_restore [.ref mo, .int (nI e)] (mq G mo s fo τ (nI K) ln hh) sz 0 0 (zJ (va_cpy (τ 3) s (453 * e) 0 453 1) G mo (va_cpy (τ 3) s (453 * e) 0 453) (mu τ 2 (recH s (τ 2) K)) (nI (recB K + 1)) ln hh sz) := by
  refine z_intro _ rfl zy_X7_restore (Nat.le_of_ble_eq_true rfl) ?_
  refine z_iload_n dX7_restore_0 rfl ?_
  refine z_iconst (v := (nI 0)) dX7_restore_1 (by decide) ?_
  refine z_iconst (v := (nI 1)) dX7_restore_2 (by decide) ?_
  refine z_callSR (kn_in (n := 1) (by omega)) dX7_restore_3 ⟨zm_702, zm_704, zm_8, zm_703⟩  (by decide) zp_X7_in rfl (Nat.le_of_ble_eq_true rfl) (Nat.le_refl _) (Nat.le_refl _) ?_
  refine z_if_ne (tgt := 12) dX7_restore_6 (by decide) (fun c_6 => ?_) (fun c_6 => absurd c_6 (by rw [isI_nI (by omega) he2]; decide))
  refine z_aload_n dX7_restore_12 rfl ?_
  refine z_get (ci := 7) (f := 5) dX7_restore_13 ⟨by decide, by decide, zm_668, rfl⟩ mq_o rfl ?_
  refine z_iload_n dX7_restore_16 rfl ?_
  refine z_zald dX7_restore_17 mq_a4 (vp_in_nI he2 (by omega)) ?_
  rw [nI_clamp (by omega)]
  refine z_eq hsv ?_
  refine z_if_ne (tgt := 24) dX7_restore_18 (by decide) (fun c_18 => ?_) (fun c_18 => absurd c_18 (by decide))
  refine z_aload_n dX7_restore_24 rfl ?_
  refine z_callVU (ci := 7) (k_X7_record hK) dX7_restore_25 ⟨zm_705, zm_708, zm_8, zm_707, zmp_6, by decide⟩ mq_o (by decide) zp_X7_record rfl (Nat.le_of_ble_eq_true rfl) (Nat.le_refl _) (Nat.le_refl _) ?_
  refine z_iconst (v := (nI 0)) dX7_restore_28 (by decide) ?_
  refine z_istore_n dX7_restore_29 (by decide) rfl rfl ?_
  have Lp : ∀ (n i : Nat), i + n = 453 → zS MX7_restore G 2 0 0 0 0 (mq G mo (va_cpy (τ 3) s (453 * e) 0 i) fo (mu τ 2 (recH s (τ 2) K)) (nI (recB K + 1)) ln hh) sz 30 [some (.ref mo), some (.int (nI e)), some (.int (nI i))] [] (fun rr hh' ss' kk' nn' => zJ (va_cpy (τ 3) s (453 * e) 0 453 1) G mo (va_cpy (τ 3) s (453 * e) 0 453) (mu τ 2 (recH s (τ 2) K)) (nI (recB K + 1)) ln hh sz rr hh' ss' ∧ kk' ≤ 0 ∧ nn' ≤ 0) := by
    intro n; induction n with
    | zero =>
      intro i hi
      have ei : i = 453 := by omega
      subst ei
      refine z_iload_n dX7_restore_30 rfl ?_
      refine z_sipush (v := (nI 453)) dX7_restore_31 (by decide) ?_
      refine z_icmp_ge (tgt := 61) dX7_restore_34 (by decide) (fun c_34 => ?_) (fun c_34 => absurd c_34 (not_not_intro (nI_le (by omega) (by omega))))
      refine z_aload_n dX7_restore_61 rfl ?_
      refine z_get (ci := 7) (f := 0) dX7_restore_62 ⟨by decide, by decide, zm_663, rfl⟩ mq_o rfl ?_
      refine z_iconst (v := (nI 1)) dX7_restore_65 (by decide) ?_
      refine z_ialdN dX7_restore_66 mq_a0 rfl (by omega) (by decide) ?_
      exact z_iretJ fo _ dX7_restore_67 rfl rfl rfl MJ.rfl rfl (Nat.le_refl _) (Nat.le_refl _)
    | succ n ih =>
      intro i hi
      refine z_iload_n dX7_restore_30 rfl ?_
      refine z_sipush (v := (nI 453)) dX7_restore_31 (by decide) ?_
      refine z_icmp_ge (tgt := 61) dX7_restore_34 (by decide) (fun c_34 => absurd c_34 (nI_ge (by omega) (by omega))) (fun c_34 => ?_)
      refine z_aload_n dX7_restore_37 rfl ?_
      refine z_get (ci := 7) (f := 0) dX7_restore_38 ⟨by decide, by decide, zm_663, rfl⟩ mq_o rfl ?_
      refine z_iload_n dX7_restore_41 rfl ?_
      refine z_aload_n dX7_restore_42 rfl ?_
      refine z_get (ci := 7) (f := 4) dX7_restore_43 ⟨by decide, by decide, zm_667, rfl⟩ mq_o rfl ?_
      refine z_sipush (v := (nI 453)) dX7_restore_46 (by decide) ?_
      refine z_iload_n dX7_restore_49 rfl ?_
      refine z_imulN dX7_restore_50 ?_
      refine z_iload_n dX7_restore_51 rfl ?_
      refine z_iaddN dX7_restore_52 ?_
      refine z_ialdN (j := 453 * e + i) dX7_restore_53 mq_a3 rfl (by omega) (by decide) ?_
      rw [mu_ne (show (3 : Nat) ≠ 2 by decide)]
      refine z_iastN (j := i) dX7_restore_54 mq_a0 rfl (by omega) (by decide) ?_
      refine z_heap mq_u0 ?_
      refine z_heap (show _ = mq G mo (va_cpy (τ 3) s (453 * e) 0 (i + 1)) fo (mu τ 2 (recH s (τ 2) K)) (nI (recB K + 1)) ln hh from by rw [← cpy_step, Nat.zero_add]) ?_
      refine z_iincU dX7_restore_55 rfl (by decide) rfl rfl ?_
      refine z_goto (tgt := 30) dX7_restore_58 (by decide) ?_
      exact ih (i + 1) (by omega)
  refine z_heap (show _ = mq G mo (va_cpy (τ 3) s (453 * e) 0 0) fo (mu τ 2 (recH s (τ 2) K)) (nI (recB K + 1)) ln hh from by rw [cpy_0]) ?_
  exact Lp 453 0 (by omega)
set_option maxHeartbeats 4000000 in
set_option maxRecDepth 100000 in
theorem k_X7_restoreN {G : zG} {hh : zH} {sz mo : Nat} {s fo : Nat → Int32} {τ : Nat → Nat → Int32} {kp ln : Int32} {e : Nat} (he2 : e < 2) (hsv : τ 4 e = nI 0) : zC G 2 MX7_restore yX7_restore [.ref mo, .int (nI e)] (mq G mo s fo τ kp ln hh) sz 0 0 (zJ (-5) G mo s τ kp ln hh sz) := by
  refine z_intro _ rfl zy_X7_restore (Nat.le_of_ble_eq_true rfl) ?_
  refine z_iload_n dX7_restore_0 rfl ?_
  refine z_iconst (v := (nI 0)) dX7_restore_1 (by decide) ?_
  refine z_iconst (v := (nI 1)) dX7_restore_2 (by decide) ?_
  refine z_callSR (kn_in (n := 1) (by omega)) dX7_restore_3 ⟨zm_702, zm_704, zm_8, zm_703⟩  (by decide) zp_X7_in rfl (Nat.le_of_ble_eq_true rfl) (Nat.le_refl _) (Nat.le_refl _) ?_
  refine z_if_ne (tgt := 12) dX7_restore_6 (by decide) (fun c_6 => ?_) (fun c_6 => absurd c_6 (by rw [isI_nI (by omega) he2]; decide))
  refine z_aload_n dX7_restore_12 rfl ?_
  refine z_get (ci := 7) (f := 5) dX7_restore_13 ⟨by decide, by decide, zm_668, rfl⟩ mq_o rfl ?_
  refine z_iload_n dX7_restore_16 rfl ?_
  refine z_zald dX7_restore_17 mq_a4 (vp_in_nI he2 (by omega)) ?_
  rw [nI_clamp (by omega)]
  refine z_eq hsv ?_
  refine z_if_ne (tgt := 24) dX7_restore_18 (by decide) (fun c_18 => absurd rfl c_18) (fun c_18 => ?_)
  refine z_bipush (v := (-5)) dX7_restore_21 (by decide) ?_
  exact z_iretJ fo τ dX7_restore_23 rfl rfl rfl MJ.rfl rfl (Nat.le_refl _) (Nat.le_refl _)
