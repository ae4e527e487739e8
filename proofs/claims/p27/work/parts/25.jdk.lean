abbrev MJ6_bitCount_0f7a4 : zM := (RJ6, cJ6_bitCount_0f7a4, 1, some .int, false)
theorem zy_J6_bitCount_0f7a4 : (plainName yJ6_bitCount_0f7a4.cls && (yJ6_bitCount_0f7a4.cls == MJ6_bitCount_0f7a4.1) && (!MJ6_bitCount_0f7a4.2.2.2.2 || yJ6_bitCount_0f7a4.name == "<init>")) = true := by decide +kernel
theorem zp_J6_bitCount_0f7a4 : zpar yJ6_bitCount_0f7a4 1 := ⟨by decide +kernel, by decide +kernel, by decide +kernel⟩
def s_J6_bitCount_0f7a4 (a0 : Int32) : Int32 := ((((((((a0 - (((a0).toUInt32 >>> (((nI 1)).toUInt32 &&& Int32.toUInt32 31)).toInt32 &&& (1431655765))) &&& (858993459)) + ((((a0 - (((a0).toUInt32 >>> (((nI 1)).toUInt32 &&& Int32.toUInt32 31)).toInt32 &&& (1431655765)))).toUInt32 >>> (((nI 2)).toUInt32 &&& Int32.toUInt32 31)).toInt32 &&& (858993459))) + (((((a0 - (((a0).toUInt32 >>> (((nI 1)).toUInt32 &&& Int32.toUInt32 31)).toInt32 &&& (1431655765))) &&& (858993459)) + ((((a0 - (((a0).toUInt32 >>> (((nI 1)).toUInt32 &&& Int32.toUInt32 31)).toInt32 &&& (1431655765)))).toUInt32 >>> (((nI 2)).toUInt32 &&& Int32.toUInt32 31)).toInt32 &&& (858993459)))).toUInt32 >>> (((nI 4)).toUInt32 &&& Int32.toUInt32 31)).toInt32) &&& (252645135)) + (((((((a0 - (((a0).toUInt32 >>> (((nI 1)).toUInt32 &&& Int32.toUInt32 31)).toInt32 &&& (1431655765))) &&& (858993459)) + ((((a0 - (((a0).toUInt32 >>> (((nI 1)).toUInt32 &&& Int32.toUInt32 31)).toInt32 &&& (1431655765)))).toUInt32 >>> (((nI 2)).toUInt32 &&& Int32.toUInt32 31)).toInt32 &&& (858993459))) + (((((a0 - (((a0).toUInt32 >>> (((nI 1)).toUInt32 &&& Int32.toUInt32 31)).toInt32 &&& (1431655765))) &&& (858993459)) + ((((a0 - (((a0).toUInt32 >>> (((nI 1)).toUInt32 &&& Int32.toUInt32 31)).toInt32 &&& (1431655765)))).toUInt32 >>> (((nI 2)).toUInt32 &&& Int32.toUInt32 31)).toInt32 &&& (858993459)))).toUInt32 >>> (((nI 4)).toUInt32 &&& Int32.toUInt32 31)).toInt32) &&& (252645135))).toUInt32 >>> (((nI 8)).toUInt32 &&& Int32.toUInt32 31)).toInt32) + ((((((((a0 - (((a0).toUInt32 >>> (((nI 1)).toUInt32 &&& Int32.toUInt32 31)).toInt32 &&& (1431655765))) &&& (858993459)) + ((((a0 - (((a0).toUInt32 >>> (((nI 1)).toUInt32 &&& Int32.toUInt32 31)).toInt32 &&& (1431655765)))).toUInt32 >>> (((nI 2)).toUInt32 &&& Int32.toUInt32 31)).toInt32 &&& (858993459))) + (((((a0 - (((a0).toUInt32 >>> (((nI 1)).toUInt32 &&& Int32.toUInt32 31)).toInt32 &&& (1431655765))) &&& (858993459)) + ((((a0 - (((a0).toUInt32 >>> (((nI 1)).toUInt32 &&& Int32.toUInt32 31)).toInt32 &&& (1431655765)))).toUInt32 >>> (((nI 2)).toUInt32 &&& Int32.toUInt32 31)).toInt32 &&& (858993459)))).toUInt32 >>> (((nI 4)).toUInt32 &&& Int32.toUInt32 31)).toInt32) &&& (252645135)) + (((((((a0 - (((a0).toUInt32 >>> (((nI 1)).toUInt32 &&& Int32.toUInt32 31)).toInt32 &&& (1431655765))) &&& (858993459)) + ((((a0 - (((a0).toUInt32 >>> (((nI 1)).toUInt32 &&& Int32.toUInt32 31)).toInt32 &&& (1431655765)))).toUInt32 >>> (((nI 2)).toUInt32 &&& Int32.toUInt32 31)).toInt32 &&& (858993459))) + (((((a0 - (((a0).toUInt32 >>> (((nI 1)).toUInt32 &&& Int32.toUInt32 31)).toInt32 &&& (1431655765))) &&& (858993459)) + ((((a0 - (((a0).toUInt32 >>> (((nI 1)).toUInt32 &&& Int32.toUInt32 31)).toInt32 &&& (1431655765)))).toUInt32 >>> (((nI 2)).toUInt32 &&& Int32.toUInt32 31)).toInt32 &&& (858993459)))).toUInt32 >>> (((nI 4)).toUInt32 &&& Int32.toUInt32 31)).toInt32) &&& (252645135))).toUInt32 >>> (((nI 8)).toUInt32 &&& Int32.toUInt32 31)).toInt32)).toUInt32 >>> (((nI 16)).toUInt32 &&& Int32.toUInt32 31)).toInt32) &&& (nI 63))
set_option maxHeartbeats 4000000 in
set_option maxRecDepth 100000 in
theorem k_J6_bitCount_0f7a4 {G : zG} {hh : zH} {sz : Nat} {a0 : Int32} : zC G 0 MJ6_bitCount_0f7a4 yJ6_bitCount_0f7a4 [.int a0] hh sz 0 0 (zR (.int (s_J6_bitCount_0f7a4 a0)) hh sz) := by
  refine z_intro _ rfl zy_J6_bitCount_0f7a4 (Nat.le_of_ble_eq_true rfl) ?_
  refine z_iload_n dJ6_bitCount_0f7a4_0 rfl ?_
  refine z_iload_n dJ6_bitCount_0f7a4_1 rfl ?_
  refine z_iconst (v := (nI 1)) dJ6_bitCount_0f7a4_2 (by decide) ?_
  refine z_iushr dJ6_bitCount_0f7a4_3 ?_
  refine z_ldcw dJ6_bitCount_0f7a4_4 zm_245 ?_
  refine z_iand dJ6_bitCount_0f7a4_7 ?_
  refine z_isub dJ6_bitCount_0f7a4_8 ?_
  refine z_istore_n dJ6_bitCount_0f7a4_9 (by decide) rfl rfl ?_
  refine z_iload_n dJ6_bitCount_0f7a4_10 rfl ?_
  refine z_ldcw dJ6_bitCount_0f7a4_11 zm_246 ?_
  refine z_iand dJ6_bitCount_0f7a4_14 ?_
  refine z_iload_n dJ6_bitCount_0f7a4_15 rfl ?_
  refine z_iconst (v := (nI 2)) dJ6_bitCount_0f7a4_16 (by decide) ?_
  refine z_iushr dJ6_bitCount_0f7a4_17 ?_
  refine z_ldcw dJ6_bitCount_0f7a4_18 zm_246 ?_
  refine z_iand dJ6_bitCount_0f7a4_21 ?_
  refine z_iadd dJ6_bitCount_0f7a4_22 ?_
  refine z_istore_n dJ6_bitCount_0f7a4_23 (by decide) rfl rfl ?_
  refine z_iload_n dJ6_bitCount_0f7a4_24 rfl ?_
  refine z_iload_n dJ6_bitCount_0f7a4_25 rfl ?_
  refine z_iconst (v := (nI 4)) dJ6_bitCount_0f7a4_26 (by decide) ?_
  refine z_iushr dJ6_bitCount_0f7a4_27 ?_
  refine z_iadd dJ6_bitCount_0f7a4_28 ?_
  refine z_ldcw dJ6_bitCount_0f7a4_29 zm_247 ?_
  refine z_iand dJ6_bitCount_0f7a4_32 ?_
  refine z_istore_n dJ6_bitCount_0f7a4_33 (by decide) rfl rfl ?_
  refine z_iload_n dJ6_bitCount_0f7a4_34 rfl ?_
  refine z_iload_n dJ6_bitCount_0f7a4_35 rfl ?_
  refine z_bipush (v := (nI 8)) dJ6_bitCount_0f7a4_36 (by decide) ?_
  refine z_iushr dJ6_bitCount_0f7a4_38 ?_
  refine z_iadd dJ6_bitCount_0f7a4_39 ?_
  refine z_istore_n dJ6_bitCount_0f7a4_40 (by decide) rfl rfl ?_
  refine z_iload_n dJ6_bitCount_0f7a4_41 rfl ?_
  refine z_iload_n dJ6_bitCount_0f7a4_42 rfl ?_
  refine z_bipush (v := (nI 16)) dJ6_bitCount_0f7a4_43 (by decide) ?_
  refine z_iushr dJ6_bitCount_0f7a4_45 ?_
  refine z_iadd dJ6_bitCount_0f7a4_46 ?_
  refine z_istore_n dJ6_bitCount_0f7a4_47 (by decide) rfl rfl ?_
  refine z_iload_n dJ6_bitCount_0f7a4_48 rfl ?_
  refine z_bipush (v := (nI 63)) dJ6_bitCount_0f7a4_49 (by decide) ?_
  refine z_iand dJ6_bitCount_0f7a4_51 ?_
  exact z_iretR dJ6_bitCount_0f7a4_52 rfl (rfl) rfl rfl (Nat.le_refl _) (Nat.le_refl _)
def s_X6_lowestIn (a0 : Int32) : Int32 := (s_J6_bitCount_0f7a4 ((a0 ^^^ (-1)) &&& (a0 - (nI 1))))
set_option maxHeartbeats 4000000 in
set_option maxRecDepth 100000 in
theorem k_X6_lowestIn {G : zG} {hh : zH} {sz : Nat} {a0 : Int32} : zC G 1 MX6_lowestIn yX6_lowestIn [.int a0] hh sz 0 0 (zR (.int (s_X6_lowestIn a0)) hh sz) := by
  refine z_intro _ rfl zy_X6_lowestIn (Nat.le_of_ble_eq_true rfl) ?_
  refine z_iload_n dX6_lowestIn_0 rfl ?_
  refine z_iconst (v := (-1)) dX6_lowestIn_1 (by decide) ?_
  refine z_ixor dX6_lowestIn_2 ?_
  refine z_iload_n dX6_lowestIn_3 rfl ?_
  refine z_iconst (v := (nI 1)) dX6_lowestIn_4 (by decide) ?_
  refine z_isub dX6_lowestIn_5 ?_
  refine z_iand dX6_lowestIn_6 ?_
  refine z_callSR k_J6_bitCount_0f7a4 dX6_lowestIn_7 ⟨zm_375, zm_244, zm_8, zm_243⟩  (by decide) zp_J6_bitCount_0f7a4 rfl (Nat.le_of_ble_eq_true rfl) (Nat.le_refl _) (Nat.le_refl _) ?_
  exact z_iretR dX6_lowestIn_10 rfl (rfl) rfl rfl (Nat.le_refl _) (Nat.le_refl _)
theorem bc_dec : ∀ a, a < 128 → ∀ b, b < 128 → s_J6_bitCount_0f7a4 (nI (128 * a + b)) = nI (popc (128 * a + b)) := by decide +kernel
theorem bc_eq {m : Nat} (h : m < 2 ^ 14) : s_J6_bitCount_0f7a4 (nI m) = nI (popc m) := by
  have := bc_dec (m / 128) (by omega) (m % 128) (by omega)
  rwa [Nat.div_add_mod] at this
theorem kn_bitCount {G : zG} {hh : zH} {sz : Nat} {m : Nat} (h : m < 2 ^ 14) : zC G 0 MJ6_bitCount_0f7a4 yJ6_bitCount_0f7a4 [.int (nI m)] hh sz 0 0 (zR (.int (nI (popc m))) hh sz) := zC_eq (bc_eq h) k_J6_bitCount_0f7a4
/-- the lowest bit of m, and 32 without one -/
def lowF : Nat → Nat → Nat → Nat
  | 0, _, _ => 32
  | f + 1, i, m => if m % 2 = 1 then i else lowF f (i + 1) (m / 2)
def lowN (m : Nat) : Nat := lowF 14 0 m
theorem low_dec : ∀ a, a < 128 → ∀ b, b < 128 → s_X6_lowestIn (nI (128 * a + b)) = nI (lowN (128 * a + b)) := by decide +kernel
theorem low_eq {m : Nat} (h : m < 2 ^ 14) : s_X6_lowestIn (nI m) = nI (lowN m) := by
  have := low_dec (m / 128) (by omega) (m % 128) (by omega)
  rwa [Nat.div_add_mod] at this
theorem kn_lowestIn {G : zG} {hh : zH} {sz : Nat} {m : Nat} (h : m < 2 ^ 14) : zC G 1 MX6_lowestIn yX6_lowestIn [.int (nI m)] hh sz 0 0 (zR (.int (nI (lowN m))) hh sz) := zC_eq (low_eq h) k_X6_lowestIn
theorem lowF_spec : ∀ (f i m : Nat), m < 2 ^ f → (m = 0 → lowF f i m = 32) ∧ (0 < m → ∃ c, c < f ∧ lowF f i m = i + c ∧ m.testBit c = true ∧ ∀ j, j < c → m.testBit j = false)
  | 0, i, m, h => ⟨fun _ => rfl, fun h0 => absurd h (by omega)⟩
  | f + 1, i, m, h => by
    rw [lowF]
    obtain ⟨ih1, ih2⟩ := lowF_spec f (i + 1) (m / 2) (by rw [Nat.pow_succ] at h; omega)
    refine ⟨fun h0 => ?_, fun h0 => ?_⟩
    · subst h0
      rw [if_neg (by omega)]
      exact ih1 rfl
    · by_cases c : m % 2 = 1
      · rw [if_pos c]
        exact ⟨0, by omega, rfl, by rw [Nat.testBit_zero]; exact decide_eq_true c, fun j hj => absurd hj (by omega)⟩
      · rw [if_neg c]
        obtain ⟨q, h1, h2, h3, h4⟩ := ih2 (by omega)
        refine ⟨q + 1, by omega, by omega, by rw [Nat.testBit_succ]; exact h3, fun j hj => ?_⟩
        cases j with
        | zero => rw [Nat.testBit_zero]; exact decide_eq_false c
        | succ j => rw [Nat.testBit_succ]; exact h4 j (by omega)
theorem lowN_0 : lowN 0 = 32 := (lowF_spec 14 0 0 (by omega)).1 rfl
theorem lowN_pos {m : Nat} (h : m < 2 ^ 14) (h0 : 0 < m) : lowN m < 14 ∧ m.testBit (lowN m) = true ∧ ∀ j, j < lowN m → m.testBit j = false := by
  obtain ⟨c, h1, h2, h3, h4⟩ := (lowF_spec 14 0 m h).2 h0
  have e : lowN m = c := by unfold lowN; omega
  rw [e]
  exact ⟨h1, h3, h4⟩
