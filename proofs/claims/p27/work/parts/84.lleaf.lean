section ZLS
variable {M : zM} {G : zG} {d mc ms k n : Nat} {hh : zH} {sz : Nat} {pc : Nat} {lv : List (Option Value)} {st : List Value} {Post : Option Value → zH → Nat → Nat → Nat → Prop}
theorem z_lshr {x : Int64} {y : Int32} (hd : decode M.2.1 pc = .ok (.lshr, 1)) (kk : zS M G d mc ms k n hh sz (pc + 1) lv (.long (x >>> (y.toInt64 &&& 63)) :: st) Post) : zS M G d mc ms k n hh sz pc lv (.int y :: .long x :: st) Post := by
  intro p l e R s m args below meth c Q hX hf hl hc hs hE H locs ls hW hS hL
  obtain ⟨hx, hb, hml, hown, hts, hr, hlk, hin, hK⟩ := id hX
  exact lv_lshr hx hb hd rfl (kk p l e R s m args below meth c Q hX hf hl hc hs hE H locs ls hW hS hL)
theorem z_long {a b : Int64} (e : a = b) (kk : zS M G d mc ms k n hh sz pc lv (.long b :: st) Post) : zS M G d mc ms k n hh sz pc lv (.long a :: st) Post := e ▸ kk
theorem z_idivN {a b : Nat} (hd : decode M.2.1 pc = .ok (.idiv, 1)) (ha : a < 2 ^ 31) (h0 : 0 < b) (hb : b < 2 ^ 31) (kk : zS M G d mc ms k n hh sz (pc + 1) lv (.int (nI (a / b)) :: st) Post) : zS M G d mc ms k n hh sz pc lv (.int (nI b) :: .int (nI a) :: st) Post := z_idiv hd (nI_ne0 h0 hb) (by rw [pk_div ha h0 hb]; exact kk)
end ZLS
/-- a number below n out of v -/
def lwN (v : Int32) (n : Nat) : Nat := v.toBitVec.toNat % 2 ^ 31 % n
theorem lwN_lt {v : Int32} {n : Nat} (h : 0 < n) : lwN v n < n := Nat.mod_lt _ h
theorem and_31 (x : Int32) : x &&& 2147483647 = nI (x.toBitVec.toNat % 2 ^ 31) := by
  apply Int32.toBitVec_inj.mp
  apply BitVec.eq_of_toNat_eq
  show (x.toBitVec &&& 2147483647#32).toNat = (BitVec.ofNat 32 (x.toBitVec.toNat % 2 ^ 31)).toNat
  rw [BitVec.toNat_and, BitVec.toNat_ofNat, BitVec.toNat_ofNat, show (2147483647 % 2 ^ 32 : Nat) = 2 ^ 31 - 1 from rfl, Nat.and_two_pow_sub_one_eq_mod]
  exact (Nat.mod_eq_of_lt (Nat.lt_of_lt_of_le (Nat.mod_lt _ (by omega)) (by omega))).symm
set_option maxHeartbeats 4000000 in
set_option maxRecDepth 100000 in
theorem k_L_low {G : zG} {hh : zH} {sz : Nat} {v : Int32} {n : Nat} (h0 : 0 < n) (hn : n < 2 ^ 31) : zC G 0 ML_low yL_low [.int v, .int (nI n)] hh sz 0 0 (zR (.int (nI (lwN v n))) hh sz) := by
  refine z_intro _ rfl zy_L_low (Nat.le_of_ble_eq_true rfl) ?_
  refine z_iload_n dL_low_0 rfl ?_
  refine z_ldc dL_low_1 zm_291 ?_
  refine z_iand dL_low_3 ?_
  refine z_eq (and_31 v) ?_
  refine z_iload_n dL_low_4 rfl ?_
  refine z_iremN dL_low_5 (Nat.mod_lt _ (by omega)) (by omega) (by omega) ?_
  exact z_iretR dL_low_6 rfl rfl rfl rfl (Nat.le_refl _) (Nat.le_refl _)
def s_L_squares (a0 : Int32) : Int32 := (if a0 = 0 then (nI 5) else (if a0 = (nI 1) then (nI 7) else (if a0 = (nI 3) then (nI 7) else (if a0 = (nI 2) then (nI 12) else (nI 11)))))
set_option maxHeartbeats 4000000 in
set_option maxRecDepth 100000 in
theorem k_L_squares {G : zG} {hh : zH} {sz : Nat} {a0 : Int32} : zC G 0 ML_squares yL_squares [.int a0] hh sz 0 0 (zR (.int (s_L_squares a0)) hh sz) := by
  refine z_intro _ rfl zy_L_squares (Nat.le_of_ble_eq_true rfl) ?_
  refine z_iload_n dL_squares_0 rfl ?_
  refine z_if_ne (tgt := 8) dL_squares_1 (by decide) (fun c_1 => ?_) (fun c_1 => ?_)
  · refine z_iload_n dL_squares_8 rfl ?_
    refine z_iconst (v := (nI 1)) dL_squares_9 (by decide) ?_
    refine z_icmp_eq (tgt := 18) dL_squares_10 (by decide) (fun c_10 => ?_) (fun c_10 => ?_)
    · refine z_bipush (v := (nI 7)) dL_squares_18 (by decide) ?_
      refine z_goto (tgt := 35) dL_squares_20 (by decide) ?_
      exact z_iretR dL_squares_35 rfl (by unfold s_L_squares; rw [if_neg c_1, if_pos c_10]) rfl rfl (Nat.le_refl _) (Nat.le_refl _)
    · refine z_iload_n dL_squares_13 rfl ?_
      refine z_iconst (v := (nI 3)) dL_squares_14 (by decide) ?_
      refine z_icmp_ne (tgt := 23) dL_squares_15 (by decide) (fun c_15 => ?_) (fun c_15 => ?_)
      · refine z_iload_n dL_squares_23 rfl ?_
        refine z_iconst (v := (nI 2)) dL_squares_24 (by decide) ?_
        refine z_icmp_ne (tgt := 33) dL_squares_25 (by decide) (fun c_25 => ?_) (fun c_25 => ?_)
        · refine z_bipush (v := (nI 11)) dL_squares_33 (by decide) ?_
          exact z_iretR dL_squares_35 rfl (by unfold s_L_squares; rw [if_neg c_1, if_neg c_10, if_neg c_15, if_neg c_25]) rfl rfl (Nat.le_refl _) (Nat.le_refl _)
        · refine z_bipush (v := (nI 12)) dL_squares_28 (by decide) ?_
          refine z_goto (tgt := 35) dL_squares_30 (by decide) ?_
          exact z_iretR dL_squares_35 rfl (by unfold s_L_squares; rw [if_neg c_1, if_neg c_10, if_neg c_15, if_pos c_25]) rfl rfl (Nat.le_refl _) (Nat.le_refl _)
      · refine z_bipush (v := (nI 7)) dL_squares_18 (by decide) ?_
        refine z_goto (tgt := 35) dL_squares_20 (by decide) ?_
        exact z_iretR dL_squares_35 rfl (by unfold s_L_squares; rw [if_neg c_1, if_neg c_10, if_pos c_15]) rfl rfl (Nat.le_refl _) (Nat.le_refl _)
  · refine z_iconst (v := (nI 5)) dL_squares_4 (by decide) ?_
    refine z_goto (tgt := 35) dL_squares_5 (by decide) ?_
    exact z_iretR dL_squares_35 rfl (by unfold s_L_squares; rw [if_pos c_1]) rfl rfl (Nat.le_refl _) (Nat.le_refl _)
theorem sq_L : ∀ l, l < 8 → s_L_squares (nI l) = nI (sqA l 5) := by decide +kernel
def sgN (l : Nat) : Nat := ([105, 108, 111, 116, 117, 101, 104, 115] : List Nat).getD l 0
theorem sg_v : ∀ l, l < 8 → (((7596569217443653747 : Int64) >>> ((nI 56 - nI 8 * nI l).toInt64 &&& 63)) &&& 255).toInt32 = nI (sgN l) := by decide +kernel
theorem sg_l : ∀ l, l < 8 → ltrI (nI (sgN l)) = nI l := by decide +kernel
theorem sg_lt : ∀ l, l < 8 → 33 ≤ sgN l ∧ sgN l < 127 := by decide +kernel
theorem sg_long : ∀ l, l < 8 → (nI (sgN l)).toInt64 = lN (sgN l) := by decide +kernel
set_option maxHeartbeats 4000000 in
set_option maxRecDepth 100000 in
theorem k_L_sign {G : zG} {hh : zH} {sz : Nat} {l : Nat} (hl : l < 8) : zC G 0 ML_sign yL_sign [.int (nI l)] hh sz 0 0 (zR (.int (nI (sgN l))) hh sz) := by
  refine z_intro _ rfl zy_L_sign (Nat.le_of_ble_eq_true rfl) ?_
  refine z_ldc2 dL_sign_0 zm_388 ?_
  refine z_bipush (v := (nI 56)) dL_sign_3 (by decide) ?_
  refine z_bipush (v := (nI 8)) dL_sign_5 (by decide) ?_
  refine z_iload_n dL_sign_7 rfl ?_
  refine z_imul dL_sign_8 ?_
  refine z_isub dL_sign_9 ?_
  refine z_lshr dL_sign_10 ?_
  refine z_ldc2 dL_sign_11 zm_389 ?_
  refine z_land dL_sign_14 ?_
  refine z_l2i dL_sign_15 ?_
  exact z_iretR dL_sign_16 rfl (sg_v l hl) rfl rfl (Nat.le_refl _) (Nat.le_refl _)
