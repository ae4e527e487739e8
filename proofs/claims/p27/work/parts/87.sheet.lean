/-- the bits of m's first n columns -/
def bc (m : Nat) : Nat → Nat
  | 0 => 0
  | n + 1 => bc m n + (m / 2 ^ n &&& 1)
theorem bc_low (m : Nat) : ∀ n, bc m (n + 1) = m % 2 + bc (m / 2) n
  | 0 => by rw [bc, bc, bc, Nat.pow_zero, Nat.div_one, Nat.and_one_is_mod]; omega
  | n + 1 => by
    rw [bc, bc_low m n, bc, Nat.pow_succ, Nat.mul_comm (2 ^ n) 2, ← Nat.div_div_eq_div_mul]
    omega
theorem bc_pop : ∀ (f n m : Nat), m < 2 ^ n → n ≤ f → popF f m = bc m n
  | 0, n, m, h, hn => by
    rw [show n = 0 by omega]
    rfl
  | f + 1, 0, m, h, hn => by
    rw [show m = 0 by omega, popF_0]
    rfl
  | f + 1, n + 1, m, h, hn => by
    rw [popF, bc_low, bc_pop f n (m / 2) (by rw [Nat.pow_succ] at h; omega) (by omega)]
theorem bc_14 {m : Nat} (h : m < 2 ^ 14) : bc m 14 = popc m := (bc_pop 32 14 m h (by omega)).symm
theorem sub_nn (x : Int32) (a b : Nat) : x - nI a - nI b = x - nI (a + b) := by
  rw [← nI_add, Int32.sub_eq_add_neg, Int32.sub_eq_add_neg, Int32.sub_eq_add_neg, Int32.neg_add, Int32.add_assoc, Int32.sub_eq_add_neg]
theorem sub_n0 (x : Int32) : x - nI 0 = x := Int32.sub_zero x
set_option maxHeartbeats 4000000 in
set_option maxRecDepth 100000 in
theorem l53_L_isSheet {G : zG} {hh : zH} {B sz L : Nat} {s f : Nat → Int32} {H : List (Nat → Int32)} (hW : WH G B s f L H hh sz) {k r : Nat} (hk : k < nSh s) (hr : r < 9) {Post : Option Value → zH → Nat → Nat → Nat → Prop} (stop : ∀ c, zS ML_isSheet G 6 0 0 0 0 (cH G hh sz (fun i => nI (ac s (nP s) i))) (sz + 1) 81 [some (.ref (B)), some (.int (nI k)), some (.ref (sz)), some (.int (uncA s k (r + 1))), some (.int (0)), some (.int (1)), some (.int (nI r)), some (.int (nI c))] [] Post) : ∀ (n c : Nat), c + n = 14 → zS ML_isSheet G 6 0 0 0 0 (cH G hh sz (fun i => nI (ac s (nP s) i))) (sz + 1) 53 [some (.ref (B)), some (.int (nI k)), some (.ref (sz)), some (.int (uncA s k r - nI (bc (rN s k r) c))), some (.int (0)), some (.int (1)), some (.int (nI r)), some (.int (nI c))] [] Post := by
  have h14 := rN_14 hW.I hk hr
  intro n
  induction n with
  | zero =>
    intro c hc
    refine z_iload dL_isSheet_53 rfl ?_
    refine z_bipush (v := (nI 14)) dL_isSheet_55 (by decide) ?_
    refine z_icmp_ge (tgt := 81) dL_isSheet_57 (by decide) (fun c_57 => ?_) (fun c_57 => absurd c_57 (not_not_intro (nI_le (by omega) (by omega))))
    have e : uncA s k r - nI (bc (rN s k r) c) = uncA s k (r + 1) := by rw [show c = 14 by omega, bc_14 h14, uncA]
    rw [e]
    exact stop c
  | succ n ih =>
    intro c hc
    have hdv : rN s k r / 2 ^ c ≤ rN s k r := Nat.div_le_self _ _
    refine z_iload dL_isSheet_53 rfl ?_
    refine z_bipush (v := (nI 14)) dL_isSheet_55 (by decide) ?_
    refine z_icmp_ge (tgt := 81) dL_isSheet_57 (by decide) (fun c_57 => absurd c_57 (nI_ge (by omega) (by omega))) (fun c_57 => ?_)
    refine z_iload_n dL_isSheet_60 rfl ?_
    refine z_aload_n dL_isSheet_61 rfl ?_
    refine z_iload_n dL_isSheet_62 rfl ?_
    refine z_iload dL_isSheet_63 rfl ?_
    refine z_callVR (ci := 6) (zC_eq (v_row hW.I hk hr) (h_row hW.new)) dL_isSheet_65 ⟨zm_604, zm_607, zm_1, zm_605, zm_606, by decide⟩ hW.new.o (by decide) zp_X6_row rfl (Nat.le_of_ble_eq_true rfl) (Nat.le_refl _) (Nat.le_refl _) ?_
    refine z_iload dL_isSheet_68 rfl ?_
    refine z_ishrN dL_isSheet_70 (by omega) (by omega) ?_
    refine z_iconst (v := (nI 1)) dL_isSheet_71 (by decide) ?_
    refine z_iandN dL_isSheet_72 ?_
    refine z_isub dL_isSheet_73 ?_
    refine z_eq (b := uncA s k r - nI (bc (rN s k r) (c + 1))) (sub_nn _ _ _) ?_
    refine z_istore_n dL_isSheet_74 (by decide) rfl rfl ?_
    refine z_iincU dL_isSheet_75 rfl (by decide) rfl rfl ?_
    refine z_goto (tgt := 53) dL_isSheet_78 (by decide) ?_
    exact ih (c + 1) (by omega)
set_option maxHeartbeats 4000000 in
set_option maxRecDepth 100000 in
theorem l90_L_isSheet {G : zG} {hh : zH} {B sz L : Nat} {s f : Nat → Int32} {H : List (Nat → Int32)} (hW : WH G B s f L H hh sz) {k : Nat} (hk : k < nSh s) : ∀ (n i : Nat) (p7 : Option Value), i + n = 8 → zS ML_isSheet G 6 0 0 0 0 (cH G hh sz (fun i => nI (ac s (nP s) i))) (sz + 1) 90 [some (.ref (B)), some (.int (nI k)), some (.ref (sz)), some (.int (uncA s k 9)), some (.int (lfA s k i)), some (.int (1)), some (.int (nI i)), p7] [] (fun rr hh' ss' kk' nn' => (zR (.int 1) (cH G hh sz (fun i => nI (ac s (nP s) i))) (sz + 1)) rr hh' ss' ∧ kk' ≤ 0 ∧ nn' ≤ 0) := by
  have hvs := hW.I
  intro n
  induction n with
  | zero =>
    intro i p7 hi
    refine z_iload dL_isSheet_90 rfl ?_
    refine z_bipush (v := (nI 8)) dL_isSheet_92 (by decide) ?_
    refine z_icmp_ge (tgt := 126) dL_isSheet_94 (by decide) (fun c_94 => ?_) (fun c_94 => absurd c_94 (not_not_intro (nI_le (by omega) (by omega))))
    rw [show i = 8 by omega]
    refine z_iload dL_isSheet_126 rfl ?_
    refine z_if_eq (tgt := 170) dL_isSheet_128 (by decide) (fun c_128 => absurd c_128 (by decide)) (fun c_128 => ?_)
    refine z_iload_n dL_isSheet_131 rfl ?_
    refine z_aload_n dL_isSheet_132 rfl ?_
    refine z_iload_n dL_isSheet_133 rfl ?_
    refine z_iconst (v := (nI 1)) dL_isSheet_134 (by decide) ?_
    refine z_callVR (ci := 6) (zC_eq (v_s1 hvs hk) (h_ofSheet hW.new)) dL_isSheet_135 ⟨zm_578, zm_581, zm_1, zm_579, zm_580, by decide⟩ hW.new.o (by decide) zp_X6_ofSheet rfl (Nat.le_of_ble_eq_true rfl) (Nat.le_refl _) (Nat.le_refl _) ?_
    refine z_icmp_ne (tgt := 170) dL_isSheet_138 (by decide) (fun c_138 => absurd c_138 (not_not_intro rfl)) (fun c_138 => ?_)
    refine z_iload dL_isSheet_141 rfl ?_
    refine z_aload_n dL_isSheet_143 rfl ?_
    refine z_iload_n dL_isSheet_144 rfl ?_
    refine z_iconst (v := (nI 4)) dL_isSheet_145 (by decide) ?_
    refine z_callVR (ci := 6) (zC_eq (v_s4 hvs hk) (h_ofSheet hW.new)) dL_isSheet_146 ⟨zm_578, zm_581, zm_1, zm_579, zm_580, by decide⟩ hW.new.o (by decide) zp_X6_ofSheet rfl (Nat.le_of_ble_eq_true rfl) (Nat.le_refl _) (Nat.le_refl _) ?_
    refine z_icmp_ne (tgt := 170) dL_isSheet_149 (by decide) (fun c_149 => absurd c_149 (not_not_intro rfl)) (fun c_149 => ?_)
    refine z_aload_n dL_isSheet_152 rfl ?_
    refine z_iload_n dL_isSheet_153 rfl ?_
    refine z_iconst (v := (nI 3)) dL_isSheet_154 (by decide) ?_
    refine z_callVR (ci := 6) (zC_eq (v_s3 hvs hk) (h_ofSheet hW.new)) dL_isSheet_155 ⟨zm_578, zm_581, zm_1, zm_579, zm_580, by decide⟩ hW.new.o (by decide) zp_X6_ofSheet rfl (Nat.le_of_ble_eq_true rfl) (Nat.le_refl _) (Nat.le_refl _) ?_
    refine z_if_eq (tgt := 166) dL_isSheet_158 (by decide) (fun c_158 => ?_) (fun c_158 => ?_)
    · refine z_iconst (v := (nI 1)) dL_isSheet_166 (by decide) ?_
      refine z_goto (tgt := 171) dL_isSheet_167 (by decide) ?_
      exact z_zretR dL_isSheet_171 rfl (by decide) rfl rfl rfl (Nat.le_refl _) (Nat.le_refl _)
    · refine z_iload dL_isSheet_161 rfl ?_
      refine z_if_ne (tgt := 170) dL_isSheet_163 (by decide) (fun c_163 => absurd c_163 (not_not_intro (lf_scr c_158 8))) (fun c_163 => ?_)
      refine z_iconst (v := (nI 1)) dL_isSheet_166 (by decide) ?_
      refine z_goto (tgt := 171) dL_isSheet_167 (by decide) ?_
      exact z_zretR dL_isSheet_171 rfl (by decide) rfl rfl rfl (Nat.le_refl _) (Nat.le_refl _)
  | succ n ih =>
    intro i p7 hi
    have hb := (fi_N (s := s) (k := k) (l := i) 1008).2
    refine z_iload dL_isSheet_90 rfl ?_
    refine z_bipush (v := (nI 8)) dL_isSheet_92 (by decide) ?_
    refine z_icmp_ge (tgt := 126) dL_isSheet_94 (by decide) (fun c_94 => absurd c_94 (nI_ge (by omega) (by omega))) (fun c_94 => ?_)
    refine z_iload dL_isSheet_97 rfl ?_
    refine z_aload_n dL_isSheet_99 rfl ?_
    refine z_iload_n dL_isSheet_100 rfl ?_
    refine z_iload dL_isSheet_101 rfl ?_
    refine z_callVR (ci := 6) (zC_eq (v_fits hvs hk (l := i) (by omega)) (h_fits hW.new)) dL_isSheet_103 ⟨zm_614, zm_617, zm_1, zm_615, zm_616, by decide⟩ hW.new.o (by decide) zp_X6_fits rfl (Nat.le_of_ble_eq_true rfl) (Nat.le_refl _) (Nat.le_refl _) ?_
    refine z_if_le (tgt := 116) dL_isSheet_106 (by decide) (fun c_106 => ?_) (fun c_106 => ?_)
    · refine z_iconst (v := (nI 0)) dL_isSheet_116 (by decide) ?_
      refine z_eq (b := (if ff s k i 0 < 504 ∨ ff s k i 1 < 504 then nI 1 <<< (nI i &&& 31) else nI 0)) (by rw [if_neg (fun z => by have := fi_ff.mpr z; exact (nI_ge (show 0 < fiN s k i 1008 from this) (by omega)) c_106)]) ?_
      refine z_ior dL_isSheet_117 ?_
      refine z_istore dL_isSheet_118 (by decide) rfl rfl ?_
      refine z_iincU dL_isSheet_120 rfl (by decide) rfl rfl ?_
      refine z_goto (tgt := 90) dL_isSheet_123 (by decide) ?_
      exact ih (i + 1) _ (by omega)
    · refine z_iconst (v := (nI 1)) dL_isSheet_109 (by decide) ?_
      refine z_iload dL_isSheet_110 rfl ?_
      refine z_ishl dL_isSheet_112 ?_
      refine z_goto (tgt := 117) dL_isSheet_113 (by decide) ?_
      refine z_eq (b := (if ff s k i 0 < 504 ∨ ff s k i 1 < 504 then nI 1 <<< (nI i &&& 31) else nI 0)) (by rw [if_pos (fi_ff.mp (Nat.pos_of_ne_zero (fun z => c_106 (by rw [z]; exact Int32.le_refl _))))]) ?_
      refine z_ior dL_isSheet_117 ?_
      refine z_istore dL_isSheet_118 (by decide) rfl rfl ?_
      refine z_iincU dL_isSheet_120 rfl (by decide) rfl rfl ?_
      refine z_goto (tgt := 90) dL_isSheet_123 (by decide) ?_
      exact ih (i + 1) _ (by omega)
set_option maxHeartbeats 4000000 in
set_option maxRecDepth 100000 in
theorem l12_L_isSheet {G : zG} {hh : zH} {B sz L : Nat} {s f : Nat → Int32} {H : List (Nat → Int32)} (hW : WH G B s f L H hh sz) {k : Nat} (hk : k < nSh s) : ∀ (n r : Nat) (p7 : Option Value), r + n = 9 → zS ML_isSheet G 6 0 0 0 0 (cH G hh sz (fun i => nI (ac s (nP s) i))) (sz + 1) 12 [some (.ref (B)), some (.int (nI k)), some (.ref (sz)), some (.int (uncA s k r)), some (.int (0)), some (.int (1)), some (.int (nI r)), p7] [] (fun rr hh' ss' kk' nn' => (zR (.int 1) (cH G hh sz (fun i => nI (ac s (nP s) i))) (sz + 1)) rr hh' ss' ∧ kk' ≤ 0 ∧ nn' ≤ 0) := by
  have hvs := hW.I
  have h6 := hvs.1.1.1.2
  intro n
  induction n with
  | zero =>
    intro r p7 hr
    refine z_iload dL_isSheet_12 rfl ?_
    refine z_bipush (v := (nI 9)) dL_isSheet_14 (by decide) ?_
    refine z_icmp_ge (tgt := 87) dL_isSheet_16 (by decide) (fun c_16 => ?_) (fun c_16 => absurd c_16 (not_not_intro (nI_le (by omega) (by omega))))
    refine z_iconst (v := (nI 0)) dL_isSheet_87 (by decide) ?_
    refine z_istore dL_isSheet_88 (by decide) rfl rfl ?_
    rw [show r = 9 by omega]
    exact l90_L_isSheet hW hk 8 0 _ (Nat.zero_add _)
  | succ n ih =>
    intro r p7 hr
    refine z_iload dL_isSheet_12 rfl ?_
    refine z_bipush (v := (nI 9)) dL_isSheet_14 (by decide) ?_
    refine z_icmp_ge (tgt := 87) dL_isSheet_16 (by decide) (fun c_16 => absurd c_16 (nI_ge (by omega) (by omega))) (fun c_16 => ?_)
    refine z_iload dL_isSheet_19 rfl ?_
    refine z_if_eq (tgt := 87) dL_isSheet_21 (by decide) (fun c_21 => absurd c_21 (by decide)) (fun c_21 => ?_)
    refine z_aload_n dL_isSheet_24 rfl ?_
    refine z_iload_n dL_isSheet_25 rfl ?_
    refine z_iload dL_isSheet_26 rfl ?_
    refine z_callVR (ci := 6) (zC_eq (v_row hvs hk (r := r) (by omega)) (h_row hW.new)) dL_isSheet_28 ⟨zm_604, zm_607, zm_1, zm_605, zm_606, by decide⟩ hW.new.o (by decide) zp_X6_row rfl (Nat.le_of_ble_eq_true rfl) (Nat.le_refl _) (Nat.le_refl _) ?_
    refine z_aload_n dL_isSheet_31 rfl ?_
    refine z_bipush (v := (nI 9)) dL_isSheet_32 (by decide) ?_
    refine z_iload_n dL_isSheet_34 rfl ?_
    refine z_imulN dL_isSheet_35 ?_
    refine z_iload dL_isSheet_36 rfl ?_
    refine z_iaddN dL_isSheet_38 ?_
    refine z_ialdN (j := 9 * k + r) dL_isSheet_39 (zup_eq _ _ _) rfl (by omega) (by decide) ?_
    refine z_icmp_ne (tgt := 47) dL_isSheet_40 (by decide) (fun c_40 => absurd c_40 (not_not_intro (by rw [hvs.2.2.1 k r hk (by omega)]))) (fun c_40 => ?_)
    refine z_iconst (v := (nI 1)) dL_isSheet_43 (by decide) ?_
    refine z_goto (tgt := 48) dL_isSheet_44 (by decide) ?_
    refine z_istore dL_isSheet_48 (by decide) rfl rfl ?_
    refine z_iconst (v := (nI 0)) dL_isSheet_50 (by decide) ?_
    refine z_istore dL_isSheet_51 (by decide) rfl rfl ?_
    have e0 : uncA s k r = uncA s k r - nI (bc (rN s k r) 0) := (sub_n0 _).symm
    rw [e0]
    refine l53_L_isSheet hW hk (by omega) (fun c => ?_) 14 0 (Nat.zero_add _)
    refine z_iincU dL_isSheet_81 rfl (by decide) rfl rfl ?_
    refine z_goto (tgt := 12) dL_isSheet_84 (by decide) ?_
    exact ih (r + 1) _ (by omega)
set_option maxHeartbeats 4000000 in
set_option maxRecDepth 100000 in
theorem k_L_isSheet {G : zG} {hh : zH} {B sz L : Nat} {s f : Nat → Int32} {H : List (Nat → Int32)} (hW : WH G B s f L H hh sz) {k : Nat} (hk : k < nSh s) : zC G 6 ML_isSheet yL_isSheet [.ref B, .int (nI k), .ref sz] (cH G hh sz (fun i => nI (ac s (nP s) i))) (sz + 1) 0 0 (zR (.int 1) (cH G hh sz (fun i => nI (ac s (nP s) i))) (sz + 1)) := by
  refine z_intro _ rfl zy_L_isSheet (Nat.le_of_ble_eq_true rfl) ?_
  refine z_bipush (v := (nI 126)) dL_isSheet_0 (by decide) ?_
  refine z_istore_n dL_isSheet_2 (by decide) rfl rfl ?_
  refine z_iconst (v := (nI 0)) dL_isSheet_3 (by decide) ?_
  refine z_istore dL_isSheet_4 (by decide) rfl rfl ?_
  refine z_iconst (v := (nI 1)) dL_isSheet_6 (by decide) ?_
  refine z_istore dL_isSheet_7 (by decide) rfl rfl ?_
  refine z_iconst (v := (nI 0)) dL_isSheet_9 (by decide) ?_
  refine z_istore dL_isSheet_10 (by decide) rfl rfl ?_
  exact l12_L_isSheet hW hk 9 0 _ (Nat.zero_add _)
