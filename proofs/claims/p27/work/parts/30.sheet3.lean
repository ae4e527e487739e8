theorem kn6_rowIn {G : zG} {hh : zH} {sz : Nat} {n : Nat} (h : n < 2 ^ 31) : zC G 0 MX6_rowIn yX6_rowIn [.int (nI n)] hh sz 0 0 (zR (.int (nI (n / 8 / 14))) hh sz) := zC_eq (by unfold s_X6_rowIn; rw [pk_div h (by omega) (by omega), pk_div (by omega) (by omega) (by omega)]) k_X6_rowIn
theorem kn6_columnIn {G : zG} {hh : zH} {sz : Nat} {n : Nat} (h : n < 2 ^ 31) : zC G 0 MX6_columnIn yX6_columnIn [.int (nI n)] hh sz 0 0 (zR (.int (nI (n / 8 % 14))) hh sz) := zC_eq (by unfold s_X6_columnIn; rw [pk_div h (by omega) (by omega), pk_rem (by omega) (by omega) (by omega)]) k_X6_columnIn
theorem kn6_wayIn {G : zG} {hh : zH} {sz : Nat} {n : Nat} (h : n < 2 ^ 31) : zC G 0 MX6_wayIn yX6_wayIn [.int (nI n)] hh sz 0 0 (zR (.int (nI (n % 8))) hh sz) := zC_eq (by unfold s_X6_wayIn; rw [pk_rem h (by omega) (by omega)]) k_X6_wayIn
/-- sums -/
def sm (f : Nat → Nat) : Nat → Nat
  | 0 => 0
  | n + 1 => sm f n + f n
theorem sm_cg {f g : Nat → Nat} : ∀ n, (∀ i, i < n → f i = g i) → sm f n = sm g n
  | 0, _ => rfl
  | n + 1, h => by rw [sm, sm, sm_cg n (fun i hi => h i (by omega)), h n (by omega)]
theorem sm_add (f g : Nat → Nat) : ∀ n, sm (fun i => f i + g i) n = sm f n + sm g n
  | 0 => rfl
  | n + 1 => by rw [sm, sm, sm, sm_add f g n]; omega
theorem sm_0 : ∀ n, sm (fun _ => 0) n = 0
  | 0 => rfl
  | n + 1 => by rw [sm, sm_0 n]
theorem sm_app (f : Nat → Nat) (n : Nat) : ∀ m, sm f (n + m) = sm f n + sm (fun i => f (n + i)) m
  | 0 => rfl
  | m + 1 => by rw [← Nat.add_assoc, sm, sm_app f n m, sm]; omega
theorem sm_swap (f : Nat → Nat → Nat) (m : Nat) : ∀ n, sm (fun a => sm (f a) m) n = sm (fun b => sm (fun a => f a b) n) m
  | 0 => (sm_0 m).symm
  | n + 1 => by
    rw [sm, sm_swap f m n, ← sm_add]
    exact sm_cg m (fun i _ => rfl)
theorem sm_mul (f : Nat → Nat) (m : Nat) : ∀ n, sm f (n * m) = sm (fun a => sm (fun b => f (a * m + b)) m) n
  | 0 => by rw [Nat.zero_mul]; rfl
  | n + 1 => by rw [Nat.succ_mul, sm_app, sm_mul f m n, sm]
theorem sm_front (f : Nat → Nat) (n : Nat) : sm f (n + 1) = f 0 + sm (fun i => f (i + 1)) n := by
  rw [Nat.add_comm n 1, sm_app]
  show 0 + f 0 + _ = _
  rw [Nat.zero_add]
  congr 1
  exact sm_cg n (fun i _ => by rw [Nat.add_comm 1 i])
theorem popF_sm : ∀ (f m : Nat), popF f m = sm (fun c => if m.testBit c = true then 1 else 0) f
  | 0, _ => rfl
  | f + 1, m => by
    rw [popF, sm_front, popF_sm f (m / 2)]
    congr 1
    · rw [Nat.testBit_zero]
      rcases Nat.mod_two_eq_zero_or_one m with e | e <;> rw [e] <;> rfl
    · exact sm_cg f (fun i _ => by rw [Nat.testBit_succ])
theorem popc_sm {m : Nat} (h : m < 2 ^ 14) : popc m = sm (fun c => if m.testBit c = true then 1 else 0) 14 := by
  unfold popc
  rw [popF_sm, show 32 = 14 + 18 from rfl, sm_app]
  have e : sm (fun i => if m.testBit (14 + i) = true then 1 else 0) 18 = 0 := by
    rw [sm_cg (g := fun _ => 0) 18 (fun i _ => by rw [Nat.testBit_lt_two_pow (Nat.lt_of_lt_of_le h (Nat.pow_le_pow_right (by omega) (by omega)))]; rfl)]
    exact sm_0 18
  rw [e, Nat.add_zero]
def caN (s : Nat → Int32) (k l : Nat) (i : Nat) : Nat := if canC s k l (i % 8) (i / 8 / 14) (i / 8 % 14) = true then 1 else 0
theorem fiA_sm {s : Nat → Int32} {k l : Nat} : ∀ n, fiA s k l n = nI (sm (caN s k l) n)
  | 0 => rfl
  | n + 1 => by
    rw [fiA, fiA_sm n, sm, ← nI_add]
    congr 1
    unfold caN
    split <;> rfl
theorem fi_all {s : Nat → Int32} {k l : Nat} (hl : l < 8) : sm (caN s k l) 1008 = sm (fun w => sm (fun r => popc (FR s k l w r)) 9) 8 := by
  rw [show (1008 : Nat) = 9 * 14 * 8 from rfl, sm_mul, sm_swap]
  refine sm_cg 8 (fun w hw => ?_)
  rw [sm_mul]
  refine sm_cg 9 (fun r hr => ?_)
  rw [popc_sm (FR_lt _ _ _ _ _)]
  refine sm_cg 14 (fun c hc => ?_)
  unfold caN
  rw [show ((r * 14 + c) * 8 + w) % 8 = w by omega, show ((r * 14 + c) * 8 + w) / 8 / 14 = r by omega, show ((r * 14 + c) * 8 + w) / 8 % 14 = c by omega, FR_bit hl hw (by omega) (by omega)]
theorem sm_le {f : Nat → Nat} {B : Nat} (h : ∀ i, f i ≤ B) : ∀ n, sm f n ≤ n * B
  | 0 => by rw [sm, Nat.zero_mul]; omega
  | n + 1 => by have := sm_le h n; have := h n; rw [sm, Nat.succ_mul]; omega
theorem ffI_6 {s : Nat → Int32} {k l mi : Nat} (hm : mi < 2) : ffI s k l mi = -6 ↔ ¬ ff s k l mi < 504 := by
  unfold ffI
  split
  · next h => exact ⟨fun e => absurd e (nI_ne6 (by omega)), fun e => absurd h e⟩
  · next h => exact ⟨fun _ => h, fun _ => rfl⟩
/-- the sheet after n cuts -/
def mnT (k l mi : Nat) : Nat → (Nat → Int32) → Nat → Int32
  | 0, s => s
  | g + 1, s => if ff s k l mi < 504 then mnT k l mi g (cutF s k l mi) else s
def mixF (a b : Nat → Int32) (i : Nat) : Nat → Int32 := fun r => if r < i then a r else b r
theorem mixF_up (a b : Nat → Int32) (i : Nat) : upd (mixF a b i) i (a i) = mixF a b (i + 1) := by
  funext r
  show (if r = i then a i else if r < i then a r else b r) = if r < i + 1 then a r else b r
  by_cases e : r = i
  · rw [if_pos e, if_pos (by omega), e]
  · rw [if_neg e]
    by_cases h : r < i
    · rw [if_pos h, if_pos (by omega)]
    · rw [if_neg h, if_neg (by omega)]
theorem mixF_0 (a b : Nat → Int32) : mixF a b 0 = b := rfl
theorem mixF_all {a b : Nat → Int32} {n : Nat} (h : ∀ j, n ≤ j → b j = a j) : mixF a b n = a := by
  funext r
  unfold mixF
  split
  · rfl
  · next c => exact h r (by omega)
set_option maxHeartbeats 4000000 in
set_option maxRecDepth 100000 in
theorem l_X4_cutUp {G : zG} {hh : zH} {sz sh o : Nat} {s : Nat → Int32} {k l mi : Nat} (hl : l < 8) (hm : mi < 2) (hk : k < 6) (hs : shH G sh hh) (hc : stH G sh o s k hh) : ∀ (g : Nat) (t : Nat → Int32) (n : Nat) (p4 : Option Value), n + g = 126 → okR t → t (3 + 11 * k) = s (3 + 11 * k) → t (4 + 11 * k) = s (4 + 11 * k) → zS MX4_cutUp G 4 0 0 0 0 (cuH G o t k hh) sz 2 [some (.ref o), some (.int (nI l)), some (.int (nI mi)), some (.int (nI n)), p4] [] (fun rr hh' ss' kk' nn' => zR (.int (nI (mnA k l mi g t n))) (cuH G o (mnT k l mi g t) k hh) sz rr hh' ss' ∧ kk' ≤ 0 ∧ nn' ≤ 0) := by
  intro g; induction g with
  | zero =>
    intro t n p4 hi hR h3 h4
    have hs2 : shH G sh (cuH G o t k hh) := cuH_sh hs hc
    have hc2 : stH G sh o t k (cuH G o t k hh) := cuH_st hc h3 h4
    refine z_iload_n dX4_cutUp_2 rfl ?_
    refine z_bipush (v := (nI 126)) dX4_cutUp_3 (by decide) ?_
    refine z_icmp_ge (tgt := 51) dX4_cutUp_5 (by decide) (fun c_5 => ?_) (fun c_5 => absurd c_5 (not_not_intro (nI_le (by omega) (by omega))))
    refine z_iload_n dX4_cutUp_51 rfl ?_
    exact z_iretR dX4_cutUp_52 rfl rfl rfl rfl (Nat.le_refl _) (Nat.le_refl _)
  | succ g ih =>
    intro t n p4 hi hR h3 h4
    have hs2 : shH G sh (cuH G o t k hh) := cuH_sh hs hc
    have hc2 : stH G sh o t k (cuH G o t k hh) := cuH_st hc h3 h4
    refine z_iload_n dX4_cutUp_2 rfl ?_
    refine z_bipush (v := (nI 126)) dX4_cutUp_3 (by decide) ?_
    refine z_icmp_ge (tgt := 51) dX4_cutUp_5 (by decide) (fun c_5 => absurd c_5 (nI_ge (by omega) (by omega))) (fun c_5 => ?_)
    refine z_aload_n dX4_cutUp_8 rfl ?_
    refine z_iload_n dX4_cutUp_9 rfl ?_
    refine z_iload_n dX4_cutUp_10 rfl ?_
    refine z_callVR (ci := 4) (k_X4_firstFit hl hm hk hR hs2 hc2) dX4_cutUp_11 ⟨zm_591, zm_371, zm_4, zm_369, zm_370, by decide⟩ hc2.1 (by decide) zp_X4_firstFit rfl (Nat.le_of_ble_eq_true rfl) (Nat.le_refl _) (Nat.le_refl _) ?_
    refine z_istore dX4_cutUp_14 (by decide) rfl rfl ?_
    refine z_iload dX4_cutUp_16 rfl ?_
    by_cases hf : ff t k l mi < 504
    · obtain ⟨q1, q2, -⟩ := ff_ok hf
      rw [show ffI t k l mi = nI (ff t k l mi / 4 * 8 + (4 * mi + ff t k l mi % 4)) from if_pos hf]
      refine z_bipush (v := (-6)) dX4_cutUp_18 (by decide) ?_
      refine z_icmp_ne (tgt := 25) dX4_cutUp_20 (by decide) (fun c_20 => ?_) (fun c_20 => absurd c_20 (nI_ne6 (by omega)))
      refine z_aload_n dX4_cutUp_25 rfl ?_
      refine z_iload_n dX4_cutUp_26 rfl ?_
      refine z_iload dX4_cutUp_27 rfl ?_
      refine z_callSNR (kn6_wayIn (by omega)) dX4_cutUp_29 ⟨zm_645, zm_378, zm_1, zm_377⟩  (by decide) zp_X6_wayIn rfl (Nat.le_of_ble_eq_true rfl) (Nat.le_refl _) (Nat.le_refl _) ?_
      refine z_iload dX4_cutUp_32 rfl ?_
      refine z_callSNR (kn6_rowIn (by omega)) dX4_cutUp_34 ⟨zm_646, zm_381, zm_1, zm_380⟩  (by decide) zp_X6_rowIn rfl (Nat.le_of_ble_eq_true rfl) (Nat.le_refl _) (Nat.le_refl _) ?_
      refine z_iload dX4_cutUp_37 rfl ?_
      refine z_callSNR (kn6_columnIn (by omega)) dX4_cutUp_39 ⟨zm_647, zm_384, zm_1, zm_383⟩  (by decide) zp_X6_columnIn rfl (Nat.le_of_ble_eq_true rfl) (Nat.le_refl _) (Nat.le_refl _) ?_
      have e8 : (ff t k l mi / 4 * 8 + (4 * mi + ff t k l mi % 4)) % 8 = 4 * mi + ff t k l mi % 4 := by omega
      have e9 : (ff t k l mi / 4 * 8 + (4 * mi + ff t k l mi % 4)) / 8 = ff t k l mi / 4 := by omega
      rw [e8, e9]
      refine z_callVU (ci := 4) (k_X4_cutOut hl (show 4 * mi + ff t k l mi % 4 < 8 by omega) hk hR hs2 hc2 q1 q2) dX4_cutUp_42 ⟨zm_648, zm_352, zm_4, zm_350, zm_351, by decide⟩ hc2.1 (by decide) zp_X4_cutOut rfl (Nat.le_of_ble_eq_true rfl) (Nat.le_refl _) (Nat.le_refl _) ?_
      refine z_heap (h2 := cuH G o (cutF t k l mi) k hh) (by
            unfold cutF
            show zup (zup hh (o + 1) _) (o + 1) _ = zup hh (o + 1) _
            rw [zup_zup]) ?_
      refine z_iincU dX4_cutUp_45 rfl (by decide) rfl rfl ?_
      refine z_goto (tgt := 2) dX4_cutUp_48 (by decide) ?_
      rw [show mnA k l mi (g + 1) t n = mnA k l mi g (cutF t k l mi) (n + 1) by rw [mnA, if_pos hf], show mnT k l mi (g + 1) t = mnT k l mi g (cutF t k l mi) by rw [mnT, if_pos hf]]
      exact ih (cutF t k l mi) (n + 1) _ (by omega) (cutF_ok hk hl hm hR hf).1 ((cutS_out _ _ (by omega)).trans h3) ((cutS_out _ _ (by omega)).trans h4)
    · have hf6 : ¬ ffI t k l mi ≠ -6 := not_not_intro ((ffI_6 hm).mpr hf)
      refine z_bipush (v := (-6)) dX4_cutUp_18 (by decide) ?_
      refine z_icmp_ne (tgt := 25) dX4_cutUp_20 (by decide) (fun c_20 => absurd c_20 hf6) (fun c_20 => ?_)
      refine z_iload_n dX4_cutUp_23 rfl ?_
      exact z_iretR dX4_cutUp_24 rfl (by rw [mnA, if_neg hf]) (by rw [mnT, if_neg hf]) rfl (Nat.le_refl _) (Nat.le_refl _)
set_option maxHeartbeats 4000000 in
set_option maxRecDepth 100000 in
theorem k_X4_cutUp {G : zG} {hh : zH} {sz sh o : Nat} {s : Nat → Int32} {k l mi : Nat} (hl : l < 8) (hm : mi < 2) (hk : k < 6) (hs : shH G sh hh) (hc : stH G sh o s k hh) (hR : okR s) : zC G 4 MX4_cutUp yX4_cutUp [.ref o, .int (nI l), .int (nI mi)] hh sz 0 0 (zR (.int (nI (mnA k l mi 126 s 0))) (cuH G o (mnT k l mi 126 s) k hh) sz) := by
  refine z_intro _ rfl zy_X4_cutUp (Nat.le_of_ble_eq_true rfl) ?_
  refine z_iconst (v := (nI 0)) dX4_cutUp_0 (by decide) ?_
  refine z_istore_n dX4_cutUp_1 (by decide) rfl rfl ?_
  refine z_heap (h2 := cuH G o s k hh) (zup_self hc.2).symm ?_
  exact l_X4_cutUp hl hm hk hs hc 126 s 0 _ rfl hR rfl rfl
set_option maxHeartbeats 4000000 in
set_option maxRecDepth 100000 in
theorem li_X4_allFits {G : zG} {hh : zH} {sz sh o : Nat} {s : Nat → Int32} {k l : Nat} (hl : l < 8) (hk : k < 6) (hR : okR s) (hs : shH G sh hh) (hc : stH G sh o s k hh) {w a : Nat} (hw : w < 8) {Post : Option Value → zH → Nat → Nat → Nat → Prop}
    (ke : zS MX4_allFits G 3 0 0 0 0 hh sz 40 [some (.ref o), some (.int (nI l)), some (.int (nI (a + sm (fun r => popc (FR s k l w r)) 9))), some (.int (nI w)), some (.int (nI 9))] [] Post) : ∀ (n r : Nat), r + n = 9 → zS MX4_allFits G 3 0 0 0 0 hh sz 13 [some (.ref o), some (.int (nI l)), some (.int (nI (a + sm (fun r => popc (FR s k l w r)) r))), some (.int (nI w)), some (.int (nI r))] [] Post := by
  intro n; induction n with
  | zero =>
    intro r hr
    refine z_iload dX4_allFits_13 rfl ?_
    refine z_bipush (v := (nI 9)) dX4_allFits_15 (by decide) ?_
    refine z_icmp_ge (tgt := 40) dX4_allFits_17 (by decide) (fun c_17 => ?_) (fun c_17 => absurd c_17 (not_not_intro (nI_le (by omega) (by omega))))
    rw [show r = 9 by omega]
    exact ke
  | succ n ih =>
    intro r hr
    refine z_iload dX4_allFits_13 rfl ?_
    refine z_bipush (v := (nI 9)) dX4_allFits_15 (by decide) ?_
    refine z_icmp_ge (tgt := 40) dX4_allFits_17 (by decide) (fun c_17 => absurd c_17 (nI_ge (by omega) (by omega))) (fun c_17 => ?_)
    refine z_iload_n dX4_allFits_20 rfl ?_
    refine z_aload_n dX4_allFits_21 rfl ?_
    refine z_iload_n dX4_allFits_22 rfl ?_
    refine z_iload_n dX4_allFits_23 rfl ?_
    refine z_iload dX4_allFits_24 rfl ?_
    refine z_callVR (ci := 4) (k_X4_freeColumns hl (by omega) hk hR hs hc (by omega)) dX4_allFits_26 ⟨zm_335, zm_338, zm_4, zm_337, zmp_2, by decide⟩ hc.1 (by decide) zp_X4_freeColumns rfl (Nat.le_of_ble_eq_true rfl) (Nat.le_refl _) (Nat.le_refl _) ?_
    refine z_callSR (kn_bitCount (FR_lt _ _ _ _ _)) dX4_allFits_29 ⟨zm_260, zm_244, zm_8, zm_243⟩  (by decide) zp_J6_bitCount_0f7a4 rfl (Nat.le_of_ble_eq_true rfl) (Nat.le_refl _) (Nat.le_refl _) ?_
    refine z_iaddN dX4_allFits_32 ?_
    refine z_istore_n dX4_allFits_33 (by decide) rfl rfl ?_
    refine z_iincU dX4_allFits_34 rfl (by decide) rfl rfl ?_
    refine z_goto (tgt := 13) dX4_allFits_37 (by decide) ?_
    rw [show a + sm (fun r => popc (FR s k l w r)) r + popc (FR s k l w r) = a + sm (fun r => popc (FR s k l w r)) (r + 1) from Nat.add_assoc _ _ _]
    exact ih (r + 1) (by omega)
set_option maxHeartbeats 4000000 in
set_option maxRecDepth 100000 in
theorem l_X4_allFits {G : zG} {hh : zH} {sz sh o : Nat} {s : Nat → Int32} {k l : Nat} (hl : l < 8) (hk : k < 6) (hR : okR s) (hs : shH G sh hh) (hc : stH G sh o s k hh) : ∀ (n w : Nat) (p4 : Option Value), w + n = 8 → zS MX4_allFits G 3 0 0 0 0 hh sz 4 [some (.ref o), some (.int (nI l)), some (.int (nI (sm (fun w => sm (fun r => popc (FR s k l w r)) 9) w))), some (.int (nI w)), p4] [] (fun rr hh' ss' kk' nn' => zR (.int (fiA s k l 1008)) hh sz rr hh' ss' ∧ kk' ≤ 0 ∧ nn' ≤ 0) := by
  intro n; induction n with
  | zero =>
    intro w p4 hw
    refine z_iload_n dX4_allFits_4 rfl ?_
    refine z_bipush (v := (nI 8)) dX4_allFits_5 (by decide) ?_
    refine z_icmp_ge (tgt := 46) dX4_allFits_7 (by decide) (fun c_7 => ?_) (fun c_7 => absurd c_7 (not_not_intro (nI_le (by omega) (by omega))))
    refine z_iload_n dX4_allFits_46 rfl ?_
    exact z_iretR dX4_allFits_47 rfl (by rw [fiA_sm, fi_all hl, show w = 8 by omega]) rfl rfl (Nat.le_refl _) (Nat.le_refl _)
  | succ n ih =>
    intro w p4 hw
    refine z_iload_n dX4_allFits_4 rfl ?_
    refine z_bipush (v := (nI 8)) dX4_allFits_5 (by decide) ?_
    refine z_icmp_ge (tgt := 46) dX4_allFits_7 (by decide) (fun c_7 => absurd c_7 (nI_ge (by omega) (by omega))) (fun c_7 => ?_)
    refine z_iconst (v := (nI 0)) dX4_allFits_10 (by decide) ?_
    refine z_istore dX4_allFits_11 (by decide) rfl rfl ?_
    rw [show sm (fun w => sm (fun r => popc (FR s k l w r)) 9) w = sm (fun w => sm (fun r => popc (FR s k l w r)) 9) w + sm (fun r => popc (FR s k l w r)) 0 from rfl]
    exact li_X4_allFits (a := sm (fun w => sm (fun r => popc (FR s k l w r)) 9) w) hl hk hR hs hc (by omega) (by
      rw [show sm (fun w => sm (fun r => popc (FR s k l w r)) 9) w + sm (fun r => popc (FR s k l w r)) 9 = sm (fun w => sm (fun r => popc (FR s k l w r)) 9) (w + 1) from rfl]
      refine z_iincU dX4_allFits_40 rfl (by decide) rfl rfl ?_
      refine z_goto (tgt := 4) dX4_allFits_43 (by decide) ?_
      exact ih (w + 1) _ (by omega)) 9 0 (Nat.zero_add _)
set_option maxHeartbeats 4000000 in
set_option maxRecDepth 100000 in
theorem k_X4_allFits {G : zG} {hh : zH} {sz sh o : Nat} {s : Nat → Int32} {k l : Nat} (hl : l < 8) (hk : k < 6) (hR : okR s) (hs : shH G sh hh) (hc : stH G sh o s k hh) : zC G 3 MX4_allFits yX4_allFits [.ref o, .int (nI l)] hh sz 0 0 (zR (.int (fiA s k l 1008)) hh sz) := by
  refine z_intro _ rfl zy_X4_allFits (Nat.le_of_ble_eq_true rfl) ?_
  refine z_iconst (v := (nI 0)) dX4_allFits_0 (by decide) ?_
  refine z_istore_n dX4_allFits_1 (by decide) rfl rfl ?_
  refine z_iconst (v := (nI 0)) dX4_allFits_2 (by decide) ?_
  refine z_istore_n dX4_allFits_3 (by decide) rfl rfl ?_
  exact l_X4_allFits hl hk hR hs hc 8 0 _ (Nat.zero_add _)
set_option maxHeartbeats 4000000 in
set_option maxRecDepth 100000 in
theorem l_X4_lettersThatFit {G : zG} {hh : zH} {sz sh o : Nat} {s : Nat → Int32} {k : Nat} (hk : k < 6) (hR : okR s) (hs : shH G sh hh) (hc : stH G sh o s k hh) : ∀ (n i : Nat), i + n = 8 → zS MX4_lettersThatFit G 4 0 0 0 0 hh sz 4 [some (.ref o), some (.int (lfA s k i)), some (.int (nI i))] [] (fun rr hh' ss' kk' nn' => zR (.int (lfA s k 8)) hh sz rr hh' ss' ∧ kk' ≤ 0 ∧ nn' ≤ 0) := by
  intro n; induction n with
  | zero =>
    intro i hi
    refine z_iload_n dX4_lettersThatFit_4 rfl ?_
    refine z_bipush (v := (nI 8)) dX4_lettersThatFit_5 (by decide) ?_
    refine z_icmp_ge (tgt := 44) dX4_lettersThatFit_7 (by decide) (fun c_7 => ?_) (fun c_7 => absurd c_7 (not_not_intro (nI_le (by omega) (by omega))))
    refine z_iload_n dX4_lettersThatFit_44 rfl ?_
    exact z_iretR dX4_lettersThatFit_45 rfl (by rw [show i = 8 by omega]) rfl rfl (Nat.le_refl _) (Nat.le_refl _)
  | succ n ih =>
    intro i hi
    refine z_iload_n dX4_lettersThatFit_4 rfl ?_
    refine z_bipush (v := (nI 8)) dX4_lettersThatFit_5 (by decide) ?_
    refine z_icmp_ge (tgt := 44) dX4_lettersThatFit_7 (by decide) (fun c_7 => absurd c_7 (nI_ge (by omega) (by omega))) (fun c_7 => ?_)
    refine z_aload_n dX4_lettersThatFit_10 rfl ?_
    refine z_iload_n dX4_lettersThatFit_11 rfl ?_
    refine z_iconst (v := (nI 0)) dX4_lettersThatFit_12 (by decide) ?_
    refine z_callVR (ci := 4) (k_X4_firstFit (by omega) (by omega) hk hR hs hc) dX4_lettersThatFit_13 ⟨zm_591, zm_371, zm_4, zm_369, zm_370, by decide⟩ hc.1 (by decide) zp_X4_firstFit rfl (Nat.le_of_ble_eq_true rfl) (Nat.le_refl _) (Nat.le_refl _) ?_
    refine z_bipush (v := (-6)) dX4_lettersThatFit_16 (by decide) ?_
    refine z_icmp_ne (tgt := 32) dX4_lettersThatFit_18 (by decide) (fun c_18 => ?_) (fun c_18 => ?_)
    · refine z_iload_n dX4_lettersThatFit_32 rfl ?_
      refine z_iconst (v := (nI 1)) dX4_lettersThatFit_33 (by decide) ?_
      refine z_iload_n dX4_lettersThatFit_34 rfl ?_
      refine z_ishl dX4_lettersThatFit_35 ?_
      refine z_ior dX4_lettersThatFit_36 ?_
      refine z_istore_n dX4_lettersThatFit_37 (by decide) rfl rfl ?_
      refine z_iincU dX4_lettersThatFit_38 rfl (by decide) rfl rfl ?_
      refine z_goto (tgt := 4) dX4_lettersThatFit_41 (by decide) ?_
      have e : lfA s k i ||| nI 1 <<< (nI i &&& 31) = lfA s k (i + 1) := by rw [lfA, if_pos (Or.inl (Decidable.of_not_not (fun z => c_18 ((ffI_6 (by omega)).mpr z))))]
      rw [e]
      exact ih (i + 1) (by omega)
    · refine z_aload_n dX4_lettersThatFit_21 rfl ?_
      refine z_iload_n dX4_lettersThatFit_22 rfl ?_
      refine z_iconst (v := (nI 1)) dX4_lettersThatFit_23 (by decide) ?_
      refine z_callVR (ci := 4) (k_X4_firstFit (by omega) (by omega) hk hR hs hc) dX4_lettersThatFit_24 ⟨zm_591, zm_371, zm_4, zm_369, zm_370, by decide⟩ hc.1 (by decide) zp_X4_firstFit rfl (Nat.le_of_ble_eq_true rfl) (Nat.le_refl _) (Nat.le_refl _) ?_
      refine z_bipush (v := (-6)) dX4_lettersThatFit_27 (by decide) ?_
      refine z_icmp_eq (tgt := 38) dX4_lettersThatFit_29 (by decide) (fun c_29 => ?_) (fun c_29 => ?_)
      · refine z_iincU dX4_lettersThatFit_38 rfl (by decide) rfl rfl ?_
        refine z_goto (tgt := 4) dX4_lettersThatFit_41 (by decide) ?_
        have e : lfA s k i = lfA s k (i + 1) := by rw [lfA, if_neg (by rintro (z | z); exact (ffI_6 (by omega)).mp (c_18) z; exact (ffI_6 (by omega)).mp c_29 z)]; exact (Int32.or_zero).symm
        rw [e]
        exact ih (i + 1) (by omega)
      · refine z_iload_n dX4_lettersThatFit_32 rfl ?_
        refine z_iconst (v := (nI 1)) dX4_lettersThatFit_33 (by decide) ?_
        refine z_iload_n dX4_lettersThatFit_34 rfl ?_
        refine z_ishl dX4_lettersThatFit_35 ?_
        refine z_ior dX4_lettersThatFit_36 ?_
        refine z_istore_n dX4_lettersThatFit_37 (by decide) rfl rfl ?_
        refine z_iincU dX4_lettersThatFit_38 rfl (by decide) rfl rfl ?_
        refine z_goto (tgt := 4) dX4_lettersThatFit_41 (by decide) ?_
        have e : lfA s k i ||| nI 1 <<< (nI i &&& 31) = lfA s k (i + 1) := by rw [lfA, if_pos (Or.inr (Decidable.of_not_not (fun z => c_29 ((ffI_6 (by omega)).mpr z))))]
        rw [e]
        exact ih (i + 1) (by omega)
set_option maxHeartbeats 4000000 in
set_option maxRecDepth 100000 in
theorem k_X4_lettersThatFit {G : zG} {hh : zH} {sz sh o : Nat} {s : Nat → Int32} {k : Nat} (hk : k < 6) (hR : okR s) (hs : shH G sh hh) (hc : stH G sh o s k hh) : zC G 4 MX4_lettersThatFit yX4_lettersThatFit [.ref o] hh sz 0 0 (zR (.int (lfA s k 8)) hh sz) := by
  refine z_intro _ rfl zy_X4_lettersThatFit (Nat.le_of_ble_eq_true rfl) ?_
  refine z_iconst (v := (nI 0)) dX4_lettersThatFit_0 (by decide) ?_
  refine z_istore_n dX4_lettersThatFit_1 (by decide) rfl rfl ?_
  refine z_iconst (v := (nI 0)) dX4_lettersThatFit_2 (by decide) ?_
  refine z_istore_n dX4_lettersThatFit_3 (by decide) rfl rfl ?_
  exact l_X4_lettersThatFit hk hR hs hc 8 0 (Nat.zero_add _)
set_option maxHeartbeats 4000000 in
set_option maxRecDepth 100000 in
theorem l_X4_squaresLeft {G : zG} {hh : zH} {sz sh o : Nat} {s : Nat → Int32} {k : Nat} (hk : k < 6) (hR : okR s) (hc : stH G sh o s k hh) : ∀ (n i : Nat), i + n = 9 → zS MX4_squaresLeft G 1 0 0 0 0 hh sz 5 [some (.ref o), some (.int (uncA s k i)), some (.int (nI i))] [] (fun rr hh' ss' kk' nn' => zR (.int (uncA s k 9)) hh sz rr hh' ss' ∧ kk' ≤ 0 ∧ nn' ≤ 0) := by
  intro n; induction n with
  | zero =>
    intro i hi
    refine z_iload_n dX4_squaresLeft_5 rfl ?_
    refine z_bipush (v := (nI 9)) dX4_squaresLeft_6 (by decide) ?_
    refine z_icmp_ge (tgt := 29) dX4_squaresLeft_8 (by decide) (fun c_8 => ?_) (fun c_8 => absurd c_8 (not_not_intro (nI_le (by omega) (by omega))))
    refine z_iload_n dX4_squaresLeft_29 rfl ?_
    exact z_iretR dX4_squaresLeft_30 rfl (by rw [show i = 9 by omega]) rfl rfl (Nat.le_refl _) (Nat.le_refl _)
  | succ n ih =>
    intro i hi
    refine z_iload_n dX4_squaresLeft_5 rfl ?_
    refine z_bipush (v := (nI 9)) dX4_squaresLeft_6 (by decide) ?_
    refine z_icmp_ge (tgt := 29) dX4_squaresLeft_8 (by decide) (fun c_8 => absurd c_8 (nI_ge (by omega) (by omega))) (fun c_8 => ?_)
    refine z_iload_n dX4_squaresLeft_11 rfl ?_
    refine z_aload_n dX4_squaresLeft_12 rfl ?_
    refine z_get (ci := 4) (f := 1) dX4_squaresLeft_13 ⟨by decide, by decide, zm_73, rfl⟩ hc.1 rfl ?_
    refine z_iload_n dX4_squaresLeft_16 rfl ?_
    refine z_ialdN (j := i) dX4_squaresLeft_17 hc.2 rfl (by omega) (by decide) ?_
    refine z_eq ((rowF_at (by omega)).trans (hR k i hk (by omega)).1) ?_
    refine z_callSR (kn_bitCount (hR k i hk (by omega)).2) dX4_squaresLeft_18 ⟨zm_260, zm_244, zm_8, zm_243⟩  (by decide) zp_J6_bitCount_0f7a4 rfl (Nat.le_of_ble_eq_true rfl) (Nat.le_refl _) (Nat.le_refl _) ?_
    refine z_isub dX4_squaresLeft_21 ?_
    refine z_istore_n dX4_squaresLeft_22 (by decide) rfl rfl ?_
    refine z_iincU dX4_squaresLeft_23 rfl (by decide) rfl rfl ?_
    refine z_goto (tgt := 5) dX4_squaresLeft_26 (by decide) ?_
    exact ih (i + 1) (by omega)
set_option maxHeartbeats 4000000 in
set_option maxRecDepth 100000 in
theorem k_X4_squaresLeft {G : zG} {hh : zH} {sz sh o : Nat} {s : Nat → Int32} {k : Nat} (hk : k < 6) (hR : okR s) (hc : stH G sh o s k hh) : zC G 1 MX4_squaresLeft yX4_squaresLeft [.ref o] hh sz 0 0 (zR (.int (uncA s k 9)) hh sz) := by
  refine z_intro _ rfl zy_X4_squaresLeft (Nat.le_of_ble_eq_true rfl) ?_
  refine z_bipush (v := (nI 126)) dX4_squaresLeft_0 (by decide) ?_
  refine z_istore_n dX4_squaresLeft_2 (by decide) rfl rfl ?_
  refine z_iconst (v := (nI 0)) dX4_squaresLeft_3 (by decide) ?_
  refine z_istore_n dX4_squaresLeft_4 (by decide) rfl rfl ?_
  exact l_X4_squaresLeft hk hR hc 9 0 (Nat.zero_add _)
