theorem and31 (x : Int32) : ∃ j, j < 32 ∧ x &&& 31 = nI j := by
  refine ⟨x.toBitVec.toNat % 32, Nat.mod_lt _ (by omega), Int32.toBitVec_inj.mp ?_⟩
  apply BitVec.eq_of_toNat_eq
  show (x.toBitVec &&& 31#32).toNat = (BitVec.ofNat 32 (x.toBitVec.toNat % 32)).toNat
  rw [BitVec.toNat_and, BitVec.toNat_ofNat, BitVec.toNat_ofNat, show (31 % 2 ^ 32 : Nat) = 2 ^ 5 - 1 from rfl, Nat.and_two_pow_sub_one_eq_mod]
  exact (Nat.mod_eq_of_lt (Nat.lt_of_lt_of_le (Nat.mod_lt _ (by omega)) (by omega))).symm
theorem lw_go6 {L i : Nat} (hL : L ≤ 3072) (hi : i ≤ 3072) (h : ¬ nI L - nI 6 < nI i) : i + 6 ≤ L := by
  rw [Int32.lt_iff_toInt_lt, pk_sub_toInt (by omega) (by omega), nI_t (by omega)] at h
  omega
def lwQ (CM SM : Nat) : Option Value → zH → Nat → Nat → Nat → Prop := fun r _ _ k n => r = some (.int 1) ∧ k ≤ CM ∧ n ≤ SM
set_option maxHeartbeats 8000000 in
set_option maxRecDepth 100000 in
theorem law_loop {b L : Nat} {xs : Nat → Int32} {G : zG} {B CM SM : Nat} (hL : L ≤ 3072) : ∀ (g i k n : Nat) (hh : zH) (sz : Nat), L + 1 ≤ i + g → i ≤ L → lwI G B CM SM k n hh sz → xS (scE G b L xs) ML_law G 12 CM SM k n hh sz 18 (lwV b B i) [] (lwQ CM SM) := by
  intro g
  induction g with
  | zero =>
    intro i k n hh sz h1 h2
    exact absurd h1 (by omega)
  | succ g ih =>
    intro i k n hh sz hg hiL hI
    refine x_iload_n dL_law_18 rfl ?_
    refine x_aload_n dL_law_19 rfl ?_
    refine x_slen dL_law_20 ?_
    refine x_bipush (v := nI 6) dL_law_21 (by decide) ?_
    refine x_isub dL_law_23 ?_
    refine x_icmp_gt (tgt := 952) dL_law_24 (by decide) (fun c_1 => ?_) (fun c_1 => ?_)
    · refine x_iconst (v := 1) dL_law_952 (by decide) ?_
      obtain ⟨s, f, L0, K, old, st, g0, ct, fo, τ, hi, hk0, hn0⟩ := hI
      exact x_ireturn dL_law_953 ⟨.boolean, rfl, narrow_b1⟩ ⟨rfl, by omega, by omega⟩
    · have hi6 : i + 6 ≤ L := lw_go6 hL (by omega) c_1
      have stop : ∀ k2 n2 h2 s2, lwI G B CM SM k2 n2 h2 s2 → xS (scE G b L xs) ML_law G 12 CM SM k2 n2 h2 s2 946 (lwV b B i) [] (lwQ CM SM) := by
        intro k2 n2 h2 s2 hI2
        refine x_iinc (v := nI (i + 6)) (lv' := lwV b B (i + 6)) dL_law_946 rfl (by rw [show Int32.ofInt 6 = nI 6 from by decide, nI_add]) (by decide) rfl rfl ?_
        refine x_goto (tgt := 18) dL_law_949 (by decide) ?_
        exact ih (i + 6) k2 n2 h2 s2 (by omega) hi6 hI2
      refine x_aload_n dL_law_27 rfl ?_
      refine x_iload_n dL_law_28 rfl ?_
      refine x_sld dL_law_29 rfl (by omega) hL ?_
      refine x_bipush (v := 31) dL_law_30 (by decide) ?_
      refine x_iand dL_law_32 ?_
      obtain ⟨j, hj, ej⟩ := and31 (xs i)
      refine x_stk (st2 := [.int (nI j)]) (by rw [ej]) ?_
      rcases (show j = 0 ∨ j = 1 ∨ j = 2 ∨ j = 3 ∨ j = 4 ∨ j = 5 ∨ j = 6 ∨ j = 7 ∨ j = 8 ∨ j = 9 ∨ j = 10 ∨ j = 11 ∨ j = 12 ∨ j = 13 ∨ j = 14 ∨ j = 15 ∨ j = 16 ∨ j = 17 ∨ j = 18 ∨ j = 19 ∨ j = 20 ∨ j = 21 ∨ j = 22 ∨ j = 23 ∨ 24 ≤ j by omega) with rfl | rfl | rfl | rfl | rfl | rfl | rfl | rfl | rfl | rfl | rfl | rfl | rfl | rfl | rfl | rfl | rfl | rfl | rfl | rfl | rfl | rfl | rfl | rfl | h24
      · exact x_tableIn (off := 111) (tgt := 144) dL_law_33 (by decide +kernel) (by decide +kernel) (by decide +kernel) (by decide) (lb_sheet hL hi6 hI stop)
      · exact x_tableIn (off := 134) (tgt := 167) dL_law_33 (by decide +kernel) (by decide +kernel) (by decide +kernel) (by decide) (lb_cut hL hi6 hI stop)
      · exact x_tableIn (off := 197) (tgt := 230) dL_law_33 (by decide +kernel) (by decide +kernel) (by decide +kernel) (by decide) (lb_make hL hi6 hI stop)
      · exact x_tableIn (off := 240) (tgt := 273) dL_law_33 (by decide +kernel) (by decide +kernel) (by decide +kernel) (by decide) (lb_write hL hi6 hI stop)
      · exact x_tableIn (off := 293) (tgt := 326) dL_law_33 (by decide +kernel) (by decide +kernel) (by decide +kernel) (by decide) (lb_place hL hi6 hI stop)
      · exact x_tableIn (off := 336) (tgt := 369) dL_law_33 (by decide +kernel) (by decide +kernel) (by decide +kernel) (by decide) (lb_clear hL hi6 hI stop)
      · exact x_tableIn (off := 359) (tgt := 392) dL_law_33 (by decide +kernel) (by decide +kernel) (by decide +kernel) (by decide) (lb_throwAway hL hi6 hI stop)
      · exact x_tableIn (off := 382) (tgt := 415) dL_law_33 (by decide +kernel) (by decide +kernel) (by decide +kernel) (by decide) (lb_scrap hL hi6 hI stop)
      · exact x_tableIn (off := 405) (tgt := 438) dL_law_33 (by decide +kernel) (by decide +kernel) (by decide +kernel) (by decide) (lb_of hL hi6 hI stop)
      · exact x_tableIn (off := 438) (tgt := 471) dL_law_33 (by decide +kernel) (by decide +kernel) (by decide +kernel) (by decide) (lb_ofSheet hL hi6 hI stop)
      · exact x_tableIn (off := 471) (tgt := 504) dL_law_33 (by decide +kernel) (by decide +kernel) (by decide +kernel) (by decide) (lb_row hL hi6 hI stop)
      · exact x_tableIn (off := 504) (tgt := 537) dL_law_33 (by decide +kernel) (by decide +kernel) (by decide +kernel) (by decide) (lb_pane hL hi6 hI stop)
      · exact x_tableIn (off := 537) (tgt := 570) dL_law_33 (by decide +kernel) (by decide +kernel) (by decide +kernel) (by decide) (lb_shape hL hi6 hI stop)
      · exact x_tableIn (off := 580) (tgt := 613) dL_law_33 (by decide +kernel) (by decide +kernel) (by decide +kernel) (by decide) (lb_count hL hi6 hI stop)
      · exact x_tableIn (off := 603) (tgt := 636) dL_law_33 (by decide +kernel) (by decide +kernel) (by decide +kernel) (by decide) (lb_fit hL hi6 hI stop)
      · exact x_tableIn (off := 656) (tgt := 689) dL_law_33 (by decide +kernel) (by decide +kernel) (by decide +kernel) (by decide) (lb_manyOf hL hi6 hI stop)
      · exact x_tableIn (off := 699) (tgt := 732) dL_law_33 (by decide +kernel) (by decide +kernel) (by decide +kernel) (by decide) (lb_fits hL hi6 hI stop)
      · exact x_tableIn (off := 732) (tgt := 765) dL_law_33 (by decide +kernel) (by decide +kernel) (by decide +kernel) (by decide) (lb_colours hL hi6 hI stop)
      · exact x_tableIn (off := 775) (tgt := 808) dL_law_33 (by decide +kernel) (by decide +kernel) (by decide +kernel) (by decide) (lb_put hL hi6 hI stop)
      · exact x_tableIn (off := 828) (tgt := 861) dL_law_33 (by decide +kernel) (by decide +kernel) (by decide +kernel) (by decide) (lb_wipe hL hi6 hI stop)
      · exact x_tableIn (off := 841) (tgt := 874) dL_law_33 (by decide +kernel) (by decide +kernel) (by decide +kernel) (by decide) (lb_fault hL hi6 hI stop)
      · exact x_tableIn (off := 854) (tgt := 887) dL_law_33 (by decide +kernel) (by decide +kernel) (by decide +kernel) (by decide) (lb_undo hL hi6 hI stop)
      · exact x_tableIn (off := 867) (tgt := 900) dL_law_33 (by decide +kernel) (by decide +kernel) (by decide +kernel) (by decide) (lb_save hL hi6 hI stop)
      · exact x_tableIn (off := 890) (tgt := 923) dL_law_33 (by decide +kernel) (by decide +kernel) (by decide +kernel) (by decide) (lb_restore hL hi6 hI stop)
      · exact x_tableOut (tgt := 946) dL_law_33 (Or.inr (by rw [nI_t (by omega)]; omega)) (by decide) (stop k n hh sz hI)
set_option maxHeartbeats 8000000 in
set_option maxRecDepth 100000 in
theorem lwI_0 {G : zG} {B : Nat} {h1 : zH} (hF : fxA G B 0 0 0 (fun _ => 0) (fun _ => none) (fun _ => none) h1) (hA : shopA G (B + 1) (B + 3) (fun _ => 0) sp0 h1) (hD : shopA G (B + 1) (B + 67) (fun _ => 0) sp0 h1) (e : ∀ a, a < B + 138 → zup h1 (B + 138) (.inr (7, [.null, .null, .null, .int 0, .null, .null, .null, .int 0, .null, .null])) a = h1 a) : lwI G B 659 10480 147 6400 (m0 G (B + 138) tabI (zup h1 (B + 138) (.inr (7, [.null, .null, .null, .int 0, .null, .null, .null, .int 0, .null, .null])))) (B + 147) := by
  have ee : ∀ a, a < B + 138 → m0 G (B + 138) tabI (zup h1 (B + 138) (.inr (7, [.null, .null, .null, .int 0, .null, .null, .null, .int 0, .null, .null]))) a = h1 a := fun a ha => (mq_out (by omega)).trans (e a ha)
  refine ⟨fun _ => 0, fun _ => 0, 0, 0, 0, fun _ => none, fun _ => none, fun _ _ => 0, fun _ => 0, tz tabI, ⟨⟨⟨fxA_of hF (fun a ha => ee a (by omega)), ?_, ?_, vS_0, by omega, by omega, fun j hj => absurd hj (by omega), Nat.le_refl _, by omega, ?_⟩, fun _ => 0, sp0, ?_, shopA_of hD (fun k hk => ee _ (by omega))⟩, mq_mq, ?_⟩, ?_, ?_⟩
  · rw [spF_0]
    exact shopA_of hA (fun k hk => ee _ (by omega))
  · have hn : ∀ i a, adF (fun _ => none) (fun _ => none) i = some a → False := by
      intro i a h
      unfold adF at h
      split at h <;> cases h
    exact ⟨fun i a hi h => (hn i a h).elim, fun i j a b hi hj hij h => (hn i a h).elim⟩
  · exact fun j hj => absurd hj (by omega)
  · intro j hj
    rw [← spF_0]
    exact spF_36 hj
  · refine ⟨rfl, fun j hj => absurd hj (by omega), fun j n hj => absurd hj (by omega), fun e he => Or.inl ⟨rfl, rfl⟩⟩
  · show 147 + 64 * 8 ≤ 659
    omega
  · show 6400 + 510 * 8 ≤ 10480
    omega
set_option maxHeartbeats 8000000 in
set_option maxRecDepth 100000 in
theorem law_begin {b L : Nat} {xs : Nat → Int32} {G : zG} {B : Nat} (hL : L ≤ 3072) : xS (scE G b L xs) ML_law G 12 659 10480 0 0 (fun _ => none) B 0 [some (.ref b), none, none, none] [] (lwQ 659 10480) := by
  refine x_new (ci := 6) (fs := [.null, .null, .null, .null, .null, .null, .null]) dL_law_0 ⟨by decide, zm_16, zm_17, zm_1⟩ (by decide) (by decide) (by decide) ?_
  refine x_dup dL_law_3 rfl ?_
  refine x_callI (rest := [.ref B]) (as := []) (My := MX6_init) (k_X6_init (zup_eq _ _ _)) dL_law_4 ⟨zm_18, zm_20, zm_1, zm_19, rfl⟩ rfl (by decide) zp_X6_init (Nat.le_of_ble_eq_true rfl) (Nat.le_of_ble_eq_true rfl) (Nat.le_of_ble_eq_true rfl) (fun r1 h1 s1 hp1 => ?_) rfl
  obtain ⟨e1, e2, hF, hA, hD, -⟩ := hp1
  subst e1
  subst e2
  refine x_stk (st2 := [.ref B]) rfl ?_
  refine x_astore_n (lv' := [some (.ref b), some (.ref B), none, none]) dL_law_7 (by decide) rfl rfl ?_
  refine x_new (ci := 7) (fs := [.null, .null, .null, .int 0, .null, .null, .null, .int 0, .null, .null]) dL_law_8 ⟨by decide, zm_635, zm_636, zm_8⟩ (by decide) (by decide) (Nat.le_of_ble_eq_true rfl) ?_
  refine x_dup dL_law_11 rfl ?_
  refine x_callI (rest := [.ref (B + 138)]) (as := []) (My := MX7_init) (k_X7_init (zup_eq _ _ _)) dL_law_12 ⟨zm_637, zm_639, zm_8, zm_638, rfl⟩ rfl (by decide) zp_X7_init (Nat.le_of_ble_eq_true rfl) (Nat.le_of_ble_eq_true rfl) (Nat.le_of_ble_eq_true rfl) (fun r2 h2 s2 hp2 => ?_) rfl
  obtain ⟨e1, e2, e3⟩ := hp2
  subst e1
  subst e2
  subst e3
  refine x_stk (st2 := [.ref (B + 138)]) rfl ?_
  refine x_astore_n (lv' := [some (.ref b), some (.ref B), some (.ref (B + 138)), none]) dL_law_15 (by decide) rfl rfl ?_
  refine x_iconst (v := nI 0) dL_law_16 (by decide) ?_
  refine x_istore_n (lv' := lwV b B 0) dL_law_17 (by decide) rfl rfl ?_
  exact law_loop hL (L + 1) 0 _ _ _ _ (by omega) (Nat.zero_le _) (lwI_0 hF hA hD (fun a ha => zup_ne (by omega)))
