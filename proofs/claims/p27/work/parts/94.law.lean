def lwQ : Option Value → zH → Nat → Nat → Nat → Prop := fun r _ _ k n => r = some (.int 1) ∧ k ≤ 12451 ∧ n ≤ 100725
/-- at the law's loop, with k cells and n slots made -/
def lwI (G : zG) (B k n i : Nat) (hh : zH) (sz : Nat) : Prop := (∃ s f H, WH G B s f 0 H hh sz) ∧ k ≤ 139 + 513 * i ∧ n ≤ 1509 + 4134 * i
def lwV (b B T i : Nat) (p5 p6 : Option Value) : List (Option Value) := [some (.ref b), some (.ref B), some (.int 1), some (.int (nI T)), some (.int (nI i)), p5, p6]
set_option maxHeartbeats 4000000 in
set_option maxRecDepth 100000 in
theorem l145_L_law {b L : Nat} {xs : Nat → Int32} {G : zG} {B : Nat} {hh : zH} {sz k n : Nat} {s f : Nat → Int32} {H : List (Nat → Int32)} {p5 p6 : Option Value} (hL : L ≤ 260) {T i : Nat} (hT : T ≤ 24) (hTL : 3 * T ≤ L) (hi : i < T) (hW : WH G B s f 0 H hh sz) (hk : k ≤ 139 + 513 * i + 64) (hn : n ≤ 1509 + 4134 * i + 510) (stop : ∀ k2 n2 h2 s2 p5 p6, lwI G B k2 n2 (i + 1) h2 s2 → xS (scE G b L xs) ML_law G 13 12451 100725 k2 n2 h2 s2 191 (lwV b B T i p5 p6) [] lwQ) : xS (scE G b L xs) ML_law G 13 12451 100725 k n hh sz 145 [some (.ref (b)), some (.ref (B)), some (.int (1)), some (.int (nI T)), some (.int (nI i)), p5, p6] [] lwQ := by
  by_cases c3 : i % 4 = 3
  · 
    refine x_aload_n dL_law_145 rfl ?_
    refine x_aload_n dL_law_146 rfl ?_
    refine x_iconst (v := (nI 3)) dL_law_147 (by decide) ?_
    refine x_iload dL_law_148 rfl ?_
    refine x_imulN dL_law_150 ?_
    refine x_callSE (k_L_cell hL (j := 3 * i) (by omega)) dL_law_151 ⟨zm_284, zm_286, zm_0, zm_285⟩  (by decide) zp_L_cell (Nat.le_of_ble_eq_true rfl) (by omega) (by omega) (fun r_151 hh_151 sz_151 hp_151 => ?_) rfl
    obtain ⟨er_151, eh_151, es_151⟩ := hp_151
    subst er_151 eh_151 es_151
    refine x_callS (k_L_holds hW) dL_law_154 ⟨zm_570, zm_572, zm_0, zm_571⟩  (by decide) zp_L_holds (Nat.le_of_ble_eq_true rfl) (by omega) (by omega) (fun r_154 hh_154 sz_154 hp_154 => ?_) rfl
    obtain ⟨er_154, hW2⟩ := hp_154
    subst er_154
    refine x_if_eq (tgt := 189) dL_law_157 (by decide) (fun c_157 => absurd c_157 (by decide)) (fun c_157 => ?_)
    refine x_iload dL_law_160 rfl ?_
    refine x_iconst (v := (nI 4)) dL_law_162 (by decide) ?_
    refine x_iremN dL_law_163 (by omega) (by omega) (by omega) ?_
    refine x_iconst (v := (nI 3)) dL_law_164 (by decide) ?_
    refine x_icmp_ne (tgt := 185) dL_law_165 (by decide) (fun c_165 => absurd c_165 (not_not_intro (by rw [c3]))) (fun c_165 => ?_)
    refine x_aload_n dL_law_168 rfl ?_
    refine x_aload_n dL_law_169 rfl ?_
    refine x_iconst (v := (nI 3)) dL_law_170 (by decide) ?_
    refine x_iload dL_law_171 rfl ?_
    refine x_imulN dL_law_173 ?_
    refine x_iconst (v := (nI 2)) dL_law_174 (by decide) ?_
    refine x_iaddN dL_law_175 ?_
    refine x_callSE (k_L_cell hL (j := 3 * i + 2) (by omega)) dL_law_176 ⟨zm_284, zm_286, zm_0, zm_285⟩  (by decide) zp_L_cell (Nat.le_of_ble_eq_true rfl) (by omega) (by omega) (fun r_176 hh_176 sz_176 hp_176 => ?_) rfl
    obtain ⟨er_176, eh_176, es_176⟩ := hp_176
    subst er_176 eh_176 es_176
    refine x_callS (k_L_tries hW2) dL_law_179 ⟨zm_649, zm_651, zm_0, zm_650⟩  (by decide) zp_L_tries (Nat.le_of_ble_eq_true rfl) (by omega) (by omega) (fun r_179 hh_179 sz_179 hp_179 => ?_) rfl
    obtain ⟨er_179, s3, f3, H3, hW3⟩ := hp_179
    subst er_179
    refine x_if_eq (tgt := 189) dL_law_182 (by decide) (fun c_182 => absurd c_182 (by decide)) (fun c_182 => ?_)
    refine x_iconst (v := (nI 1)) dL_law_185 (by decide) ?_
    refine x_goto (tgt := 190) dL_law_186 (by decide) ?_
    refine x_istore_n dL_law_190 (by decide) rfl rfl ?_
    exact stop _ _ _ _ _ _ ⟨⟨_, _, _, hW3⟩, by omega, by omega⟩
  · 
    refine x_aload_n dL_law_145 rfl ?_
    refine x_aload_n dL_law_146 rfl ?_
    refine x_iconst (v := (nI 3)) dL_law_147 (by decide) ?_
    refine x_iload dL_law_148 rfl ?_
    refine x_imulN dL_law_150 ?_
    refine x_callSE (k_L_cell hL (j := 3 * i) (by omega)) dL_law_151 ⟨zm_284, zm_286, zm_0, zm_285⟩  (by decide) zp_L_cell (Nat.le_of_ble_eq_true rfl) (by omega) (by omega) (fun r_151 hh_151 sz_151 hp_151 => ?_) rfl
    obtain ⟨er_151, eh_151, es_151⟩ := hp_151
    subst er_151 eh_151 es_151
    refine x_callS (k_L_holds hW) dL_law_154 ⟨zm_570, zm_572, zm_0, zm_571⟩  (by decide) zp_L_holds (Nat.le_of_ble_eq_true rfl) (by omega) (by omega) (fun r_154 hh_154 sz_154 hp_154 => ?_) rfl
    obtain ⟨er_154, hW2⟩ := hp_154
    subst er_154
    refine x_if_eq (tgt := 189) dL_law_157 (by decide) (fun c_157 => absurd c_157 (by decide)) (fun c_157 => ?_)
    refine x_iload dL_law_160 rfl ?_
    refine x_iconst (v := (nI 4)) dL_law_162 (by decide) ?_
    refine x_iremN dL_law_163 (by omega) (by omega) (by omega) ?_
    refine x_iconst (v := (nI 3)) dL_law_164 (by decide) ?_
    refine x_icmp_ne (tgt := 185) dL_law_165 (by decide) (fun c_165 => ?_) (fun c_165 => absurd c_165 (fun z => c3 ((nI_eq (by omega) (by omega)).mp z)))
    refine x_iconst (v := (nI 1)) dL_law_185 (by decide) ?_
    refine x_goto (tgt := 190) dL_law_186 (by decide) ?_
    refine x_istore_n dL_law_190 (by decide) rfl rfl ?_
    exact stop _ _ _ _ _ _ ⟨⟨_, _, _, hW2⟩, by omega, by omega⟩
set_option maxHeartbeats 4000000 in
set_option maxRecDepth 100000 in
theorem law_loop {b L : Nat} {xs : Nat → Int32} {G : zG} {B : Nat} (hL : L ≤ 260) {T : Nat} (hT : T ≤ 24) (hTL : 3 * T ≤ L) : ∀ (y i k n : Nat) (hh : zH) (sz : Nat) (p5 p6 : Option Value), i + y = T → lwI G B k n i hh sz → xS (scE G b L xs) ML_law G 13 12451 100725 k n hh sz 53 (lwV b B T i p5 p6) [] lwQ := by
  intro y
  induction y with
  | zero =>
    intro i k n hh sz p5 p6 hy hI
    obtain ⟨-, hk, hn⟩ := hI
    refine x_iload dL_law_53 rfl ?_
    refine x_iload_n dL_law_55 rfl ?_
    refine x_icmp_ge (tgt := 197) dL_law_56 (by decide) (fun c_56 => ?_) (fun c_56 => absurd c_56 (not_not_intro (nI_le (by omega) (by omega))))
    refine x_iload_n dL_law_197 rfl ?_
    exact x_ireturn dL_law_198 ⟨.boolean, rfl, z_narZ (by decide)⟩ ⟨rfl, by omega, by omega⟩
  | succ y ih =>
    intro i k n hh sz p5 p6 hy hI
    obtain ⟨⟨s, f, H, hW⟩, hk, hn⟩ := hI
    have hlen := hW.lim.2.2
    have stop : ∀ k2 n2 h2 s2 p5 p6, lwI G B k2 n2 (i + 1) h2 s2 → xS (scE G b L xs) ML_law G 13 12451 100725 k2 n2 h2 s2 191 (lwV b B T i p5 p6) [] lwQ := by
      intro k2 n2 h2 s2 p5 p6 hI2
      refine x_iincU dL_law_191 rfl (by decide) rfl rfl ?_
      refine x_goto (tgt := 53) dL_law_194 (by decide) ?_
      exact ih (i + 1) _ _ _ _ _ _ (by omega) hI2
    refine x_iload dL_law_53 rfl ?_
    refine x_iload_n dL_law_55 rfl ?_
    refine x_icmp_ge (tgt := 197) dL_law_56 (by decide) (fun c_56 => absurd c_56 (nI_ge (by omega) (by omega))) (fun c_56 => ?_)
    refine x_iload_n dL_law_59 rfl ?_
    refine x_if_eq (tgt := 197) dL_law_60 (by decide) (fun c_60 => absurd c_60 (by decide)) (fun c_60 => ?_)
    refine x_aload_n dL_law_63 rfl ?_
    refine x_bipush (v := (nI 9)) dL_law_64 (by decide) ?_
    refine x_callVR (ci := 6) (zC_eq v_cnt.2.2.2.2.2.2.2.2.2 (h_count hW)) dL_law_66 ⟨zm_215, zm_218, zm_1, zm_216, zm_217, by decide⟩ hW.o (by decide) zp_X6_count rfl (Nat.le_of_ble_eq_true rfl) (by omega) (by omega) ?_
    refine x_istore dL_law_69 (by decide) rfl rfl ?_
    refine x_aload_n dL_law_71 rfl ?_
    refine x_aload_n dL_law_72 rfl ?_
    refine x_iconst (v := (nI 3)) dL_law_73 (by decide) ?_
    refine x_iload dL_law_74 rfl ?_
    refine x_imulN dL_law_76 ?_
    refine x_callSE (k_L_cell hL (j := 3 * i) (by omega)) dL_law_77 ⟨zm_284, zm_286, zm_0, zm_285⟩  (by decide) zp_L_cell (Nat.le_of_ble_eq_true rfl) (by omega) (by omega) (fun r_77 hh_77 sz_77 hp_77 => ?_) rfl
    obtain ⟨er_77, eh_77, es_77⟩ := hp_77
    subst er_77 eh_77 es_77
    refine x_bipush (v := (nI 16)) dL_law_80 (by decide) ?_
    refine x_callSR (k_L_low (n := 16) (by omega) (by omega)) dL_law_82 ⟨zm_288, zm_290, zm_0, zm_289⟩  (by decide) zp_L_low rfl (Nat.le_of_ble_eq_true rfl) (by omega) (by omega) ?_
    refine x_aload_n dL_law_85 rfl ?_
    refine x_iconst (v := (nI 3)) dL_law_86 (by decide) ?_
    refine x_iload dL_law_87 rfl ?_
    refine x_imulN dL_law_89 ?_
    refine x_iconst (v := (nI 1)) dL_law_90 (by decide) ?_
    refine x_iaddN dL_law_91 ?_
    refine x_callSE (k_L_cell hL (j := 3 * i + 1) (by omega)) dL_law_92 ⟨zm_284, zm_286, zm_0, zm_285⟩  (by decide) zp_L_cell (Nat.le_of_ble_eq_true rfl) (by omega) (by omega) (fun r_92 hh_92 sz_92 hp_92 => ?_) rfl
    obtain ⟨er_92, eh_92, es_92⟩ := hp_92
    subst er_92 eh_92 es_92
    refine x_aload_n dL_law_95 rfl ?_
    refine x_iconst (v := (nI 3)) dL_law_96 (by decide) ?_
    refine x_iload dL_law_97 rfl ?_
    refine x_imulN dL_law_99 ?_
    refine x_iconst (v := (nI 2)) dL_law_100 (by decide) ?_
    refine x_iaddN dL_law_101 ?_
    refine x_callSE (k_L_cell hL (j := 3 * i + 2) (by omega)) dL_law_102 ⟨zm_284, zm_286, zm_0, zm_285⟩  (by decide) zp_L_cell (Nat.le_of_ble_eq_true rfl) (by omega) (by omega) (fun r_102 hh_102 sz_102 hp_102 => ?_) rfl
    obtain ⟨er_102, eh_102, es_102⟩ := hp_102
    subst er_102 eh_102 es_102
    refine x_callS (k_L_change hW (lwN_lt (by omega))) dL_law_105 ⟨zm_292, zm_294, zm_0, zm_293⟩  (by decide) zp_L_change (Nat.le_of_ble_eq_true rfl) (by omega) (by omega) (fun r_105 hh_105 sz_105 hp_105 => ?_) rfl
    obtain ⟨x, er_105, hx⟩ := hp_105
    subst er_105
    rcases hx with ⟨hx1, f2, hW2⟩ | ⟨hx1, t, f2, hW2⟩
    · 
      refine x_istore dL_law_108 (by decide) rfl rfl ?_
      refine x_aload_n dL_law_110 rfl ?_
      refine x_bipush (v := (nI 9)) dL_law_111 (by decide) ?_
      refine x_callVR (ci := 6) (zC_eq v_cnt.2.2.2.2.2.2.2.2.2 (h_count hW2)) dL_law_113 ⟨zm_215, zm_218, zm_1, zm_216, zm_217, by decide⟩ hW2.o (by decide) zp_X6_count rfl (Nat.le_of_ble_eq_true rfl) (by omega) (by omega) ?_
      refine x_iload dL_law_116 rfl ?_
      refine x_if_ge (tgt := 126) dL_law_118 (by decide) (fun c_118 => absurd c_118 (fun z => absurd hx1 (Int32.not_lt.mpr z))) (fun c_118 => ?_)
      refine x_iload dL_law_121 rfl ?_
      refine x_goto (tgt := 142) dL_law_123 (by decide) ?_
      refine x_icmp_ne (tgt := 189) dL_law_142 (by decide) (fun c_142 => absurd c_142 (not_not_intro rfl)) (fun c_142 => ?_)
      exact l145_L_law hL hT hTL (by omega) hW2 (by omega) (by omega) stop
    · by_cases c6 : H.length = 6
      · 
        refine x_istore dL_law_108 (by decide) rfl rfl ?_
        refine x_aload_n dL_law_110 rfl ?_
        refine x_bipush (v := (nI 9)) dL_law_111 (by decide) ?_
        refine x_callVR (ci := 6) (zC_eq v_cnt.2.2.2.2.2.2.2.2.2 (h_count hW2)) dL_law_113 ⟨zm_215, zm_218, zm_1, zm_216, zm_217, by decide⟩ hW2.o (by decide) zp_X6_count rfl (Nat.le_of_ble_eq_true rfl) (by omega) (by omega) ?_
        refine x_iload dL_law_116 rfl ?_
        refine x_if_ge (tgt := 126) dL_law_118 (by decide) (fun c_118 => ?_) (fun c_118 => absurd c_118 (not_not_intro (Int32.not_lt.mp hx1)))
        refine x_iload dL_law_126 rfl ?_
        refine x_bipush (v := (nI 6)) dL_law_128 (by decide) ?_
        refine x_icmp_ne (tgt := 138) dL_law_130 (by decide) (fun c_130 => absurd c_130 (not_not_intro (by rw [c6]))) (fun c_130 => ?_)
        refine x_bipush (v := (nI 6)) dL_law_133 (by decide) ?_
        refine x_goto (tgt := 142) dL_law_135 (by decide) ?_
        refine x_icmp_ne (tgt := 189) dL_law_142 (by decide) (fun c_142 => absurd c_142 (not_not_intro (by rw [recN_len, if_neg (by omega)]))) (fun c_142 => ?_)
        exact l145_L_law hL hT hTL (by omega) hW2 (by omega) (by omega) stop
      · 
        refine x_istore dL_law_108 (by decide) rfl rfl ?_
        refine x_aload_n dL_law_110 rfl ?_
        refine x_bipush (v := (nI 9)) dL_law_111 (by decide) ?_
        refine x_callVR (ci := 6) (zC_eq v_cnt.2.2.2.2.2.2.2.2.2 (h_count hW2)) dL_law_113 ⟨zm_215, zm_218, zm_1, zm_216, zm_217, by decide⟩ hW2.o (by decide) zp_X6_count rfl (Nat.le_of_ble_eq_true rfl) (by omega) (by omega) ?_
        refine x_iload dL_law_116 rfl ?_
        refine x_if_ge (tgt := 126) dL_law_118 (by decide) (fun c_118 => ?_) (fun c_118 => absurd c_118 (not_not_intro (Int32.not_lt.mp hx1)))
        refine x_iload dL_law_126 rfl ?_
        refine x_bipush (v := (nI 6)) dL_law_128 (by decide) ?_
        refine x_icmp_ne (tgt := 138) dL_law_130 (by decide) (fun c_130 => ?_) (fun c_130 => absurd c_130 (fun z => c6 ((nI_eq (by omega) (by omega)).mp z)))
        refine x_iload dL_law_138 rfl ?_
        refine x_iconst (v := (nI 1)) dL_law_140 (by decide) ?_
        refine x_iaddN dL_law_141 ?_
        refine x_icmp_ne (tgt := 189) dL_law_142 (by decide) (fun c_142 => absurd c_142 (not_not_intro (by rw [recN_len, if_pos (by omega)]))) (fun c_142 => ?_)
        exact l145_L_law hL hT hTL (by omega) hW2 (by omega) (by omega) stop
theorem vS_0 : vS (fun _ => 0) := by
  have e0 : nSh (fun _ => 0) = 0 := by decide
  have e1 : nP (fun _ => 0) = 0 := by decide
  refine ⟨⟨⟨by rw [e0]; rfl, by rw [e0]; omega⟩, ⟨by rw [e1]; rfl, by rw [e1]; omega⟩, fun k r _ _ => ⟨by show (0 : Int32) = nI ((0 : Int32).toNatClampNeg); decide, by show (0 : Int32).toNatClampNeg < 2 ^ 14; decide⟩⟩, fun _ _ => rfl, fun _ _ _ _ _ => rfl, fun _ _ _ _ _ => rfl, fun _ _ => Or.inl rfl, fun j hj => absurd hj (by rw [e1]; omega), ?_⟩
  unfold wsT
  rw [e0, e1]
  decide
theorem spF_0 : spF (fun _ => 0) = sp0 := by
  funext v
  unfold spF sp0
  rw [show nP (fun _ => 0) = 0 from by decide]
  rfl
set_option maxHeartbeats 4000000 in
set_option maxRecDepth 100000 in
theorem WH_0 {G : zG} {B : Nat} {h1 : zH} (hF : fxA G B 0 0 0 (fun _ => 0) (fun _ => none) (fun _ => none) h1) (hA : shopA G (B + 1) (B + 3) (fun _ => 0) sp0 h1) (hD : shopA G (B + 1) (B + 67) (fun _ => 0) sp0 h1) : WH G B (fun _ => 0) (fun _ => 0) 0 [] h1 (B + 138) := by
  refine ⟨vG_0, fun h hm => absurd hm (List.not_mem_nil), 0, 0, fun _ => none, fun _ => none, fun _ _ => 0, ⟨⟨hF, ?_, ?_, vS_0, by omega, by omega, fun j hj => absurd hj (by omega), Nat.le_refl _, by omega, ?_⟩, fun _ => 0, sp0, ?_, hD⟩, rfl, fun j hj => absurd hj (by omega)⟩
  · rw [spF_0]
    exact hA
  · have hn : ∀ i a, adF (fun _ => none) (fun _ => none) i = some a → False := by
      intro i a h
      unfold adF at h
      split at h <;> cases h
    exact ⟨fun i a hi h => (hn i a h).elim, fun i j a b hi hj hij h => (hn i a h).elim⟩
  · exact fun j hj => absurd hj (by omega)
  · intro j hj
    rw [← spF_0]
    exact spF_36 hj
set_option maxHeartbeats 4000000 in
set_option maxRecDepth 100000 in
theorem law_begin {b L : Nat} {xs : Nat → Int32} {G : zG} {B : Nat} (hL : L ≤ 260) : xS (scE G b L xs) ML_law G 13 12451 100725 0 0 (fun _ => none) B 0 [some (.ref b), none, none, none, none, none, none] [] lwQ := by
  refine x_new (ci := 6) (fs := [.null, .null, .null, .null, .null, .null, .null]) dL_law_0 ⟨by decide, zm_15, zm_16, zm_1⟩ (by decide) (by decide) (by decide) ?_
  refine x_dup dL_law_3 rfl ?_
  refine x_callI (k_X6_init (zup_eq _ _ _)) dL_law_4 ⟨zm_17, zm_19, zm_1, zm_18, rfl⟩ rfl (by decide) zp_X6_init (Nat.le_of_ble_eq_true rfl) (Nat.le_of_ble_eq_true rfl) (Nat.le_of_ble_eq_true rfl) (fun r_4 hh_4 sz_4 hp_4 => ?_) rfl
  obtain ⟨er_4, es_4, hF, hA, hD, -⟩ := hp_4
  subst er_4 es_4
  have hW := WH_0 hF hA hD
  refine x_astore_n dL_law_7 (by decide) rfl rfl ?_
  refine x_aload_n dL_law_8 rfl ?_
  refine x_iconst (v := (nI 0)) dL_law_9 (by decide) ?_
  refine x_callS (k_L_holds hW) dL_law_10 ⟨zm_570, zm_572, zm_0, zm_571⟩  (by decide) zp_L_holds (Nat.le_of_ble_eq_true rfl) (Nat.le_of_ble_eq_true rfl) (Nat.le_of_ble_eq_true rfl) (fun r_10 hh_10 sz_10 hp_10 => ?_) rfl
  obtain ⟨er_10, hW2⟩ := hp_10
  subst er_10
  refine x_if_eq (tgt := 29) dL_law_13 (by decide) (fun c_13 => absurd c_13 (by decide)) (fun c_13 => ?_)
  refine x_aload_n dL_law_16 rfl ?_
  refine x_callV (ci := 6) (h_undo0 hW2) dL_law_17 ⟨zm_261, zm_264, zm_1, zm_262, zm_263, by decide⟩ hW2.o (by decide) zp_X6_undo (Nat.le_of_ble_eq_true rfl) (Nat.le_of_ble_eq_true rfl) (Nat.le_of_ble_eq_true rfl) (fun r_17 hh_17 sz_17 hp_17 => ?_) rfl
  obtain ⟨er_17, hW3⟩ := hp_17
  subst er_17
  refine x_bipush (v := (-5)) dL_law_20 (by decide) ?_
  refine x_icmp_ne (tgt := 29) dL_law_22 (by decide) (fun c_22 => absurd c_22 (not_not_intro rfl)) (fun c_22 => ?_)
  refine x_iconst (v := (nI 1)) dL_law_25 (by decide) ?_
  refine x_goto (tgt := 30) dL_law_26 (by decide) ?_
  refine x_istore_n dL_law_30 (by decide) rfl rfl ?_
  refine x_aload_n dL_law_31 rfl ?_
  refine x_slen dL_law_32 ?_
  refine x_iconst (v := (nI 3)) dL_law_33 (by decide) ?_
  refine x_idivN dL_law_34 (by omega) (by omega) (by omega) ?_
  by_cases c24 : 24 < L / 3
  · 
    refine x_bipush (v := (nI 24)) dL_law_35 (by decide) ?_
    refine x_icmp_le (tgt := 45) dL_law_37 (by decide) (fun c_37 => absurd c_37 (nI_ge (by omega) (by omega))) (fun c_37 => ?_)
    refine x_bipush (v := (nI 24)) dL_law_40 (by decide) ?_
    refine x_goto (tgt := 49) dL_law_42 (by decide) ?_
    refine x_istore_n dL_law_49 (by decide) rfl rfl ?_
    refine x_iconst (v := (nI 0)) dL_law_50 (by decide) ?_
    refine x_istore dL_law_51 (by decide) rfl rfl ?_
    exact law_loop hL (T := 24) (by omega) (by omega) _ 0 _ _ _ _ _ _ (Nat.zero_add _) ⟨⟨_, _, _, hW3⟩, Nat.le_of_ble_eq_true rfl, Nat.le_of_ble_eq_true rfl⟩
  · 
    refine x_bipush (v := (nI 24)) dL_law_35 (by decide) ?_
    refine x_icmp_le (tgt := 45) dL_law_37 (by decide) (fun c_37 => ?_) (fun c_37 => absurd c_37 (not_not_intro (nI_le (by omega) (by omega))))
    refine x_aload_n dL_law_45 rfl ?_
    refine x_slen dL_law_46 ?_
    refine x_iconst (v := (nI 3)) dL_law_47 (by decide) ?_
    refine x_idivN dL_law_48 (by omega) (by omega) (by omega) ?_
    refine x_istore_n dL_law_49 (by decide) rfl rfl ?_
    refine x_iconst (v := (nI 0)) dL_law_50 (by decide) ?_
    refine x_istore dL_law_51 (by decide) rfl rfl ?_
    exact law_loop hL (T := L / 3) (by omega) (by omega) _ 0 _ _ _ _ _ _ (Nat.zero_add _) ⟨⟨_, _, _, hW3⟩, Nat.le_of_ble_eq_true rfl, Nat.le_of_ble_eq_true rfl⟩
