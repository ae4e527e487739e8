section Z22
variable {M : zM} {G : zG} {d mc ms k n : Nat} {hh : zH} {sz : Nat} {pc : Nat} {lv : List (Option Value)} {st rest : List Value} {Post : Option Value → zH → Nat → Nat → Nat → Prop} {a b : Nat}
theorem z_lushrN (hd : decode M.2.1 pc = .ok (.lushr, 1)) (ha : a < 2 ^ 64) (hb : b < 64) (kk : zS M G d mc ms k n hh sz (pc + 1) lv (.long (lN (a / 2 ^ b)) :: st) Post) : zS M G d mc ms k n hh sz pc lv (.int (nI b) :: .long (lN a) :: st) Post := z_lushr hd (by rw [wb_shr ha hb]; exact kk)
theorem z_land255 {y : Int64} (hd : decode M.2.1 pc = .ok (.land, 1)) (hy : y = lN (2 ^ 8 - 1)) (ha : a < 2 ^ 64) (kk : zS M G d mc ms k n hh sz (pc + 1) lv (.long (lN (a % 2 ^ 8)) :: st) Post) : zS M G d mc ms k n hh sz pc lv (.long y :: .long (lN a) :: st) Post := z_land hd (by rw [hy, wb_mask ha (by omega)]; exact kk)
theorem z_l2iN (hd : decode M.2.1 pc = .ok (.l2i, 1)) (kk : zS M G d mc ms k n hh sz (pc + 1) lv (.int (nI a) :: st) Post) : zS M G d mc ms k n hh sz pc lv (.long (lN a) :: st) Post := z_l2i hd (by rw [lN_i]; exact kk)
end Z22
theorem lN_z {a : Nat} (ha : a < 2 ^ 64) : lg_cmp (lN a) 0 = 0 ↔ a = 0 := by
  have e : (lN a = 0) ↔ a = 0 := by
    constructor
    · intro h
      have h1 := congrArg (fun x : Int64 => x.toBitVec.toNat) h
      simp only [wb_tn ha] at h1
      exact h1
    · rintro rfl; rfl
  rw [← e]
  unfold lg_cmp
  by_cases h1 : lN a > 0
  · rw [if_pos h1]
    constructor
    · intro h; exact absurd h (by decide)
    · intro h; rw [h] at h1; exact absurd h1 (by decide)
  · rw [if_neg h1]
    by_cases h2 : lN a = 0
    · rw [if_pos h2]; exact ⟨fun _ => h2, fun _ => rfl⟩
    · rw [if_neg h2]; exact ⟨fun h => absurd h (by decide), fun h => absurd h h2⟩
/-- the 8 bits at k, whether there are no more from k on, whether they are a code -/
def chB (n k : Nat) : Nat := n / 2 ^ (8 * k) % 2 ^ 8
def isE (n k : Nat) : Bool := decide (0 < k ∧ n / 2 ^ (8 * k) = 0)
def isG (n k : Nat) : Bool := decide (33 ≤ chB n k ∧ chB n k ≤ 126)
def puB (n : Nat) : Nat → Bool
  | 0 => false
  | i + 1 => puB n i || (!isE n i && !isG n i)
def puM (n : Nat) : Nat → Nat
  | 0 => 0
  | i + 1 => puM n i + (if isE n i = true then 0 else 1)
/-- the pad behind i characters, laid from the last one on -/
def pdA (pad : Nat → Int32) (n e : Nat) (i : Nat) : Nat → Int32 := fun j => if e ≤ j + i ∧ j < e then nI (chB n (e - 1 - j)) else pad j
theorem pdA_0 {pad : Nat → Int32} {n e : Nat} : pdA pad n e 0 = pad := by
  funext j
  unfold pdA
  rw [if_neg (by omega)]
theorem pdA_step {pad : Nat → Int32} {n e i : Nat} (h : i < e) : upd (pdA pad n e i) (e - 1 - i) (nI (chB n i)) = pdA pad n e (i + 1) := by
  funext j
  unfold upd pdA
  by_cases c : j = e - 1 - i
  · rw [if_pos c, if_pos (by omega), show e - 1 - j = i by omega]
  · rw [if_neg c]
    by_cases c2 : e ≤ j + i ∧ j < e
    · rw [if_pos c2, if_pos (by omega)]
    · rw [if_neg c2, if_neg (by omega)]
theorem puM_le {n : Nat} : ∀ i, puM n i ≤ i
  | 0 => Nat.le_refl _
  | i + 1 => by rw [puM]; have := puM_le (n := n) i; split <;> omega
theorem puM_pos {n : Nat} : ∀ i, 0 < i → 0 < puM n i
  | 0, h => absurd h (by omega)
  | 1, _ => by
    have e : isE n 0 = false := by unfold isE; exact decide_eq_false (fun h => absurd h.1 (by omega))
    rw [puM, e]; exact Nat.succ_pos _
  | i + 2, _ => by rw [puM]; have := puM_pos (n := n) (i + 1) (by omega); omega
def o_put (n L : Nat) : Int32 := if puB n 8 = true then -2 else if 80 < L + puM n 8 then -4 else nI (L + puM n 8)
theorem kn_in2 {G : zG} {hh : zH} {sz : Nat} {x a b : Nat} (ha : a < 2 ^ 31) (hb : b < 2 ^ 31) (hx : x < 2 ^ 31) : zC G 0 MX7_in yX7_in [.int (nI x), .int (nI a), .int (nI b)] hh sz 0 0 (zR (.int (zb (decide (a ≤ x ∧ x ≤ b)))) hh sz) :=
  zC_eq (by rw [in_of (nI x) ha hb, nI_t hx]; congr 2; exact propext (by omega)) k_X7_in
def zPut (n L : Nat) (G : zG) (mo : Nat) (s : Nat → Int32) (τ : Nat → Nat → Int32) (kp : Int32) (hh : zH) (sz : Nat) : Option Value → zH → Nat → Prop :=
  if puB n 8 = true then zJ (-2) G mo s τ kp (nI L) hh sz else if 80 < L + puM n 8 then zJ (-4) G mo s τ kp (nI L) hh sz else zJ (nI (L + puM n 8)) G mo s (mu τ 5 (pdA (τ 5) n (L + puM n 8) (puM n 8))) kp (nI (L + puM n 8)) hh sz
set_option maxHeartbeats 4000000 in
set_option maxRecDepth 100000 in
theorem k_X7_put {G : zG} {hh : zH} {sz mo : Nat} {s fo : Nat → Int32} {τ : Nat → Nat → Int32} {kp : Int32} {n L : Nat} (hn : n < 2 ^ 64) (hL : L ≤ 80) : zC G 1 MX7_put yX7_put [.ref mo, .long (lN n)] (mq G mo s fo τ kp (nI L) hh) sz 0 0 (zPut n L G mo s τ kp hh sz) := by
  refine z_intro _ rfl zy_X7_put (Nat.le_of_ble_eq_true rfl) ?_
  refine z_iconst (v := (nI 0)) dX7_put_0 (by decide) ?_
  refine z_istore_n dX7_put_1 (by decide) rfl rfl ?_
  refine z_iconst (v := (nI 0)) dX7_put_2 (by decide) ?_
  refine z_istore dX7_put_3 (by decide) rfl rfl ?_
  refine z_iconst (v := (nI 0)) dX7_put_5 (by decide) ?_
  refine z_istore dX7_put_6 (by decide) rfl rfl ?_
  have L1 : ∀ (g i : Nat) (x : Int32) (p6 p7 : Option Value), i + g = 8 → x = zb (puB n i) → zS MX7_put G 1 0 0 0 0 (mq G mo s fo τ kp (nI L) hh) sz 8 [some (.ref mo), some (.long (lN n)), none, some (.int (nI (puM n i))), some (.int x), some (.int (nI i)), p6, p7] [] (fun rr hh' ss' kk' nn' => zPut n L G mo s τ kp hh sz rr hh' ss' ∧ kk' ≤ 0 ∧ nn' ≤ 0) := by
    intro g; induction g with
    | zero =>
      intro i x p6 p7 hi hx
      have ei : i = 8 := by omega
      subst ei
      refine z_iload dX7_put_8 rfl ?_
      refine z_bipush (v := (nI 8)) dX7_put_10 (by decide) ?_
      refine z_icmp_ge (tgt := 101) dX7_put_12 (by decide) (fun c_12 => ?_) (fun c_12 => absurd c_12 (not_not_intro (nI_le (by omega) (by omega))))
      refine z_iload dX7_put_101 rfl ?_
      refine z_if_eq (tgt := 109) dX7_put_103 (by decide) (fun c_103 => ?_) (fun c_103 => ?_)
      · refine z_aload_n dX7_put_109 rfl ?_
        refine z_get (ci := 7) (f := 7) dX7_put_110 ⟨by decide, by decide, zm_670, rfl⟩ mq_o rfl ?_
        refine z_iload_n dX7_put_113 rfl ?_
        refine z_iaddN dX7_put_114 ?_
        refine z_bipush (v := (nI 80)) dX7_put_115 (by decide) ?_
        refine z_icmp_le (tgt := 123) dX7_put_117 (by decide) (fun c_117 => ?_) (fun c_117 => ?_)
        · have hb8 : ¬ puB n 8 = true := by rw [hx] at c_103; rw [zb_0 c_103]; decide
          have h80 : ¬ 80 < L + puM n 8 := fun z => nI_ge z (by have := puM_le (n := n) 8; omega) c_117
          refine z_iconst (v := (nI 0)) dX7_put_123 (by decide) ?_
          refine z_istore dX7_put_124 (by decide) rfl rfl ?_
          have hM := puM_le (n := n) 8
          have L2 : ∀ (g i : Nat), i + g = puM n 8 → zS MX7_put G 1 0 0 0 0 (mq G mo s fo (mu τ 5 (pdA (τ 5) n (L + puM n 8) i)) kp (nI L) hh) sz 126 [some (.ref mo), some (.long (lN n)), none, some (.int (nI (puM n 8))), some (.int x), some (.int (nI i)), p6, p7] [] (fun rr hh' ss' kk' nn' => zPut n L G mo s τ kp hh sz rr hh' ss' ∧ kk' ≤ 0 ∧ nn' ≤ 0) := by
            intro g; induction g with
            | zero =>
              intro i hi
              have ei : i = puM n 8 := by omega
              subst ei
              refine z_iload dX7_put_126 rfl ?_
              refine z_iload_n dX7_put_128 rfl ?_
              refine z_icmp_ge (tgt := 166) dX7_put_129 (by decide) (fun c_129 => ?_) (fun c_129 => absurd c_129 (not_not_intro (nI_le (by omega) (by omega))))
              refine z_aload_n dX7_put_166 rfl ?_
              refine z_dup dX7_put_167 rfl ?_
              refine z_get (ci := 7) (f := 7) dX7_put_168 ⟨by decide, by decide, zm_670, rfl⟩ mq_o rfl ?_
              refine z_iload_n dX7_put_171 rfl ?_
              refine z_iaddN dX7_put_172 ?_
              refine z_put (ci := 7) (f := 7) dX7_put_173 ⟨by decide, by decide, zm_670, rfl⟩ mq_o rfl rfl rfl (Nat.le_of_ble_eq_true rfl) ?_
              refine z_heap mq_ul ?_
              refine z_aload_n dX7_put_176 rfl ?_
              refine z_get (ci := 7) (f := 7) dX7_put_177 ⟨by decide, by decide, zm_670, rfl⟩ mq_o rfl ?_
              unfold zPut
              rw [if_neg hb8, if_neg h80]
              exact z_iretJ fo _ dX7_put_180 rfl rfl rfl MJ.rfl rfl (Nat.le_refl _) (Nat.le_refl _)
            | succ g ih =>
              intro i hi
              refine z_iload dX7_put_126 rfl ?_
              refine z_iload_n dX7_put_128 rfl ?_
              refine z_icmp_ge (tgt := 166) dX7_put_129 (by decide) (fun c_129 => absurd c_129 (nI_ge (by omega) (by omega))) (fun c_129 => ?_)
              refine z_aload_n dX7_put_132 rfl ?_
              refine z_get (ci := 7) (f := 6) dX7_put_133 ⟨by decide, by decide, zm_669, rfl⟩ mq_o rfl ?_
              refine z_aload_n dX7_put_136 rfl ?_
              refine z_get (ci := 7) (f := 7) dX7_put_137 ⟨by decide, by decide, zm_670, rfl⟩ mq_o rfl ?_
              refine z_iload_n dX7_put_140 rfl ?_
              refine z_iaddN dX7_put_141 ?_
              refine z_iconst (v := (nI 1)) dX7_put_142 (by decide) ?_
              refine z_isubN dX7_put_143 (by omega) ?_
              refine z_iload dX7_put_144 rfl ?_
              refine z_isubN dX7_put_146 (by omega) ?_
              refine z_lload_n dX7_put_147 rfl ?_
              refine z_bipush (v := (nI 8)) dX7_put_148 (by decide) ?_
              refine z_iload dX7_put_150 rfl ?_
              refine z_imulN dX7_put_152 ?_
              refine z_lushrN dX7_put_153 hn (by omega) ?_
              refine z_ldc2 dX7_put_154 zm_903 ?_
              refine z_land255 dX7_put_157 rfl (Nat.lt_of_le_of_lt (Nat.div_le_self _ _) hn) ?_
              refine z_l2iN dX7_put_158 ?_
              refine z_iastN (j := L + puM n 8 - 1 - i) dX7_put_159 mq_a5 rfl (by omega) (by decide) ?_
              refine z_heap mq_u5 ?_
              refine z_heap (show _ = mq G mo s fo (mu τ 5 (pdA (τ 5) n (L + puM n 8) (i + 1))) kp (nI L) hh from by rw [mu_eq, mu_mu, ← pdA_step (by omega)]; rfl) ?_
              refine z_iincU dX7_put_160 rfl (by decide) rfl rfl ?_
              refine z_goto (tgt := 126) dX7_put_163 (by decide) ?_
              exact ih (i + 1) (by omega)
          refine z_heap (show _ = mq G mo s fo (mu τ 5 (pdA (τ 5) n (L + puM n 8) 0)) kp (nI L) hh from by rw [pdA_0, mu_self]) ?_
          exact L2 (puM n 8) 0 (by omega)
        · refine z_bipush (v := (-4)) dX7_put_120 (by decide) ?_
          have hM := puM_le (n := n) 8
          have h80 : 80 < L + puM n 8 := by rcases Nat.lt_or_ge 80 (L + puM n 8) with z | z; exact z; exact absurd (nI_le z (by omega)) c_117
          unfold zPut
          rw [if_neg (by rw [hx] at c_103; rw [zb_0 c_103]; decide), if_pos h80]
          exact z_iretJ fo τ dX7_put_122 rfl rfl rfl MJ.rfl rfl (Nat.le_refl _) (Nat.le_refl _)
      · refine z_bipush (v := (-2)) dX7_put_106 (by decide) ?_
        unfold zPut
        rw [if_pos (by rw [hx] at c_103; exact zb_1 c_103)]
        exact z_iretJ fo τ dX7_put_108 rfl rfl rfl MJ.rfl rfl (Nat.le_refl _) (Nat.le_refl _)
    | succ g ih =>
      intro i x p6 p7 hi hx
      refine z_iload dX7_put_8 rfl ?_
      refine z_bipush (v := (nI 8)) dX7_put_10 (by decide) ?_
      refine z_icmp_ge (tgt := 101) dX7_put_12 (by decide) (fun c_12 => absurd c_12 (nI_ge (by omega) (by omega))) (fun c_12 => ?_)
      refine z_lload_n dX7_put_15 rfl ?_
      refine z_bipush (v := (nI 8)) dX7_put_16 (by decide) ?_
      refine z_iload dX7_put_18 rfl ?_
      refine z_imulN dX7_put_20 ?_
      refine z_lushrN dX7_put_21 hn (by omega) ?_
      refine z_ldc2 dX7_put_22 zm_903 ?_
      refine z_land255 dX7_put_25 rfl (Nat.lt_of_le_of_lt (Nat.div_le_self _ _) hn) ?_
      refine z_l2iN dX7_put_26 ?_
      refine z_istore dX7_put_27 (by decide) rfl rfl ?_
      refine z_iload dX7_put_29 rfl ?_
      refine z_if_le (tgt := 50) dX7_put_31 (by decide) (fun c_31 => ?_) (fun c_31 => ?_)
      · refine z_iconst (v := (nI 0)) dX7_put_50 (by decide) ?_
        refine z_istore dX7_put_51 (by decide) rfl rfl ?_
        refine z_iload dX7_put_53 rfl ?_
        refine z_if_ne (tgt := 75) dX7_put_55 (by decide) (fun c_55 => ?_) (fun c_55 => ?_)
        · refine z_iconst (v := (nI 1)) dX7_put_75 (by decide) ?_
          refine z_goto (tgt := 80) dX7_put_76 (by decide) ?_
          refine z_istore dX7_put_80 (by decide) rfl rfl ?_
          refine z_iload_n dX7_put_82 rfl ?_
          refine z_iload dX7_put_83 rfl ?_
          refine z_if_eq (tgt := 92) dX7_put_85 (by decide) (fun c_85 => ?_) (fun c_85 => absurd c_85 (by decide))
          refine z_iconst (v := (nI 1)) dX7_put_92 (by decide) ?_
          refine z_iaddN dX7_put_93 ?_
          refine z_istore_n dX7_put_94 (by decide) rfl rfl ?_
          refine z_iincU dX7_put_95 rfl (by decide) rfl rfl ?_
          refine z_goto (tgt := 8) dX7_put_98 (by decide) ?_
          have hE : isE n i = false := by unfold isE; exact decide_eq_false (fun z => absurd c_31 (nI_nle z.1 (by omega)))
          have hm : puM n (i + 1) = puM n i + 1 := by rw [puM, hE]; rfl
          rw [← hm]
          exact ih (i + 1) _ _ _ (by omega) (by rw [puB, show puB n i = true from by rw [hx] at c_55; exact zb_1 c_55]; rfl)
        · refine z_iload dX7_put_58 rfl ?_
          refine z_if_ne (tgt := 79) dX7_put_60 (by decide) (fun c_60 => absurd c_60 (by decide)) (fun c_60 => ?_)
          refine z_iload dX7_put_63 rfl ?_
          refine z_bipush (v := (nI 33)) dX7_put_65 (by decide) ?_
          refine z_bipush (v := (nI 126)) dX7_put_67 (by decide) ?_
          refine z_callSR (kn_in2 (by omega) (by omega) (Nat.lt_of_lt_of_le (Nat.mod_lt _ (by decide)) (by decide))) dX7_put_69 ⟨zm_702, zm_704, zm_8, zm_703⟩  (by decide) zp_X7_in rfl (Nat.le_of_ble_eq_true rfl) (Nat.le_refl _) (Nat.le_refl _) ?_
          rw [show decide (33 ≤ n / 2 ^ (8 * i) % 2 ^ 8 ∧ n / 2 ^ (8 * i) % 2 ^ 8 ≤ 126) = isG n i from rfl]
          refine z_if_ne (tgt := 79) dX7_put_72 (by decide) (fun c_72 => ?_) (fun c_72 => ?_)
          · refine z_iconst (v := (nI 0)) dX7_put_79 (by decide) ?_
            refine z_istore dX7_put_80 (by decide) rfl rfl ?_
            refine z_iload_n dX7_put_82 rfl ?_
            refine z_iload dX7_put_83 rfl ?_
            refine z_if_eq (tgt := 92) dX7_put_85 (by decide) (fun c_85 => ?_) (fun c_85 => absurd c_85 (by decide))
            refine z_iconst (v := (nI 1)) dX7_put_92 (by decide) ?_
            refine z_iaddN dX7_put_93 ?_
            refine z_istore_n dX7_put_94 (by decide) rfl rfl ?_
            refine z_iincU dX7_put_95 rfl (by decide) rfl rfl ?_
            refine z_goto (tgt := 8) dX7_put_98 (by decide) ?_
            have hE : isE n i = false := by unfold isE; exact decide_eq_false (fun z => absurd c_31 (nI_nle z.1 (by omega)))
            have hm : puM n (i + 1) = puM n i + 1 := by rw [puM, hE]; rfl
            rw [← hm]
            exact ih (i + 1) _ _ _ (by omega) (by rw [puB, show puB n i = false from by rw [hx] at c_55; exact zb_0 c_55, hE, zb_1 c_72]; rfl)
          · refine z_iconst (v := (nI 1)) dX7_put_75 (by decide) ?_
            refine z_goto (tgt := 80) dX7_put_76 (by decide) ?_
            refine z_istore dX7_put_80 (by decide) rfl rfl ?_
            refine z_iload_n dX7_put_82 rfl ?_
            refine z_iload dX7_put_83 rfl ?_
            refine z_if_eq (tgt := 92) dX7_put_85 (by decide) (fun c_85 => ?_) (fun c_85 => absurd c_85 (by decide))
            refine z_iconst (v := (nI 1)) dX7_put_92 (by decide) ?_
            refine z_iaddN dX7_put_93 ?_
            refine z_istore_n dX7_put_94 (by decide) rfl rfl ?_
            refine z_iincU dX7_put_95 rfl (by decide) rfl rfl ?_
            refine z_goto (tgt := 8) dX7_put_98 (by decide) ?_
            have hE : isE n i = false := by unfold isE; exact decide_eq_false (fun z => absurd c_31 (nI_nle z.1 (by omega)))
            have hm : puM n (i + 1) = puM n i + 1 := by rw [puM, hE]; rfl
            rw [← hm]
            exact ih (i + 1) _ _ _ (by omega) (by rw [puB, show puB n i = false from by rw [hx] at c_55; exact zb_0 c_55, hE, zb_0 c_72]; rfl)
      · refine z_lload_n dX7_put_34 rfl ?_
        refine z_bipush (v := (nI 8)) dX7_put_35 (by decide) ?_
        refine z_iload dX7_put_37 rfl ?_
        refine z_imulN dX7_put_39 ?_
        refine z_lushrN dX7_put_40 hn (by omega) ?_
        refine z_lconst (v := 0) dX7_put_41 (by decide) ?_
        refine z_lcmp dX7_put_42 ?_
        refine z_if_ne (tgt := 50) dX7_put_43 (by decide) (fun c_43 => ?_) (fun c_43 => ?_)
        · refine z_iconst (v := (nI 0)) dX7_put_50 (by decide) ?_
          refine z_istore dX7_put_51 (by decide) rfl rfl ?_
          refine z_iload dX7_put_53 rfl ?_
          refine z_if_ne (tgt := 75) dX7_put_55 (by decide) (fun c_55 => ?_) (fun c_55 => ?_)
          · refine z_iconst (v := (nI 1)) dX7_put_75 (by decide) ?_
            refine z_goto (tgt := 80) dX7_put_76 (by decide) ?_
            refine z_istore dX7_put_80 (by decide) rfl rfl ?_
            refine z_iload_n dX7_put_82 rfl ?_
            refine z_iload dX7_put_83 rfl ?_
            refine z_if_eq (tgt := 92) dX7_put_85 (by decide) (fun c_85 => ?_) (fun c_85 => absurd c_85 (by decide))
            refine z_iconst (v := (nI 1)) dX7_put_92 (by decide) ?_
            refine z_iaddN dX7_put_93 ?_
            refine z_istore_n dX7_put_94 (by decide) rfl rfl ?_
            refine z_iincU dX7_put_95 rfl (by decide) rfl rfl ?_
            refine z_goto (tgt := 8) dX7_put_98 (by decide) ?_
            have hE : isE n i = false := by unfold isE; exact decide_eq_false (fun z => c_43 ((lN_z (Nat.lt_of_le_of_lt (Nat.div_le_self _ _) hn)).mpr z.2))
            have hm : puM n (i + 1) = puM n i + 1 := by rw [puM, hE]; rfl
            rw [← hm]
            exact ih (i + 1) _ _ _ (by omega) (by rw [puB, show puB n i = true from by rw [hx] at c_55; exact zb_1 c_55]; rfl)
          · refine z_iload dX7_put_58 rfl ?_
            refine z_if_ne (tgt := 79) dX7_put_60 (by decide) (fun c_60 => absurd c_60 (by decide)) (fun c_60 => ?_)
            refine z_iload dX7_put_63 rfl ?_
            refine z_bipush (v := (nI 33)) dX7_put_65 (by decide) ?_
            refine z_bipush (v := (nI 126)) dX7_put_67 (by decide) ?_
            refine z_callSR (kn_in2 (by omega) (by omega) (Nat.lt_of_lt_of_le (Nat.mod_lt _ (by decide)) (by decide))) dX7_put_69 ⟨zm_702, zm_704, zm_8, zm_703⟩  (by decide) zp_X7_in rfl (Nat.le_of_ble_eq_true rfl) (Nat.le_refl _) (Nat.le_refl _) ?_
            rw [show decide (33 ≤ n / 2 ^ (8 * i) % 2 ^ 8 ∧ n / 2 ^ (8 * i) % 2 ^ 8 ≤ 126) = isG n i from rfl]
            refine z_if_ne (tgt := 79) dX7_put_72 (by decide) (fun c_72 => ?_) (fun c_72 => ?_)
            · refine z_iconst (v := (nI 0)) dX7_put_79 (by decide) ?_
              refine z_istore dX7_put_80 (by decide) rfl rfl ?_
              refine z_iload_n dX7_put_82 rfl ?_
              refine z_iload dX7_put_83 rfl ?_
              refine z_if_eq (tgt := 92) dX7_put_85 (by decide) (fun c_85 => ?_) (fun c_85 => absurd c_85 (by decide))
              refine z_iconst (v := (nI 1)) dX7_put_92 (by decide) ?_
              refine z_iaddN dX7_put_93 ?_
              refine z_istore_n dX7_put_94 (by decide) rfl rfl ?_
              refine z_iincU dX7_put_95 rfl (by decide) rfl rfl ?_
              refine z_goto (tgt := 8) dX7_put_98 (by decide) ?_
              have hE : isE n i = false := by unfold isE; exact decide_eq_false (fun z => c_43 ((lN_z (Nat.lt_of_le_of_lt (Nat.div_le_self _ _) hn)).mpr z.2))
              have hm : puM n (i + 1) = puM n i + 1 := by rw [puM, hE]; rfl
              rw [← hm]
              exact ih (i + 1) _ _ _ (by omega) (by rw [puB, show puB n i = false from by rw [hx] at c_55; exact zb_0 c_55, hE, zb_1 c_72]; rfl)
            · refine z_iconst (v := (nI 1)) dX7_put_75 (by decide) ?_
              refine z_goto (tgt := 80) dX7_put_76 (by decide) ?_
              refine z_istore dX7_put_80 (by decide) rfl rfl ?_
              refine z_iload_n dX7_put_82 rfl ?_
              refine z_iload dX7_put_83 rfl ?_
              refine z_if_eq (tgt := 92) dX7_put_85 (by decide) (fun c_85 => ?_) (fun c_85 => absurd c_85 (by decide))
              refine z_iconst (v := (nI 1)) dX7_put_92 (by decide) ?_
              refine z_iaddN dX7_put_93 ?_
              refine z_istore_n dX7_put_94 (by decide) rfl rfl ?_
              refine z_iincU dX7_put_95 rfl (by decide) rfl rfl ?_
              refine z_goto (tgt := 8) dX7_put_98 (by decide) ?_
              have hE : isE n i = false := by unfold isE; exact decide_eq_false (fun z => c_43 ((lN_z (Nat.lt_of_le_of_lt (Nat.div_le_self _ _) hn)).mpr z.2))
              have hm : puM n (i + 1) = puM n i + 1 := by rw [puM, hE]; rfl
              rw [← hm]
              exact ih (i + 1) _ _ _ (by omega) (by rw [puB, show puB n i = false from by rw [hx] at c_55; exact zb_0 c_55, hE, zb_0 c_72]; rfl)
        · refine z_iconst (v := (nI 1)) dX7_put_46 (by decide) ?_
          refine z_goto (tgt := 51) dX7_put_47 (by decide) ?_
          refine z_istore dX7_put_51 (by decide) rfl rfl ?_
          refine z_iload dX7_put_53 rfl ?_
          refine z_if_ne (tgt := 75) dX7_put_55 (by decide) (fun c_55 => ?_) (fun c_55 => ?_)
          · refine z_iconst (v := (nI 1)) dX7_put_75 (by decide) ?_
            refine z_goto (tgt := 80) dX7_put_76 (by decide) ?_
            refine z_istore dX7_put_80 (by decide) rfl rfl ?_
            refine z_iload_n dX7_put_82 rfl ?_
            refine z_iload dX7_put_83 rfl ?_
            refine z_if_eq (tgt := 92) dX7_put_85 (by decide) (fun c_85 => absurd c_85 (by decide)) (fun c_85 => ?_)
            refine z_iconst (v := (nI 0)) dX7_put_88 (by decide) ?_
            refine z_goto (tgt := 93) dX7_put_89 (by decide) ?_
            refine z_iaddN dX7_put_93 ?_
            refine z_istore_n dX7_put_94 (by decide) rfl rfl ?_
            refine z_iincU dX7_put_95 rfl (by decide) rfl rfl ?_
            refine z_goto (tgt := 8) dX7_put_98 (by decide) ?_
            have hE : isE n i = true := by unfold isE; exact decide_eq_true ⟨by rcases Nat.eq_zero_or_pos i with z | z; exact absurd (by rw [z]; decide) c_31; exact z, (lN_z (Nat.lt_of_le_of_lt (Nat.div_le_self _ _) hn)).mp c_43⟩
            have hm : puM n (i + 1) = puM n i + 0 := by rw [puM, hE]; rfl
            rw [← hm]
            exact ih (i + 1) _ _ _ (by omega) (by rw [puB, show puB n i = true from by rw [hx] at c_55; exact zb_1 c_55]; rfl)
          · refine z_iload dX7_put_58 rfl ?_
            refine z_if_ne (tgt := 79) dX7_put_60 (by decide) (fun c_60 => ?_) (fun c_60 => absurd c_60 (by decide))
            refine z_iconst (v := (nI 0)) dX7_put_79 (by decide) ?_
            refine z_istore dX7_put_80 (by decide) rfl rfl ?_
            refine z_iload_n dX7_put_82 rfl ?_
            refine z_iload dX7_put_83 rfl ?_
            refine z_if_eq (tgt := 92) dX7_put_85 (by decide) (fun c_85 => absurd c_85 (by decide)) (fun c_85 => ?_)
            refine z_iconst (v := (nI 0)) dX7_put_88 (by decide) ?_
            refine z_goto (tgt := 93) dX7_put_89 (by decide) ?_
            refine z_iaddN dX7_put_93 ?_
            refine z_istore_n dX7_put_94 (by decide) rfl rfl ?_
            refine z_iincU dX7_put_95 rfl (by decide) rfl rfl ?_
            refine z_goto (tgt := 8) dX7_put_98 (by decide) ?_
            have hE : isE n i = true := by unfold isE; exact decide_eq_true ⟨by rcases Nat.eq_zero_or_pos i with z | z; exact absurd (by rw [z]; decide) c_31; exact z, (lN_z (Nat.lt_of_le_of_lt (Nat.div_le_self _ _) hn)).mp c_43⟩
            have hm : puM n (i + 1) = puM n i + 0 := by rw [puM, hE]; rfl
            rw [← hm]
            exact ih (i + 1) _ _ _ (by omega) (by rw [puB, show puB n i = false from by rw [hx] at c_55; exact zb_0 c_55, hE]; rfl)
  exact L1 8 0 _ _ _ (by omega) rfl
