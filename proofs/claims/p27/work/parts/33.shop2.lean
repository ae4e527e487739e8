/-- the spots of an empty shop -/
def sp0 : Nat → Int32 := fun v => if v < 36 then -6 else 0
/-- the cells of a shop that is being made: i sheets, j pieces -/
def iCell (G : zG) (sh o i j : Nat) (q : Nat → Int32) (k : Nat) : va_E :=
  if k = 1 then .inl (G.2.2.1 4, 6, .inr (.inr (.inr (.inr (fun x => if x < i then some (o + 4 + 2 * x) else none)))))
  else if k = 2 then .inl (G.2.2.1 5, 48, .inr (.inr (.inr (.inr (fun x => if x < j then some (o + 16 + x) else none)))))
  else sCell G sh o (fun _ => 0) q k
def iput (G : zG) (sh o i j m : Nat) (q : Nat → Int32) (hh : zH) : zH := fun a => if o ≤ a ∧ a < o + m then some (iCell G sh o i j q (a - o)) else hh a
theorem iput_at {G : zG} {sh o i j m : Nat} {q : Nat → Int32} {hh : zH} {k : Nat} (h : k < m) : iput G sh o i j m q hh (o + k) = some (iCell G sh o i j q k) := by
  unfold iput
  rw [if_pos (by omega), Nat.add_sub_cancel_left]
theorem iput_out {G : zG} {sh o i j m : Nat} {q : Nat → Int32} {hh : zH} {a : Nat} (h : ¬ (o ≤ a ∧ a < o + m)) : iput G sh o i j m q hh a = hh a := if_neg h
theorem rowF_0 (i : Nat) : rowF (fun _ => 0) i = fun _ => 0 := by
  funext r
  unfold rowF
  split <;> rfl
theorem iC_o {G : zG} {sh o i j k : Nat} {q : Nat → Int32} (h1 : k ≠ 1) (h2 : k ≠ 2) : iCell G sh o i j q k = sCell G sh o (fun _ => 0) q k := by
  unfold iCell
  rw [if_neg h1, if_neg h2]
theorem va_up_lt {i : Nat} {f : Nat → Nat} : va_up (fun x => if x < i then some (f x) else none) i (some (f i)) = fun x => if x < i + 1 then some (f x) else none := by
  funext x
  show (if x = i then some (f i) else if x < i then some (f x) else none) = _
  by_cases e : x = i
  · rw [if_pos e, if_pos (by omega), e]
  · rw [if_neg e]
    by_cases h : x < i
    · rw [if_pos h, if_pos (by omega)]
    · rw [if_neg h, if_neg (by omega)]
theorem iput_s {G : zG} {sh o i : Nat} {hh : zH} {E : va_E} (hi : i < 6) : zup (zup (zup (zup (iput G sh o i 0 (4 + 2 * i) (fun _ => 0) hh) (o + 4 + 2 * i) E) (o + 4 + 2 * i) (.inr (4, [.ref sh, .ref (o + 4 + 2 * i + 1), .int 0, .int 0]))) (o + 4 + 2 * i + 1) (.inl (G.2.2.1 0, 9, .inl (fun _ => 0)))) (o + 1) (.inl (G.2.2.1 4, 6, .inr (.inr (.inr (.inr (va_up (fun x => if x < i then some (o + 4 + 2 * x) else none) i (some (o + 4 + 2 * i)))))))) = iput G sh o (i + 1) 0 (4 + 2 * (i + 1)) (fun _ => 0) hh := by
  funext a
  rw [va_up_lt (f := fun x => o + 4 + 2 * x), zup_zup]
  unfold zup iput
  by_cases e1 : a = o + 1
  · rw [if_pos e1, if_pos (by omega), show a - o = 1 by omega]; rfl
  · rw [if_neg e1]
    by_cases e2 : a = o + 4 + 2 * i + 1
    · rw [if_pos e2, if_pos (by omega), show a - o = 5 + 2 * i by omega, iC_o (by omega) (by omega), sC_c hi, rowF_0]
    · rw [if_neg e2]
      by_cases e3 : a = o + 4 + 2 * i
      · rw [if_pos e3, if_pos (by omega), show a - o = 4 + 2 * i by omega, iC_o (by omega) (by omega), sC_s hi, show o + (4 + 2 * i) + 1 = o + 4 + 2 * i + 1 by omega]
      · rw [if_neg e3]
        by_cases h : o ≤ a ∧ a < o + (4 + 2 * i)
        · rw [if_pos h, if_pos (by omega)]
          congr 1
          unfold iCell
          rw [if_neg (show ¬ a - o = 1 by omega), if_neg (show ¬ a - o = 1 by omega)]
        · rw [if_neg h, if_neg (by omega)]
theorem iput_p {G : zG} {sh o i : Nat} {hh : zH} (hi : i < 48) : zup (zup (iput G sh o 6 i (16 + i) (fun _ => 0) hh) (o + 16 + i) (.inr (2, [.int 0, .int 0, .int 0, .int 0, .int 0, .int 0, .int 0]))) (o + 2) (.inl (G.2.2.1 5, 48, .inr (.inr (.inr (.inr (va_up (fun x => if x < i then some (o + 16 + x) else none) i (some (o + 16 + i)))))))) = iput G sh o 6 (i + 1) (16 + (i + 1)) (fun _ => 0) hh := by
  funext a
  rw [va_up_lt (f := fun x => o + 16 + x)]
  unfold zup iput
  by_cases e1 : a = o + 2
  · rw [if_pos e1, if_pos (by omega), show a - o = 2 by omega]; rfl
  · rw [if_neg e1]
    by_cases e3 : a = o + 16 + i
    · rw [if_pos e3, if_pos (by omega), show a - o = 16 + i by omega, iC_o (by omega) (by omega), sC_p]; rfl
    · rw [if_neg e3]
      by_cases h : o ≤ a ∧ a < o + (16 + i)
      · rw [if_pos h, if_pos (by omega)]
        congr 1
        unfold iCell
        rw [if_neg (show ¬ a - o = 2 by omega), if_neg (show ¬ a - o = 2 by omega)]
      · rw [if_neg h, if_neg (by omega)]
theorem iput_q {G : zG} {sh o : Nat} {q q2 : Nat → Int32} {hh : zH} : zup (iput G sh o 6 48 64 q hh) (o + 3) (.inl (G.2.2.1 0, 36, .inl q2)) = iput G sh o 6 48 64 q2 hh := by
  funext a
  unfold zup iput
  by_cases e1 : a = o + 3
  · rw [if_pos e1, if_pos (by omega), show a - o = 3 by omega]; rfl
  · rw [if_neg e1]
    by_cases h : o ≤ a ∧ a < o + 64
    · rw [if_pos h, if_pos h]
      congr 1
      unfold iCell
      split
      · rfl
      · split
        · rfl
        · exact sC_eq (fun _ => ⟨rfl, rfl⟩) (fun z => absurd z (by omega)) (fun _ _ _ => ⟨rfl, rfl⟩) (fun _ _ _ => rfl) (fun _ _ _ => rfl) (by omega)
    · rw [if_neg h, if_neg h]
theorem iput_end {G : zG} {sh o : Nat} {q : Nat → Int32} {hh : zH} : iput G sh o 6 48 64 q hh = sput G sh o (fun _ => 0) q hh := by
  funext a
  unfold iput sput
  split
  · congr 1
    unfold iCell
    split
    · next e => rw [e]; rfl
    · split
      · next e => rw [e]; rfl
      · rfl
  · rfl
set_option maxHeartbeats 4000000 in
set_option maxRecDepth 100000 in
theorem l3_X5_init {G : zG} {hh : zH} {sh o : Nat} : ∀ (n i : Nat), i + n = 36 → zS MX5_init G 2 63 504 (63) (504) (iput G sh o 6 48 64 (mixF (fun _ => -6) (fun _ => 0) i) hh) (o + 64) 92 [some (.ref o), some (.ref sh), some (.int (nI i))] [] (fun rr hh' ss' kk' nn' => zV (sput G sh o (fun _ => 0) sp0 hh) (o + 64) rr hh' ss' ∧ kk' ≤ 63 ∧ nn' ≤ 504) := by
  intro n; induction n with
  | zero =>
    intro i hi
    refine z_iload_n dX5_init_92 rfl ?_
    refine z_bipush (v := (nI 36)) dX5_init_93 (by decide) ?_
    refine z_icmp_ge (tgt := 112) dX5_init_95 (by decide) (fun c_95 => ?_) (fun c_95 => absurd c_95 (not_not_intro (nI_le (by omega) (by omega))))
    exact z_vretV dX5_init_112 rfl (by rw [show i = 36 by omega, iput_end]; rfl) rfl (by omega) (by omega)
  | succ n ih =>
    intro i hi
    refine z_iload_n dX5_init_92 rfl ?_
    refine z_bipush (v := (nI 36)) dX5_init_93 (by decide) ?_
    refine z_icmp_ge (tgt := 112) dX5_init_95 (by decide) (fun c_95 => absurd c_95 (nI_ge (by omega) (by omega))) (fun c_95 => ?_)
    refine z_aload_n dX5_init_98 rfl ?_
    refine z_get (ci := 5) (f := 3) dX5_init_99 ⟨by decide, by decide, zm_134, rfl⟩ (iput_at (k := 0) (by omega)) rfl ?_
    refine z_iload_n dX5_init_102 rfl ?_
    refine z_bipush (v := (-6)) dX5_init_103 (by decide) ?_
    refine z_iastN (j := i) dX5_init_105 (iput_at (k := 3) (by omega)) rfl (by omega) (by decide) ?_
    refine z_heap (iput_q.trans (show _ = iput G sh o 6 48 64 (mixF (fun _ => -6) (fun _ => 0) (i + 1)) hh from by rw [← mixF_up])) ?_
    refine z_iincU dX5_init_106 rfl (by decide) rfl rfl ?_
    refine z_goto (tgt := 92) dX5_init_109 (by decide) ?_
    exact ih (i + 1) (by omega)
set_option maxHeartbeats 4000000 in
set_option maxRecDepth 100000 in
theorem l2_X5_init {G : zG} {hh : zH} {sh o : Nat} : ∀ (n i : Nat), i + n = 48 → zS MX5_init G 2 63 504 (15 + i) (168 + 7 * i) (iput G sh o 6 i (16 + i) (fun _ => 0) hh) (o + 16 + i) 65 [some (.ref o), some (.ref sh), some (.int (nI i))] [] (fun rr hh' ss' kk' nn' => zV (sput G sh o (fun _ => 0) sp0 hh) (o + 64) rr hh' ss' ∧ kk' ≤ 63 ∧ nn' ≤ 504) := by
  intro n; induction n with
  | zero =>
    intro i hi
    refine z_iload_n dX5_init_65 rfl ?_
    refine z_bipush (v := (nI 48)) dX5_init_66 (by decide) ?_
    refine z_icmp_ge (tgt := 90) dX5_init_68 (by decide) (fun c_68 => ?_) (fun c_68 => absurd c_68 (not_not_intro (nI_le (by omega) (by omega))))
    refine z_iconst (v := (nI 0)) dX5_init_90 (by decide) ?_
    refine z_istore_n dX5_init_91 (by decide) rfl rfl ?_
    have e : i = 48 := by omega
    subst e
    exact l3_X5_init 36 0 (Nat.zero_add _)
  | succ n ih =>
    intro i hi
    refine z_iload_n dX5_init_65 rfl ?_
    refine z_bipush (v := (nI 48)) dX5_init_66 (by decide) ?_
    refine z_icmp_ge (tgt := 90) dX5_init_68 (by decide) (fun c_68 => absurd c_68 (nI_ge (by omega) (by omega))) (fun c_68 => ?_)
    refine z_aload_n dX5_init_71 rfl ?_
    refine z_get (ci := 5) (f := 2) dX5_init_72 ⟨by decide, by decide, zm_133, rfl⟩ (iput_at (k := 0) (by omega)) rfl ?_
    refine z_iload_n dX5_init_75 rfl ?_
    refine z_new (ci := 2) (fs := [.int 0, .int 0, .int 0, .int 0, .int 0, .int 0, .int 0]) dX5_init_76 ⟨by decide, zm_65, zm_90, zm_5⟩ (by decide) (by omega) (by show _ + 7 ≤ 504; omega) ?_
    refine z_dup dX5_init_79 rfl ?_
    refine z_callINU k_X2_init dX5_init_80 ⟨zm_91, zm_93, zm_5, zm_92, rfl⟩ rfl (by decide) zp_X2_init rfl (Nat.le_of_ble_eq_true rfl) (by omega) (by show _ + 7 + 0 ≤ 504; omega) ?_
    refine z_aastN (j := i) (t := 5) (ci := 2) dX5_init_83 ((zup_ne (by omega)).trans (iput_at (k := 2) (by omega))) (by decide) rfl (zup_eq _ _ _) rfl (by omega) (by decide) ?_
    refine z_heap (iput_p (by omega)) ?_
    refine z_iincU dX5_init_84 rfl (by decide) rfl rfl ?_
    refine z_goto (tgt := 65) dX5_init_87 (by decide) ?_
    have e := ih (i + 1) (by omega)
    rw [show 15 + (i + 1) = 15 + i + 1 by omega, show 168 + 7 * (i + 1) = 168 + 7 * i + 7 by omega, show o + 16 + (i + 1) = o + 16 + i + 1 by omega] at e
    exact e
set_option maxHeartbeats 4000000 in
set_option maxRecDepth 100000 in
theorem l1_X5_init {G : zG} {hh : zH} {sh o : Nat} : ∀ (n i : Nat), i + n = 6 → zS MX5_init G 2 63 504 (3 + 2 * i) (90 + 13 * i) (iput G sh o i 0 (4 + 2 * i) (fun _ => 0) hh) (o + 4 + 2 * i) 37 [some (.ref o), some (.ref sh), some (.int (nI i))] [] (fun rr hh' ss' kk' nn' => zV (sput G sh o (fun _ => 0) sp0 hh) (o + 64) rr hh' ss' ∧ kk' ≤ 63 ∧ nn' ≤ 504) := by
  intro n; induction n with
  | zero =>
    intro i hi
    refine z_iload_n dX5_init_37 rfl ?_
    refine z_bipush (v := (nI 6)) dX5_init_38 (by decide) ?_
    refine z_icmp_ge (tgt := 63) dX5_init_40 (by decide) (fun c_40 => ?_) (fun c_40 => absurd c_40 (not_not_intro (nI_le (by omega) (by omega))))
    refine z_iconst (v := (nI 0)) dX5_init_63 (by decide) ?_
    refine z_istore_n dX5_init_64 (by decide) rfl rfl ?_
    have e : i = 6 := by omega
    subst e
    exact l2_X5_init 48 0 (Nat.zero_add _)
  | succ n ih =>
    intro i hi
    refine z_iload_n dX5_init_37 rfl ?_
    refine z_bipush (v := (nI 6)) dX5_init_38 (by decide) ?_
    refine z_icmp_ge (tgt := 63) dX5_init_40 (by decide) (fun c_40 => absurd c_40 (nI_ge (by omega) (by omega))) (fun c_40 => ?_)
    refine z_aload_n dX5_init_43 rfl ?_
    refine z_get (ci := 5) (f := 1) dX5_init_44 ⟨by decide, by decide, zm_132, rfl⟩ (iput_at (k := 0) (by omega)) rfl ?_
    refine z_iload_n dX5_init_47 rfl ?_
    refine z_new (ci := 4) (fs := [.null, .null, .int 0, .int 0]) dX5_init_48 ⟨by decide, zm_63, zm_67, zm_4⟩ (by decide) (by omega) (by show _ + 4 ≤ 504; omega) ?_
    refine z_dup dX5_init_51 rfl ?_
    refine z_aload_n dX5_init_52 rfl ?_
    refine z_callIU (k_X4_init (o := o + 4 + 2 * i) (zup_eq _ _ _)) dX5_init_53 ⟨zm_68, zm_70, zm_4, zm_69, rfl⟩ rfl (by decide) zp_X4_init rfl (Nat.le_of_ble_eq_true rfl) (by omega) (by show _ + 4 + 9 ≤ 504; omega) ?_
    refine z_aastN (j := i) (t := 4) (ci := 4) dX5_init_56 ((zup_ne (by omega)).trans ((zup_ne (by omega)).trans ((zup_ne (by omega)).trans (iput_at (k := 1) (by omega))))) (by decide) rfl ((zup_ne (by omega)).trans (zup_eq _ _ _)) rfl (by omega) (by decide) ?_
    refine z_heap (iput_s (by omega)) ?_
    refine z_iincU dX5_init_57 rfl (by decide) rfl rfl ?_
    refine z_goto (tgt := 37) dX5_init_60 (by decide) ?_
    have e := ih (i + 1) (by omega)
    rw [show 3 + 2 * (i + 1) = 3 + 2 * i + 1 + 1 by omega, show 90 + 13 * (i + 1) = 90 + 13 * i + 4 + 9 by omega, show o + 4 + 2 * (i + 1) = o + 4 + 2 * i + 2 by omega] at e
    exact e
set_option maxHeartbeats 4000000 in
set_option maxRecDepth 100000 in
theorem k_X5_init {G : zG} {hh : zH} {sh o : Nat} (h0 : hh o = some (.inr (5, [.null, .null, .null, .null, .int 0, .int 0]))) : zC G 2 MX5_init yX5_init [.ref o, .ref sh] hh (o + 1) 63 504 (zV (sput G sh o (fun _ => 0) sp0 hh) (o + 64)) := by
  refine z_intro _ rfl zy_X5_init (Nat.le_of_ble_eq_true rfl) ?_
  refine z_aload_n dX5_init_0 rfl ?_
  refine z_objInit dX5_init_1 ⟨zm_62, zm_21, zm_22⟩ (by decide) (Nat.le_of_ble_eq_true rfl) ?_
  refine z_aload_n dX5_init_4 rfl ?_
  refine z_bipush (v := (nI 6)) dX5_init_5 (by decide) ?_
  refine z_newR (t := 4) (N := 6) dX5_init_7 zm_63 (Or.inr (Or.inl ⟨rfl, rfl⟩)) (by decide) (by decide) (by decide) (by decide) (by decide) ?_
  refine z_putF (ci := 5) (f := 1) dX5_init_10 ⟨by decide, by decide, zm_132, rfl⟩ ((zup_ne (by omega)).trans h0) rfl rfl rfl rfl rfl (Nat.le_of_ble_eq_true rfl) ?_
  refine z_aload_n dX5_init_13 rfl ?_
  refine z_bipush (v := (nI 48)) dX5_init_14 (by decide) ?_
  refine z_newR (t := 5) (N := 48) dX5_init_16 zm_65 (Or.inr (Or.inr ⟨rfl, rfl⟩)) (by decide) (by decide) (by decide) (by decide) (by decide) ?_
  refine z_putF (ci := 5) (f := 2) dX5_init_19 ⟨by decide, by decide, zm_133, rfl⟩ ((zup_ne (by omega)).trans (zup_eq _ _ _)) rfl rfl rfl rfl rfl (Nat.le_of_ble_eq_true rfl) ?_
  refine z_aload_n dX5_init_22 rfl ?_
  refine z_bipush (v := (nI 36)) dX5_init_23 (by decide) ?_
  refine z_newI (N := 36) dX5_init_25 zm_56 (by decide) (by decide) (by decide) (by decide) (by decide) ?_
  refine z_putF (ci := 5) (f := 3) dX5_init_27 ⟨by decide, by decide, zm_134, rfl⟩ ((zup_ne (by omega)).trans (zup_eq _ _ _)) rfl rfl rfl rfl rfl (Nat.le_of_ble_eq_true rfl) ?_
  refine z_aload_n dX5_init_30 rfl ?_
  refine z_aload_n dX5_init_31 rfl ?_
  refine z_putF (ci := 5) (f := 0) dX5_init_32 ⟨by decide, by decide, zm_131, rfl⟩ (zup_eq _ _ _) rfl rfl rfl rfl rfl (Nat.le_of_ble_eq_true rfl) ?_
  refine z_iconst (v := (nI 0)) dX5_init_35 (by decide) ?_
  refine z_istore_n dX5_init_36 (by decide) rfl rfl ?_
  refine z_heap (show _ = iput G sh o 0 0 4 (fun _ => 0) hh from ?_) ?_
  · funext a
    unfold iput
    by_cases h : o ≤ a ∧ a < o + 4
    · rw [if_pos h]
      obtain ⟨k, hk, rfl⟩ : ∃ k, k < 4 ∧ a = o + k := ⟨a - o, by omega, by omega⟩
      rw [Nat.add_sub_cancel_left]
      match k, hk with
      | 0, _ => simp [zup]; rfl
      | 1, _ => simp [zup]; rfl
      | 2, _ => simp [zup]; rfl
      | 3, _ => simp [zup]; rfl
    · rw [if_neg h]
      unfold zup
      repeat rw [if_neg (by omega)]
  exact l1_X5_init 6 0 (Nat.zero_add _)
