theorem sput_sh {G : zG} {sh o : Nat} {s p : Nat → Int32} {hh : zH} (hs : shH G sh hh) (hd : sh + 2 ≤ o ∨ o + 64 ≤ sh) : shH G sh (sput G sh o s p hh) := ⟨(sput_out (by omega)).trans hs.1, (sput_out (by omega)).trans hs.2⟩
theorem sput_us2 {G : zG} {sh o : Nat} {s p t : Nat → Int32} {hh : zH} {i : Nat} {c b : Int32} (hi : i < 6) (e1 : t (3 + 11 * i) = c) (e2 : t (4 + 11 * i) = b) (h : ∀ n, n ≠ 3 + 11 * i → n ≠ 4 + 11 * i → t n = s n) : zup (sput G sh o s p hh) (o + 4 + 2 * i) (.inr (4, [.ref sh, .ref (o + 4 + 2 * i + 1), .int c, .int b])) = sput G sh o t p hh := by
  rw [← e1, ← e2]; exact sput_us hi h
theorem sput_uo2 {G : zG} {sh o : Nat} {s p t : Nat → Int32} {hh : zH} {a b : Int32} (e1 : t 0 = a) (e2 : t 1 = b) (h : ∀ n, 3 ≤ n → t n = s n) : zup (sput G sh o s p hh) o (.inr (5, [.ref sh, .ref (o + 1), .ref (o + 2), .ref (o + 3), .int a, .int b])) = sput G sh o t p hh := by
  rw [← e1, ← e2]; exact sput_uo h
theorem sput_up2 {G : zG} {sh o : Nat} {s p t : Nat → Int32} {hh : zH} {j : Nat} {a b c d e f g : Int32} (hj : j < 48) (e0 : t (69 + 8 * j + 0) = a) (e1 : t (69 + 8 * j + 1) = b) (e7 : t (69 + 8 * j + 7) = c) (e5 : t (69 + 8 * j + 5) = d) (e6 : t (69 + 8 * j + 6) = e) (e3 : t (69 + 8 * j + 3) = f) (e4 : t (69 + 8 * j + 4) = g) (h : ∀ n, (n < 69 + 8 * j ∨ 77 + 8 * j ≤ n) → t n = s n) : zup (sput G sh o s p hh) (o + 16 + j) (.inr (2, [.int a, .int b, .int c, .int d, .int e, .int f, .int g])) = sput G sh o t p hh := by
  rw [← e0, ← e1, ← e7, ← e5, ← e6, ← e3, ← e4]; exact sput_up1 hj h
theorem cutS_1 {s : Nat → Int32} {x : Int32} {k l w r c : Nat} : ∀ i n, cutS (upd s 1 x) k l w r c i n = if n = 1 then x else cutS s k l w r c i n
  | 0, n => rfl
  | i + 1, n => by
    have e : rN (upd s 1 x) k (r + i) = rN s k (r + i) := by unfold rN; rw [pk_un (by omega)]
    rw [cutS, cutS, e]
    by_cases h : n = 5 + 11 * k + (r + i)
    · rw [h, pk_us, pk_us, if_neg (by omega)]
    · rw [pk_un h, pk_un h]; exact cutS_1 i n
theorem newS_f {s : Nat → Int32} {m k l w r c : Nat} : newS s m k l w r c (69 + 8 * m + 0) = nI l ∧ newS s m k l w r c (69 + 8 * m + 1) = s (3 + 11 * k) ∧ newS s m k l w r c (69 + 8 * m + 2) = nI (w / 4) ∧ newS s m k l w r c (69 + 8 * m + 3) = nI 0 ∧ newS s m k l w r c (69 + 8 * m + 4) = -6 ∧ newS s m k l w r c (69 + 8 * m + 5) = nI k ∧ newS s m k l w r c (69 + 8 * m + 6) = nI (14 * r + c) ∧ newS s m k l w r c (69 + 8 * m + 7) = nI w := by
  unfold newS
  refine ⟨?_, ?_, ?_, ?_, ?_, ?_, ?_, ?_⟩
  all_goals (repeat first | rw [pk_us] | rw [pk_un (by omega)])
/-- a new piece, not yet counted -/
def neU (s : Nat → Int32) (m k l w r c : Nat) : Nat → Int32 := upd (newS s m k l w r c) 1 (s 1)
theorem neU_o {s : Nat → Int32} {m k l w r c : Nat} (hk : k < 6) (hr : r + hiN w ≤ 9) {n : Nat} (h : n < 69 + 8 * m ∨ 77 + 8 * m ≤ n) : neU s m k l w r c n = cutS s k l w r c (hiN w) n := by
  unfold neU
  by_cases e : n = 1
  · rw [e, pk_us, cutS_out _ _ (by omega)]
  · rw [pk_un e]
    unfold newS
    repeat rw [pk_un (by omega)]
    rw [cutS_1, if_neg e]
set_option maxHeartbeats 4000000 in
set_option maxRecDepth 100000 in
theorem kr_X5_addSheet {G : zG} {hh : zH} {sz sh o : Nat} {s p : Nat → Int32} (hA : shopA G sh o s p hh) (h0 : s 0 = nI (nSh s)) (hn6 : nSh s < 6) {c : Int32} : zC G 0 MX5_addSheet yX5_addSheet [.ref o, .int c] hh sz 0 0 (zR (.int (nI (nSh s))) (sput G sh o (upd (upd s (3 + 11 * nSh s) c) 0 (nI (nSh s + 1))) p hh) sz) := by
  refine z_intro _ rfl zy_X5_addSheet (Nat.le_of_ble_eq_true rfl) ?_
  refine z_heap (sput_self hA).symm ?_
  have hB : shopA G sh o s p (sput G sh o s p hh) := sput_A
  refine z_aload_n dX5_addSheet_0 rfl ?_
  refine z_get (ci := 5) (f := 4) dX5_addSheet_1 ⟨by decide, by decide, zm_136, rfl⟩ (sA_o hB) rfl ?_
  refine z_eq h0 ?_
  refine z_istore_n dX5_addSheet_4 (by decide) rfl rfl ?_
  refine z_iload_n dX5_addSheet_5 rfl ?_
  refine z_if_lt (tgt := 15) dX5_addSheet_6 (by decide) (fun c_6 => absurd c_6 (nI_pos (by omega))) (fun c_6 => ?_)
  refine z_iload_n dX5_addSheet_9 rfl ?_
  refine z_bipush (v := (nI 6)) dX5_addSheet_10 (by decide) ?_
  refine z_icmp_lt (tgt := 18) dX5_addSheet_12 (by decide) (fun c_12 => ?_) (fun c_12 => absurd (nI_lt hn6 (by omega)) c_12)
  refine z_aload_n dX5_addSheet_18 rfl ?_
  refine z_get (ci := 5) (f := 1) dX5_addSheet_19 ⟨by decide, by decide, zm_132, rfl⟩ (sA_o hB) rfl ?_
  refine z_iload_n dX5_addSheet_22 rfl ?_
  refine z_aaldN (j := nSh s) (t := 4) dX5_addSheet_23 (sA_1 hB) rfl rfl hn6 (by decide) ?_
  refine z_eqV (aa_6 hn6) ?_
  refine z_iload_n dX5_addSheet_24 rfl ?_
  refine z_putN (ci := 4) (f := 2) dX5_addSheet_25 ⟨by decide, by decide, zm_76, rfl⟩ (sA_st hB (i := nSh s) hn6).1 rfl rfl rfl (Nat.le_of_ble_eq_true rfl) ?_
  refine z_heap (sput_us2 (t := upd s (3 + 11 * nSh s) c) hn6 pk_us (pk_un (by omega)) (fun n h1 h2 => pk_un h1)) ?_
  have hC : shopA G sh o (upd s (3 + 11 * nSh s) c) p (sput G sh o (upd s (3 + 11 * nSh s) c) p hh) := sput_A
  refine z_aload_n dX5_addSheet_28 rfl ?_
  refine z_dup dX5_addSheet_29 rfl ?_
  refine z_get (ci := 5) (f := 4) dX5_addSheet_30 ⟨by decide, by decide, zm_136, rfl⟩ (sA_o hC) rfl ?_
  refine z_eq ((pk_un (by omega)).trans h0) ?_
  refine z_iconst (v := (nI 1)) dX5_addSheet_33 (by decide) ?_
  refine z_iaddN dX5_addSheet_34 ?_
  refine z_put (ci := 5) (f := 4) dX5_addSheet_35 ⟨by decide, by decide, zm_136, rfl⟩ (sA_o hC) rfl rfl rfl (Nat.le_of_ble_eq_true rfl) ?_
  refine z_heap (sput_uo2 (t := upd (upd s (3 + 11 * nSh s) c) 0 (nI (nSh s + 1))) pk_us (pk_un (by omega)) (fun n h1 => pk_un (by omega))) ?_
  refine z_iload_n dX5_addSheet_38 rfl ?_
  exact z_iretR dX5_addSheet_39 rfl rfl rfl rfl (Nat.le_refl _) (Nat.le_refl _)
set_option maxHeartbeats 4000000 in
set_option maxRecDepth 100000 in
theorem kz_X5_addSheet {G : zG} {hh : zH} {sz sh o : Nat} {s p : Nat → Int32} (hA : shopA G sh o s p hh) (h0 : s 0 = nI (nSh s)) (hn : nSh s = 6) {c : Int32} : zC G 0 MX5_addSheet yX5_addSheet [.ref o, .int c] hh sz 0 0 (zR (.int (-4)) hh sz) := by
  refine z_intro _ rfl zy_X5_addSheet (Nat.le_of_ble_eq_true rfl) ?_
  refine z_aload_n dX5_addSheet_0 rfl ?_
  refine z_get (ci := 5) (f := 4) dX5_addSheet_1 ⟨by decide, by decide, zm_136, rfl⟩ (sA_o hA) rfl ?_
  refine z_eq (h0.trans (by rw [hn])) ?_
  refine z_istore_n dX5_addSheet_4 (by decide) rfl rfl ?_
  refine z_iload_n dX5_addSheet_5 rfl ?_
  refine z_if_lt (tgt := 15) dX5_addSheet_6 (by decide) (fun c_6 => absurd c_6 (nI_pos (by omega))) (fun c_6 => ?_)
  refine z_iload_n dX5_addSheet_9 rfl ?_
  refine z_bipush (v := (nI 6)) dX5_addSheet_10 (by decide) ?_
  refine z_icmp_lt (tgt := 18) dX5_addSheet_12 (by decide) (fun c_12 => absurd c_12 (nI_nlt (by omega) (by omega))) (fun c_12 => ?_)
  refine z_bipush (v := (-4)) dX5_addSheet_15 (by decide) ?_
  exact z_iretR dX5_addSheet_17 rfl rfl rfl rfl (Nat.le_refl _) (Nat.le_refl _)
set_option maxHeartbeats 4000000 in
set_option maxRecDepth 100000 in
theorem kr_X5_addPiece {G : zG} {hh : zH} {sz sh o : Nat} {s p : Nat → Int32} (hA : shopA G sh o s p hh) (hs : shH G sh hh) (hd : sh + 2 ≤ o ∨ o + 64 ≤ sh) (h0 : s 0 = nI (nSh s)) (hn : nSh s ≤ 6) (h1 : s 1 = nI (nP s)) (hR : okR s) {k l w r c : Nat} (hk : k < nSh s) (hl : l < 8) (hw : w < 8) (hr : r + hiN w ≤ 9) (hc : c + wiN w ≤ 14) (hm : nP s < 48) : zC G 3 MX5_addPiece yX5_addPiece [.ref o, .int (nI k), .int (nI l), .int (nI w), .int (nI r), .int (nI c)] hh sz 0 0 (zR (.int (nI (nP s))) (sput G sh o (newS s (nP s) k l w r c) p hh) sz) := by
  refine z_intro _ rfl zy_X5_addPiece (Nat.le_of_ble_eq_true rfl) ?_
  refine z_heap (sput_self hA).symm ?_
  have hB : shopA G sh o s p (sput G sh o s p hh) := sput_A
  refine z_aload_n dX5_addPiece_0 rfl ?_
  refine z_get (ci := 5) (f := 5) dX5_addPiece_1 ⟨by decide, by decide, zm_138, rfl⟩ (sA_o hB) rfl ?_
  refine z_eq h1 ?_
  refine z_istore dX5_addPiece_4 (by decide) rfl rfl ?_
  refine z_iload dX5_addPiece_6 rfl ?_
  refine z_if_lt (tgt := 18) dX5_addPiece_8 (by decide) (fun c_8 => absurd c_8 (nI_pos (by omega))) (fun c_8 => ?_)
  refine z_iload dX5_addPiece_11 rfl ?_
  refine z_bipush (v := (nI 48)) dX5_addPiece_13 (by decide) ?_
  refine z_icmp_lt (tgt := 21) dX5_addPiece_15 (by decide) (fun c_15 => ?_) (fun c_15 => absurd (nI_lt hm (by omega)) c_15)
  refine z_aload_n dX5_addPiece_21 rfl ?_
  refine z_iload_n dX5_addPiece_22 rfl ?_
  refine z_callVR (ci := 5) (k_X5_sheetAt hB h0 hn hk) dX5_addPiece_23 ⟨zm_252, zm_255, zm_3, zm_253, zm_254, by decide⟩ (sA_o hB) (by decide) zp_X5_sheetAt rfl (Nat.le_of_ble_eq_true rfl) (Nat.le_refl _) (Nat.le_refl _) ?_
  refine z_astore dX5_addPiece_26 (by decide) rfl rfl ?_
  refine z_aload dX5_addPiece_28 rfl ?_
  refine z_ifnonnull (tgt := 36) dX5_addPiece_30 (by decide) ?_
  refine z_aload dX5_addPiece_36 rfl ?_
  refine z_iload_n dX5_addPiece_38 rfl ?_
  refine z_iload_n dX5_addPiece_39 rfl ?_
  refine z_iload dX5_addPiece_40 rfl ?_
  refine z_iload dX5_addPiece_42 rfl ?_
  refine z_callVU (ci := 4) (k_X4_cutOut hl hw (by omega) hR (sput_sh hs hd) (sA_st hB (i := k) (by omega)) hr hc) dX5_addPiece_44 ⟨zm_349, zm_352, zm_4, zm_350, zm_351, by decide⟩ (sA_st hB (i := k) (by omega)).1 (by decide) zp_X4_cutOut rfl (Nat.le_of_ble_eq_true rfl) (Nat.le_refl _) (Nat.le_refl _) ?_
  refine z_heap (show _ = sput G sh o (cutS s k l w r c (hiN w)) p hh from sput_uc (by omega) (fun n h1 => cutS_out _ _ (by have := hiN_le w; omega))) ?_
  have hC : shopA G sh o (cutS s k l w r c (hiN w)) p (sput G sh o (cutS s k l w r c (hiN w)) p hh) := sput_A
  refine z_aload_n dX5_addPiece_47 rfl ?_
  refine z_get (ci := 5) (f := 2) dX5_addPiece_48 ⟨by decide, by decide, zm_133, rfl⟩ (sA_o hC) rfl ?_
  refine z_iload dX5_addPiece_51 rfl ?_
  refine z_aaldN (j := nP s) (t := 5) dX5_addPiece_53 (sA_2 hC) rfl rfl hm (by decide) ?_
  refine z_eqV (aa_48 hm) ?_
  refine z_astore dX5_addPiece_54 (by decide) rfl rfl ?_
  refine z_aload dX5_addPiece_56 rfl ?_
  refine z_iload_n dX5_addPiece_58 rfl ?_
  refine z_putN (ci := 2) (f := 0) dX5_addPiece_59 ⟨by decide, by decide, zm_96, rfl⟩ (sA_pc hC (j := nP s) hm) rfl rfl rfl (Nat.le_of_ble_eq_true rfl) ?_
  refine z_aload dX5_addPiece_62 rfl ?_
  refine z_aload dX5_addPiece_64 rfl ?_
  refine z_getN (ci := 4) (f := 2) dX5_addPiece_66 ⟨by decide, by decide, zm_76, rfl⟩ ((zup_ne (by omega)).trans (sA_st hC (i := k) (by omega)).1) rfl ?_
  refine z_eq (cutS_out _ _ (by omega)) ?_
  refine z_putN (ci := 2) (f := 1) dX5_addPiece_69 ⟨by decide, by decide, zm_99, rfl⟩ (zup_eq _ _ _) rfl rfl rfl (Nat.le_of_ble_eq_true rfl) ?_
  refine z_heap (zup_zup _ _ _ _) ?_
  refine z_aload dX5_addPiece_72 rfl ?_
  refine z_iload_n dX5_addPiece_74 rfl ?_
  refine z_putN (ci := 2) (f := 2) dX5_addPiece_75 ⟨by decide, by decide, zm_102, rfl⟩ (zup_eq _ _ _) rfl rfl rfl (Nat.le_of_ble_eq_true rfl) ?_
  refine z_heap (zup_zup _ _ _ _) ?_
  refine z_aload dX5_addPiece_78 rfl ?_
  refine z_iload_n dX5_addPiece_80 rfl ?_
  refine z_putN (ci := 2) (f := 3) dX5_addPiece_81 ⟨by decide, by decide, zm_105, rfl⟩ (zup_eq _ _ _) rfl rfl rfl (Nat.le_of_ble_eq_true rfl) ?_
  refine z_heap (zup_zup _ _ _ _) ?_
  refine z_aload dX5_addPiece_84 rfl ?_
  refine z_iload dX5_addPiece_86 rfl ?_
  refine z_bipush (v := (nI 14)) dX5_addPiece_88 (by decide) ?_
  refine z_imulN dX5_addPiece_90 ?_
  refine z_iload dX5_addPiece_91 rfl ?_
  refine z_iaddN dX5_addPiece_93 ?_
  refine z_putN (ci := 2) (f := 4) dX5_addPiece_94 ⟨by decide, by decide, zm_108, rfl⟩ (zup_eq _ _ _) rfl rfl rfl (Nat.le_of_ble_eq_true rfl) ?_
  refine z_heap (zup_zup _ _ _ _) ?_
  refine z_aload dX5_addPiece_97 rfl ?_
  refine z_callVU (ci := 2) (k_X2_becomeLoose (zup_eq _ _ _)) dX5_addPiece_99 ⟨zm_353, zm_356, zm_5, zm_354, zm_355, by decide⟩ (zup_eq _ _ _) (by decide) zp_X2_becomeLoose rfl (Nat.le_of_ble_eq_true rfl) (Nat.le_refl _) (Nat.le_refl _) ?_
  obtain ⟨f0, f1, f2, f3, f4, f5, f6, f7⟩ := newS_f (s := s) (m := nP s) (k := k) (l := l) (w := w) (r := r) (c := c)
  refine z_heap (h2 := sput G sh o (neU s (nP s) k l w r c) p hh) ((zup_zup _ _ _ _).trans (sput_up2 hm ((pk_un (by omega)).trans f0) ((pk_un (by omega)).trans f1) ((pk_un (by omega)).trans f7) ((pk_un (by omega)).trans f5) ((pk_un (by omega)).trans (f6.trans (by rw [Nat.mul_comm]))) ((pk_un (by omega)).trans f3) ((pk_un (by omega)).trans f4) (fun n hn2 => neU_o (by omega) hr hn2))) ?_
  have hE : shopA G sh o (neU s (nP s) k l w r c) p (sput G sh o (neU s (nP s) k l w r c) p hh) := sput_A
  refine z_aload_n dX5_addPiece_102 rfl ?_
  refine z_dup dX5_addPiece_103 rfl ?_
  refine z_get (ci := 5) (f := 5) dX5_addPiece_104 ⟨by decide, by decide, zm_138, rfl⟩ (sA_o hE) rfl ?_
  refine z_eq (pk_us.trans h1) ?_
  refine z_iconst (v := (nI 1)) dX5_addPiece_107 (by decide) ?_
  refine z_iaddN dX5_addPiece_108 ?_
  refine z_put (ci := 5) (f := 5) dX5_addPiece_109 ⟨by decide, by decide, zm_138, rfl⟩ (sA_o hE) rfl rfl rfl (Nat.le_of_ble_eq_true rfl) ?_
  refine z_heap (sput_uo2 (t := newS s (nP s) k l w r c) (pk_un (by omega)).symm (by rw [newS_lo (by omega), cutS_out _ _ (by omega), pk_us]) (fun n hn2 => (pk_un (by omega)).symm)) ?_
  refine z_iload dX5_addPiece_112 rfl ?_
  exact z_iretR dX5_addPiece_114 rfl rfl rfl rfl (Nat.le_refl _) (Nat.le_refl _)
set_option maxHeartbeats 4000000 in
set_option maxRecDepth 100000 in
theorem kz_X5_addPiece {G : zG} {hh : zH} {sz sh o : Nat} {s p : Nat → Int32} (hA : shopA G sh o s p hh) (h1 : s 1 = nI (nP s)) (hm : nP s = 48) {x1 x2 x3 x4 x5 : Int32} : zC G 3 MX5_addPiece yX5_addPiece [.ref o, .int x1, .int x2, .int x3, .int x4, .int x5] hh sz 0 0 (zR (.int (-4)) hh sz) := by
  refine z_intro _ rfl zy_X5_addPiece (Nat.le_of_ble_eq_true rfl) ?_
  refine z_aload_n dX5_addPiece_0 rfl ?_
  refine z_get (ci := 5) (f := 5) dX5_addPiece_1 ⟨by decide, by decide, zm_138, rfl⟩ (sA_o hA) rfl ?_
  refine z_eq (h1.trans (by rw [hm])) ?_
  refine z_istore dX5_addPiece_4 (by decide) rfl rfl ?_
  refine z_iload dX5_addPiece_6 rfl ?_
  refine z_if_lt (tgt := 18) dX5_addPiece_8 (by decide) (fun c_8 => absurd c_8 (nI_pos (by omega))) (fun c_8 => ?_)
  refine z_iload dX5_addPiece_11 rfl ?_
  refine z_bipush (v := (nI 48)) dX5_addPiece_13 (by decide) ?_
  refine z_icmp_lt (tgt := 21) dX5_addPiece_15 (by decide) (fun c_15 => absurd c_15 (nI_nlt (by omega) (by omega))) (fun c_15 => ?_)
  refine z_bipush (v := (-4)) dX5_addPiece_18 (by decide) ?_
  exact z_iretR dX5_addPiece_20 rfl rfl rfl rfl (Nat.le_refl _) (Nat.le_refl _)
