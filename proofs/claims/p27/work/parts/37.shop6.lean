section
variable {M : zM} {G : zG} {d mc ms k n : Nat} {hh : zH} {sz pc : Nat} {lv : List (Option Value)} {st : List Value} {Post : Option Value → zH → Nat → Nat → Nat → Prop}
theorem z_aload_nN {i : Fin 4} (hd : decode M.2.1 pc = .ok (.aload_n i, 1)) (hv : lv[(i : Nat)]? = some (some .null)) (kk : zS M G d mc ms k n hh sz (pc + 1) lv (.null :: st) Post) : zS M G d mc ms k n hh sz pc lv st Post := by
  intro p l e R s m args below meth c Q hX hf hl hc hs hE H locs ls hW hS hL
  obtain ⟨hx, hb, hml, hown, hts, hr, hlk, hin, hK⟩ := id hX
  exact lv_aload_nN hx hb hd rfl (hL.at hv) (kk p l e R s m args below meth c Q hX hf hl hc hs hE H locs ls hW hS hL)
theorem z_aloadN {i : Nat} (hd : decode M.2.1 pc = .ok (.aload i, 2)) (hv : lv[i]? = some (some .null)) (kk : zS M G d mc ms k n hh sz (pc + 2) lv (.null :: st) Post) : zS M G d mc ms k n hh sz pc lv st Post := by
  intro p l e R s m args below meth c Q hX hf hl hc hs hE H locs ls hW hS hL
  obtain ⟨hx, hb, hml, hown, hts, hr, hlk, hin, hK⟩ := id hX
  exact lv_aloadN hx hb hd (hL.at hv) (kk p l e R s m args below meth c Q hX hf hl hc hs hE H locs ls hW hS hL)
theorem z_astore_nN {i : Fin 4} {lv' : List (Option Value)} (hd : decode M.2.1 pc = .ok (.astore_n i, 1)) (hn : (i : Nat) < M.2.2.1) (hok : zok lv (i : Nat) = true) (hlv : lv.set (i : Nat) (some .null) = lv') (kk : zS M G d mc ms k n hh sz (pc + 1) lv' st Post) : zS M G d mc ms k n hh sz pc lv (.null :: st) Post := by
  intro p l e R s m args below meth c Q hX hf hl hc hs hE H locs ls hW hS hL
  obtain ⟨hx, hb, hml, hown, hts, hr, hlk, hin, hK⟩ := id hX
  subst hlv
  exact lv_astore_nN hx hb hd rfl hL.has hn rfl (fun ls1 h1 => kk p l e R s m args below meth c Q hX hf hl hc hs hE H locs ls1 hW hS (zL.store hok h1))
theorem z_astoreN {i : Nat} {lv' : List (Option Value)} (hd : decode M.2.1 pc = .ok (.astore i, 2)) (hn : i < M.2.2.1) (hok : zok lv i = true) (hlv : lv.set i (some .null) = lv') (kk : zS M G d mc ms k n hh sz (pc + 2) lv' st Post) : zS M G d mc ms k n hh sz pc lv (.null :: st) Post := by
  intro p l e R s m args below meth c Q hX hf hl hc hs hE H locs ls hW hS hL
  obtain ⟨hx, hb, hml, hown, hts, hr, hlk, hin, hK⟩ := id hX
  subst hlv
  exact lv_astoreN hx hb hd hL.has hn rfl (fun ls1 h1 => kk p l e R s m args below meth c Q hX hf hl hc hs hE H locs ls1 hW hS (zL.store hok h1))
end
theorem kn6_isPaneT {G : zG} {hh : zH} {sz : Nat} {l : Nat} (h : l < 3) : zC G 0 MX6_isPane yX6_isPane [.int (nI l)] hh sz 0 0 (zR (.int 1) hh sz) := zC_eq ((isP6 _).trans (by rw [isI_nI (by omega) h]; rfl)) k_X6_isPane
theorem kn6_isPlace {G : zG} {hh : zH} {sz : Nat} {x : Int32} : zC G 0 MX6_isPlace yX6_isPlace [.int x] hh sz 0 0 (zR (.int (zb (isI 12 x))) hh sz) := zC_eq (isPl6 _) k_X6_isPlace
/-- a piece can be put into a place -/
def puO (s p : Nat → Int32) (x : Int32) (a : Nat) (y : Int32) : Bool := isI (nP s) x && decide (s (69 + 8 * x.toNatClampNeg + 3) = 0) && isI 12 y && decide (p (12 * a + y.toNatClampNeg) = -6)
theorem puO_iff {s p : Nat → Int32} {x : Int32} {a : Nat} {y : Int32} : puO s p x a y = true ↔ isI (nP s) x = true ∧ s (69 + 8 * x.toNatClampNeg + 3) = 0 ∧ isI 12 y = true ∧ p (12 * a + y.toNatClampNeg) = -6 := by
  unfold puO
  rw [Bool.and_eq_true, Bool.and_eq_true, Bool.and_eq_true, decide_eq_true_iff, decide_eq_true_iff]
  constructor
  · rintro ⟨⟨⟨h1, h2⟩, h3⟩, h4⟩; exact ⟨h1, h2, h3, h4⟩
  · rintro ⟨h1, h2, h3, h4⟩; exact ⟨⟨⟨h1, h2⟩, h3⟩, h4⟩
def puV (s p : Nat → Int32) (x : Int32) (a : Nat) (y : Int32) : Int32 := if puO s p x a y = true then cinA (putS s x.toNatClampNeg (nI (12 * a + y.toNatClampNeg))) (nI a) (nP s) else -5
def puS (s p : Nat → Int32) (x : Int32) (a : Nat) (y : Int32) : Nat → Int32 := if puO s p x a y = true then putS s x.toNatClampNeg (nI (12 * a + y.toNatClampNeg)) else s
def puP (s p : Nat → Int32) (x : Int32) (a : Nat) (y : Int32) : Nat → Int32 := if puO s p x a y = true then upd p (12 * a + y.toNatClampNeg) x else p
theorem putS_f {s : Nat → Int32} {j : Nat} {v : Int32} : putS s j v (69 + 8 * j + 3) = nI 1 ∧ putS s j v (69 + 8 * j + 4) = v ∧ ∀ n, n ≠ 69 + 8 * j + 3 → n ≠ 69 + 8 * j + 4 → putS s j v n = s n := by
  unfold putS
  exact ⟨by rw [pk_un (by omega), pk_us], pk_us, fun n h1 h2 => by rw [pk_un h2, pk_un h1]⟩
/-- a piece becomes loose -/
def lsS (t : Nat → Int32) (j : Nat) : Nat → Int32 := upd (upd t (69 + 8 * j + 3) (nI 0)) (69 + 8 * j + 4) (-6)
theorem lsS_f {s : Nat → Int32} {j : Nat} : lsS s j (69 + 8 * j + 3) = nI 0 ∧ lsS s j (69 + 8 * j + 4) = -6 ∧ ∀ n, n ≠ 69 + 8 * j + 3 → n ≠ 69 + 8 * j + 4 → lsS s j n = s n := by
  unfold lsS
  exact ⟨by rw [pk_un (by omega), pk_us], pk_us, fun n h1 h2 => by rw [pk_un h2, pk_un h1]⟩
def clT (s p : Nat → Int32) (a : Nat) : Nat → Nat → Int32
  | 0 => s
  | b + 1 => if isI (nP s) (p (12 * a + b)) = true then lsS (clT s p a b) (p (12 * a + b)).toNatClampNeg else clT s p a b
def clQ (m : Nat) (p : Nat → Int32) (a : Nat) : Nat → Nat → Int32
  | 0 => p
  | b + 1 => if isI m (p (12 * a + b)) = true then upd (clQ m p a b) (12 * a + b) (-6) else clQ m p a b
def clN (m : Nat) (p : Nat → Int32) (a : Nat) : Nat → Int32
  | 0 => nI 0
  | b + 1 => clN m p a b + (if isI m (p (12 * a + b)) = true then nI 1 else nI 0)
theorem clQ_ge {m : Nat} {p : Nat → Int32} {a : Nat} : ∀ b v, 12 * a + b ≤ v → clQ m p a b v = p v
  | 0, _, _ => rfl
  | b + 1, v, h => by
    rw [clQ]
    split
    · rw [pk_un (by omega)]; exact clQ_ge b v (by omega)
    · exact clQ_ge b v (by omega)
theorem clT_lo {s p : Nat → Int32} {a : Nat} : ∀ b n, n < 69 → clT s p a b n = s n
  | 0, _, _ => rfl
  | b + 1, n, h => by
    rw [clT]
    split
    · rw [lsS_f.2.2 n (by omega) (by omega)]; exact clT_lo b n h
    · exact clT_lo b n h
theorem clT_1 {s p : Nat → Int32} {a b : Nat} (h1 : s 1 = nI (nP s)) : nP (clT s p a b) = nP s ∧ clT s p a b 1 = nI (nP s) := by
  have e : clT s p a b 1 = s 1 := clT_lo b 1 (by omega)
  refine ⟨?_, e.trans h1⟩
  unfold nP
  rw [e]
set_option maxHeartbeats 4000000 in
set_option maxRecDepth 100000 in
theorem k_X5_putIntoPane {G : zG} {hh : zH} {sz sh o : Nat} {s p : Nat → Int32} (hA : shopA G sh o s p hh) (h1 : s 1 = nI (nP s)) (hm : nP s ≤ 48) {a : Nat} (ha : a < 3) {x y : Int32} : zC G 2 MX5_putIntoPane yX5_putIntoPane [.ref o, .int x, .int (nI a), .int y] hh sz 0 0 (zR (.int (puV s p x a y)) (sput G sh o (puS s p x a y) (puP s p x a y) hh) sz) := by
  refine z_intro _ rfl zy_X5_putIntoPane (Nat.le_of_ble_eq_true rfl) ?_
  by_cases hx : isI (nP s) x = true
  · obtain ⟨j, hj, rfl⟩ := (isI_iff (by omega)).mp hx
    have cj : (nI j).toNatClampNeg = j := nI_clamp (by omega)
    refine z_aload_n dX5_putIntoPane_0 rfl ?_
    refine z_iload_n dX5_putIntoPane_1 rfl ?_
    refine z_callVR (ci := 5) (k_X5_pieceAt hA h1 hm hj) dX5_putIntoPane_2 ⟨zm_223, zm_226, zm_3, zm_224, zm_225, by decide⟩ (sA_o hA) (by decide) zp_X5_pieceAt rfl (Nat.le_of_ble_eq_true rfl) (Nat.le_refl _) (Nat.le_refl _) ?_
    refine z_astore dX5_putIntoPane_5 (by decide) rfl rfl ?_
    refine z_aload dX5_putIntoPane_7 rfl ?_
    refine z_ifnull dX5_putIntoPane_9 ?_
    refine z_aload dX5_putIntoPane_12 rfl ?_
    refine z_getN (ci := 2) (f := 5) dX5_putIntoPane_14 ⟨by decide, by decide, zm_111, rfl⟩ (sA_pc hA (j := j) (by omega)) rfl ?_
    refine z_if_ne (tgt := 34) dX5_putIntoPane_17 (by decide) (fun c_17 => ?_) (fun c_17 => ?_)
    · refine z_bipush (v := (-5)) dX5_putIntoPane_34 (by decide) ?_
      have eo : ¬ puO s p (nI j) a y = true := fun z0 => (fun z => by have := z.2.1; rw [cj] at this; exact c_17 this) (puO_iff.mp z0)
      rw [show puV s p (nI j) a y = -5 from if_neg eo, show puS s p (nI j) a y = s from if_neg eo, show puP s p (nI j) a y = p from if_neg eo, sput_self hA]
      exact z_iretR dX5_putIntoPane_36 rfl rfl rfl rfl (Nat.le_refl _) (Nat.le_refl _)
    · refine z_iload_n dX5_putIntoPane_20 rfl ?_
      refine z_callSNR (kn6_isPaneT ha) dX5_putIntoPane_21 ⟨zm_525, zm_411, zm_1, zm_410⟩  (by decide) zp_X6_isPane rfl (Nat.le_of_ble_eq_true rfl) (Nat.le_refl _) (Nat.le_refl _) ?_
      refine z_if_eq (tgt := 34) dX5_putIntoPane_24 (by decide) (fun c_24 => absurd c_24 (by decide)) (fun c_24 => ?_)
      refine z_iload_n dX5_putIntoPane_27 rfl ?_
      refine z_callSNR kn6_isPlace dX5_putIntoPane_28 ⟨zm_526, zm_414, zm_1, zm_413⟩  (by decide) zp_X6_isPlace rfl (Nat.le_of_ble_eq_true rfl) (Nat.le_refl _) (Nat.le_refl _) ?_
      refine z_if_ne (tgt := 37) dX5_putIntoPane_31 (by decide) (fun c_31 => ?_) (fun c_31 => ?_)
      · obtain ⟨b, hb, rfl⟩ := (isI_iff (by omega)).mp (zb_1 c_31)
        have cb : (nI b).toNatClampNeg = b := nI_clamp (by omega)
        refine z_heap (sput_self hA).symm ?_
        have hB : shopA G sh o s p (sput G sh o s p hh) := sput_A
        by_cases hq : p (12 * a + b) = -6
        · have eo : puO s p (nI j) a (nI b) = true := puO_iff.mpr ⟨hx, by rw [cj]; exact c_17, zb_1 c_31, by rw [cb]; exact hq⟩
          rw [show puV s p (nI j) a (nI b) = cinA (putS s j (nI (12 * a + b))) (nI a) (nP s) by rw [puV, if_pos eo, cj, cb], show puS s p (nI j) a (nI b) = putS s j (nI (12 * a + b)) by rw [puS, if_pos eo, cj, cb], show puP s p (nI j) a (nI b) = upd p (12 * a + b) (nI j) by rw [puP, if_pos eo, cb]]
          have hN : nP (putS s j (nI (12 * a + b))) = nP s := by unfold nP; rw [putS_f.2.2 1 (by omega) (by omega)]
          have hN1 : putS s j (nI (12 * a + b)) 1 = nI (nP (putS s j (nI (12 * a + b)))) := by rw [hN, putS_f.2.2 1 (by omega) (by omega)]; exact h1
          refine z_iload_n dX5_putIntoPane_37 rfl ?_
          refine z_bipush (v := (nI 12)) dX5_putIntoPane_38 (by decide) ?_
          refine z_imulN dX5_putIntoPane_40 ?_
          refine z_iload_n dX5_putIntoPane_41 rfl ?_
          refine z_iaddN dX5_putIntoPane_42 ?_
          refine z_istore dX5_putIntoPane_43 (by decide) rfl rfl ?_
          refine z_aload_n dX5_putIntoPane_45 rfl ?_
          refine z_get (ci := 5) (f := 3) dX5_putIntoPane_46 ⟨by decide, by decide, zm_134, rfl⟩ (sA_o hB) rfl ?_
          refine z_iload dX5_putIntoPane_49 rfl ?_
          refine z_ialdN (j := 12 * a + b) dX5_putIntoPane_51 (sA_3 hB) (by congr 1; omega) (by omega) (by decide) ?_
          refine z_bipush (v := (-6)) dX5_putIntoPane_52 (by decide) ?_
          refine z_icmp_eq (tgt := 60) dX5_putIntoPane_54 (by decide) (fun c_54 => ?_) (fun c_54 => absurd hq c_54)
          refine z_aload_n dX5_putIntoPane_60 rfl ?_
          refine z_get (ci := 5) (f := 3) dX5_putIntoPane_61 ⟨by decide, by decide, zm_134, rfl⟩ (sA_o hB) rfl ?_
          refine z_iload dX5_putIntoPane_64 rfl ?_
          refine z_iload_n dX5_putIntoPane_66 rfl ?_
          refine z_iastN (j := 12 * a + b) dX5_putIntoPane_67 (sA_3 hB) (by congr 1; omega) (by omega) (by decide) ?_
          refine z_heap sput_u3 ?_
          have hC : shopA G sh o s (upd p (12 * a + b) (nI j)) (sput G sh o s (upd p (12 * a + b) (nI j)) hh) := sput_A
          refine z_aload dX5_putIntoPane_68 rfl ?_
          refine z_iconst (v := (nI 1)) dX5_putIntoPane_70 (by decide) ?_
          refine z_putN (ci := 2) (f := 5) dX5_putIntoPane_71 ⟨by decide, by decide, zm_111, rfl⟩ (sA_pc hC (j := j) (by omega)) rfl rfl rfl (Nat.le_of_ble_eq_true rfl) ?_
          refine z_aload dX5_putIntoPane_74 rfl ?_
          refine z_iload dX5_putIntoPane_76 rfl ?_
          refine z_putN (ci := 2) (f := 6) dX5_putIntoPane_78 ⟨by decide, by decide, zm_115, rfl⟩ (zup_eq _ _ _) rfl rfl rfl (Nat.le_of_ble_eq_true rfl) ?_
          obtain ⟨f3, f4, fo⟩ := putS_f (s := s) (j := j) (v := nI (12 * a + b))
          refine z_heap (h2 := sput G sh o (putS s j (nI (12 * a + b))) (upd p (12 * a + b) (nI j)) hh) ((zup_zup _ _ _ _).trans (sput_up2 (by omega) (fo _ (by omega) (by omega)) (fo _ (by omega) (by omega)) (fo _ (by omega) (by omega)) (fo _ (by omega) (by omega)) (fo _ (by omega) (by omega)) f3 (f4.trans (by congr 1; omega)) (fun n hn2 => fo n (by omega) (by omega)))) ?_
          have hE : shopA G sh o (putS s j (nI (12 * a + b))) (upd p (12 * a + b) (nI j)) (sput G sh o (putS s j (nI (12 * a + b))) (upd p (12 * a + b) (nI j)) hh) := sput_A
          refine z_aload_n dX5_putIntoPane_81 rfl ?_
          refine z_iload_n dX5_putIntoPane_82 rfl ?_
          refine z_callVR (ci := 5) (k_X5_piecesIn hE hN1 (by omega)) dX5_putIntoPane_83 ⟨zm_527, zm_530, zm_3, zm_529, zmp_5, by decide⟩ (sA_o hE) (by decide) zp_X5_piecesIn rfl (Nat.le_of_ble_eq_true rfl) (Nat.le_refl _) (Nat.le_refl _) ?_
          exact z_iretR dX5_putIntoPane_86 rfl (by rw [hN]) rfl rfl (Nat.le_refl _) (Nat.le_refl _)
        · have eo : ¬ puO s p (nI j) a (nI b) = true := fun z => hq (by have := (puO_iff.mp z).2.2.2; rwa [cb] at this)
          rw [show puV s p (nI j) a (nI b) = -5 from if_neg eo, show puS s p (nI j) a (nI b) = s from if_neg eo, show puP s p (nI j) a (nI b) = p from if_neg eo]
          refine z_iload_n dX5_putIntoPane_37 rfl ?_
          refine z_bipush (v := (nI 12)) dX5_putIntoPane_38 (by decide) ?_
          refine z_imulN dX5_putIntoPane_40 ?_
          refine z_iload_n dX5_putIntoPane_41 rfl ?_
          refine z_iaddN dX5_putIntoPane_42 ?_
          refine z_istore dX5_putIntoPane_43 (by decide) rfl rfl ?_
          refine z_aload_n dX5_putIntoPane_45 rfl ?_
          refine z_get (ci := 5) (f := 3) dX5_putIntoPane_46 ⟨by decide, by decide, zm_134, rfl⟩ (sA_o hB) rfl ?_
          refine z_iload dX5_putIntoPane_49 rfl ?_
          refine z_ialdN (j := 12 * a + b) dX5_putIntoPane_51 (sA_3 hB) (by congr 1; omega) (by omega) (by decide) ?_
          refine z_bipush (v := (-6)) dX5_putIntoPane_52 (by decide) ?_
          refine z_icmp_eq (tgt := 60) dX5_putIntoPane_54 (by decide) (fun c_54 => absurd c_54 hq) (fun c_54 => ?_)
          refine z_bipush (v := (-5)) dX5_putIntoPane_57 (by decide) ?_
          exact z_iretR dX5_putIntoPane_59 rfl rfl rfl rfl (Nat.le_refl _) (Nat.le_refl _)
      · refine z_bipush (v := (-5)) dX5_putIntoPane_34 (by decide) ?_
        have eo : ¬ puO s p (nI j) a y = true := fun z0 => (fun z => by rw [zb_0 c_31] at z; exact absurd z.2.2.1 (by decide)) (puO_iff.mp z0)
        rw [show puV s p (nI j) a y = -5 from if_neg eo, show puS s p (nI j) a y = s from if_neg eo, show puP s p (nI j) a y = p from if_neg eo, sput_self hA]
        exact z_iretR dX5_putIntoPane_36 rfl rfl rfl rfl (Nat.le_refl _) (Nat.le_refl _)
  · have hx : isI (nP s) x = false := by simpa using hx
    refine z_aload_n dX5_putIntoPane_0 rfl ?_
    refine z_iload_n dX5_putIntoPane_1 rfl ?_
    refine z_callVR (ci := 5) (kz_X5_pieceAt hA h1 hm hx) dX5_putIntoPane_2 ⟨zm_223, zm_226, zm_3, zm_224, zm_225, by decide⟩ (sA_o hA) (by decide) zp_X5_pieceAt rfl (Nat.le_of_ble_eq_true rfl) (Nat.le_refl _) (Nat.le_refl _) ?_
    refine z_astoreN dX5_putIntoPane_5 (by decide) rfl rfl ?_
    refine z_aloadN dX5_putIntoPane_7 rfl ?_
    refine z_ifnullN (tgt := 34) dX5_putIntoPane_9 (by decide) ?_
    refine z_bipush (v := (-5)) dX5_putIntoPane_34 (by decide) ?_
    have eo : ¬ puO s p x a y = true := fun z0 => (fun z => by rw [z.1] at hx; cases hx) (puO_iff.mp z0)
    rw [show puV s p x a y = -5 from if_neg eo, show puS s p x a y = s from if_neg eo, show puP s p x a y = p from if_neg eo, sput_self hA]
    exact z_iretR dX5_putIntoPane_36 rfl rfl rfl rfl (Nat.le_refl _) (Nat.le_refl _)
set_option maxHeartbeats 4000000 in
set_option maxRecDepth 100000 in
theorem l_X5_clearPane {G : zG} {hh : zH} {sz sh o : Nat} {s p : Nat → Int32} (h1 : s 1 = nI (nP s)) (hm : nP s ≤ 48) {a : Nat} (ha : a < 3) : ∀ (n b : Nat) (p4 : Option Value), b + n = 12 → zS MX5_clearPane G 1 0 0 0 0 (sput G sh o (clT s p a b) (clQ (nP s) p a b) hh) sz 13 [some (.ref o), some (.int (nI a)), some (.int (clN (nP s) p a b)), some (.int (nI b)), p4] [] (fun rr hh' ss' kk' nn' => zR (.int (clN (nP s) p a 12)) (sput G sh o (clT s p a 12) (clQ (nP s) p a 12) hh) sz rr hh' ss' ∧ kk' ≤ 0 ∧ nn' ≤ 0) := by
  intro n; induction n with
  | zero =>
    intro b p4 hb
    have hN := clT_1 (p := p) (a := a) (b := b) h1
    have hB : shopA G sh o (clT s p a b) (clQ (nP s) p a b) (sput G sh o (clT s p a b) (clQ (nP s) p a b) hh) := sput_A
    refine z_iload_n dX5_clearPane_13 rfl ?_
    refine z_bipush (v := (nI 12)) dX5_clearPane_14 (by decide) ?_
    refine z_icmp_ge (tgt := 68) dX5_clearPane_16 (by decide) (fun c_16 => ?_) (fun c_16 => absurd c_16 (not_not_intro (nI_le (by omega) (by omega))))
    refine z_iload_n dX5_clearPane_68 rfl ?_
    exact z_iretR dX5_clearPane_69 rfl (by rw [show b = 12 by omega]) (by rw [show b = 12 by omega]) rfl (Nat.le_refl _) (Nat.le_refl _)
  | succ n ih =>
    intro b p4 hb
    have hN := clT_1 (p := p) (a := a) (b := b) h1
    have hB : shopA G sh o (clT s p a b) (clQ (nP s) p a b) (sput G sh o (clT s p a b) (clQ (nP s) p a b) hh) := sput_A
    refine z_iload_n dX5_clearPane_13 rfl ?_
    refine z_bipush (v := (nI 12)) dX5_clearPane_14 (by decide) ?_
    refine z_icmp_ge (tgt := 68) dX5_clearPane_16 (by decide) (fun c_16 => absurd c_16 (nI_ge (by omega) (by omega))) (fun c_16 => ?_)
    refine z_aload_n dX5_clearPane_19 rfl ?_
    refine z_aload_n dX5_clearPane_20 rfl ?_
    refine z_get (ci := 5) (f := 3) dX5_clearPane_21 ⟨by decide, by decide, zm_134, rfl⟩ (sA_o hB) rfl ?_
    refine z_iload_n dX5_clearPane_24 rfl ?_
    refine z_bipush (v := (nI 12)) dX5_clearPane_25 (by decide) ?_
    refine z_imulN dX5_clearPane_27 ?_
    refine z_iload_n dX5_clearPane_28 rfl ?_
    refine z_iaddN dX5_clearPane_29 ?_
    refine z_ialdN (j := 12 * a + b) dX5_clearPane_30 (sA_3 hB) (by congr 1; omega) (by omega) (by decide) ?_
    refine z_eq (clQ_ge b _ (Nat.le_refl _)) ?_
    by_cases hx : isI (nP s) (p (12 * a + b)) = true
    · obtain ⟨j, hj, ej⟩ := (isI_iff (by omega)).mp hx
      have cj : (p (12 * a + b)).toNatClampNeg = j := by rw [ej]; exact nI_clamp (by omega)
      have e1 : clT s p a (b + 1) = lsS (clT s p a b) j := by rw [clT, if_pos hx, cj]
      have e2 : clQ (nP s) p a (b + 1) = upd (clQ (nP s) p a b) (12 * a + b) (-6) := by rw [clQ, if_pos hx]
      have e3 : clN (nP s) p a (b + 1) = clN (nP s) p a b + nI 1 := by rw [clN, if_pos hx]
      refine z_eq ej ?_
      refine z_callVR (ci := 5) (k_X5_pieceAt hB (by rw [hN.1]; exact hN.2) (by omega) (i := j) (by omega)) dX5_clearPane_31 ⟨zm_223, zm_226, zm_3, zm_224, zm_225, by decide⟩ (sA_o hB) (by decide) zp_X5_pieceAt rfl (Nat.le_of_ble_eq_true rfl) (Nat.le_refl _) (Nat.le_refl _) ?_
      refine z_astore dX5_clearPane_34 (by decide) rfl rfl ?_
      refine z_aload dX5_clearPane_36 rfl ?_
      refine z_ifnull dX5_clearPane_38 ?_
      refine z_aload dX5_clearPane_41 rfl ?_
      refine z_callVU (ci := 2) (k_X2_becomeLoose (sA_pc hB (j := j) (by omega))) dX5_clearPane_43 ⟨zm_353, zm_356, zm_5, zm_354, zm_355, by decide⟩ (sA_pc hB (j := j) (by omega)) (by decide) zp_X2_becomeLoose rfl (Nat.le_of_ble_eq_true rfl) (Nat.le_refl _) (Nat.le_refl _) ?_
      obtain ⟨f3, f4, fo⟩ := lsS_f (s := clT s p a b) (j := j)
      refine z_heap (h2 := sput G sh o (lsS (clT s p a b) j) (clQ (nP s) p a b) hh) (sput_up2 (by omega) (fo _ (by omega) (by omega)) (fo _ (by omega) (by omega)) (fo _ (by omega) (by omega)) (fo _ (by omega) (by omega)) (fo _ (by omega) (by omega)) f3 f4 (fun n hn2 => fo n (by omega) (by omega))) ?_
      have hE : shopA G sh o (lsS (clT s p a b) j) (clQ (nP s) p a b) (sput G sh o (lsS (clT s p a b) j) (clQ (nP s) p a b) hh) := sput_A
      refine z_aload_n dX5_clearPane_46 rfl ?_
      refine z_get (ci := 5) (f := 3) dX5_clearPane_47 ⟨by decide, by decide, zm_134, rfl⟩ (sA_o hE) rfl ?_
      refine z_iload_n dX5_clearPane_50 rfl ?_
      refine z_bipush (v := (nI 12)) dX5_clearPane_51 (by decide) ?_
      refine z_imulN dX5_clearPane_53 ?_
      refine z_iload_n dX5_clearPane_54 rfl ?_
      refine z_iaddN dX5_clearPane_55 ?_
      refine z_bipush (v := (-6)) dX5_clearPane_56 (by decide) ?_
      refine z_iastN (j := 12 * a + b) dX5_clearPane_58 (sA_3 hE) (by congr 1; omega) (by omega) (by decide) ?_
      refine z_heap sput_u3 ?_
      refine z_iincC (c := (nI 1)) dX5_clearPane_59 (by decide) rfl (by decide) rfl rfl ?_
      refine z_iincU dX5_clearPane_62 rfl (by decide) rfl rfl ?_
      refine z_goto (tgt := 13) dX5_clearPane_65 (by decide) ?_
      rw [← e1, ← e2]
      rw [show clN (nP s) p a b + nI 1 = clN (nP s) p a (b + 1) from e3.symm]
      exact ih (b + 1) _ (by omega)
    · have e1 : clT s p a (b + 1) = clT s p a b := by rw [clT, if_neg hx]
      have e2 : clQ (nP s) p a (b + 1) = clQ (nP s) p a b := by rw [clQ, if_neg hx]
      have e3 : clN (nP s) p a (b + 1) = clN (nP s) p a b := by rw [clN, if_neg hx, add_n0]
      refine z_callVR (ci := 5) (kz_X5_pieceAt hB (by rw [hN.1]; exact hN.2) (by omega) (by rw [hN.1]; simpa using hx)) dX5_clearPane_31 ⟨zm_223, zm_226, zm_3, zm_224, zm_225, by decide⟩ (sA_o hB) (by decide) zp_X5_pieceAt rfl (Nat.le_of_ble_eq_true rfl) (Nat.le_refl _) (Nat.le_refl _) ?_
      refine z_astoreN dX5_clearPane_34 (by decide) rfl rfl ?_
      refine z_aloadN dX5_clearPane_36 rfl ?_
      refine z_ifnullN (tgt := 62) dX5_clearPane_38 (by decide) ?_
      refine z_iincU dX5_clearPane_62 rfl (by decide) rfl rfl ?_
      refine z_goto (tgt := 13) dX5_clearPane_65 (by decide) ?_
      rw [← e1, ← e2, ← e3]
      exact ih (b + 1) _ (by omega)
set_option maxHeartbeats 4000000 in
set_option maxRecDepth 100000 in
theorem k_X5_clearPane {G : zG} {hh : zH} {sz sh o : Nat} {s p : Nat → Int32} (hA : shopA G sh o s p hh) (h1 : s 1 = nI (nP s)) (hm : nP s ≤ 48) {a : Nat} (ha : a < 3) : zC G 1 MX5_clearPane yX5_clearPane [.ref o, .int (nI a)] hh sz 0 0 (zR (.int (clN (nP s) p a 12)) (sput G sh o (clT s p a 12) (clQ (nP s) p a 12) hh) sz) := by
  refine z_intro _ rfl zy_X5_clearPane (Nat.le_of_ble_eq_true rfl) ?_
  refine z_iload_n dX5_clearPane_0 rfl ?_
  refine z_callSNR (kn6_isPaneT ha) dX5_clearPane_1 ⟨zm_525, zm_411, zm_1, zm_410⟩  (by decide) zp_X6_isPane rfl (Nat.le_of_ble_eq_true rfl) (Nat.le_refl _) (Nat.le_refl _) ?_
  refine z_if_ne (tgt := 9) dX5_clearPane_4 (by decide) (fun c_4 => ?_) (fun c_4 => absurd c_4 (by decide))
  refine z_iconst (v := (nI 0)) dX5_clearPane_9 (by decide) ?_
  refine z_istore_n dX5_clearPane_10 (by decide) rfl rfl ?_
  refine z_iconst (v := (nI 0)) dX5_clearPane_11 (by decide) ?_
  refine z_istore_n dX5_clearPane_12 (by decide) rfl rfl ?_
  refine z_heap (h2 := sput G sh o (clT s p a 0) (clQ (nP s) p a 0) hh) (sput_self hA).symm ?_
  exact l_X5_clearPane h1 hm ha 12 0 _ (Nat.zero_add _)
