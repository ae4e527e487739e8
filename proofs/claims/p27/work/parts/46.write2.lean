theorem wrA_s {lt : Nat → Nat} {L mi p q n k : Nat} {col : Int32} {s s' : Nat → Int32} (h : wrStep s col (lt (if mi = 1 then L - 1 - k else k)) mi p (q + k) = some s') : wrA lt L col mi p q (n + 1) k s = wrA lt L col mi p q n (k + 1) s' := by
  rw [wrA, h]
theorem wrA_n {lt : Nat → Nat} {L mi p q n k : Nat} {col : Int32} {s : Nat → Int32} (h : wrStep s col (lt (if mi = 1 then L - 1 - k else k)) mi p (q + k) = none) : (wrA lt L col mi p q (n + 1) k s).1 = false := by
  rw [wrA, h]
theorem wrS_yes {s : Nat → Int32} {col : Int32} {l mi p pl j : Nat} (h1 : pl < 12) (h2 : paF s (nI (12 * p + pl)) (nP s) = -6) (h3 : pfV s col l mi (nSh s) (nP s) = nI j) (hj : j < 2 ^ 31) : wrStep s col l mi p pl = some (putS (pfS s col l mi (nSh s) (nP s)) j (nI (12 * p + pl))) := by
  unfold wrStep
  rw [nI_12, if_pos ⟨h1, h2⟩, h3, if_neg (nI_ne6 hj), nI_clamp hj]
theorem wrS_no1 {s : Nat → Int32} {col : Int32} {l mi p pl : Nat} (h : ¬ (pl < 12 ∧ paF s (nI (12 * p + pl)) (nP s) = -6)) : wrStep s col l mi p pl = none := by
  unfold wrStep
  rw [nI_12, if_neg h]
theorem wrS_no2 {s : Nat → Int32} {col : Int32} {l mi p pl : Nat} (h : pfV s col l mi (nSh s) (nP s) = -6) : wrStep s col l mi p pl = none := by
  unfold wrStep
  split
  · first | rfl | rw [if_pos h]
  · rfl
theorem puO_n {t p0 : Nat → Int32} {x : Int32} {p pl : Nat} (hx : isI (nP t) x = true) (h3 : t (69 + 8 * x.toNatClampNeg + 3) = 0) (hpl : pl < 24) (h : puO t p0 x p (nI pl) = false) : ¬ (pl < 12 ∧ p0 (12 * p + pl) = -6) := by
  rintro ⟨h1, h2⟩
  have : puO t p0 x p (nI pl) = true := puO_iff.mpr ⟨hx, h3, isI_nI (by omega) h1, by rw [nI_clamp (by omega)]; exact h2⟩
  rw [h] at this
  cases this
set_option maxHeartbeats 4000000 in
set_option maxRecDepth 100000 in
theorem l41_X5_writeName {G : zG} {hh : zH} {sz sh o pd L p q mi : Nat} {s : Nat → Int32} {col : Int32} {lt : Nat → Nat} {R : Bool × (Nat → Int32)} (hs : shH G sh hh) (hd : sh + 2 ≤ o ∨ o + 64 ≤ sh) (hp : p < 3) (hq : q < 12) (hmi : mi < 2) {n i : Nat} (hi : i < 12) {t : Nat → Int32} {u : Nat} {p9 : Option Value} (hv : vS t) (hu : nP t = nP s + u) {l : Nat} (hl : l < 8) (hlt : lt (if mi = 1 then L - 1 - i else i) = l) (hRw : R = wrA lt L col mi p q (n + 1) i t) (ke : ∀ (t' : Nat → Int32) (u' : Nat) (p8 p9 : Option Value), vS t' → nP t' = nP s + u' → R = wrA lt L col mi p q n (i + 1) t' → zS MX5_writeName G 5 0 0 0 0 (sput G sh o t' (spF t') hh) sz 6 [some (.ref o), some (.ref pd), some (.int (nI p)), some (.int (nI q)), some (.int col), some (.int (nI mi)), some (.int (nI (u'))), some (.int (nI (i + 1))), p8, p9] [] (fun rr hh' ss' kk' nn' => wnP G sh o s R hh sz rr hh' ss' ∧ kk' ≤ 0 ∧ nn' ≤ 0)) : zS MX5_writeName G 5 0 0 0 0 (sput G sh o t (spF t) hh) sz 41 [some (.ref o), some (.ref pd), some (.int (nI p)), some (.int (nI q)), some (.int col), some (.int (nI mi)), some (.int (nI (u))), some (.int (nI (i))), some (.int (nI l)), p9] [] (fun rr hh' ss' kk' nn' => wnP G sh o s R hh sz rr hh' ss' ∧ kk' ≤ 0 ∧ nn' ≤ 0) := by
  obtain ⟨⟨a1, a2⟩, ⟨b1, b2⟩, hR⟩ := id hv.1
  refine z_aload_n dX5_writeName_41 rfl ?_
  refine z_iload dX5_writeName_42 rfl ?_
  refine z_iload dX5_writeName_44 rfl ?_
  refine z_iload dX5_writeName_46 rfl ?_
  refine z_callVR (ci := 5) (k_X5_lowestLoose sput_A b1 b2 (vW hv)) dX5_writeName_48 ⟨zm_515, zm_518, zm_3, zm_517, zmp_4, by decide⟩ (sA_o sput_A) (by decide) zp_X5_lowestLoose rfl (Nat.le_of_ble_eq_true rfl) (Nat.le_refl _) (Nat.le_refl _) ?_
  refine z_istore dX5_writeName_51 (by decide) rfl rfl ?_
  refine z_iload dX5_writeName_53 rfl ?_
  refine z_bipush (v := (-6)) dX5_writeName_55 (by decide) ?_
  refine z_icmp_ne (tgt := 75) dX5_writeName_57 (by decide) (fun c_57 => ?_) (fun c_57 => ?_)
  · rcases loF_val (s := t) (col := col) (lt := nI l) (mi := nI mi) (nP t) (-6) with e | ⟨j, j1, j2, -, -, -, j3⟩
    · exact absurd e c_57
    · rw [j2]
      have ep : pfV t col l mi (nSh t) (nP t) = nI j := by unfold pfV; rw [if_neg c_57, j2]
      have es : pfS t col l mi (nSh t) (nP t) = t := by unfold pfS; rw [if_neg c_57]
      refine l75_X5_writeName (lt := lt) (L := L) (n := n) hs hd hp hq hmi hi hv (fun _ => hu) ke (fun j' x1 x2 x3 x4 x5 => ?_) (fun x1 => ?_)
      · have ejj : j = j' := (nI_eq (by omega) (by omega)).mp x1
        rw [hRw, wrA_s (by rw [hlt]; exact wrS_yes x4 x5 ep (by omega)), es, ejj]
      · rw [hRw]
        refine wrA_n ?_
        rw [hlt]
        refine wrS_no1 (fun z => puO_n (isI_nI (by omega) j1) (by rw [nI_clamp (by omega)]; exact j3) (by omega) x1 ⟨z.1, ?_⟩)
        rw [spF_eq (by omega)]
        exact z.2
  · refine z_aload_n dX5_writeName_60 rfl ?_
    refine z_iload dX5_writeName_61 rfl ?_
    refine z_iload dX5_writeName_63 rfl ?_
    refine z_iload dX5_writeName_65 rfl ?_
    refine z_callVR (ci := 5) (k_X5_makePiece sput_A (sput_sh hs hd) hd hv.1 hl hmi) dX5_writeName_67 ⟨zm_520, zm_367, zm_3, zm_365, zm_366, by decide⟩ (sA_o sput_A) (by decide) zp_X5_makePiece rfl (Nat.le_of_ble_eq_true rfl) (Nat.le_refl _) (Nat.le_refl _) ?_
    rw [sput_sput]
    by_cases hm1 : shF t col l mi (nSh t) 0 < nSh t ∧ ¬ nP t = 48
    · have e1 : mkV t col l mi = nI (nP t) := by unfold mkV; rw [if_pos hm1.1, if_neg hm1.2]
      have e2 : mkS t col l mi = fitS t (nP t) (shF t col l mi (nSh t) 0) l mi := by unfold mkS; rw [if_pos hm1.1, if_neg hm1.2]
      have hf := shF_ok (s := t) (col := col) (l := l) (mi := mi) (nSh t) 0 (by omega)
      obtain ⟨g1, g2, g3, g4⟩ := vS_fit hv (by omega) hm1.1 hl hmi hf
      have ep : pfV t col l mi (nSh t) (nP t) = nI (nP t) := by unfold pfV; rw [if_pos c_57, if_pos (by omega), if_pos hm1.1]
      have es : pfS t col l mi (nSh t) (nP t) = fitS t (nP t) (shF t col l mi (nSh t) 0) l mi := by unfold pfS; rw [if_pos c_57, if_pos (by omega), if_pos hm1.1]
      rw [e1, e2, ← g2]
      refine z_istore dX5_writeName_70 (by decide) rfl rfl ?_
      refine z_iincU dX5_writeName_72 rfl (by decide) rfl rfl ?_
      refine l75_X5_writeName (lt := lt) (L := L) (n := n) hs hd hp hq hmi hi g1 (fun _ => show _ = nP s + (u + 1) by omega) ke (fun j' x1 x2 x3 x4 x5 => ?_) (fun x1 => ?_)
      · have ejj : nP t = j' := (nI_eq (by omega) (by omega)).mp x1
        have hpa : paF t (nI (12 * p + (q + i))) (nP t) = -6 := by
          rw [← spF_eq (by omega), ← g2, spF_eq (by omega)]
          exact x5
        rw [hRw, wrA_s (by rw [hlt]; exact wrS_yes x4 hpa ep (by omega)), es, ejj]
      · rw [hRw]
        refine wrA_n ?_
        rw [hlt]
        refine wrS_no1 (fun z => puO_n (isI_nI (by omega) (by omega)) (by rw [nI_clamp (by omega)]; exact g4) (by omega) x1 ⟨z.1, ?_⟩)
        rw [g2, spF_eq (by omega)]
        exact z.2
    · have ex : isI (nP t) (mkV t col l mi) = false ∧ mkS t col l mi = t ∧ pfV t col l mi (nSh t) (nP t) = -6 := by
        unfold mkV mkS pfV
        rw [if_pos c_57]
        by_cases q1 : shF t col l mi (nSh t) 0 < nSh t
        · have q2 : nP t = 48 := Decidable.of_not_not (fun z => hm1 ⟨q1, z⟩)
          rw [if_pos q1, if_pos q1, if_pos q2, if_pos q2, if_neg (by omega)]
          exact ⟨by rw [q2]; decide, rfl, rfl⟩
        · rw [if_neg q1, if_neg q1, if_neg q1]
          refine ⟨?_, rfl, ?_⟩
          · unfold isI; exact decide_eq_false (fun z => absurd z.1 (by decide))
          · split <;> rfl
      obtain ⟨x1, x2, x3⟩ := ex
      rw [x2]
      refine z_istore dX5_writeName_70 (by decide) rfl rfl ?_
      refine z_iincU dX5_writeName_72 rfl (by decide) rfl rfl ?_
      refine l75_X5_writeName (lt := lt) (L := L) (n := n) (t1 := t) hs hd hp hq hmi hi hv (u := u + 1) (fun z => absurd z (by rw [x1]; decide)) ke (fun j' y1 y2 y3 y4 y5 => ?_) (fun y1 => ?_)
      · rw [y1, isI_nI (by omega) y2] at x1; cases x1
      · rw [hRw]
        refine wrA_n ?_
        rw [hlt]
        exact wrS_no2 x3
