theorem alC_le {st g : Nat → Option Nat} {i : Nat} (hi : i < 6) : alC st i ≤ 64 * nnF st g := by
  unfold alC
  cases e : st i with
  | some a => exact Nat.zero_le _
  | none => have := nn_st (g := g) (a := 0) hi e; show 64 ≤ _; omega
theorem alS_le {st g : Nat → Option Nat} {i : Nat} (hi : i < 6) : alS st i ≤ 510 * nnF st g := by
  unfold alS
  cases e : st i with
  | some a => exact Nat.zero_le _
  | none => have := nn_st (g := g) (a := 0) hi e; show 510 ≤ _; omega
theorem opC_le {o : Int32 × Option (Nat → Int32)} {st g : Nat → Option Nat} {i : Nat} (hi : i < 6) : opC o st i ≤ 64 * nnF st g := by
  unfold opC
  cases o.2 with
  | none => exact Nat.zero_le _
  | some t => exact alC_le hi
theorem opS_le {o : Int32 × Option (Nat → Int32)} {st g : Nat → Option Nat} {i : Nat} (hi : i < 6) : opS o st i ≤ 510 * nnF st g := by
  unfold opS
  cases o.2 with
  | none => exact Nat.zero_le _
  | some t => exact alS_le hi
theorem setP_kM {G : zG} {B : Nat} {x : Int32} {t s f : Nat → Int32} {L K old : Nat} {st g : Nat → Option Nat} {ct : Nat → Nat → Int32} {hh : zH} {sz : Nat} {r : Option Value} {h' : zH} {s' : Nat} (h : setP G B x t s f L K old st g ct hh sz r h' s') : keM B hh h' := by
  revert h
  unfold setP
  cases st ((old + K) % 6) with
  | some a => exact fun h => h.2.2.2
  | none => exact fun h => h.2.2.2
theorem opP_r {G : zG} {B : Nat} {o : Int32 × Option (Nat → Int32)} {s f : Nat → Int32} {L K old : Nat} {st g : Nat → Option Nat} {ct : Nat → Nat → Int32} {hh : zH} {sz : Nat} {r : Option Value} {h' : zH} {s' : Nat} (h : opP G B o s f L K old st g ct hh sz r h' s') : r = some (.int o.1) ∧ keM B hh h' := by
  revert h
  unfold opP
  cases o.2 with
  | none => exact fun h => ⟨h.1, h.2.2.2⟩
  | some t => exact fun h => ⟨setP_r h, setP_kM h⟩
theorem wrP_r {G : zG} {B : Nat} {o : Int32 × Option (Nat → Int32)} {s f : Nat → Int32} {L K old : Nat} {st g : Nat → Option Nat} {ct : Nat → Nat → Int32} {hh : zH} {sz : Nat} {r : Option Value} {h' : zH} {s' : Nat} (h : wrP G B o s f L K old st g ct hh sz r h' s') : r = some (.int o.1) ∧ keM B hh h' := by
  revert h
  unfold wrP
  cases o.2 with
  | none => exact fun h => ⟨h.1, h.2.2.2⟩
  | some t => exact fun h => ⟨setP_r h, setP_kM h⟩
theorem go_wr {G : zG} {B : Nat} {o : Int32 × Option (Nat → Int32)} {s f fo : Nat → Int32} {L K old : Nat} {st g : Nat → Option Nat} {ct : Nat → Nat → Int32} {τ : Nat → Nat → Int32} {hh h1 h2 : zH} {sz : Nat} {r r2 : Option Value} {s1 s3 : Nat}
    (hi : inv G B s f L K old st g ct fo τ hh sz) (hc : wrP G B o s f L K old st g ct hh sz r h1 s1) (hm : zJw o G (B + 138) s τ K L h1 s1 r2 h2 s3) : go G B o.1 (opC o st ((old + K) % 6)) (opS o st ((old + K) % 6)) (nnF st g) r r2 h2 s3 := by
  obtain ⟨x, y⟩ := o
  cases y with
  | none => exact go_se hi hc hm hi.2.2 (by show 0 + _ ≤ _; omega) (by show 0 + _ ≤ _; omega)
  | some t => exact go_set hi hc (Or.inr rfl) hm
/-- a call of the class and then of the reference -/
def both (G : zG) (B nn : Nat) (hh : zH) (sz : Nat) (M1 : zM) (y1 : MethodName) (M2 : zM) (y2 : MethodName) (as : List Value) : Prop :=
  ∃ (d1 c d : Nat) (x : Int32) (P1 : Option Value → zH → Nat → Prop) (fs : List Value), d1 + 1 ≤ 12 ∧ c ≤ 64 * nn ∧ d ≤ 510 * nn ∧ hh B = some (.inr (6, fs)) ∧ zC G d1 M1 y1 (.ref B :: as) hh sz c d P1 ∧
    ∀ r h1 s1, P1 r h1 s1 → r = some (.int x) ∧ ∃ (d2 : Nat) (fs2 : List Value) (P2 : Option Value → zH → Nat → Prop), d2 + 1 ≤ 12 ∧ h1 (B + 138) = some (.inr (7, fs2)) ∧ zC G d2 M2 y2 (.ref (B + 138) :: as) h1 s1 0 0 P2 ∧
      ∀ r2 h2 s2, P2 r2 h2 s2 → go G B x c d nn r r2 h2 s2
section BOTH
variable {G : zG} {B : Nat} {s f fo : Nat → Int32} {L K old : Nat} {st g : Nat → Option Nat} {ct : Nat → Nat → Int32} {τ : Nat → Nat → Int32} {hh : zH} {sz : Nat} {M1 M2 : zM} {y1 y2 : MethodName} {as : List Value}
theorem both_op (hi : inv G B s f L K old st g ct fo τ hh sz) {o : Int32 × Option (Nat → Int32)} {d1 d2 : Nat} (hd1 : d1 + 1 ≤ 12) (hd2 : d2 + 1 ≤ 12) (C1 : zC G d1 M1 y1 (.ref B :: as) hh sz (opC o st ((old + K) % 6)) (opS o st ((old + K) % 6)) (opP G B o s f L K old st g ct hh sz))
    (C2 : ∀ h1 s1, zC G d2 M2 y2 (.ref (B + 138) :: as) (mq G (B + 138) s fo τ (nI K) (nI L) h1) s1 0 0 (zJc o G (B + 138) s τ K (nI L) h1 s1)) : both G B (nnF st g) hh sz M1 y1 M2 y2 as := by
  have h6 : (old + K) % 6 < 6 := Nat.mod_lt _ (by omega)
  refine ⟨d1, _, _, o.1, _, _, hd1, opC_le h6, opS_le h6, hi.1.1.1.1, C1, fun r h1 s1 hp => ⟨(opP_r hp).1, d2, _, zJc o G (B + 138) s τ K (nI L) h1 s1, hd2, (congrFun (mq_ke hi.2.1 (opP_r hp).2) (B + 138)).symm.trans mq_o, ?_, fun r2 h2 s2 hm => go_op hi hp hm⟩⟩
  have e := mq_ke hi.2.1 (opP_r hp).2
  have q := C2 h1 s1
  rw [e] at q
  exact q
theorem both_wr (hi : inv G B s f L K old st g ct fo τ hh sz) {o : Int32 × Option (Nat → Int32)} {d1 d2 : Nat} (hd1 : d1 + 1 ≤ 12) (hd2 : d2 + 1 ≤ 12) (C1 : zC G d1 M1 y1 (.ref B :: as) hh sz (opC o st ((old + K) % 6)) (opS o st ((old + K) % 6)) (wrP G B o s f L K old st g ct hh sz))
    (C2 : ∀ h1 s1, zC G d2 M2 y2 (.ref (B + 138) :: as) (mq G (B + 138) s fo τ (nI K) (nI L) h1) s1 0 0 (zJw o G (B + 138) s τ K L h1 s1)) : both G B (nnF st g) hh sz M1 y1 M2 y2 as := by
  have h6 : (old + K) % 6 < 6 := Nat.mod_lt _ (by omega)
  refine ⟨d1, _, _, o.1, _, _, hd1, opC_le h6, opS_le h6, hi.1.1.1.1, C1, fun r h1 s1 hp => ⟨(wrP_r hp).1, d2, _, zJw o G (B + 138) s τ K L h1 s1, hd2, (congrFun (mq_ke hi.2.1 (wrP_r hp).2) (B + 138)).symm.trans mq_o, ?_, fun r2 h2 s2 hm => go_wr hi hp hm⟩⟩
  have e := mq_ke hi.2.1 (wrP_r hp).2
  have q := C2 h1 s1
  rw [e] at q
  exact q
theorem both_set (hi : inv G B s f L K old st g ct fo τ hh sz) {x : Int32} {t : Nat → Int32} {d1 d2 : Nat} (hd1 : d1 + 1 ≤ 12) (hd2 : d2 + 1 ≤ 12) (C1 : zC G d1 M1 y1 (.ref B :: as) hh sz (alC st ((old + K) % 6)) (alS st ((old + K) % 6)) (setP G B x t s f L K old st g ct hh sz))
    (C2 : ∀ h1 s1, zC G d2 M2 y2 (.ref (B + 138) :: as) (mq G (B + 138) s fo τ (nI K) (nI L) h1) s1 0 0 (zJ x G (B + 138) t (mu τ 2 (recH s (τ 2) K)) (nI (recB K + 1)) (nI L) h1 s1)) : both G B (nnF st g) hh sz M1 y1 M2 y2 as := by
  have h6 : (old + K) % 6 < 6 := Nat.mod_lt _ (by omega)
  refine ⟨d1, _, _, x, _, _, hd1, alC_le h6, alS_le h6, hi.1.1.1.1, C1, fun r h1 s1 hp => ⟨setP_r hp, d2, _, zJ x G (B + 138) t (mu τ 2 (recH s (τ 2) K)) (nI (recB K + 1)) (nI L) h1 s1, hd2, (congrFun (mq_ke hi.2.1 (setP_kM hp)) (B + 138)).symm.trans mq_o, ?_, fun r2 h2 s2 hm => go_set hi hp (Or.inl rfl) hm⟩⟩
  have e := mq_ke hi.2.1 (setP_kM hp)
  have q := C2 h1 s1
  rw [e] at q
  exact q
theorem both_se (hi : inv G B s f L K old st g ct fo τ hh sz) {x : Int32} {s2 f2 : Nat → Int32} {L2 K2 old2 : Nat} {st2 g2 : Nat → Option Nat} {ct2 : Nat → Nat → Int32} {τ2 : Nat → Nat → Int32} {sz2 d1 d2 c d : Nat} (hd1 : d1 + 1 ≤ 12) (hd2 : d2 + 1 ≤ 12) (h3 : c + 64 * nnF st2 g2 ≤ 64 * nnF st g) (h4 : d + 510 * nnF st2 g2 ≤ 510 * nnF st g) (hr : relA f2 L2 K2 old2 g2 ct2 τ2)
    (C1 : zC G d1 M1 y1 (.ref B :: as) hh sz c d (seP G B x s2 f2 L2 K2 old2 st2 g2 ct2 hh sz2))
    (C2 : ∀ h1 s1, zC G d2 M2 y2 (.ref (B + 138) :: as) (mq G (B + 138) s fo τ (nI K) (nI L) h1) s1 0 0 (zJ x G (B + 138) s2 τ2 (nI K2) (nI L2) h1 s1)) : both G B (nnF st g) hh sz M1 y1 M2 y2 as := by
  refine ⟨d1, _, _, x, _, _, hd1, by omega, by omega, hi.1.1.1.1, C1, fun r h1 s1 hp => ⟨hp.1, d2, _, zJ x G (B + 138) s2 τ2 (nI K2) (nI L2) h1 s1, hd2, (congrFun (mq_ke hi.2.1 hp.2.2.2) (B + 138)).symm.trans mq_o, ?_, fun r2 h2 s2 hm => go_se hi hp hm hr h3 h4⟩⟩
  have e := mq_ke hi.2.1 hp.2.2.2
  have q := C2 h1 s1
  rw [e] at q
  exact q
theorem both_rd (hi : inv G B s f L K old st g ct fo τ hh sz) {x : Int32} {d1 d2 : Nat} (hd1 : d1 + 1 ≤ 12) (hd2 : d2 + 1 ≤ 12) (C1 : zC G d1 M1 y1 (.ref B :: as) hh sz 0 0 (zR (.int x) hh sz))
    (C2 : ∀ h1 s1, zC G d2 M2 y2 (.ref (B + 138) :: as) (mq G (B + 138) s fo τ (nI K) (nI L) h1) s1 0 0 (zJ x G (B + 138) s τ (nI K) (nI L) h1 s1)) : both G B (nnF st g) hh sz M1 y1 M2 y2 as :=
  both_se hi (s2 := s) (f2 := f) (L2 := L) (K2 := K) (old2 := old) (st2 := st) (g2 := g) (ct2 := ct) (τ2 := τ) (sz2 := sz) hd1 hd2 (Nat.le_of_eq (Nat.zero_add _)) (Nat.le_of_eq (Nat.zero_add _)) hi.2.2 (C1.mono (fun r h' s' hp => ⟨hp.1, by rw [hp.2.1, hp.2.2]; exact hi.1, hp.2.2, by rw [hp.2.1]; exact keM.rfl⟩)) C2
theorem zC_post {d mc ms : Nat} {P Q : Option Value → zH → Nat → Prop} {s1 : Nat} {h1 : zH} (h : zC G d M1 y1 as h1 s1 mc ms P) (e : P = Q) : zC G d M1 y1 as h1 s1 mc ms Q := e ▸ h
end BOTH

theorem b_sheet {G : zG} {B : Nat} {s f fo : Nat → Int32} {L K old : Nat} {st g : Nat → Option Nat} {ct : Nat → Nat → Int32} {τ : Nat → Nat → Int32} {hh : zH} {sz : Nat} (hi : inv G B s f L K old st g ct fo τ hh sz) {x : Int32} : both G B (nnF st g) hh sz MX6_sheet yX6_sheet MX7_sheet yX7_sheet [.int x] := by
  obtain ⟨hF, hA, hSv, hvs, ho, hK, hrg, hsz, hL80, hC⟩ := id hi.1.1
  have hT := hi.2.2.1
  exact both_op hi (Nat.le_of_ble_eq_true rfl) (Nat.le_of_ble_eq_true rfl) (k_X6_sheet hi.1) (fun h1 s1 => k_X7_sheet hK hT hvs.1)
theorem b_cut {G : zG} {B : Nat} {s f fo : Nat → Int32} {L K old : Nat} {st g : Nat → Option Nat} {ct : Nat → Nat → Int32} {τ : Nat → Nat → Int32} {hh : zH} {sz : Nat} (hi : inv G B s f L K old st g ct fo τ hh sz) {x y z u v : Int32} : both G B (nnF st g) hh sz MX6_cut yX6_cut MX7_cut yX7_cut [.int x, .int y, .int z, .int u, .int v] := by
  obtain ⟨hF, hA, hSv, hvs, ho, hK, hrg, hsz, hL80, hC⟩ := id hi.1.1
  have hT := hi.2.2.1
  exact both_op hi (Nat.le_of_ble_eq_true rfl) (Nat.le_of_ble_eq_true rfl) (k_X6_cut hi.1) (fun h1 s1 => k_X7_cut hK hT hvs.1)
theorem b_make {G : zG} {B : Nat} {s f fo : Nat → Int32} {L K old : Nat} {st g : Nat → Option Nat} {ct : Nat → Nat → Int32} {τ : Nat → Nat → Int32} {hh : zH} {sz : Nat} (hi : inv G B s f L K old st g ct fo τ hh sz) {x y z : Int32} : both G B (nnF st g) hh sz MX6_make yX6_make MX7_make yX7_make [.int x, .int y, .int z] := by
  obtain ⟨hF, hA, hSv, hvs, ho, hK, hrg, hsz, hL80, hC⟩ := id hi.1.1
  have hT := hi.2.2.1
  exact both_op hi (Nat.le_of_ble_eq_true rfl) (Nat.le_of_ble_eq_true rfl) (k_X6_make hi.1) (fun h1 s1 => k_X7_make hK hT hvs.1)
theorem b_place {G : zG} {B : Nat} {s f fo : Nat → Int32} {L K old : Nat} {st g : Nat → Option Nat} {ct : Nat → Nat → Int32} {τ : Nat → Nat → Int32} {hh : zH} {sz : Nat} (hi : inv G B s f L K old st g ct fo τ hh sz) {x y z : Int32} : both G B (nnF st g) hh sz MX6_place yX6_place MX7_place yX7_place [.int x, .int y, .int z] := by
  obtain ⟨hF, hA, hSv, hvs, ho, hK, hrg, hsz, hL80, hC⟩ := id hi.1.1
  have hT := hi.2.2.1
  exact both_op hi (Nat.le_of_ble_eq_true rfl) (Nat.le_of_ble_eq_true rfl) (k_X6_place hi.1) (fun h1 s1 => k_X7_place hK hT hvs.1)
theorem b_clear {G : zG} {B : Nat} {s f fo : Nat → Int32} {L K old : Nat} {st g : Nat → Option Nat} {ct : Nat → Nat → Int32} {τ : Nat → Nat → Int32} {hh : zH} {sz : Nat} (hi : inv G B s f L K old st g ct fo τ hh sz) {x : Int32} : both G B (nnF st g) hh sz MX6_clear yX6_clear MX7_clear yX7_clear [.int x] := by
  obtain ⟨hF, hA, hSv, hvs, ho, hK, hrg, hsz, hL80, hC⟩ := id hi.1.1
  have hT := hi.2.2.1
  exact both_op hi (Nat.le_of_ble_eq_true rfl) (Nat.le_of_ble_eq_true rfl) (k_X6_clear hi.1) (fun h1 s1 => k_X7_clear hK hT hvs.1)
theorem b_throwAway {G : zG} {B : Nat} {s f fo : Nat → Int32} {L K old : Nat} {st g : Nat → Option Nat} {ct : Nat → Nat → Int32} {τ : Nat → Nat → Int32} {hh : zH} {sz : Nat} (hi : inv G B s f L K old st g ct fo τ hh sz) {x : Int32} : both G B (nnF st g) hh sz MX6_throwAway yX6_throwAway MX7_throwAway yX7_throwAway [.int x] := by
  obtain ⟨hF, hA, hSv, hvs, ho, hK, hrg, hsz, hL80, hC⟩ := id hi.1.1
  have hT := hi.2.2.1
  exact both_op hi (Nat.le_of_ble_eq_true rfl) (Nat.le_of_ble_eq_true rfl) (k_X6_throwAway hi.1) (fun h1 s1 => k_X7_throwAway hK hT hvs.1 (vOkP hvs))
theorem b_scrap {G : zG} {B : Nat} {s f fo : Nat → Int32} {L K old : Nat} {st g : Nat → Option Nat} {ct : Nat → Nat → Int32} {τ : Nat → Nat → Int32} {hh : zH} {sz : Nat} (hi : inv G B s f L K old st g ct fo τ hh sz) {x : Int32} : both G B (nnF st g) hh sz MX6_scrap yX6_scrap MX7_scrap yX7_scrap [.int x] := by
  obtain ⟨hF, hA, hSv, hvs, ho, hK, hrg, hsz, hL80, hC⟩ := id hi.1.1
  have hT := hi.2.2.1
  exact both_op hi (Nat.le_of_ble_eq_true rfl) (Nat.le_of_ble_eq_true rfl) (k_X6_scrap hi.1) (fun h1 s1 => k_X7_scrap hK hT hvs.1)
theorem b_of {G : zG} {B : Nat} {s f fo : Nat → Int32} {L K old : Nat} {st g : Nat → Option Nat} {ct : Nat → Nat → Int32} {τ : Nat → Nat → Int32} {hh : zH} {sz : Nat} (hi : inv G B s f L K old st g ct fo τ hh sz) {x y : Int32} : both G B (nnF st g) hh sz MX6_of yX6_of MX7_of yX7_of [.int x, .int y] := by
  obtain ⟨hF, hA, hSv, hvs, ho, hK, hrg, hsz, hL80, hC⟩ := id hi.1.1
  have hT := hi.2.2.1
  exact both_rd hi (Nat.le_of_ble_eq_true rfl) (Nat.le_of_ble_eq_true rfl) (k_X6_of (z := 0) hi.1.1) (fun h1 s1 => k_X7_of hT hvs.1)
theorem b_ofSheet {G : zG} {B : Nat} {s f fo : Nat → Int32} {L K old : Nat} {st g : Nat → Option Nat} {ct : Nat → Nat → Int32} {τ : Nat → Nat → Int32} {hh : zH} {sz : Nat} (hi : inv G B s f L K old st g ct fo τ hh sz) {x y : Int32} : both G B (nnF st g) hh sz MX6_ofSheet yX6_ofSheet MX7_ofSheet yX7_ofSheet [.int x, .int y] := by
  obtain ⟨hF, hA, hSv, hvs, ho, hK, hrg, hsz, hL80, hC⟩ := id hi.1.1
  have hT := hi.2.2.1
  exact both_rd hi (Nat.le_of_ble_eq_true rfl) (Nat.le_of_ble_eq_true rfl) (k_X6_ofSheet (z := 0) hi.1.1) (fun h1 s1 => k_X7_ofSheet hT hvs.1)
theorem b_row {G : zG} {B : Nat} {s f fo : Nat → Int32} {L K old : Nat} {st g : Nat → Option Nat} {ct : Nat → Nat → Int32} {τ : Nat → Nat → Int32} {hh : zH} {sz : Nat} (hi : inv G B s f L K old st g ct fo τ hh sz) {x y : Int32} : both G B (nnF st g) hh sz MX6_row yX6_row MX7_row yX7_row [.int x, .int y] := by
  obtain ⟨hF, hA, hSv, hvs, ho, hK, hrg, hsz, hL80, hC⟩ := id hi.1.1
  have hT := hi.2.2.1
  exact both_rd hi (Nat.le_of_ble_eq_true rfl) (Nat.le_of_ble_eq_true rfl) (k_X6_row (z := 0) hi.1.1) (fun h1 s1 => k_X7_row hT hvs.1)
theorem b_pane {G : zG} {B : Nat} {s f fo : Nat → Int32} {L K old : Nat} {st g : Nat → Option Nat} {ct : Nat → Nat → Int32} {τ : Nat → Nat → Int32} {hh : zH} {sz : Nat} (hi : inv G B s f L K old st g ct fo τ hh sz) {x y : Int32} : both G B (nnF st g) hh sz MX6_pane yX6_pane MX7_pane yX7_pane [.int x, .int y] := by
  obtain ⟨hF, hA, hSv, hvs, ho, hK, hrg, hsz, hL80, hC⟩ := id hi.1.1
  have hT := hi.2.2.1
  exact both_rd hi (Nat.le_of_ble_eq_true rfl) (Nat.le_of_ble_eq_true rfl) (k_X6_pane (z := 0) hi.1.1) (fun h1 s1 => k_X7_pane hT hvs.1)
theorem b_shape {G : zG} {B : Nat} {s f fo : Nat → Int32} {L K old : Nat} {st g : Nat → Option Nat} {ct : Nat → Nat → Int32} {τ : Nat → Nat → Int32} {hh : zH} {sz : Nat} (hi : inv G B s f L K old st g ct fo τ hh sz) {x y z : Int32} : both G B (nnF st g) hh sz MX6_shape yX6_shape MX7_shape yX7_shape [.int x, .int y, .int z] := by
  obtain ⟨hF, hA, hSv, hvs, ho, hK, hrg, hsz, hL80, hC⟩ := id hi.1.1
  have hT := hi.2.2.1
  exact both_rd hi (Nat.le_of_ble_eq_true rfl) (Nat.le_of_ble_eq_true rfl) (k_X6_shape hi.1.1) (fun h1 s1 => k_X7_shape hT hvs.1)
theorem b_fit {G : zG} {B : Nat} {s f fo : Nat → Int32} {L K old : Nat} {st g : Nat → Option Nat} {ct : Nat → Nat → Int32} {τ : Nat → Nat → Int32} {hh : zH} {sz : Nat} (hi : inv G B s f L K old st g ct fo τ hh sz) {x y z u : Int32} : both G B (nnF st g) hh sz MX6_fit yX6_fit MX7_fit yX7_fit [.int x, .int y, .int z, .int u] := by
  obtain ⟨hF, hA, hSv, hvs, ho, hK, hrg, hsz, hL80, hC⟩ := id hi.1.1
  have hT := hi.2.2.1
  exact both_rd hi (Nat.le_of_ble_eq_true rfl) (Nat.le_of_ble_eq_true rfl) (k_X6_fit hi.1.1) (fun h1 s1 => k_X7_fit hT hvs.1)
theorem b_fits {G : zG} {B : Nat} {s f fo : Nat → Int32} {L K old : Nat} {st g : Nat → Option Nat} {ct : Nat → Nat → Int32} {τ : Nat → Nat → Int32} {hh : zH} {sz : Nat} (hi : inv G B s f L K old st g ct fo τ hh sz) {x y : Int32} : both G B (nnF st g) hh sz MX6_fits yX6_fits MX7_fits yX7_fits [.int x, .int y] := by
  obtain ⟨hF, hA, hSv, hvs, ho, hK, hrg, hsz, hL80, hC⟩ := id hi.1.1
  have hT := hi.2.2.1
  exact both_rd hi (Nat.le_of_ble_eq_true rfl) (Nat.le_of_ble_eq_true rfl) (k_X6_fits (z := 0) hi.1.1) (fun h1 s1 => k_X7_fits hT hvs.1)
theorem b_count {G : zG} {B : Nat} {s f fo : Nat → Int32} {L K old : Nat} {st g : Nat → Option Nat} {ct : Nat → Nat → Int32} {τ : Nat → Nat → Int32} {hh : zH} {sz : Nat} (hi : inv G B s f L K old st g ct fo τ hh sz) {x : Int32} : both G B (nnF st g) hh sz MX6_count yX6_count MX7_count yX7_count [.int x] := by
  obtain ⟨hF, hA, hSv, hvs, ho, hK, hrg, hsz, hL80, hC⟩ := id hi.1.1
  have hT := hi.2.2.1
  exact both_rd hi (Nat.le_of_ble_eq_true rfl) (Nat.le_of_ble_eq_true rfl) (k_X6_count (y := 0) (z := 0) hi.1.1) (fun h1 s1 => k_X7_count hT hvs.1 (vOkP hvs))
theorem b_manyOf {G : zG} {B : Nat} {s f fo : Nat → Int32} {L K old : Nat} {st g : Nat → Option Nat} {ct : Nat → Nat → Int32} {τ : Nat → Nat → Int32} {hh : zH} {sz : Nat} (hi : inv G B s f L K old st g ct fo τ hh sz) {x y z : Int32} : both G B (nnF st g) hh sz MX6_manyOf yX6_manyOf MX7_manyOf yX7_manyOf [.int x, .int y, .int z] := by
  obtain ⟨hF, hA, hSv, hvs, ho, hK, hrg, hsz, hL80, hC⟩ := id hi.1.1
  have hT := hi.2.2.1
  exact both_se hi (Nat.le_of_ble_eq_true rfl) (Nat.le_of_ble_eq_true rfl) (by omega) (by omega) hi.2.2 (k_X6_manyOf hi.1) (fun h1 s1 => k_X7_manyOf hT hvs.1 hvs.2.1)
theorem b_write {G : zG} {B : Nat} {s f fo : Nat → Int32} {L K old : Nat} {st g : Nat → Option Nat} {ct : Nat → Nat → Int32} {τ : Nat → Nat → Int32} {hh : zH} {sz : Nat} (hi : inv G B s f L K old st g ct fo τ hh sz) {x y z u : Int32} : both G B (nnF st g) hh sz MX6_write yX6_write MX7_write yX7_write [.int x, .int y, .int z, .int u] := by
  obtain ⟨hF, hA, hSv, hvs, ho, hK, hrg, hsz, hL80, hC⟩ := id hi.1.1
  have hT := hi.2.2.1
  refine both_wr hi (d2 := 8) (Nat.le_of_ble_eq_true rfl) (Nat.le_of_ble_eq_true rfl) (k_X6_write hi.1) (fun h1 s1 => ?_)
  rw [o_write_cg hi.2.2.2.1]
  exact k_X7_write hK hT hvs.1 hvs.2.1 hL80
theorem b_colours {G : zG} {B : Nat} {s f fo : Nat → Int32} {L K old : Nat} {st g : Nat → Option Nat} {ct : Nat → Nat → Int32} {τ : Nat → Nat → Int32} {hh : zH} {sz : Nat} (hi : inv G B s f L K old st g ct fo τ hh sz) {x y z : Int32} : both G B (nnF st g) hh sz MX6_colours yX6_colours MX7_colours yX7_colours [.int x, .int y, .int z] := by
  obtain ⟨hF, hA, hSv, hvs, ho, hK, hrg, hsz, hL80, hC⟩ := id hi.1.1
  have hT := hi.2.2.1
  refine both_se hi (d2 := 8) (Nat.le_of_ble_eq_true rfl) (Nat.le_of_ble_eq_true rfl) (by omega) (by omega) hi.2.2 (k_X6_colours hi.1) (fun h1 s1 => ?_)
  rw [o_colours_cg hi.2.2.2.1]
  exact k_X7_colours hK hT hvs.1 hvs.2.1 hL80
theorem b_fault {G : zG} {B : Nat} {s f fo : Nat → Int32} {L K old : Nat} {st g : Nat → Option Nat} {ct : Nat → Nat → Int32} {τ : Nat → Nat → Int32} {hh : zH} {sz : Nat} (hi : inv G B s f L K old st g ct fo τ hh sz) : both G B (nnF st g) hh sz MX6_fault yX6_fault MX7_fault yX7_fault [] := by
  obtain ⟨hF, hA, hSv, hvs, ho, hK, hrg, hsz, hL80, hC⟩ := id hi.1.1
  have hT := hi.2.2.1
  refine both_rd hi (d2 := 1) (Nat.le_of_ble_eq_true rfl) (Nat.le_of_ble_eq_true rfl) (k_X6_fault (x := 0) (y := 0) (z := 0) hi.1.1) (fun h1 s1 => ?_)
  rw [faI_cg hi.2.2.2.1]
  exact (k_X7_fault hL80).mono (fun r h' s' hp => ⟨fo, τ, hp.1, hp.2.1, fun _ _ => rfl, hp.2.2⟩)
theorem b_wipe {G : zG} {B : Nat} {s f fo : Nat → Int32} {L K old : Nat} {st g : Nat → Option Nat} {ct : Nat → Nat → Int32} {τ : Nat → Nat → Int32} {hh : zH} {sz : Nat} (hi : inv G B s f L K old st g ct fo τ hh sz) : both G B (nnF st g) hh sz MX6_wipe yX6_wipe MX7_wipe yX7_wipe [] := by
  obtain ⟨hF, hA, hSv, hvs, ho, hK, hrg, hsz, hL80, hC⟩ := id hi.1.1
  have hT := hi.2.2.1
  exact both_se hi (Nat.le_of_ble_eq_true rfl) (Nat.le_of_ble_eq_true rfl) (by omega) (by omega) (rel_0 hi.2.2) (k_X6_wipe hi.1) (fun h1 s1 => k_X7_wipe)
theorem b_put {G : zG} {B : Nat} {s f fo : Nat → Int32} {L K old : Nat} {st g : Nat → Option Nat} {ct : Nat → Nat → Int32} {τ : Nat → Nat → Int32} {hh : zH} {sz : Nat} (hi : inv G B s f L K old st g ct fo τ hh sz) {n : Nat} (hn : n < 2 ^ 64) : both G B (nnF st g) hh sz MX6_put yX6_put MX7_put yX7_put [.long (lN n)] := by
  obtain ⟨hF, hA, hSv, hvs, ho, hK, hrg, hsz, hL80, hC⟩ := id hi.1.1
  have hT := hi.2.2.1
  have C1 := k_X6_put hi.1 hn
  have C2 := fun (h1 : zH) (s1 : Nat) => k_X7_put (G := G) (hh := h1) (sz := s1) (mo := B + 138) (s := s) (fo := fo) (τ := τ) (kp := nI K) hn hL80
  unfold o_put puF puL at C1
  unfold zPut at C2
  by_cases c1 : puB n 8 = true
  · rw [if_pos c1, if_pos c1, if_pos c1] at C1
    refine both_se hi (d2 := 1) (Nat.le_of_ble_eq_true rfl) (Nat.le_of_ble_eq_true rfl) (by omega) (by omega) hi.2.2 C1 (fun h1 s1 => ?_)
    have q := C2 h1 s1
    rw [if_pos c1] at q
    exact q
  · rw [if_neg c1, if_neg c1, if_neg c1] at C1
    by_cases c2 : 80 < L + puM n 8
    · rw [if_pos c2, if_pos c2, if_pos c2] at C1
      refine both_se hi (d2 := 1) (Nat.le_of_ble_eq_true rfl) (Nat.le_of_ble_eq_true rfl) (by omega) (by omega) hi.2.2 C1 (fun h1 s1 => ?_)
      have q := C2 h1 s1
      rw [if_neg c1, if_pos c2] at q
      exact q
    · rw [if_neg c2, if_neg c2, if_neg c2] at C1
      refine both_se hi (d2 := 1) (Nat.le_of_ble_eq_true rfl) (Nat.le_of_ble_eq_true rfl) (by omega) (by omega) (rel_put hi.2.2) C1 (fun h1 s1 => ?_)
      have q := C2 h1 s1
      rw [if_neg c1, if_neg c2] at q
      exact q
theorem b_undo {G : zG} {B : Nat} {s f fo : Nat → Int32} {L K old : Nat} {st g : Nat → Option Nat} {ct : Nat → Nat → Int32} {τ : Nat → Nat → Int32} {hh : zH} {sz : Nat} (hi : inv G B s f L K old st g ct fo τ hh sz) : both G B (nnF st g) hh sz MX6_undo yX6_undo MX7_undo yX7_undo [] := by
  obtain ⟨hF, hA, hSv, hvs, ho, hK, hrg, hsz, hL80, hC⟩ := id hi.1.1
  have hT := hi.2.2.1
  cases K with
  | zero => exact both_se hi (Nat.le_of_ble_eq_true rfl) (Nat.le_of_ble_eq_true rfl) (by omega) (by omega) hi.2.2 (k_X6_undo0 hi.1) (fun h1 s1 => k_X7_undo0)
  | succ K =>
    have h6 : (old + K) % 6 < 6 := Nat.mod_lt _ (by omega)
    obtain ⟨a, ha⟩ : ∃ a, st ((old + K) % 6) = some a := Option.ne_none_iff_exists'.mp (hrg K (Nat.lt_succ_self K))
    have hv2 := (hSv.1 _ a (by omega) ((adF_lt h6).trans ha)).2.2.2
    refine both_se hi (d2 := 1) (Nat.le_of_ble_eq_true rfl) (Nat.le_of_ble_eq_true rfl) (by omega) (by omega) (rel_undo hi.2.2) (k_X6_undo hi.1) (fun h1 s1 => ?_)
    have q := k_X7_undoS (G := G) (hh := h1) (sz := s1) (mo := B + 138) (s := s) (fo := fo) (τ := τ) (ln := nI L) (K := K) (by omega)
    rw [undo_eq hi.2.2 hv2.2.1 hvs.2.1] at q
    exact q
theorem b_save {G : zG} {B : Nat} {s f fo : Nat → Int32} {L K old : Nat} {st g : Nat → Option Nat} {ct : Nat → Nat → Int32} {τ : Nat → Nat → Int32} {hh : zH} {sz : Nat} (hi : inv G B s f L K old st g ct fo τ hh sz) {x : Int32} : both G B (nnF st g) hh sz MX6_save yX6_save MX7_save yX7_save [.int x] := by
  obtain ⟨hF, hA, hSv, hvs, ho, hK, hrg, hsz, hL80, hC⟩ := id hi.1.1
  have hT := hi.2.2.1
  cases hx : isI 2 x with
  | false => exact both_se hi (Nat.le_of_ble_eq_true rfl) (Nat.le_of_ble_eq_true rfl) (by omega) (by omega) hi.2.2 (kb_X6_save hi.1 hx) (fun h1 s1 => k_X7_save0 hx)
  | true =>
    obtain ⟨e, he, rfl⟩ := (isI_iff (by omega)).mp hx
    cases hg : g e with
    | none =>
      have hn := nn_g (st := st) (a := sz) he hg
      exact both_se hi (Nat.le_of_ble_eq_true rfl) (Nat.le_of_ble_eq_true rfl) (by omega) (by omega) (rel_save hi.2.2 he vu_eq (fun e' h => vu_ne h)) (kn_X6_save hi.1 he hg) (fun h1 s1 => k_X7_saveS he hvs.1.2.1.1)
    | some a => exact both_se hi (Nat.le_of_ble_eq_true rfl) (Nat.le_of_ble_eq_true rfl) (by omega) (by omega) (rel_save hi.2.2 he hg (fun e' h => rfl)) (kr_X6_save hi.1 he hg) (fun h1 s1 => k_X7_saveS he hvs.1.2.1.1)
theorem b_restore {G : zG} {B : Nat} {s f fo : Nat → Int32} {L K old : Nat} {st g : Nat → Option Nat} {ct : Nat → Nat → Int32} {τ : Nat → Nat → Int32} {hh : zH} {sz : Nat} (hi : inv G B s f L K old st g ct fo τ hh sz) {x : Int32} : both G B (nnF st g) hh sz MX6_restore yX6_restore MX7_restore yX7_restore [.int x] := by
  obtain ⟨hF, hA, hSv, hvs, ho, hK, hrg, hsz, hL80, hC⟩ := id hi.1.1
  have hT := hi.2.2.1
  cases hx : isI 2 x with
  | false => exact both_se hi (Nat.le_of_ble_eq_true rfl) (Nat.le_of_ble_eq_true rfl) (by omega) (by omega) hi.2.2 (kb_X6_restore hi.1 hx) (fun h1 s1 => k_X7_restore0 hx)
  | true =>
    obtain ⟨e, he, rfl⟩ := (isI_iff (by omega)).mp hx
    cases hg : g e with
    | none => exact both_se hi (Nat.le_of_ble_eq_true rfl) (Nat.le_of_ble_eq_true rfl) (by omega) (by omega) hi.2.2 (kn_X6_restore hi.1 he hg) (fun h1 s1 => k_X7_restoreN he (rest_no hi.2.2 he hg))
    | some a =>
      have hag : adF st g (6 + e) = some a := by unfold adF; rw [if_neg (by omega), show 6 + e - 6 = e by omega]; exact hg
      have hv2 := (hSv.1 (6 + e) a (by omega) hag).2.2.2
      obtain ⟨e1, e2⟩ := rest_eq hi.2.2 he hg hv2.2.1 hvs.2.1
      refine both_set hi (d2 := 2) (Nat.le_of_ble_eq_true rfl) (Nat.le_of_ble_eq_true rfl) (kr_X6_restore hi.1 he hg) (fun h1 s1 => ?_)
      have q := k_X7_restoreS (G := G) (hh := h1) (sz := s1) (mo := B + 138) (s := s) (fo := fo) (τ := τ) (ln := nI L) (e := e) (K := K) he hK e1
      rw [e2, hv2.1.2.1.1] at q
      exact q
