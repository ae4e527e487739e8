/-- what a settled change leaves, whether the state's cell was there or not -/
def setP (G : zG) (B : Nat) (x : Int32) (t s f : Nat → Int32) (L K old : Nat) (st g : Nat → Option Nat) (ct : Nat → Nat → Int32) (hh : zH) (sz : Nat) : Option Value → zH → Nat → Prop :=
  match st ((old + K) % 6) with
  | some _ => seP G B x t f L (hiK K) (hiO old K) st g (ctU ct ((old + K) % 6) s) hh sz
  | none => seP G B x t f L (hiK K) (hiO old K) (va_up st ((old + K) % 6) (some sz)) g (ctU ct ((old + K) % 6) s) hh (sz + 64)
def alC (st : Nat → Option Nat) (i : Nat) : Nat := match st i with | some _ => 0 | none => 64
def alS (st : Nat → Option Nat) (i : Nat) : Nat := match st i with | some _ => 0 | none => 510
/-- what a change leaves: o is its answer and, if it is made, the new row of numbers -/
def opP (G : zG) (B : Nat) (o : Int32 × Option (Nat → Int32)) (s f : Nat → Int32) (L K old : Nat) (st g : Nat → Option Nat) (ct : Nat → Nat → Int32) (hh : zH) (sz : Nat) : Option Value → zH → Nat → Prop :=
  match o.2 with
  | none => seP G B o.1 s f L K old st g ct hh sz
  | some t => setP G B o.1 t s f L K old st g ct hh sz
def opC (o : Int32 × Option (Nat → Int32)) (st : Nat → Option Nat) (i : Nat) : Nat := match o.2 with | none => 0 | some _ => alC st i
def opS (o : Int32 × Option (Nat → Int32)) (st : Nat → Option Nat) (i : Nat) : Nat := match o.2 with | none => 0 | some _ => alS st i
theorem k_X6_settleS {G : zG} {hh : zH} {sz B L K old : Nat} {s f : Nat → Int32} {st g : Nat → Option Nat} {ct : Nat → Nat → Int32} (hw : wl0 G B s f L K old st g ct hh sz) {t : Nat → Int32} {x : Int32} (hx : ¬ x < 0) (hvt : vS t) (hD : shopA G (B + 1) (B + 67) t (spF t) hh) : zC G 4 MX6_settle yX6_settle [.ref B, .int x] hh sz (alC st ((old + K) % 6)) (alS st ((old + K) % 6)) (setP G B x t s f L K old st g ct hh sz) := by
  unfold alC alS setP
  cases e : st ((old + K) % 6) with
  | some a => exact kr_X6_settle hw hx hvt hD e
  | none => exact kn_X6_settle hw hx hvt hD e
theorem seP_ke {G : zG} {B : Nat} {x : Int32} {t f : Nat → Int32} {L K old : Nat} {st g : Nat → Option Nat} {ct : Nat → Nat → Int32} {hh h2 : zH} {sz2 : Nat} (hk : keM B hh h2) {r : Option Value} {h' : zH} {s' : Nat} (h : seP G B x t f L K old st g ct h2 sz2 r h' s') : seP G B x t f L K old st g ct hh sz2 r h' s' :=
  ⟨h.1, h.2.1, h.2.2.1, fun a h1 h3 => (h.2.2.2 a h1 h3).trans (hk a h1 h3)⟩
theorem setP_ke {G : zG} {B : Nat} {x : Int32} {t s f : Nat → Int32} {L K old : Nat} {st g : Nat → Option Nat} {ct : Nat → Nat → Int32} {hh h2 : zH} {sz : Nat} (hk : keM B hh h2) {r : Option Value} {h' : zH} {s' : Nat} (h : setP G B x t s f L K old st g ct h2 sz r h' s') : setP G B x t s f L K old st g ct hh sz r h' s' := by
  revert h
  unfold setP
  cases st ((old + K) % 6) with
  | some a => exact fun h => seP_ke hk h
  | none => exact fun h => seP_ke hk h
theorem setP_r {G : zG} {B : Nat} {x : Int32} {t s f : Nat → Int32} {L K old : Nat} {st g : Nat → Option Nat} {ct : Nat → Nat → Int32} {hh : zH} {sz : Nat} {r : Option Value} {h' : zH} {s' : Nat} (h : setP G B x t s f L K old st g ct hh sz r h' s') : r = some (.int x) := by
  revert h
  unfold setP
  cases st ((old + K) % 6) with
  | some a => exact fun h => h.1
  | none => exact fun h => h.1
theorem keM_dr {G : zG} {B : Nat} {t q : Nat → Int32} {hh : zH} : keM B hh (sput G (B + 1) (B + 67) t q hh) := fun a h1 h2 => sput_out (by omega)
theorem wl_dr1 {G : zG} {B : Nat} {s f t : Nat → Int32} {q : Nat → Int32} (hq : ∀ j, 36 ≤ j → q j = 0) {L K old : Nat} {st g : Nat → Option Nat} {ct : Nat → Nat → Int32} {hh : zH} {sz : Nat} (h : wl0 G B s f L K old st g ct hh sz) : wl G B s f L K old st g ct (sput G (B + 1) (B + 67) t q hh) sz := ⟨wl_dr h, t, q, hq, sput_A⟩
set_option maxHeartbeats 4000000 in
set_option maxRecDepth 100000 in
theorem k_X6_sheet {G : zG} {hh : zH} {sz B L K old : Nat} {s f : Nat → Int32} {st g : Nat → Option Nat} {ct : Nat → Nat → Int32} (hw : wl G B s f L K old st g ct hh sz) {x : Int32} : zC G 6 MX6_sheet yX6_sheet [.ref B, .int x] hh sz (opC (o_sheet s x) st ((old + K) % 6)) (opS (o_sheet s x) st ((old + K) % 6)) (opP G B (o_sheet s x) s f L K old st g ct hh sz) := by
  obtain ⟨hw0, t0, q0, hq0, hD0⟩ := id hw
  obtain ⟨hF, hA, hSv, hvs, ho, hK, hrg, hsz, hL80, hC⟩ := id hw0
  obtain ⟨⟨a1, a2⟩, ⟨b1, b2⟩, hR⟩ := id hvs.1
  have hs := hF.2.1
  refine z_intro _ rfl zy_X6_sheet (Nat.le_of_ble_eq_true rfl) ?_
  refine z_iload_n dX6_sheet_0 rfl ?_
  refine z_callSR (zC_eq (isC6 x) k_X6_isColour) dX6_sheet_1 ⟨zm_299, zm_301, zm_1, zm_300⟩  (by decide) zp_X6_isColour rfl (Nat.le_of_ble_eq_true rfl) (Nat.zero_le _) (Nat.zero_le _) ?_
  refine z_if_ne (tgt := 10) dX6_sheet_4 (by decide) (fun c_4 => ?_) (fun c_4 => ?_)
  · by_cases h6 : nSh s = 6
    · have ee : o_sheet s x = (-4, none) := by unfold o_sheet; rw [if_pos (zb_1 c_4), if_pos h6]
      rw [ee]
      refine z_aload_n dX6_sheet_10 rfl ?_
      refine z_aload_n dX6_sheet_11 rfl ?_
      refine z_callVR (ci := 6) (k_X6_newDraft hw0 hq0 hD0) dX6_sheet_12 ⟨zm_302, zm_305, zm_1, zm_304, zmp_0, by decide⟩ hF.1 (by decide) zp_X6_newDraft rfl (Nat.le_of_ble_eq_true rfl) (Nat.le_refl _) (Nat.le_refl _) ?_
      refine z_iload_n dX6_sheet_15 rfl ?_
      refine z_callVR (ci := 5) (kz_X5_addSheet sput_A a1 h6) dX6_sheet_16 ⟨zm_307, zm_310, zm_3, zm_308, zm_309, by decide⟩ (sA_o sput_A) (by decide) zp_X5_addSheet rfl (Nat.le_of_ble_eq_true rfl) (Nat.le_refl _) (Nat.le_refl _) ?_
      refine z_callVR (ci := 6) (kz_X6_settle (by decide)) dX6_sheet_19 ⟨zm_311, zm_314, zm_1, zm_313, zmp_1, by decide⟩ ((sput_out (by omega)).trans hF.1) (by decide) zp_X6_settle rfl (Nat.le_of_ble_eq_true rfl) (Nat.le_refl _) (Nat.le_refl _) ?_
      exact z_ireturn dX6_sheet_22 ⟨.int, rfl, rfl⟩ ⟨⟨rfl, wl_dr1 (fun j hj => spF_36 hj) hw0, rfl, keM_dr⟩, Nat.le_refl _, Nat.le_refl _⟩
    · have ee : o_sheet s x = (nI (nSh s), some (sheetS s (nSh s) x)) := by unfold o_sheet; rw [if_pos (zb_1 c_4), if_neg h6]
      rw [ee]
      obtain ⟨v1, v2, v3⟩ := vS_sheet hvs (by omega) x
      refine z_aload_n dX6_sheet_10 rfl ?_
      refine z_aload_n dX6_sheet_11 rfl ?_
      refine z_callVR (ci := 6) (k_X6_newDraft hw0 hq0 hD0) dX6_sheet_12 ⟨zm_302, zm_305, zm_1, zm_304, zmp_0, by decide⟩ hF.1 (by decide) zp_X6_newDraft rfl (Nat.le_of_ble_eq_true rfl) (Nat.zero_le _) (Nat.zero_le _) ?_
      refine z_iload_n dX6_sheet_15 rfl ?_
      refine z_callVR (ci := 5) (kr_X5_addSheet sput_A a1 (by omega)) dX6_sheet_16 ⟨zm_307, zm_310, zm_3, zm_308, zm_309, by decide⟩ (sA_o sput_A) (by decide) zp_X5_addSheet rfl (Nat.le_of_ble_eq_true rfl) (Nat.zero_le _) (Nat.zero_le _) ?_
      refine z_heap (h2 := sput G (B + 1) (B + 67) (sheetS s (nSh s) x) (spF (sheetS s (nSh s) x)) hh) (by rw [sput_sput, v2]; exact sput_cg (fun n _ _ _ => v3 n) rfl) ?_
      refine z_callV (ci := 6) (k_X6_settleS (wl_dr hw0) (nI_pos (by omega)) v1 sput_A) dX6_sheet_19 ⟨zm_311, zm_314, zm_1, zm_313, zmp_1, by decide⟩ ((sput_out (by omega)).trans hF.1) (by decide) zp_X6_settle (Nat.le_of_ble_eq_true rfl) (Nat.le_of_eq (Nat.zero_add _)) (Nat.le_of_eq (Nat.zero_add _)) (fun r_19 hh_19 sz_19 hp_19 => ?_) rfl
      have er := setP_r hp_19
      subst er
      exact z_ireturn dX6_sheet_22 ⟨.int, rfl, rfl⟩ ⟨setP_ke keM_dr hp_19, Nat.le_of_eq (Nat.zero_add _), Nat.le_of_eq (Nat.zero_add _)⟩
  · refine z_bipush (v := (-2)) dX6_sheet_7 (by decide) ?_
    have ee : o_sheet s x = (-2, none) := by unfold o_sheet; rw [zb_0 c_4]; rfl
    rw [ee]
    exact z_ireturn dX6_sheet_9 ⟨.int, rfl, rfl⟩ ⟨⟨rfl, hw, rfl, keM.rfl⟩, Nat.le_refl _, Nat.le_refl _⟩
