def recN (s : Nat → Int32) (H : List (Nat → Int32)) : List (Nat → Int32) := (s :: H).take 6
/-- the class's world: its row, its pad, its history (the newest first), all in order -/
def WH (G : zG) (B : Nat) (s f : Nat → Int32) (L : Nat) (H : List (Nat → Int32)) (hh : zH) (sz : Nat) : Prop :=
  vG s ∧ (∀ h ∈ H, vG h) ∧ ∃ K old st g ct, wl G B s f L K old st g ct hh sz ∧ H.length = K ∧ ∀ j, j < K → H[j]? = some (ct ((old + (K - 1 - j)) % 6))
section WHS
variable {G : zG} {B sz L : Nat} {s f : Nat → Int32} {H : List (Nat → Int32)} {hh : zH}
theorem WH.I (h : WH G B s f L H hh sz) : vI s := by
  obtain ⟨h1, -, K, old, st, g, ct, hw, -, -⟩ := h
  exact ⟨hw.1.2.2.2.1, h1⟩
theorem WH.o (h : WH G B s f L H hh sz) : hh B = some (.inr (6, [.ref (B + 1), .ref (B + 3), .ref (B + 67), .ref (B + 131), .ref (B + 133), .ref (B + 134), .ref (B + 136)])) := by
  obtain ⟨h1, -, K, old, st, g, ct, hw, -, -⟩ := h
  exact hw.1.1.1
theorem WH.lim (h : WH G B s f L H hh sz) : B + 138 ≤ sz ∧ L ≤ 80 ∧ H.length ≤ 6 := by
  obtain ⟨h1, -, K, old, st, g, ct, hw, e, -⟩ := h
  obtain ⟨-, -, -, -, -, hK, -, h5, h6, -⟩ := hw.1
  exact ⟨h5, h6, by omega⟩
/-- a cell more -/
theorem WH.new (h : WH G B s f L H hh sz) {e : va_E} : WH G B s f L H (zup hh sz e) (sz + 1) := by
  obtain ⟨h1, h2, K, old, st, g, ct, hw, e1, e2⟩ := h
  obtain ⟨⟨hF, hA, hSv, h4, h5, h6, h7, h8, h9⟩, t, q, hq, hD⟩ := hw
  exact ⟨h1, h2, K, old, st, g, ct, ⟨⟨fxA_of hF (fun a ha => zup_ne (by omega)), shopA_of hA (fun k hk => zup_ne (by omega)), svA_of hSv (by omega) (fun a ha hb => zup_ne (by omega)), h4, h5, h6, h7, by omega, h9⟩, t, q, hq, shopA_of hD (fun k hk => zup_ne (by omega))⟩, e1, e2⟩
theorem recN_len : (recN s H).length = if H.length < 6 then H.length + 1 else 6 := by
  unfold recN
  rw [List.length_take, List.length_cons]
  split <;> omega
theorem recN_in {h : Nat → Int32} (hm : h ∈ recN s H) : h = s ∨ h ∈ H := by
  have := List.mem_of_mem_take hm
  exact List.mem_cons.mp this
theorem WH_set {t f2 : Nat → Int32} {L2 L3 K old : Nat} {st g : Nat → Option Nat} {ct : Nat → Nat → Int32} {x : Int32} {r : Option Value} {h2 : zH} {s2 : Nat} (hG : vG s) (hH : ∀ h ∈ H, vG h) (ho : old < 6) (hK : K ≤ 6) (e1 : H.length = K) (e2 : ∀ j, j < K → H[j]? = some (ct ((old + (K - 1 - j)) % 6))) (hGt : vG t) (hs : setP G B x t s f2 L2 K old st g ct hh sz r h2 s2) (hL : L2 = L3) : r = some (.int x) ∧ WH G B t f2 L3 (recN s H) h2 s2 := by
  subst hL
  have key : ∀ {stx : Nat → Option Nat} {sz2 : Nat}, seP G B x t f2 L2 (hiK K) (hiO old K) stx g (ctU ct ((old + K) % 6) s) hh sz2 r h2 s2 → r = some (.int x) ∧ WH G B t f2 L2 (recN s H) h2 s2 := by
    intro stx sz2 h
    obtain ⟨h1, h3, h4, -⟩ := h
    refine ⟨h1, hGt, fun h hm => ?_, hiK K, hiO old K, stx, g, ctU ct ((old + K) % 6) s, h3, ?_, fun j hj => ?_⟩
    · rcases recN_in hm with e | e
      · rw [e]; exact hG
      · exact hH h e
    · rw [recN_len, e1]
      unfold hiK
      split
      · rfl
      · omega
    · have hlt : j < 6 := by
        unfold hiK at hj
        split at hj <;> omega
      unfold recN
      rw [List.getElem?_take, if_pos hlt]
      unfold ctU
      cases j with
      | zero =>
        rw [List.getElem?_cons_zero]
        have : (hiO old K + (hiK K - 1 - 0)) % 6 = (old + K) % 6 := by
          unfold hiO hiK
          split <;> omega
        show some s = some (if (hiO old K + (hiK K - 1 - 0)) % 6 = (old + K) % 6 then s else ct ((hiO old K + (hiK K - 1 - 0)) % 6))
        rw [if_pos this]
      | succ j =>
        rw [List.getElem?_cons_succ]
        have hjK : j < K := by
          unfold hiK at hj
          split at hj <;> omega
        have ee : (hiO old K + (hiK K - 1 - (j + 1))) % 6 = (old + (K - 1 - j)) % 6 := by
          unfold hiK at hj ⊢
          unfold hiO
          split <;> omega
        have ne : ¬ (old + (K - 1 - j)) % 6 = (old + K) % 6 := by omega
        show H[j]? = some (if (hiO old K + (hiK K - 1 - (j + 1))) % 6 = (old + K) % 6 then s else ct ((hiO old K + (hiK K - 1 - (j + 1))) % 6))
        rw [ee, if_neg ne]
        exact e2 j hjK
  revert hs
  unfold setP
  cases st ((old + K) % 6) with
  | some a => exact key
  | none => exact key
/-- what a change leaves -/
def chP (G : zG) (B : Nat) (o : Int32 × Option (Nat → Int32)) (s f : Nat → Int32) (L L2 : Nat) (H : List (Nat → Int32)) : Option Value → zH → Nat → Prop := fun r h2 s2 =>
  r = some (.int o.1) ∧ match o.2 with
  | none => o.1 < 0 ∧ WH G B s f L H h2 s2
  | some t => ¬ o.1 < 0 ∧ WH G B t f L2 (recN s H) h2 s2
theorem op_ch {o : Int32 × Option (Nat → Int32)} {K old : Nat} {st g : Nat → Option Nat} {ct : Nat → Nat → Int32} {r : Option Value} {h2 : zH} {s2 : Nat} (hg : gO o) (hG : vG s) (hH : ∀ h ∈ H, vG h) (hw : wl G B s f L K old st g ct hh sz) (e1 : H.length = K) (e2 : ∀ j, j < K → H[j]? = some (ct ((old + (K - 1 - j)) % 6))) (hp : opP G B o s f L K old st g ct hh sz r h2 s2) : chP G B o s f L L H r h2 s2 := by
  obtain ⟨x, y⟩ := o
  cases y with
  | none => exact ⟨hp.1, hg, hG, hH, K, old, st, g, ct, hp.2.1, e1, e2⟩
  | some t =>
    obtain ⟨a, b⟩ := WH_set hG hH hw.1.2.2.2.2.1 hw.1.2.2.2.2.2.1 e1 e2 hg.2 hp rfl
    exact ⟨a, hg.1, b⟩
theorem wr_ch {o : Int32 × Option (Nat → Int32)} {K old : Nat} {st g : Nat → Option Nat} {ct : Nat → Nat → Int32} {r : Option Value} {h2 : zH} {s2 : Nat} (hg : gO o) (hG : vG s) (hH : ∀ h ∈ H, vG h) (hw : wl G B s f L K old st g ct hh sz) (e1 : H.length = K) (e2 : ∀ j, j < K → H[j]? = some (ct ((old + (K - 1 - j)) % 6))) (hp : wrP G B o s f L K old st g ct hh sz r h2 s2) : chP G B o s f L 0 H r h2 s2 := by
  obtain ⟨x, y⟩ := o
  cases y with
  | none => exact ⟨hp.1, hg, hG, hH, K, old, st, g, ct, hp.2.1, e1, e2⟩
  | some t =>
    obtain ⟨a, b⟩ := WH_set hG hH hw.1.2.2.2.2.1 hw.1.2.2.2.2.2.1 e1 e2 hg.2 hp rfl
    exact ⟨a, hg.1, b⟩
theorem alC_le {st : Nat → Option Nat} {i : Nat} : alC st i ≤ 64 := by unfold alC; split <;> omega
theorem alS_le {st : Nat → Option Nat} {i : Nat} : alS st i ≤ 510 := by unfold alS; split <;> omega
theorem opC_le {o : Int32 × Option (Nat → Int32)} {st : Nat → Option Nat} {i : Nat} : opC o st i ≤ 64 := by
  unfold opC
  split
  · omega
  · exact alC_le
theorem opS_le {o : Int32 × Option (Nat → Int32)} {st : Nat → Option Nat} {i : Nat} : opS o st i ≤ 510 := by
  unfold opS
  split
  · omega
  · exact alS_le
theorem h_sheet (h : WH G B s f L H hh sz) {x : Int32} : ∃ c e, c ≤ 64 ∧ e ≤ 510 ∧ zC G 6 MX6_sheet yX6_sheet [.ref B, .int x] hh sz c e (chP G B (o_sheet s x) s f L L H) := by
  have hI := h.I
  have hz := h.lim
  obtain ⟨h1, h2, K, old, st, g, ct, hw, e1, e2⟩ := h
  exact ⟨_, _, opC_le, opS_le, (k_X6_sheet hw).mono (fun r h3 s3 hp => op_ch (gO_sheet hI _) h1 h2 hw e1 e2 hp)⟩
theorem h_throwAway (h : WH G B s f L H hh sz) {x : Int32} : ∃ c e, c ≤ 64 ∧ e ≤ 510 ∧ zC G 6 MX6_throwAway yX6_throwAway [.ref B, .int x] hh sz c e (chP G B (o_throw s x) s f L L H) := by
  have hI := h.I
  have hz := h.lim
  obtain ⟨h1, h2, K, old, st, g, ct, hw, e1, e2⟩ := h
  exact ⟨_, _, opC_le, opS_le, (k_X6_throwAway hw).mono (fun r h3 s3 hp => op_ch (gO_throw hI _) h1 h2 hw e1 e2 hp)⟩
theorem h_scrap (h : WH G B s f L H hh sz) {x : Int32} : ∃ c e, c ≤ 64 ∧ e ≤ 510 ∧ zC G 6 MX6_scrap yX6_scrap [.ref B, .int x] hh sz c e (chP G B (o_scrap s x) s f L L H) := by
  have hI := h.I
  have hz := h.lim
  obtain ⟨h1, h2, K, old, st, g, ct, hw, e1, e2⟩ := h
  exact ⟨_, _, opC_le, opS_le, (k_X6_scrap hw).mono (fun r h3 s3 hp => op_ch (gO_scrap hI _) h1 h2 hw e1 e2 hp)⟩
theorem h_clear (h : WH G B s f L H hh sz) {x : Int32} : ∃ c e, c ≤ 64 ∧ e ≤ 510 ∧ zC G 6 MX6_clear yX6_clear [.ref B, .int x] hh sz c e (chP G B (o_clear s x) s f L L H) := by
  have hI := h.I
  have hz := h.lim
  obtain ⟨h1, h2, K, old, st, g, ct, hw, e1, e2⟩ := h
  exact ⟨_, _, opC_le, opS_le, (k_X6_clear hw).mono (fun r h3 s3 hp => op_ch (gO_clear hI _) h1 h2 hw e1 e2 hp)⟩
theorem h_place (h : WH G B s f L H hh sz) {x y z : Int32} : ∃ c e, c ≤ 64 ∧ e ≤ 510 ∧ zC G 6 MX6_place yX6_place [.ref B, .int x, .int y, .int z] hh sz c e (chP G B (o_place s x y z) s f L L H) := by
  have hI := h.I
  have hz := h.lim
  obtain ⟨h1, h2, K, old, st, g, ct, hw, e1, e2⟩ := h
  exact ⟨_, _, opC_le, opS_le, (k_X6_place hw).mono (fun r h3 s3 hp => op_ch (gO_place hI _ _ _) h1 h2 hw e1 e2 hp)⟩
theorem h_cut (h : WH G B s f L H hh sz) {x y z u v : Int32} : ∃ c e, c ≤ 64 ∧ e ≤ 510 ∧ zC G 6 MX6_cut yX6_cut [.ref B, .int x, .int y, .int z, .int u, .int v] hh sz c e (chP G B (o_cut s x y z u v) s f L L H) := by
  have hI := h.I
  have hz := h.lim
  obtain ⟨h1, h2, K, old, st, g, ct, hw, e1, e2⟩ := h
  exact ⟨_, _, opC_le, opS_le, (k_X6_cut hw).mono (fun r h3 s3 hp => op_ch (gO_cut hI _ _ _ _ _) h1 h2 hw e1 e2 hp)⟩
theorem h_make (h : WH G B s f L H hh sz) {x y z : Int32} : ∃ c e, c ≤ 64 ∧ e ≤ 510 ∧ zC G 6 MX6_make yX6_make [.ref B, .int x, .int y, .int z] hh sz c e (chP G B (o_make s x y z) s f L L H) := by
  have hI := h.I
  have hz := h.lim
  obtain ⟨h1, h2, K, old, st, g, ct, hw, e1, e2⟩ := h
  exact ⟨_, _, opC_le, opS_le, (k_X6_make hw).mono (fun r h3 s3 hp => op_ch (gO_make hI _ _ _) h1 h2 hw e1 e2 hp)⟩
theorem h_write (h : WH G B s f L H hh sz) {x y z u : Int32} : ∃ c e, c ≤ 64 ∧ e ≤ 510 ∧ zC G 7 MX6_write yX6_write [.ref B, .int x, .int y, .int z, .int u] hh sz c e (chP G B (o_write f L s x y z u) s f L 0 H) := by
  have hI := h.I
  have hz := h.lim
  obtain ⟨h1, h2, K, old, st, g, ct, hw, e1, e2⟩ := h
  exact ⟨_, _, opC_le, opS_le, (k_X6_write hw).mono (fun r h3 s3 hp => wr_ch (gO_write hI hz.2.1 _ _ _ _) h1 h2 hw e1 e2 hp)⟩
theorem h_of (h : WH G B s f L H hh sz) {x y : Int32} : zC G 1 MX6_of yX6_of [.ref B, .int x, .int y] hh sz 0 0 (zR (.int (o_of s x y)) hh sz) := by
  obtain ⟨h1, h2, K, old, st, g, ct, hw, e1, e2⟩ := h
  exact k_X6_of (z := 0) hw.1
theorem h_ofSheet (h : WH G B s f L H hh sz) {x y : Int32} : zC G 5 MX6_ofSheet yX6_ofSheet [.ref B, .int x, .int y] hh sz 0 0 (zR (.int (o_ofSheet s x y)) hh sz) := by
  obtain ⟨h1, h2, K, old, st, g, ct, hw, e1, e2⟩ := h
  exact k_X6_ofSheet (z := 0) hw.1
theorem h_row (h : WH G B s f L H hh sz) {x y : Int32} : zC G 1 MX6_row yX6_row [.ref B, .int x, .int y] hh sz 0 0 (zR (.int (o_row s x y)) hh sz) := by
  obtain ⟨h1, h2, K, old, st, g, ct, hw, e1, e2⟩ := h
  exact k_X6_row (z := 0) hw.1
theorem h_pane (h : WH G B s f L H hh sz) {x y : Int32} : zC G 1 MX6_pane yX6_pane [.ref B, .int x, .int y] hh sz 0 0 (zR (.int (o_pane s x y)) hh sz) := by
  obtain ⟨h1, h2, K, old, st, g, ct, hw, e1, e2⟩ := h
  exact k_X6_pane (z := 0) hw.1
theorem h_shape (h : WH G B s f L H hh sz) {x y z : Int32} : zC G 2 MX6_shape yX6_shape [.ref B, .int x, .int y, .int z] hh sz 0 0 (zR (.int (o_shape x y z)) hh sz) := by
  obtain ⟨h1, h2, K, old, st, g, ct, hw, e1, e2⟩ := h
  exact k_X6_shape hw.1
theorem h_fits (h : WH G B s f L H hh sz) {x y : Int32} : zC G 4 MX6_fits yX6_fits [.ref B, .int x, .int y] hh sz 0 0 (zR (.int (o_fits s x y)) hh sz) := by
  obtain ⟨h1, h2, K, old, st, g, ct, hw, e1, e2⟩ := h
  exact k_X6_fits (z := 0) hw.1
theorem h_count (h : WH G B s f L H hh sz) {x : Int32} : zC G 4 MX6_count yX6_count [.ref B, .int x] hh sz 0 0 (zR (.int (o_count s (nI H.length) (nI L) x)) hh sz) := by
  obtain ⟨h1, h2, K, old, st, g, ct, hw, e1, e2⟩ := h
  rw [e1]
  exact k_X6_count (y := 0) (z := 0) hw.1
theorem h_fit (h : WH G B s f L H hh sz) {x y z u : Int32} : zC G 4 MX6_fit yX6_fit [.ref B, .int x, .int y, .int z, .int u] hh sz 0 0 (zR (.int (o_fit s x y z u)) hh sz) := by
  obtain ⟨h1, h2, K, old, st, g, ct, hw, e1, e2⟩ := h
  exact k_X6_fit hw.1
/-- an answer, and the world with a new heap -/
def wP (G : zG) (B : Nat) (x : Int32) (s f : Nat → Int32) (L : Nat) (H : List (Nat → Int32)) : Option Value → zH → Nat → Prop := fun r h2 s2 => r = some (.int x) ∧ WH G B s f L H h2 s2
theorem h_manyOf (h : WH G B s f L H hh sz) {x y z : Int32} : zC G 6 MX6_manyOf yX6_manyOf [.ref B, .int x, .int y, .int z] hh sz 0 0 (wP G B (o_many s x y z) s f L H) := by
  obtain ⟨h1, h2, K, old, st, g, ct, hw, e1, e2⟩ := h
  exact (k_X6_manyOf hw).mono (fun r h3 s3 hp => ⟨hp.1, h1, h2, K, old, st, g, ct, hp.2.1, e1, e2⟩)
theorem h_colours (h : WH G B s f L H hh sz) {x y z : Int32} : zC G 7 MX6_colours yX6_colours [.ref B, .int x, .int y, .int z] hh sz 0 0 (wP G B (o_colours f L s x y z) s f L H) := by
  obtain ⟨h1, h2, K, old, st, g, ct, hw, e1, e2⟩ := h
  exact (k_X6_colours hw).mono (fun r h3 s3 hp => ⟨hp.1, h1, h2, K, old, st, g, ct, hp.2.1, e1, e2⟩)
theorem h_put (h : WH G B s f L H hh sz) {n : Nat} (hn : n < 2 ^ 64) : zC G 3 MX6_put yX6_put [.ref B, .long (lN n)] hh sz 0 0 (wP G B (o_put n L) s (puF f n L) (puL n L) H) := by
  obtain ⟨h1, h2, K, old, st, g, ct, hw, e1, e2⟩ := h
  exact (k_X6_put hw hn).mono (fun r h3 s3 hp => ⟨hp.1, h1, h2, K, old, st, g, ct, hp.2.1, e1, e2⟩)
theorem h_wipe (h : WH G B s f L H hh sz) : zC G 2 MX6_wipe yX6_wipe [.ref B] hh sz 0 0 (wP G B (nI L) s f 0 H) := by
  obtain ⟨h1, h2, K, old, st, g, ct, hw, e1, e2⟩ := h
  exact (k_X6_wipe hw).mono (fun r h3 s3 hp => ⟨hp.1, h1, h2, K, old, st, g, ct, hp.2.1, e1, e2⟩)
theorem h_undo0 (h : WH G B s f L [] hh sz) : zC G 3 MX6_undo yX6_undo [.ref B] hh sz 0 0 (wP G B (-5) s f L []) := by
  obtain ⟨h1, h2, K, old, st, g, ct, hw, e1, e2⟩ := h
  have e0 : K = 0 := e1.symm
  subst e0
  exact (k_X6_undo0 hw).mono (fun r h3 s3 hp => ⟨hp.1, h1, h2, 0, old, st, g, ct, hp.2.1, e1, e2⟩)
theorem h_undo {h0 : Nat → Int32} (h : WH G B s f L (h0 :: H) hh sz) : zC G 3 MX6_undo yX6_undo [.ref B] hh sz 0 0 (wP G B (nI H.length) h0 f L H) := by
  obtain ⟨h1, h2, K, old, st, g, ct, hw, e1, e2⟩ := h
  have e0 : K = H.length + 1 := by rw [← e1, List.length_cons]
  subst e0
  have eh : ct ((old + H.length) % 6) = h0 := by
    have q := e2 0 (by omega)
    rw [List.getElem?_cons_zero] at q
    exact (Option.some.inj q).symm
  refine (k_X6_undo hw).mono (fun r h3 s3 hp => ?_)
  obtain ⟨p1, p2, -, -⟩ := hp
  rw [eh] at p2
  refine ⟨p1, h2 h0 (List.mem_cons_self ..), fun h hm => h2 h (List.mem_cons_of_mem _ hm), H.length, old, st, g, ct, p2, rfl, fun j hj => ?_⟩
  have q := e2 (j + 1) (by omega)
  rw [List.getElem?_cons_succ] at q
  rw [q]
  congr 3
  omega
end WHS
