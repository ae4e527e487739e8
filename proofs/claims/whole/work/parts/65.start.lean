theorem vS_0 : vS (fun _ => 0) := by
  have e0 : nSh (fun _ => 0) = 0 := by decide
  have e1 : nP (fun _ => 0) = 0 := by decide
  refine ⟨⟨⟨by rw [e0]; rfl, by rw [e0]; omega⟩, ⟨by rw [e1]; rfl, by rw [e1]; omega⟩, fun k r _ _ => ⟨by show (0 : Int32) = nI ((0 : Int32).toNatClampNeg); decide, by show (0 : Int32).toNatClampNeg < 2 ^ 14; decide⟩⟩, fun _ _ => rfl, fun _ _ _ _ _ => rfl, fun _ _ _ _ _ => rfl, fun _ _ => Or.inl rfl, fun j hj => absurd hj (by rw [e1]; omega), ?_⟩
  unfold wsT
  rw [e0, e1]
  decide
theorem spF_0 : spF (fun _ => 0) = sp0 := by
  funext v
  unfold spF sp0
  rw [show nP (fun _ => 0) = 0 from by decide]
  rfl
theorem faF_cg {f g : Nat → Int32} : ∀ (L : Nat) (x : Int32), (∀ j, j < L → f j = g j) → faF f L x = faF g L x
  | 0, _, _ => rfl
  | L + 1, x, h => by
    rw [faF, faF, h L (by omega)]
    exact faF_cg L _ (fun j hj => h j (by omega))
theorem faI_cg {f g : Nat → Int32} {L : Nat} (h : ∀ j, j < L → f j = g j) : faI f L = faI g L := faF_cg L _ h
theorem wrA_cg {lt lt' : Nat → Nat} {L mi p q : Nat} {col : Int32} : ∀ (n k : Nat) (s : Nat → Int32), k + n = L → (∀ j, j < L → lt j = lt' j) → wrA lt L col mi p q n k s = wrA lt' L col mi p q n k s
  | 0, _, _, _, _ => rfl
  | n + 1, k, s, hk, h => by
    have e : lt (if mi = 1 then L - 1 - k else k) = lt' (if mi = 1 then L - 1 - k else k) := by
      split
      · exact h _ (by omega)
      · exact h _ (by omega)
    rw [wrA, wrA, e]
    split
    · rfl
    · exact wrA_cg n (k + 1) _ (by omega) h
theorem wrZ_cg {f g : Nat → Int32} {L : Nat} (h : ∀ j, j < L → f j = g j) (col : Int32) (mi p q : Nat) (s : Nat → Int32) : wrZ f L col mi p q s = wrZ g L col mi p q s := wrA_cg L 0 s (Nat.zero_add _) (fun j hj => by unfold ltP; rw [h j hj])
theorem o_write_cg {f g : Nat → Int32} {L : Nat} (h : ∀ j, j < L → f j = g j) (s : Nat → Int32) (a b c d : Int32) : o_write f L s a b c d = o_write g L s a b c d := by
  unfold o_write
  rw [faI_cg h, wrZ_cg h]
theorem coA_cg {f g : Nat → Int32} {L : Nat} (h : ∀ j, j < L → f j = g j) (s : Nat → Int32) (p q mi : Nat) : ∀ i, coA f L s p q mi i = coA g L s p q mi i
  | 0 => rfl
  | i + 1 => by rw [coA, coA, coA_cg h s p q mi i, wrZ_cg h]
theorem o_colours_cg {f g : Nat → Int32} {L : Nat} (h : ∀ j, j < L → f j = g j) (s : Nat → Int32) (a b c : Int32) : o_colours f L s a b c = o_colours g L s a b c := by
  unfold o_colours
  rw [faI_cg h, coA_cg h]
