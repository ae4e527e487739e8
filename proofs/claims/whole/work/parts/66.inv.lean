/-- how the reference's arrays stand to the class's -/
def relA (f : Nat → Int32) (L K old : Nat) (g : Nat → Option Nat) (ct : Nat → Nat → Int32) (τ : Nat → Nat → Int32) : Prop :=
  τ 6 = tabI ∧ (∀ j, j < L → f j = τ 5 j) ∧ (∀ j n, j < K → n < 453 → τ 2 (453 * j + n) = ct ((old + j) % 6) n) ∧
  (∀ e, e < 2 → (g e = none ∧ τ 4 e = nI 0) ∨ (∃ a, g e = some a ∧ τ 4 e = nI 1 ∧ ∀ n, n < 453 → τ 3 (453 * e + n) = ct (6 + e) n))
def inv (G : zG) (B : Nat) (s f : Nat → Int32) (L K old : Nat) (st g : Nat → Option Nat) (ct : Nat → Nat → Int32) (fo : Nat → Int32) (τ : Nat → Nat → Int32) (hh : zH) (sz : Nat) : Prop :=
  wl G B s f L K old st g ct hh sz ∧ mq G (B + 138) s fo τ (nI K) (nI L) hh = hh ∧ relA f L K old g ct τ
theorem relA_MJ {f : Nat → Int32} {L K old : Nat} {g : Nat → Option Nat} {ct : Nat → Nat → Int32} {τ τ2 : Nat → Nat → Int32} (h : relA f L K old g ct τ) (hM : MJ τ τ2) : relA f L K old g ct τ2 := by
  obtain ⟨h1, h2, h3, h4⟩ := h
  refine ⟨(hM 6 (by decide)).trans h1, ?_, ?_, ?_⟩
  · intro j hj; rw [hM 5 (by decide)]; exact h2 j hj
  · intro j n hj hn; rw [hM 2 (by decide)]; exact h3 j n hj hn
  · intro e he; rw [hM 4 (by decide), hM 3 (by decide)]; exact h4 e he
theorem mq_ke {G : zG} {B : Nat} {s fo : Nat → Int32} {τ : Nat → Nat → Int32} {kp ln : Int32} {hh h2 : zH} (h : mq G (B + 138) s fo τ kp ln hh = hh) (hk : keM B hh h2) : mq G (B + 138) s fo τ kp ln h2 = h2 := by
  funext a
  by_cases c : B + 138 ≤ a ∧ a < B + 138 + 9
  · have e1 : mq G (B + 138) s fo τ kp ln h2 a = mq G (B + 138) s fo τ kp ln hh a := by
      unfold mq mp
      rw [if_pos c, if_pos c]
    rw [e1, h]
    exact (hk a c.1 (by omega)).symm
  · exact mq_out c
theorem mq_mq {G : zG} {mo : Nat} {s fo s2 fo2 : Nat → Int32} {τ τ2 : Nat → Nat → Int32} {kp ln kp2 ln2 : Int32} {hh : zH} : mq G mo s fo τ kp ln (mq G mo s2 fo2 τ2 kp2 ln2 hh) = mq G mo s fo τ kp ln hh := by
  funext a
  by_cases c : mo ≤ a ∧ a < mo + 9
  · unfold mq mp
    rw [if_pos c, if_pos c]
  · rw [mq_out c, mq_out c, mq_out c]
theorem wl_ke {G : zG} {B : Nat} {s f : Nat → Int32} {L K old : Nat} {st g : Nat → Option Nat} {ct : Nat → Nat → Int32} {hh h2 : zH} {sz : Nat} (h : wl G B s f L K old st g ct hh sz) (e : ∀ a, ¬ (B + 138 ≤ a ∧ a < B + 147) → h2 a = hh a) : wl G B s f L K old st g ct h2 sz := by
  obtain ⟨⟨hF, hA, hSv, h4⟩, t, q, hq, hD⟩ := h
  exact ⟨⟨fxA_of hF (fun a ha => e a (by omega)), shopA_of hA (fun k hk => e _ (by omega)), svA_of hSv (Nat.le_refl _) (fun a h1 h2 => e a (by omega)), h4⟩, t, q, hq, shopA_of hD (fun k hk => e _ (by omega))⟩
/-- a step: the class's answer and the reference's, and both go on side by side -/
theorem inv_go {G : zG} {B : Nat} {x : Int32} {s s2 f f2 fo : Nat → Int32} {L L2 K K2 old old2 : Nat} {st st2 g g2 : Nat → Option Nat} {ct ct2 : Nat → Nat → Int32} {τ τ2 : Nat → Nat → Int32} {hh h1 h2 : zH} {sz sz2 : Nat} {r r2 : Option Value} {s1 s3 : Nat}
    (hi : inv G B s f L K old st g ct fo τ hh sz) (hc : seP G B x s2 f2 L2 K2 old2 st2 g2 ct2 hh sz2 r h1 s1) (hm : zJ x G (B + 138) s2 τ2 (nI K2) (nI L2) h1 s1 r2 h2 s3) (hr : relA f2 L2 K2 old2 g2 ct2 τ2) :
    r = some (.int x) ∧ r2 = some (.int x) ∧ s3 = sz2 ∧ ∃ fo' τ', inv G B s2 f2 L2 K2 old2 st2 g2 ct2 fo' τ' h2 sz2 := by
  obtain ⟨c1, c2, c3, c4⟩ := hc
  obtain ⟨fo', τ', m1, m2, m3, m4⟩ := hm
  subst m2
  refine ⟨c1, m1, m4.trans c3, fo', τ', wl_ke (c3 ▸ c2) (fun a ha => mq_out (by omega)), mq_mq, relA_MJ hr m3⟩
