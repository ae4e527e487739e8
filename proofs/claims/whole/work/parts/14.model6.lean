def nSh (s : Nat → Int32) : Nat := (s 0).toNatClampNeg
def nP (s : Nat → Int32) : Nat := (s 1).toNatClampNeg
def okS (s : Nat → Int32) : Prop := (s 0 = nI (nSh s) ∧ nSh s ≤ 6) ∧ (s 1 = nI (nP s) ∧ nP s ≤ 48) ∧ okR s
theorem tab_lt : ∀ j, j < 320 → tabN j < 2 ^ wiN (j / 5 % 8) := by decide +kernel
theorem tabN_w {l w i : Nat} (hl : l < 8) (hw : w < 8) (hi : i < 5) : tabN (40 * l + 5 * w + i) < 2 ^ wiN w := by
  have h := tab_lt (40 * l + 5 * w + i) (by omega)
  rwa [show (40 * l + 5 * w + i) / 5 % 8 = w by omega] at h
theorem or_lt {a b n : Nat} (ha : a < 2 ^ n) (hb : b < 2 ^ n) : a ||| b < 2 ^ n := Nat.or_lt_two_pow ha hb
theorem tab_c {l w i c : Nat} (hl : l < 8) (hw : w < 8) (hi : i < 5) (hc : c + wiN w ≤ 14) : tabN (40 * l + 5 * w + i) * 2 ^ c < 2 ^ 14 := by
  have h := tabN_w hl hw hi
  calc tabN (40 * l + 5 * w + i) * 2 ^ c < 2 ^ wiN w * 2 ^ c := Nat.mul_lt_mul_of_pos_right h (Nat.two_pow_pos c)
    _ = 2 ^ (wiN w + c) := (Nat.pow_add 2 _ _).symm
    _ ≤ 2 ^ 14 := Nat.pow_le_pow_right (by omega) (by omega)
theorem okR_upd {s : Nat → Int32} (h : okR s) {j x : Nat} (hx : x < 2 ^ 14) : okR (upd s j (nI x)) := by
  intro k r hk hr
  by_cases e : 5 + 11 * k + r = j
  · subst e
    have e1 : upd s (5 + 11 * k + r) (nI x) (5 + 11 * k + r) = nI x := pk_us
    have e2 : rN (upd s (5 + 11 * k + r) (nI x)) k r = x := by unfold rN; rw [e1, nI_clamp (by omega)]
    rw [e1, e2]
    exact ⟨rfl, hx⟩
  · have e1 : upd s j (nI x) (5 + 11 * k + r) = s (5 + 11 * k + r) := pk_un e
    have e2 : rN (upd s j (nI x)) k r = rN s k r := by unfold rN; rw [e1]
    rw [e1, e2]
    exact h k r hk hr
theorem okR_of {s t : Nat → Int32} (h : okR s) (e : ∀ j, 5 ≤ j → j < 69 → t j = s j) : okR t := by
  intro k r hk hr
  have e1 : t (5 + 11 * k + r) = s (5 + 11 * k + r) := e _ (by omega) (by omega)
  have e2 : rN t k r = rN s k r := by unfold rN; rw [e1]
  rw [e1, e2]
  exact h k r hk hr
theorem okR_cut {s : Nat → Int32} (h : okR s) {k l w r c : Nat} (hk : k < 6) (hl : l < 8) (hw : w < 8) (hc : c + wiN w ≤ 14) : ∀ i, r + i ≤ 9 → i ≤ 5 → okR (cutS s k l w r c i)
  | 0, _, _ => h
  | i + 1, h1, h2 => by
    rw [cutS]
    exact okR_upd (okR_cut h hk hl hw hc i (by omega) (by omega)) (or_lt (h k (r + i) hk (by omega)).2 (tab_c hl hw (by omega) hc))
theorem newS_lo {s : Nat → Int32} {m k l w r c j : Nat} (hj : j < 69) : newS s m k l w r c j = cutS (upd s 1 (nI (m + 1))) k l w r c (hiN w) j := by
  unfold newS
  rw [pk_un (by omega), pk_un (by omega), pk_un (by omega), pk_un (by omega), pk_un (by omega), pk_un (by omega), pk_un (by omega), pk_un (by omega)]
theorem newS_hi {s : Nat → Int32} {m k l w r c j : Nat} (hk : k < 6) (hr : r + hiN w ≤ 9) (hj : 69 ≤ j) (hm : j < 69 + 8 * m ∨ 69 + 8 * m + 8 ≤ j) : newS s m k l w r c j = s j := by
  unfold newS
  rw [pk_un (by omega), pk_un (by omega), pk_un (by omega), pk_un (by omega), pk_un (by omega), pk_un (by omega), pk_un (by omega), pk_un (by omega), cutS_out _ _ (by omega), pk_un (by omega)]
theorem okS_new {s : Nat → Int32} (h : okS s) {m k l w r c : Nat} (hm : m = nP s) (hm48 : m < 48) (hk : k < 6) (hl : l < 8) (hw : w < 8) (hr : r + hiN w ≤ 9) (hc : c + wiN w ≤ 14) : okS (newS s m k l w r c) ∧ nP (newS s m k l w r c) = m + 1 ∧ nSh (newS s m k l w r c) = nSh s := by
  obtain ⟨⟨a1, a2⟩, ⟨b1, b2⟩, hR⟩ := h
  have h5 := hiN_le w
  have e0 : newS s m k l w r c 0 = s 0 := by rw [newS_lo (by omega), cutS_out _ _ (by omega), pk_un (by omega)]
  have e1 : newS s m k l w r c 1 = nI (m + 1) := by rw [newS_lo (by omega), cutS_out _ _ (by omega), pk_us]
  have n0 : nSh (newS s m k l w r c) = nSh s := by unfold nSh; rw [e0]
  have n1 : nP (newS s m k l w r c) = m + 1 := by unfold nP; rw [e1, nI_clamp (by omega)]
  refine ⟨⟨⟨by rw [e0, n0]; exact a1, by rw [n0]; exact a2⟩, ⟨by rw [e1, n1], by rw [n1]; omega⟩, ?_⟩, n1, n0⟩
  exact okR_of (okR_cut (okR_1 hR (nI (m + 1))) hk hl hw hc (hiN w) hr h5) (fun j _ hj => newS_lo hj)
theorem okS_hi {s t : Nat → Int32} (h : okS s) (e : ∀ j, j < 69 → t j = s j) : okS t ∧ nP t = nP s ∧ nSh t = nSh s := by
  obtain ⟨⟨a1, a2⟩, ⟨b1, b2⟩, hR⟩ := h
  have n0 : nSh t = nSh s := by unfold nSh; rw [e 0 (by omega)]
  have n1 : nP t = nP s := by unfold nP; rw [e 1 (by omega)]
  exact ⟨⟨⟨by rw [e 0 (by omega), n0]; exact a1, by rw [n0]; exact a2⟩, ⟨by rw [e 1 (by omega), n1]; exact b1, by rw [n1]; exact b2⟩, okR_of hR (fun j _ hj => e j hj)⟩, n1, n0⟩
theorem putS_lo {s : Nat → Int32} {p : Nat} {v : Int32} {j : Nat} (hj : j < 69) : putS s p v j = s j := by
  unfold putS
  rw [pk_un (by omega), pk_un (by omega)]
theorem okS_put {s : Nat → Int32} (h : okS s) (p : Nat) (v : Int32) : okS (putS s p v) ∧ nP (putS s p v) = nP s ∧ nSh (putS s p v) = nSh s := okS_hi h (fun _ hj => putS_lo hj)
theorem loF_val {s : Nat → Int32} {col lt mi : Int32} : ∀ (i : Nat) (f : Int32), loF s col lt mi i f = f ∨ ∃ j, j < i ∧ loF s col lt mi i f = nI j ∧ s (69 + 8 * j + 0) = lt ∧ s (69 + 8 * j + 1) = col ∧ s (69 + 8 * j + 2) = mi ∧ s (69 + 8 * j + 3) = 0
  | 0, f => Or.inl rfl
  | i + 1, f => by
    rw [loF]
    split
    · next hc =>
      rcases loF_val (s := s) (col := col) (lt := lt) (mi := mi) i (nI i) with h | ⟨j, h1, h2⟩
      · exact Or.inr ⟨i, by omega, h, hc⟩
      · exact Or.inr ⟨j, by omega, h2⟩
    · rcases loF_val (s := s) (col := col) (lt := lt) (mi := mi) i f with h | ⟨j, h1, h2⟩
      · exact Or.inl h
      · exact Or.inr ⟨j, by omega, h2⟩
theorem nI_ne6 {n : Nat} (h : n < 2 ^ 31) : ¬ nI n = -6 := fun e => nI_pos h (by rw [e]; decide)
/-- fitS, sound -/
theorem okS_fit {s : Nat → Int32} (h : okS s) {m k l mi : Nat} (hm : m = nP s) (hm48 : m < 48) (hk : k < 6) (hl : l < 8) (hmi : mi < 2) (hf : ff s k l mi < 504) : okS (fitS s m k l mi) ∧ nP (fitS s m k l mi) = m + 1 ∧ nSh (fitS s m k l mi) = nSh s := by
  obtain ⟨r1, r2, -⟩ := ff_ok hf
  exact okS_new h hm hm48 hk hl (by omega) r1 r2
/-- what pieceFor answers -/
theorem pf_ok {s : Nat → Int32} (h : okS s) {col : Int32} {l mi : Nat} (hl : l < 8) (hmi : mi < 2) : okS (pfS s col l mi (nSh s) (nP s)) ∧ nSh (pfS s col l mi (nSh s) (nP s)) = nSh s ∧ (pfV s col l mi (nSh s) (nP s) = -6 → pfS s col l mi (nSh s) (nP s) = s) ∧ (¬ pfV s col l mi (nSh s) (nP s) = -6 → ∃ p, p < 48 ∧ p < nP (pfS s col l mi (nSh s) (nP s)) ∧ pfV s col l mi (nSh s) (nP s) = nI p) := by
  unfold pfS pfV
  obtain ⟨⟨a1, a2⟩, ⟨b1, b2⟩, hR⟩ := id h
  by_cases c1 : loF s col (nI l) (nI mi) (nP s) (-6) = -6
  · rw [if_pos c1, if_pos c1]
    by_cases c2 : nP s < 48
    · rw [if_pos c2, if_pos c2]
      by_cases c3 : shF s col l mi (nSh s) 0 < nSh s
      · rw [if_pos c3, if_pos c3]
        obtain ⟨q1, -⟩ := shF_fit (s := s) (col := col) (l := l) (mi := mi) (nSh s) 0 (fun _ => 0) (by omega)
        obtain ⟨g1, g2, g3⟩ := okS_fit h rfl c2 (by omega) hl hmi q1
        exact ⟨g1, g3, fun e => absurd e (nI_ne6 (by omega)), fun _ => ⟨nP s, c2, by omega, rfl⟩⟩
      · rw [if_neg c3, if_neg c3]
        exact ⟨h, rfl, fun _ => rfl, fun e => absurd rfl e⟩
    · rw [if_neg c2, if_neg c2]
      exact ⟨h, rfl, fun _ => rfl, fun e => absurd rfl e⟩
  · rw [if_neg c1, if_neg c1]
    refine ⟨h, rfl, fun _ => rfl, fun _ => ?_⟩
    rcases loF_val (s := s) (col := col) (lt := nI l) (mi := nI mi) (nP s) (-6) with e | ⟨j, h1, h2, -⟩
    · exact absurd e c1
    · exact ⟨j, by omega, h1, h2⟩
/-- one letter of a name is put, if it can be -/
def wrStep (s : Nat → Int32) (col : Int32) (l mi p pl : Nat) : Option (Nat → Int32) :=
  if pl < 12 ∧ paF s (nI 12 * nI p + nI pl) (nP s) = -6 then
    (if pfV s col l mi (nSh s) (nP s) = -6 then none else some (putS (pfS s col l mi (nSh s) (nP s)) (pfV s col l mi (nSh s) (nP s)).toNatClampNeg (nI 12 * nI p + nI pl)))
  else none
/-- n letters from the k-th on -/
def wrA (lt : Nat → Nat) (L : Nat) (col : Int32) (mi p q : Nat) : Nat → Nat → (Nat → Int32) → Bool × (Nat → Int32)
  | 0, _, s => (true, s)
  | n + 1, k, s => match wrStep s col (lt (if mi = 1 then L - 1 - k else k)) mi p (q + k) with
    | none => (false, s)
    | some s' => wrA lt L col mi p q n (k + 1) s'
theorem wrStep_ok {s t : Nat → Int32} (h : okS s) {col : Int32} {l mi p pl : Nat} (hl : l < 8) (hmi : mi < 2) (e : wrStep s col l mi p pl = some t) : okS t ∧ nSh t = nSh s := by
  unfold wrStep at e
  split at e
  · split at e
    · cases e
    · next h2 =>
      cases e
      obtain ⟨g1, g2, -⟩ := pf_ok h (col := col) hl hmi
      obtain ⟨q1, -, q3⟩ := okS_put g1 (pfV s col l mi (nSh s) (nP s)).toNatClampNeg (nI 12 * nI p + nI pl)
      exact ⟨q1, q3.trans g2⟩
  · cases e
def zFo (x : Value) (H : (Nat → Int32) → zH) (sz : Nat) : Option Value → zH → Nat → Prop := fun r h' s' => ∃ fo', r = some x ∧ h' = H fo' ∧ s' = sz
theorem z_zretF {M : zM} {G : zG} {d mc ms k n : Nat} {hh : zH} {sz : Nat} {pc : Nat} {lv : List (Option Value)} {x y : Int32} {H : (Nat → Int32) → zH} {s2 : Nat} (f : Nat → Int32) (hd : decode M.2.1 pc = .ok (.ireturn, 1)) (hrt : M.2.2.2.1 = some .boolean) (hz : x = 0 ∨ x = 1) (e : x = y) (eh : hh = H f) (es : sz = s2) (hk : k ≤ mc) (hn : n ≤ ms) : zS M G d mc ms k n hh sz pc lv [.int x] (fun r h' s' k' n' => zFo (.int y) H s2 r h' s' ∧ k' ≤ mc ∧ n' ≤ ms) :=
  z_ireturn hd ⟨.boolean, hrt, z_narZ hz⟩ ⟨⟨f, by rw [e], eh, es⟩, hk, hn⟩
set_option maxHeartbeats 4000000 in
set_option maxRecDepth 100000 in
theorem l_writes {G : zG} {hh : zH} {sz mo : Nat} {τ : Nat → Nat → Int32} {kp : Int32} {col : Int32} {mi p q L : Nat} {lt : Nat → Nat} (hm : mi < 2) (hp : p < 3) (hq : q < 12) (hL : L ≤ 12) (hlt : ∀ i, i < L → ltrI (τ 5 i) = nI (lt i) ∧ lt i < 8) (hT : τ 6 = tabI) : ∀ (n k : Nat) (s fo : Nat → Int32) (p6 p7 p8 : Option Value), k + n = L → okS s → zS MX7_writes G 6 0 0 0 0 (mq G mo s fo τ kp (nI L) hh) sz 3 [some (.ref mo), some (.int (nI p)), some (.int (nI q)), some (.int col), some (.int (nI mi)), some (.int (nI k)), p6, p7, p8] [] (fun rr hh' ss' kk' nn' => zFo (.int (zb (wrA lt L col mi p q n k s).1)) (fun f => mq G mo (wrA lt L col mi p q n k s).2 f τ kp (nI L) hh) sz rr hh' ss' ∧ kk' ≤ 0 ∧ nn' ≤ 0) := by
  intro n; induction n with
  | zero =>
    intro k s fo p6 p7 p8 hk hS
    obtain ⟨⟨a1, a2⟩, ⟨b1, b2⟩, hR⟩ := id hS
    refine z_iload dX7_writes_3 rfl ?_
    refine z_aload_n dX7_writes_5 rfl ?_
    refine z_get (ci := 7) (f := 7) dX7_writes_6 ⟨by decide, by decide, zm_670, rfl⟩ mq_o rfl ?_
    refine z_icmp_ge (tgt := 119) dX7_writes_9 (by decide) (fun c_9 => ?_) (fun c_9 => absurd c_9 (not_not_intro (nI_le (by omega) (by omega))))
    refine z_iconst (v := (nI 1)) dX7_writes_119 (by decide) ?_
    exact z_zretF fo dX7_writes_120 rfl (Or.inr rfl) rfl rfl rfl (Nat.le_refl _) (Nat.le_refl _)
  | succ n ih =>
    intro k s fo p6 p7 p8 hk hS
    obtain ⟨⟨a1, a2⟩, ⟨b1, b2⟩, hR⟩ := id hS
    have J : ∀ idx, idx < L → idx = (if mi = 1 then L - 1 - k else k) → zS MX7_writes G 6 0 0 0 0 (mq G mo s fo τ kp (nI L) hh) sz 36 [some (.ref mo), some (.int (nI p)), some (.int (nI q)), some (.int col), some (.int (nI mi)), some (.int (nI k)), p6, p7, p8] [.int (nI idx), .ref (mo + 6)] (fun rr hh' ss' kk' nn' => zFo (.int (zb (wrA lt L col mi p q (n + 1) k s).1)) (fun f => mq G mo (wrA lt L col mi p q (n + 1) k s).2 f τ kp (nI L) hh) sz rr hh' ss' ∧ kk' ≤ 0 ∧ nn' ≤ 0) := by
      intro idx hidx hix
      refine z_ialdN (j := idx) dX7_writes_36 mq_a5 rfl (by omega) (by decide) ?_
      refine z_callSR k_X7_letterOf dX7_writes_37 ⟨zm_765, zm_767, zm_8, zm_766⟩  (by decide) zp_X7_letterOf rfl (Nat.le_of_ble_eq_true rfl) (Nat.le_refl _) (Nat.le_refl _) ?_
      refine z_eq (hlt idx hidx).1 ?_
      refine z_istore dX7_writes_40 (by decide) rfl rfl ?_
      refine z_iload_n dX7_writes_42 rfl ?_
      refine z_iload dX7_writes_43 rfl ?_
      refine z_iaddN dX7_writes_45 ?_
      refine z_bipush (v := (nI 12)) dX7_writes_46 (by decide) ?_
      refine z_icmp_ge (tgt := 69) dX7_writes_48 (by decide) (fun c_48 => ?_) (fun c_48 => ?_)
      · refine z_iconst (v := (nI 0)) dX7_writes_69 (by decide) ?_
        refine z_istore dX7_writes_70 (by decide) rfl rfl ?_
        refine z_iload dX7_writes_72 rfl ?_
        refine z_if_eq (tgt := 89) dX7_writes_74 (by decide) (fun c_74 => ?_) (fun c_74 => absurd c_74 (by decide))
        refine z_bipush (v := (-6)) dX7_writes_89 (by decide) ?_
        refine z_istore dX7_writes_91 (by decide) rfl rfl ?_
        refine z_iload dX7_writes_93 rfl ?_
        refine z_bipush (v := (-6)) dX7_writes_95 (by decide) ?_
        refine z_icmp_ne (tgt := 102) dX7_writes_97 (by decide) (fun c_97 => absurd c_97 (by decide)) (fun c_97 => ?_)
        refine z_iconst (v := (nI 0)) dX7_writes_100 (by decide) ?_
        have e : wrA lt L col mi p q (n + 1) k s = (false, s) := by
          rw [wrA, show wrStep s col (lt (if mi = 1 then L - 1 - k else k)) mi p (q + k) = none from by unfold wrStep; rw [if_neg (fun z => nI_ge z.1 (by omega) c_48)]]
        rw [e]
        exact z_zretF fo dX7_writes_101 rfl (Or.inl rfl) rfl rfl rfl (Nat.le_refl _) (Nat.le_refl _)
      · have c12 : q + k < 12 := by rcases Nat.lt_or_ge (q + k) 12 with z | z; exact z; exact absurd (nI_le z (by omega)) c_48
        refine z_aload_n dX7_writes_51 rfl ?_
        refine z_iload_n dX7_writes_52 rfl ?_
        refine z_iload_n dX7_writes_53 rfl ?_
        refine z_iload dX7_writes_54 rfl ?_
        refine z_iaddN dX7_writes_56 ?_
        refine z_callVR (ci := 7) (k_X7_pieceAt b1 b2) dX7_writes_57 ⟨zm_780, zm_783, zm_8, zm_782, zmp_17, by decide⟩ mq_o (by decide) zp_X7_pieceAt rfl (Nat.le_of_ble_eq_true rfl) (Nat.le_refl _) (Nat.le_refl _) ?_
        refine z_bipush (v := (-6)) dX7_writes_60 (by decide) ?_
        refine z_icmp_ne (tgt := 69) dX7_writes_62 (by decide) (fun c_62 => ?_) (fun c_62 => ?_)
        · refine z_iconst (v := (nI 0)) dX7_writes_69 (by decide) ?_
          refine z_istore dX7_writes_70 (by decide) rfl rfl ?_
          refine z_iload dX7_writes_72 rfl ?_
          refine z_if_eq (tgt := 89) dX7_writes_74 (by decide) (fun c_74 => ?_) (fun c_74 => absurd c_74 (by decide))
          refine z_bipush (v := (-6)) dX7_writes_89 (by decide) ?_
          refine z_istore dX7_writes_91 (by decide) rfl rfl ?_
          refine z_iload dX7_writes_93 rfl ?_
          refine z_bipush (v := (-6)) dX7_writes_95 (by decide) ?_
          refine z_icmp_ne (tgt := 102) dX7_writes_97 (by decide) (fun c_97 => absurd c_97 (by decide)) (fun c_97 => ?_)
          refine z_iconst (v := (nI 0)) dX7_writes_100 (by decide) ?_
          have e : wrA lt L col mi p q (n + 1) k s = (false, s) := by
            rw [wrA, show wrStep s col (lt (if mi = 1 then L - 1 - k else k)) mi p (q + k) = none from by unfold wrStep; rw [if_neg (fun z => c_62 z.2)]]
          rw [e]
          exact z_zretF fo dX7_writes_101 rfl (Or.inl rfl) rfl rfl rfl (Nat.le_refl _) (Nat.le_refl _)
        · refine z_iconst (v := (nI 1)) dX7_writes_65 (by decide) ?_
          refine z_goto (tgt := 70) dX7_writes_66 (by decide) ?_
          refine z_istore dX7_writes_70 (by decide) rfl rfl ?_
          refine z_iload dX7_writes_72 rfl ?_
          refine z_if_eq (tgt := 89) dX7_writes_74 (by decide) (fun c_74 => absurd c_74 (by decide)) (fun c_74 => ?_)
          refine z_aload_n dX7_writes_77 rfl ?_
          refine z_iload_n dX7_writes_78 rfl ?_
          refine z_iload dX7_writes_79 rfl ?_
          refine z_iload dX7_writes_81 rfl ?_
          refine z_callVR (ci := 7) (k_X7_pieceFor a2 a1 b1 b2 (hlt idx hidx).2 hm hT hR) dX7_writes_83 ⟨zm_784, zm_787, zm_8, zm_786, zmp_18, by decide⟩ mq_o (by decide) zp_X7_pieceFor rfl (Nat.le_of_ble_eq_true rfl) (Nat.le_refl _) (Nat.le_refl _) ?_
          refine z_goto (tgt := 91) dX7_writes_86 (by decide) ?_
          refine z_istore dX7_writes_91 (by decide) rfl rfl ?_
          refine z_iload dX7_writes_93 rfl ?_
          refine z_bipush (v := (-6)) dX7_writes_95 (by decide) ?_
          refine z_icmp_ne (tgt := 102) dX7_writes_97 (by decide) (fun c_97 => ?_) (fun c_97 => ?_)
          · obtain ⟨g1, g2, g3, g4⟩ := pf_ok hS (col := col) (hlt idx hidx).2 hm
            obtain ⟨pn, hp48, hpn, ep⟩ := g4 c_97
            have ew : wrStep s col (lt (if mi = 1 then L - 1 - k else k)) mi p (q + k) = some (putS (pfS s col (lt idx) mi (nSh s) (nP s)) pn (nI 12 * nI p + nI (q + k))) := by
              unfold wrStep
              rw [← hix, if_pos ⟨c12, c_62⟩, if_neg c_97, ep, nI_clamp (by omega)]
            have e : wrA lt L col mi p q (n + 1) k s = wrA lt L col mi p q n (k + 1) (putS (pfS s col (lt idx) mi (nSh s) (nP s)) pn (nI 12 * nI p + nI (q + k))) := by rw [wrA, ew]
            rw [e]
            have okt := (wrStep_ok hS (by rw [← hix]; exact (hlt idx hidx).2) hm ew).1
            refine z_aload_n dX7_writes_102 rfl ?_
            refine z_iload dX7_writes_103 rfl ?_
            rw [ep]
            refine z_iload_n dX7_writes_105 rfl ?_
            refine z_iload_n dX7_writes_106 rfl ?_
            refine z_iload dX7_writes_107 rfl ?_
            refine z_iaddN dX7_writes_109 ?_
            refine z_callVU (ci := 7) (k_X7_puts hp48) dX7_writes_110 ⟨zm_792, zm_795, zm_8, zm_794, zmp_20, by decide⟩ mq_o (by decide) zp_X7_puts rfl (Nat.le_of_ble_eq_true rfl) (Nat.le_refl _) (Nat.le_refl _) ?_
            refine z_iincU dX7_writes_113 rfl (by decide) rfl rfl ?_
            refine z_goto (tgt := 3) dX7_writes_116 (by decide) ?_
            exact ih (k + 1) _ _ _ _ _ (by omega) okt
          · refine z_iconst (v := (nI 0)) dX7_writes_100 (by decide) ?_
            obtain ⟨g1, g2, g3, g4⟩ := pf_ok hS (col := col) (hlt idx hidx).2 hm
            have e : wrA lt L col mi p q (n + 1) k s = (false, s) := by
              rw [wrA, show wrStep s col (lt (if mi = 1 then L - 1 - k else k)) mi p (q + k) = none from by unfold wrStep; rw [← hix, if_pos ⟨c12, c_62⟩, if_pos c_97]]
            rw [e]
            rw [g3 c_97]
            exact z_zretF _ dX7_writes_101 rfl (Or.inl rfl) rfl rfl rfl (Nat.le_refl _) (Nat.le_refl _)
    refine z_iload dX7_writes_3 rfl ?_
    refine z_aload_n dX7_writes_5 rfl ?_
    refine z_get (ci := 7) (f := 7) dX7_writes_6 ⟨by decide, by decide, zm_670, rfl⟩ mq_o rfl ?_
    refine z_icmp_ge (tgt := 119) dX7_writes_9 (by decide) (fun c_9 => absurd c_9 (nI_ge (by omega) (by omega))) (fun c_9 => ?_)
    refine z_aload_n dX7_writes_12 rfl ?_
    refine z_get (ci := 7) (f := 6) dX7_writes_13 ⟨by decide, by decide, zm_669, rfl⟩ mq_o rfl ?_
    refine z_iload dX7_writes_16 rfl ?_
    refine z_iconst (v := (nI 1)) dX7_writes_18 (by decide) ?_
    refine z_icmp_ne (tgt := 34) dX7_writes_19 (by decide) (fun c_19 => ?_) (fun c_19 => ?_)
    · refine z_iload dX7_writes_34 rfl ?_
      exact J k (by omega) (by rw [if_neg (fun e => c_19 (by rw [e]))])
    · refine z_aload_n dX7_writes_22 rfl ?_
      refine z_get (ci := 7) (f := 7) dX7_writes_23 ⟨by decide, by decide, zm_670, rfl⟩ mq_o rfl ?_
      refine z_iconst (v := (nI 1)) dX7_writes_26 (by decide) ?_
      refine z_isubN dX7_writes_27 (by omega) ?_
      refine z_iload dX7_writes_28 rfl ?_
      refine z_isubN dX7_writes_30 (by omega) ?_
      refine z_goto (tgt := 36) dX7_writes_31 (by decide) ?_
      exact J (L - 1 - k) (by omega) (by rw [if_pos ((nI_eq (by omega) (by omega)).mp c_19)])
set_option maxHeartbeats 4000000 in
set_option maxRecDepth 100000 in
theorem k_X7_writes {G : zG} {hh : zH} {sz mo : Nat} {s fo : Nat → Int32} {τ : Nat → Nat → Int32} {kp : Int32} {col : Int32} {mi p q L : Nat} {lt : Nat → Nat} (hm : mi < 2) (hp : p < 3) (hq : q < 12) (hL : L ≤ 12) (hlt : ∀ i, i < L → ltrI (τ 5 i) = nI (lt i) ∧ lt i < 8) (hT : τ 6 = tabI) (hS : okS s) : zC G 6 MX7_writes yX7_writes [.ref mo, .int (nI p), .int (nI q), .int col, .int (nI mi)] (mq G mo s fo τ kp (nI L) hh) sz 0 0 (zFo (.int (zb (wrA lt L col mi p q L 0 s).1)) (fun f => mq G mo (wrA lt L col mi p q L 0 s).2 f τ kp (nI L) hh) sz) := by
  refine z_intro _ rfl zy_X7_writes (Nat.le_of_ble_eq_true rfl) ?_
  refine z_iconst (v := (nI 0)) dX7_writes_0 (by decide) ?_
  refine z_istore dX7_writes_1 (by decide) rfl rfl ?_
  exact l_writes hm hp hq hL hlt hT L 0 s fo _ _ _ (Nat.zero_add _) hS
