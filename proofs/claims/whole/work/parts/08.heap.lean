theorem nI_and (a b : Nat) : nI a &&& nI b = nI (a &&& b) := by
  apply Int32.toBitVec_inj.mp
  show BitVec.ofNat 32 a &&& BitVec.ofNat 32 b = BitVec.ofNat 32 (a &&& b)
  rw [BitVec.ofNat_and]
theorem nI_or (a b : Nat) : nI a ||| nI b = nI (a ||| b) := by
  apply Int32.toBitVec_inj.mp
  show BitVec.ofNat 32 a ||| BitVec.ofNat 32 b = BitVec.ofNat 32 (a ||| b)
  rw [BitVec.ofNat_or]
theorem nI_sl : ∀ n, n < 32 → ((nI n &&& 31).toBitVec.smod 32).toNat = n := by decide
theorem nI_shl (a : Nat) {b : Nat} (hb : b < 32) : nI a <<< (nI b &&& 31) = nI (a * 2 ^ b) := by
  apply Int32.toBitVec_inj.mp
  rw [Int32.toBitVec_shiftLeft]
  apply BitVec.eq_of_toNat_eq
  rw [BitVec.shiftLeft_eq', nI_sl b hb]
  show (BitVec.ofNat 32 a <<< b).toNat = (BitVec.ofNat 32 (a * 2 ^ b)).toNat
  rw [BitVec.toNat_shiftLeft, BitVec.toNat_ofNat, BitVec.toNat_ofNat, Nat.shiftLeft_eq, Nat.mod_mul_mod]
theorem nI_shr {a b : Nat} (ha : a < 2 ^ 31) (hb : b < 32) : nI a >>> (nI b &&& 31) = nI (a / 2 ^ b) := pk_shrN ha _ b (nI_sl b hb)
section Z8
variable {M : zM} {G : zG} {d mc ms k n : Nat} {hh : zH} {sz : Nat} {pc : Nat} {lv : List (Option Value)} {st rest : List Value} {Post : Option Value → zH → Nat → Nat → Nat → Prop} {a b : Nat}
theorem z_iaddN (hd : decode M.2.1 pc = .ok (.iadd, 1)) (kk : zS M G d mc ms k n hh sz (pc + 1) lv (.int (nI (a + b)) :: st) Post) : zS M G d mc ms k n hh sz pc lv (.int (nI b) :: .int (nI a) :: st) Post := z_iadd hd (by rw [nI_add]; exact kk)
theorem z_imulN (hd : decode M.2.1 pc = .ok (.imul, 1)) (kk : zS M G d mc ms k n hh sz (pc + 1) lv (.int (nI (a * b)) :: st) Post) : zS M G d mc ms k n hh sz pc lv (.int (nI b) :: .int (nI a) :: st) Post := z_imul hd (by rw [pk_mul]; exact kk)
theorem z_isubN (hd : decode M.2.1 pc = .ok (.isub, 1)) (h : b ≤ a) (kk : zS M G d mc ms k n hh sz (pc + 1) lv (.int (nI (a - b)) :: st) Post) : zS M G d mc ms k n hh sz pc lv (.int (nI b) :: .int (nI a) :: st) Post := z_isub hd (by rw [pk_sub h]; exact kk)
theorem z_iandN (hd : decode M.2.1 pc = .ok (.iand, 1)) (kk : zS M G d mc ms k n hh sz (pc + 1) lv (.int (nI (a &&& b)) :: st) Post) : zS M G d mc ms k n hh sz pc lv (.int (nI b) :: .int (nI a) :: st) Post := z_iand hd (by rw [nI_and]; exact kk)
theorem z_iorN (hd : decode M.2.1 pc = .ok (.ior, 1)) (kk : zS M G d mc ms k n hh sz (pc + 1) lv (.int (nI (a ||| b)) :: st) Post) : zS M G d mc ms k n hh sz pc lv (.int (nI b) :: .int (nI a) :: st) Post := z_ior hd (by rw [nI_or]; exact kk)
theorem z_ishlN (hd : decode M.2.1 pc = .ok (.ishl, 1)) (hb : b < 32) (kk : zS M G d mc ms k n hh sz (pc + 1) lv (.int (nI (a * 2 ^ b)) :: st) Post) : zS M G d mc ms k n hh sz pc lv (.int (nI b) :: .int (nI a) :: st) Post := z_ishl hd (by rw [nI_shl a hb]; exact kk)
theorem z_ishrN (hd : decode M.2.1 pc = .ok (.ishr, 1)) (ha : a < 2 ^ 31) (hb : b < 32) (kk : zS M G d mc ms k n hh sz (pc + 1) lv (.int (nI (a / 2 ^ b)) :: st) Post) : zS M G d mc ms k n hh sz pc lv (.int (nI b) :: .int (nI a) :: st) Post := z_ishr hd (by rw [nI_shr ha hb]; exact kk)
theorem z_idivN (hd : decode M.2.1 pc = .ok (.idiv, 1)) (ha : a < 2 ^ 31) (h0 : 0 < b) (hb : b < 2 ^ 31) (kk : zS M G d mc ms k n hh sz (pc + 1) lv (.int (nI (a / b)) :: st) Post) : zS M G d mc ms k n hh sz pc lv (.int (nI b) :: .int (nI a) :: st) Post := z_idiv hd (nI_ne0 h0 hb) (by rw [pk_div ha h0 hb]; exact kk)
theorem z_iremN (hd : decode M.2.1 pc = .ok (.irem, 1)) (ha : a < 2 ^ 31) (h0 : 0 < b) (hb : b < 2 ^ 31) (kk : zS M G d mc ms k n hh sz (pc + 1) lv (.int (nI (a % b)) :: st) Post) : zS M G d mc ms k n hh sz pc lv (.int (nI b) :: .int (nI a) :: st) Post := z_irem hd (nI_ne0 h0 hb) (by rw [pk_rem ha h0 hb]; exact kk)
theorem z_iincU {i : Nat} {lv' : List (Option Value)} (hd : decode M.2.1 pc = .ok (.iinc i 1, 3)) (hv : lv[i]? = some (some (.int (nI a)))) (hn : i < M.2.2.1) (hok : zok lv i = true) (hlv : lv.set i (some (.int (nI (a + 1)))) = lv') (kk : zS M G d mc ms k n hh sz (pc + 3) lv' st Post) : zS M G d mc ms k n hh sz pc lv st Post := z_iinc (v := nI (a + 1)) hd hv (by rw [nI_succ]; rfl) hn hok hlv kk
theorem z_iincD {i : Nat} {lv' : List (Option Value)} (hd : decode M.2.1 pc = .ok (.iinc i (-1), 3)) (hv : lv[i]? = some (some (.int (nI (a + 1))))) (hn : i < M.2.2.1) (hok : zok lv i = true) (hlv : lv.set i (some (.int (nI a))) = lv') (kk : zS M G d mc ms k n hh sz (pc + 3) lv' st Post) : zS M G d mc ms k n hh sz pc lv st Post := z_iinc (v := nI a) hd hv (pk_m1 a) hn hok hlv kk
/-- branches over numbers -/
theorem z_ltN {t1 t2 : Prop} (ha : a < 2 ^ 31) (hb : b < 2 ^ 31) (h1 : a < b → t1) (h2 : ¬ a < b → t2) : (nI a < nI b → t1) ∧ (¬ nI a < nI b → t2) := ⟨fun h => h1 ((nI_ltI ha hb).mp h), fun h => h2 (fun z => h ((nI_ltI ha hb).mpr z))⟩
end Z8
/-! the reference's object: its arrays are numbered 0 to 7: s, aside, history, slots, isSaved, pad, shapes, found -/
def mLen (i : Nat) : Nat := ([453, 453, 2718, 906, 2, 80, 320, 3] : List Nat).getD i 0
def mCell (G : zG) (mo : Nat) (τ : Nat → Nat → Int32) (kp ln : Int32) (k : Nat) : va_E :=
  if k = 0 then .inr (7, [.ref (mo + 1), .ref (mo + 2), .ref (mo + 3), .int kp, .ref (mo + 4), .ref (mo + 5), .ref (mo + 6), .int ln, .ref (mo + 7), .ref (mo + 8)])
  else .inl (G.2.2.1 (if k = 5 then 2 else 0), mLen (k - 1), .inl (τ (k - 1)))
def mp (G : zG) (mo : Nat) (τ : Nat → Nat → Int32) (kp ln : Int32) (hh : zH) : zH := fun a => if mo ≤ a ∧ a < mo + 9 then some (mCell G mo τ kp ln (a - mo)) else hh a
def mu (τ : Nat → Nat → Int32) (i : Nat) (f : Nat → Int32) : Nat → Nat → Int32 := fun j => if j = i then f else τ j
theorem mu_eq (τ : Nat → Nat → Int32) (i : Nat) (f : Nat → Int32) : mu τ i f i = f := if_pos rfl
theorem mu_ne {τ : Nat → Nat → Int32} {i j : Nat} {f : Nat → Int32} (h : j ≠ i) : mu τ i f j = τ j := if_neg h
theorem mu_mu (τ : Nat → Nat → Int32) (i : Nat) (f g : Nat → Int32) : mu (mu τ i f) i g = mu τ i g := by
  funext j
  unfold mu
  split <;> rfl
theorem mu_self (τ : Nat → Nat → Int32) (i : Nat) : mu τ i (τ i) = τ := by
  funext j
  unfold mu
  split
  · next h => rw [h]
  · rfl
theorem mu_comm {τ : Nat → Nat → Int32} {i j : Nat} {f g : Nat → Int32} (h : i ≠ j) : mu (mu τ i f) j g = mu (mu τ j g) i f := by
  funext q
  unfold mu
  by_cases h1 : q = i
  · rw [if_pos h1, if_neg (by omega)]; simp [h1]
  · rw [if_neg h1]; simp [h1]
section M8
variable {G : zG} {mo : Nat} {τ : Nat → Nat → Int32} {kp ln : Int32} {hh : zH}
theorem mp_at {k : Nat} (h : k < 9) : mp G mo τ kp ln hh (mo + k) = some (mCell G mo τ kp ln k) := by
  unfold mp
  rw [if_pos (by omega)]
  congr 2
  omega
theorem mp_out {a : Nat} (h : ¬ (mo ≤ a ∧ a < mo + 9)) : mp G mo τ kp ln hh a = hh a := if_neg h
theorem mp_o : mp G mo τ kp ln hh mo = some (.inr (7, [.ref (mo + 1), .ref (mo + 2), .ref (mo + 3), .int kp, .ref (mo + 4), .ref (mo + 5), .ref (mo + 6), .int ln, .ref (mo + 7), .ref (mo + 8)])) := mp_at (k := 0) (by omega)
theorem mp_up {k : Nat} (h : k < 9) {e : va_E} {τ2 : Nat → Nat → Int32} {kp2 ln2 : Int32} (he : ∀ j, j < 9 → (if j = k then e else mCell G mo τ kp ln j) = mCell G mo τ2 kp2 ln2 j) : zup (mp G mo τ kp ln hh) (mo + k) e = mp G mo τ2 kp2 ln2 hh := by
  funext q
  by_cases hq : q = mo + k
  · subst hq
    rw [zup_eq, mp_at h, ← he k h, if_pos rfl]
  · rw [zup_ne hq]
    unfold mp
    by_cases hr : mo ≤ q ∧ q < mo + 9
    · rw [if_pos hr, if_pos hr, ← he (q - mo) (by omega), if_neg (by omega)]
    · rw [if_neg hr, if_neg hr]
theorem mp_ua {i : Nat} (h : i < 8) {f : Nat → Int32} : zup (mp G mo τ kp ln hh) (mo + (i + 1)) (.inl (G.2.2.1 (if i + 1 = 5 then 2 else 0), mLen i, .inl f)) = mp G mo (mu τ i f) kp ln hh := by
  refine mp_up (by omega) (fun j hj => ?_)
  by_cases hji : j = i + 1
  · subst hji
    rw [if_pos rfl]
    unfold mCell
    rw [if_neg (Nat.succ_ne_zero i), Nat.add_sub_cancel, mu_eq]
  · rw [if_neg hji]
    unfold mCell
    by_cases h0 : j = 0
    · rw [if_pos h0, if_pos h0]
    · rw [if_neg h0, if_neg h0, mu_ne (by omega)]
theorem mp_uk {v : Int32} : zup (mp G mo τ kp ln hh) mo (.inr (7, [.ref (mo + 1), .ref (mo + 2), .ref (mo + 3), .int v, .ref (mo + 4), .ref (mo + 5), .ref (mo + 6), .int ln, .ref (mo + 7), .ref (mo + 8)])) = mp G mo τ v ln hh := by
  refine mp_up (k := 0) (by omega) (fun j hj => ?_)
  by_cases h0 : j = 0
  · subst h0; rfl
  · rw [if_neg h0]; unfold mCell; rw [if_neg h0, if_neg h0]
theorem mp_ul {v : Int32} : zup (mp G mo τ kp ln hh) mo (.inr (7, [.ref (mo + 1), .ref (mo + 2), .ref (mo + 3), .int kp, .ref (mo + 4), .ref (mo + 5), .ref (mo + 6), .int v, .ref (mo + 7), .ref (mo + 8)])) = mp G mo τ kp v hh := by
  refine mp_up (k := 0) (by omega) (fun j hj => ?_)
  by_cases h0 : j = 0
  · subst h0; rfl
  · rw [if_neg h0]; unfold mCell; rw [if_neg h0, if_neg h0]
theorem mp_a0 : mp G mo τ kp ln hh (mo + 1) = some (.inl (G.2.2.1 0, 453, .inl (τ 0))) := mp_at (k := 1) (by omega)
theorem mp_u0 {f : Nat → Int32} : zup (mp G mo τ kp ln hh) (mo + 1) (.inl (G.2.2.1 0, 453, .inl f)) = mp G mo (mu τ 0 f) kp ln hh := mp_ua (i := 0) (by omega)
theorem mp_a1 : mp G mo τ kp ln hh (mo + 2) = some (.inl (G.2.2.1 0, 453, .inl (τ 1))) := mp_at (k := 2) (by omega)
theorem mp_u1 {f : Nat → Int32} : zup (mp G mo τ kp ln hh) (mo + 2) (.inl (G.2.2.1 0, 453, .inl f)) = mp G mo (mu τ 1 f) kp ln hh := mp_ua (i := 1) (by omega)
theorem mp_a2 : mp G mo τ kp ln hh (mo + 3) = some (.inl (G.2.2.1 0, 2718, .inl (τ 2))) := mp_at (k := 3) (by omega)
theorem mp_u2 {f : Nat → Int32} : zup (mp G mo τ kp ln hh) (mo + 3) (.inl (G.2.2.1 0, 2718, .inl f)) = mp G mo (mu τ 2 f) kp ln hh := mp_ua (i := 2) (by omega)
theorem mp_a3 : mp G mo τ kp ln hh (mo + 4) = some (.inl (G.2.2.1 0, 906, .inl (τ 3))) := mp_at (k := 4) (by omega)
theorem mp_u3 {f : Nat → Int32} : zup (mp G mo τ kp ln hh) (mo + 4) (.inl (G.2.2.1 0, 906, .inl f)) = mp G mo (mu τ 3 f) kp ln hh := mp_ua (i := 3) (by omega)
theorem mp_a4 : mp G mo τ kp ln hh (mo + 5) = some (.inl (G.2.2.1 2, 2, .inl (τ 4))) := mp_at (k := 5) (by omega)
theorem mp_u4 {f : Nat → Int32} : zup (mp G mo τ kp ln hh) (mo + 5) (.inl (G.2.2.1 2, 2, .inl f)) = mp G mo (mu τ 4 f) kp ln hh := mp_ua (i := 4) (by omega)
theorem mp_a5 : mp G mo τ kp ln hh (mo + 6) = some (.inl (G.2.2.1 0, 80, .inl (τ 5))) := mp_at (k := 6) (by omega)
theorem mp_u5 {f : Nat → Int32} : zup (mp G mo τ kp ln hh) (mo + 6) (.inl (G.2.2.1 0, 80, .inl f)) = mp G mo (mu τ 5 f) kp ln hh := mp_ua (i := 5) (by omega)
theorem mp_a6 : mp G mo τ kp ln hh (mo + 7) = some (.inl (G.2.2.1 0, 320, .inl (τ 6))) := mp_at (k := 7) (by omega)
theorem mp_u6 {f : Nat → Int32} : zup (mp G mo τ kp ln hh) (mo + 7) (.inl (G.2.2.1 0, 320, .inl f)) = mp G mo (mu τ 6 f) kp ln hh := mp_ua (i := 6) (by omega)
theorem mp_a7 : mp G mo τ kp ln hh (mo + 8) = some (.inl (G.2.2.1 0, 3, .inl (τ 7))) := mp_at (k := 8) (by omega)
theorem mp_u7 {f : Nat → Int32} : zup (mp G mo τ kp ln hh) (mo + 8) (.inl (G.2.2.1 0, 3, .inl f)) = mp G mo (mu τ 7 f) kp ln hh := mp_ua (i := 7) (by omega)
end M8
/-- with the row s and the row found of their own -/
def mqt (s fo : Nat → Int32) (τ : Nat → Nat → Int32) : Nat → Nat → Int32 := fun i => if i = 0 then s else if i = 7 then fo else τ i
def mq (G : zG) (mo : Nat) (s fo : Nat → Int32) (τ : Nat → Nat → Int32) (kp ln : Int32) (hh : zH) : zH := mp G mo (mqt s fo τ) kp ln hh
theorem mqt_0 (s fo f : Nat → Int32) (τ : Nat → Nat → Int32) : mu (mqt s fo τ) 0 f = mqt f fo τ := by
  funext j
  unfold mu mqt
  by_cases h : j = 0 <;> simp [h]
theorem mqt_7 (s fo f : Nat → Int32) (τ : Nat → Nat → Int32) : mu (mqt s fo τ) 7 f = mqt s f τ := by
  funext j
  unfold mu mqt
  by_cases h : j = 7
  · subst h; simp
  · simp [h]
theorem mqt_i {s fo f : Nat → Int32} {τ : Nat → Nat → Int32} {i : Nat} (h0 : i ≠ 0) (h7 : i ≠ 7) : mu (mqt s fo τ) i f = mqt s fo (mu τ i f) := by
  funext j
  unfold mu mqt
  by_cases h : j = i
  · subst h; simp [h0, h7]
  · simp [h]
section MQ8
variable {G : zG} {mo : Nat} {s fo : Nat → Int32} {τ : Nat → Nat → Int32} {kp ln : Int32} {hh : zH}
theorem mq_o : mq G mo s fo τ kp ln hh mo = some (.inr (7, [.ref (mo + 1), .ref (mo + 2), .ref (mo + 3), .int kp, .ref (mo + 4), .ref (mo + 5), .ref (mo + 6), .int ln, .ref (mo + 7), .ref (mo + 8)])) := mp_o
theorem mq_uk {v : Int32} : zup (mq G mo s fo τ kp ln hh) mo (.inr (7, [.ref (mo + 1), .ref (mo + 2), .ref (mo + 3), .int v, .ref (mo + 4), .ref (mo + 5), .ref (mo + 6), .int ln, .ref (mo + 7), .ref (mo + 8)])) = mq G mo s fo τ v ln hh := mp_uk
theorem mq_ul {v : Int32} : zup (mq G mo s fo τ kp ln hh) mo (.inr (7, [.ref (mo + 1), .ref (mo + 2), .ref (mo + 3), .int kp, .ref (mo + 4), .ref (mo + 5), .ref (mo + 6), .int v, .ref (mo + 7), .ref (mo + 8)])) = mq G mo s fo τ kp v hh := mp_ul
theorem mq_out {a : Nat} (h : ¬ (mo ≤ a ∧ a < mo + 9)) : mq G mo s fo τ kp ln hh a = hh a := if_neg h
theorem mq_a0 : mq G mo s fo τ kp ln hh (mo + 1) = some (.inl (G.2.2.1 0, 453, .inl (s))) := mp_a0
theorem mq_u0 {f : Nat → Int32} : zup (mq G mo s fo τ kp ln hh) (mo + 1) (.inl (G.2.2.1 0, 453, .inl f)) = mq G mo f fo τ kp ln hh := by unfold mq; rw [mp_u0, mqt_0]
theorem mq_a1 : mq G mo s fo τ kp ln hh (mo + 2) = some (.inl (G.2.2.1 0, 453, .inl (τ 1))) := mp_a1
theorem mq_u1 {f : Nat → Int32} : zup (mq G mo s fo τ kp ln hh) (mo + 2) (.inl (G.2.2.1 0, 453, .inl f)) = mq G mo s fo (mu τ 1 f) kp ln hh := by unfold mq; rw [mp_u1, mqt_i (i := 1) (by decide) (by decide)]
theorem mq_a2 : mq G mo s fo τ kp ln hh (mo + 3) = some (.inl (G.2.2.1 0, 2718, .inl (τ 2))) := mp_a2
theorem mq_u2 {f : Nat → Int32} : zup (mq G mo s fo τ kp ln hh) (mo + 3) (.inl (G.2.2.1 0, 2718, .inl f)) = mq G mo s fo (mu τ 2 f) kp ln hh := by unfold mq; rw [mp_u2, mqt_i (i := 2) (by decide) (by decide)]
theorem mq_a3 : mq G mo s fo τ kp ln hh (mo + 4) = some (.inl (G.2.2.1 0, 906, .inl (τ 3))) := mp_a3
theorem mq_u3 {f : Nat → Int32} : zup (mq G mo s fo τ kp ln hh) (mo + 4) (.inl (G.2.2.1 0, 906, .inl f)) = mq G mo s fo (mu τ 3 f) kp ln hh := by unfold mq; rw [mp_u3, mqt_i (i := 3) (by decide) (by decide)]
theorem mq_a4 : mq G mo s fo τ kp ln hh (mo + 5) = some (.inl (G.2.2.1 2, 2, .inl (τ 4))) := mp_a4
theorem mq_u4 {f : Nat → Int32} : zup (mq G mo s fo τ kp ln hh) (mo + 5) (.inl (G.2.2.1 2, 2, .inl f)) = mq G mo s fo (mu τ 4 f) kp ln hh := by unfold mq; rw [mp_u4, mqt_i (i := 4) (by decide) (by decide)]
theorem mq_a5 : mq G mo s fo τ kp ln hh (mo + 6) = some (.inl (G.2.2.1 0, 80, .inl (τ 5))) := mp_a5
theorem mq_u5 {f : Nat → Int32} : zup (mq G mo s fo τ kp ln hh) (mo + 6) (.inl (G.2.2.1 0, 80, .inl f)) = mq G mo s fo (mu τ 5 f) kp ln hh := by unfold mq; rw [mp_u5, mqt_i (i := 5) (by decide) (by decide)]
theorem mq_a6 : mq G mo s fo τ kp ln hh (mo + 7) = some (.inl (G.2.2.1 0, 320, .inl (τ 6))) := mp_a6
theorem mq_u6 {f : Nat → Int32} : zup (mq G mo s fo τ kp ln hh) (mo + 7) (.inl (G.2.2.1 0, 320, .inl f)) = mq G mo s fo (mu τ 6 f) kp ln hh := by unfold mq; rw [mp_u6, mqt_i (i := 6) (by decide) (by decide)]
theorem mq_a7 : mq G mo s fo τ kp ln hh (mo + 8) = some (.inl (G.2.2.1 0, 3, .inl (fo))) := mp_a7
theorem mq_u7 {f : Nat → Int32} : zup (mq G mo s fo τ kp ln hh) (mo + 8) (.inl (G.2.2.1 0, 3, .inl f)) = mq G mo s f τ kp ln hh := by unfold mq; rw [mp_u7, mqt_7]
end MQ8
