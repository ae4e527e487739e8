abbrev ML_law : zM := (RL, cL_law, 7, some .boolean, false)
/-- the judgement of 04 with something more that is known of the start -/
def xS (E : State → Prop) (M : zM) (G : zG) (d mc ms k n : Nat) (hh : zH) (sz : Nat) (pc : Nat) (lv : List (Option Value)) (st : List Value) (Post : Option Value → zH → Nat → Nat → Nat → Prop) : Prop :=
  ∀ (p : Program) (l : Launch) (e : Env) (R : Room) (s : State) (m : MethodId) (args : Array Value) (below : List Frame) (meth : Method) (c : Code) (Q : State → Prop), zX p s m args meth c M G → E s → d ≤ R.frames → 31 * d ≤ R.locals → mc ≤ R.cells → ms ≤ R.slots →
    (∀ (r : Option Value) (hh' : zH) (sz' k' n' : Nat) (H' : Heap) (locs' : List Loc) (pc' : Nat) (ls' : Array Slot), Post r hh' sz' k' n' → zW G hh' sz' H' → va_S (zA G) s.heap H' locs' → zEnd M r pc' → W p l e R s m args below meth c H' locs' k' n' Q (F0 m pc' ls' r.toList)) →
    ∀ (H : Heap) (locs : List Loc) (ls : Array Slot), zW G hh sz H → va_S (zA G) s.heap H locs → zL ls M.2.2.1 lv → W p l e R s m args below meth c H locs k n Q (F0 m pc ls st)
/-- the script -/
def scE (G : zG) (b L : Nat) (xs : Nat → Int32) (s : State) : Prop := va_X b L xs s s.heap ∧ b < s.heap.size ∧ ¬ zA G b
section XR
variable {E : State → Prop} {M : zM} {G : zG} {d mc ms k n : Nat} {hh : zH} {sz : Nat} {pc : Nat} {lv : List (Option Value)} {st : List Value} {Post : Option Value → zH → Nat → Nat → Nat → Prop}
theorem x_iconst {i : Int} {v : Int32} (hd : decode M.2.1 pc = .ok (.iconst i, 1)) (hv : Int32.ofInt i = v) (kk : xS E M G d mc ms k n hh sz (pc + 1) lv (.int v :: st) Post) : xS E M G d mc ms k n hh sz pc lv (st) Post := by
  intro p l e R s m args below meth c Q hX hE0 hf hl hc hs hE H locs ls hW hS hL
  obtain ⟨hx, hb, hml, hown, hts, hr, hlk, hin, hK⟩ := id hX
  exact lv_iconst hx hb hd hv (kk p l e R s m args below meth c Q hX hE0 hf hl hc hs hE H locs ls hW hS hL)
theorem x_bipush {i : Int} {v : Int32} (hd : decode M.2.1 pc = .ok (.bipush i, 2)) (hv : (Int8.ofInt i).toInt32 = v) (kk : xS E M G d mc ms k n hh sz (pc + 2) lv (.int v :: st) Post) : xS E M G d mc ms k n hh sz pc lv (st) Post := by
  intro p l e R s m args below meth c Q hX hE0 hf hl hc hs hE H locs ls hW hS hL
  obtain ⟨hx, hb, hml, hown, hts, hr, hlk, hin, hK⟩ := id hX
  exact lv_bipush hx hb hd hv (kk p l e R s m args below meth c Q hX hE0 hf hl hc hs hE H locs ls hW hS hL)
theorem x_iadd {x y : Int32} (hd : decode M.2.1 pc = .ok (.iadd, 1))  (kk : xS E M G d mc ms k n hh sz (pc + 1) lv (.int (x + y) :: st) Post) : xS E M G d mc ms k n hh sz pc lv (.int y :: .int x :: st) Post := by
  intro p l e R s m args below meth c Q hX hE0 hf hl hc hs hE H locs ls hW hS hL
  obtain ⟨hx, hb, hml, hown, hts, hr, hlk, hin, hK⟩ := id hX
  exact lv_iadd hx hb hd  (kk p l e R s m args below meth c Q hX hE0 hf hl hc hs hE H locs ls hW hS hL)
theorem x_isub {x y : Int32} (hd : decode M.2.1 pc = .ok (.isub, 1))  (kk : xS E M G d mc ms k n hh sz (pc + 1) lv (.int (x - y) :: st) Post) : xS E M G d mc ms k n hh sz pc lv (.int y :: .int x :: st) Post := by
  intro p l e R s m args below meth c Q hX hE0 hf hl hc hs hE H locs ls hW hS hL
  obtain ⟨hx, hb, hml, hown, hts, hr, hlk, hin, hK⟩ := id hX
  exact lv_isub hx hb hd  (kk p l e R s m args below meth c Q hX hE0 hf hl hc hs hE H locs ls hW hS hL)
theorem x_imul {x y : Int32} (hd : decode M.2.1 pc = .ok (.imul, 1))  (kk : xS E M G d mc ms k n hh sz (pc + 1) lv (.int (x * y) :: st) Post) : xS E M G d mc ms k n hh sz pc lv (.int y :: .int x :: st) Post := by
  intro p l e R s m args below meth c Q hX hE0 hf hl hc hs hE H locs ls hW hS hL
  obtain ⟨hx, hb, hml, hown, hts, hr, hlk, hin, hK⟩ := id hX
  exact lv_imul hx hb hd  (kk p l e R s m args below meth c Q hX hE0 hf hl hc hs hE H locs ls hW hS hL)
theorem x_idiv {x y : Int32} (hd : decode M.2.1 pc = .ok (.idiv, 1)) (hne : ¬ y = 0) (kk : xS E M G d mc ms k n hh sz (pc + 1) lv (.int (x / y) :: st) Post) : xS E M G d mc ms k n hh sz pc lv (.int y :: .int x :: st) Post := by
  intro p l e R s m args below meth c Q hX hE0 hf hl hc hs hE H locs ls hW hS hL
  obtain ⟨hx, hb, hml, hown, hts, hr, hlk, hin, hK⟩ := id hX
  exact lv_idiv hx hb hd hne (kk p l e R s m args below meth c Q hX hE0 hf hl hc hs hE H locs ls hW hS hL)
theorem x_irem {x y : Int32} (hd : decode M.2.1 pc = .ok (.irem, 1)) (hne : ¬ y = 0) (kk : xS E M G d mc ms k n hh sz (pc + 1) lv (.int (x - x / y * y) :: st) Post) : xS E M G d mc ms k n hh sz pc lv (.int y :: .int x :: st) Post := by
  intro p l e R s m args below meth c Q hX hE0 hf hl hc hs hE H locs ls hW hS hL
  obtain ⟨hx, hb, hml, hown, hts, hr, hlk, hin, hK⟩ := id hX
  exact lv_irem hx hb hd hne (kk p l e R s m args below meth c Q hX hE0 hf hl hc hs hE H locs ls hW hS hL)
theorem x_dup {v : Value} (hd : decode M.2.1 pc = .ok (.dup, 1)) (hv : v.category = 1) (kk : xS E M G d mc ms k n hh sz (pc + 1) lv (v :: v :: st) Post) : xS E M G d mc ms k n hh sz pc lv (v :: st) Post := by
  intro p l e R s m args below meth c Q hX hE0 hf hl hc hs hE H locs ls hW hS hL
  obtain ⟨hx, hb, hml, hown, hts, hr, hlk, hin, hK⟩ := id hX
  exact lv_dup hx hb hd hv (kk p l e R s m args below meth c Q hX hE0 hf hl hc hs hE H locs ls hW hS hL)
theorem x_iload_n {i : Fin 4} {x : Int32} (hd : decode M.2.1 pc = .ok (.iload_n i, 1)) (hv : lv[(i : Nat)]? = some (some (.int x))) (kk : xS E M G d mc ms k n hh sz (pc + 1) lv (.int x :: st) Post) : xS E M G d mc ms k n hh sz pc lv st Post := by
  intro p l e R s m args below meth c Q hX hE0 hf hl hc hs hE H locs ls hW hS hL
  obtain ⟨hx, hb, hml, hown, hts, hr, hlk, hin, hK⟩ := id hX
  exact lv_iload_n hx hb hd rfl (hL.at hv) (kk p l e R s m args below meth c Q hX hE0 hf hl hc hs hE H locs ls hW hS hL)
theorem x_iload {i : Nat} {x : Int32} (hd : decode M.2.1 pc = .ok (.iload i, 2)) (hv : lv[i]? = some (some (.int x))) (kk : xS E M G d mc ms k n hh sz (pc + 2) lv (.int x :: st) Post) : xS E M G d mc ms k n hh sz pc lv st Post := by
  intro p l e R s m args below meth c Q hX hE0 hf hl hc hs hE H locs ls hW hS hL
  obtain ⟨hx, hb, hml, hown, hts, hr, hlk, hin, hK⟩ := id hX
  exact lv_iload hx hb hd (hL.at hv) (kk p l e R s m args below meth c Q hX hE0 hf hl hc hs hE H locs ls hW hS hL)
theorem x_aload_n {i : Fin 4} {x : Nat} (hd : decode M.2.1 pc = .ok (.aload_n i, 1)) (hv : lv[(i : Nat)]? = some (some (.ref x))) (kk : xS E M G d mc ms k n hh sz (pc + 1) lv (.ref x :: st) Post) : xS E M G d mc ms k n hh sz pc lv st Post := by
  intro p l e R s m args below meth c Q hX hE0 hf hl hc hs hE H locs ls hW hS hL
  obtain ⟨hx, hb, hml, hown, hts, hr, hlk, hin, hK⟩ := id hX
  exact lv_aload_n hx hb hd rfl (hL.at hv) (kk p l e R s m args below meth c Q hX hE0 hf hl hc hs hE H locs ls hW hS hL)
theorem x_istore_n {i : Fin 4} {x : Int32} {lv' : List (Option Value)} (hd : decode M.2.1 pc = .ok (.istore_n i, 1)) (hn : (i : Nat) < M.2.2.1) (hok : zok lv (i : Nat) = true) (hlv : lv.set (i : Nat) (some (.int x)) = lv') (kk : xS E M G d mc ms k n hh sz (pc + 1) lv' st Post) : xS E M G d mc ms k n hh sz pc lv (.int x :: st) Post := by
  intro p l e R s m args below meth c Q hX hE0 hf hl hc hs hE H locs ls hW hS hL
  obtain ⟨hx, hb, hml, hown, hts, hr, hlk, hin, hK⟩ := id hX
  subst hlv
  exact lv_istore_n hx hb hd rfl hL.has hn rfl (fun ls1 h1 => kk p l e R s m args below meth c Q hX hE0 hf hl hc hs hE H locs ls1 hW hS (zL.store hok h1))
theorem x_istore {i : Nat} {x : Int32} {lv' : List (Option Value)} (hd : decode M.2.1 pc = .ok (.istore i, 2)) (hn : i < M.2.2.1) (hok : zok lv i = true) (hlv : lv.set i (some (.int x)) = lv') (kk : xS E M G d mc ms k n hh sz (pc + 2) lv' st Post) : xS E M G d mc ms k n hh sz pc lv (.int x :: st) Post := by
  intro p l e R s m args below meth c Q hX hE0 hf hl hc hs hE H locs ls hW hS hL
  obtain ⟨hx, hb, hml, hown, hts, hr, hlk, hin, hK⟩ := id hX
  subst hlv
  exact lv_istore hx hb hd  hL.has hn rfl (fun ls1 h1 => kk p l e R s m args below meth c Q hX hE0 hf hl hc hs hE H locs ls1 hW hS (zL.store hok h1))
theorem x_astore_n {i : Fin 4} {x : Nat} {lv' : List (Option Value)} (hd : decode M.2.1 pc = .ok (.astore_n i, 1)) (hn : (i : Nat) < M.2.2.1) (hok : zok lv (i : Nat) = true) (hlv : lv.set (i : Nat) (some (.ref x)) = lv') (kk : xS E M G d mc ms k n hh sz (pc + 1) lv' st Post) : xS E M G d mc ms k n hh sz pc lv (.ref x :: st) Post := by
  intro p l e R s m args below meth c Q hX hE0 hf hl hc hs hE H locs ls hW hS hL
  obtain ⟨hx, hb, hml, hown, hts, hr, hlk, hin, hK⟩ := id hX
  subst hlv
  exact lv_astore_n hx hb hd rfl hL.has hn rfl (fun ls1 h1 => kk p l e R s m args below meth c Q hX hE0 hf hl hc hs hE H locs ls1 hW hS (zL.store hok h1))
theorem x_iinc {i : Nat} {j : Int} {x v : Int32} {lv' : List (Option Value)} (hd : decode M.2.1 pc = .ok (.iinc i j, 3)) (hv : lv[i]? = some (some (.int x))) (hj : x + Int32.ofInt j = v) (hn : i < M.2.2.1) (hok : zok lv i = true) (hlv : lv.set i (some (.int v)) = lv') (kk : xS E M G d mc ms k n hh sz (pc + 3) lv' st Post) : xS E M G d mc ms k n hh sz pc lv st Post := by
  intro p l e R s m args below meth c Q hX hE0 hf hl hc hs hE H locs ls hW hS hL
  obtain ⟨hx, hb, hml, hown, hts, hr, hlk, hin, hK⟩ := id hX
  subst hlv
  obtain ⟨kq, hkq⟩ := List.getElem?_of_mem (zLp_mem (q := (i, .int x)).mpr hv)
  exact lv_iinc hx hb hd hL.has hkq hj hn rfl (fun ls1 h1 => kk p l e R s m args below meth c Q hX hE0 hf hl hc hs hE H locs ls1 hW hS (zL.store hok h1))
theorem x_goto {off : Int} {tgt : Nat} (hd : decode M.2.1 pc = .ok (.goto off, 3)) (ht : (pc : Int) + off = (tgt : Int)) (kk : xS E M G d mc ms k n hh sz tgt lv st Post) : xS E M G d mc ms k n hh sz pc lv st Post := by
  intro p l e R s m args below meth c Q hX hE0 hf hl hc hs hE H locs ls hW hS hL
  obtain ⟨hx, hb, hml, hown, hts, hr, hlk, hin, hK⟩ := id hX
  exact lv_goto hx hb hd ht (kk p l e R s m args below meth c Q hX hE0 hf hl hc hs hE H locs ls hW hS hL)
theorem x_icmp_ge {x y : Int32} {off : Int} {tgt : Nat} (hd : decode M.2.1 pc = .ok (.if_icmp .ge off, 3)) (ht : (pc : Int) + off = (tgt : Int)) (kt : y ≤ x → xS E M G d mc ms k n hh sz tgt lv st Post) (kf : ¬ y ≤ x → xS E M G d mc ms k n hh sz (pc + 3) lv st Post) : xS E M G d mc ms k n hh sz pc lv (.int y :: .int x :: st) Post := by
  intro p l e R s m args below meth c Q hX hE0 hf hl hc hs hE H locs ls hW hS hL
  obtain ⟨hx, hb, hml, hown, hts, hr, hlk, hin, hK⟩ := id hX
  exact lv_icmp_ge hx hb hd ht (fun z => kt z p l e R s m args below meth c Q hX hE0 hf hl hc hs hE H locs ls hW hS hL) (fun z => kf z p l e R s m args below meth c Q hX hE0 hf hl hc hs hE H locs ls hW hS hL)
theorem x_icmp_ne {x y : Int32} {off : Int} {tgt : Nat} (hd : decode M.2.1 pc = .ok (.if_icmp .ne off, 3)) (ht : (pc : Int) + off = (tgt : Int)) (kt : ¬ x = y → xS E M G d mc ms k n hh sz tgt lv st Post) (kf : x = y → xS E M G d mc ms k n hh sz (pc + 3) lv st Post) : xS E M G d mc ms k n hh sz pc lv (.int y :: .int x :: st) Post := by
  intro p l e R s m args below meth c Q hX hE0 hf hl hc hs hE H locs ls hW hS hL
  obtain ⟨hx, hb, hml, hown, hts, hr, hlk, hin, hK⟩ := id hX
  exact lv_icmp_ne hx hb hd ht (fun z => kt z p l e R s m args below meth c Q hX hE0 hf hl hc hs hE H locs ls hW hS hL) (fun z => kf z p l e R s m args below meth c Q hX hE0 hf hl hc hs hE H locs ls hW hS hL)
theorem x_icmp_le {x y : Int32} {off : Int} {tgt : Nat} (hd : decode M.2.1 pc = .ok (.if_icmp .le off, 3)) (ht : (pc : Int) + off = (tgt : Int)) (kt : x ≤ y → xS E M G d mc ms k n hh sz tgt lv st Post) (kf : ¬ x ≤ y → xS E M G d mc ms k n hh sz (pc + 3) lv st Post) : xS E M G d mc ms k n hh sz pc lv (.int y :: .int x :: st) Post := by
  intro p l e R s m args below meth c Q hX hE0 hf hl hc hs hE H locs ls hW hS hL
  obtain ⟨hx, hb, hml, hown, hts, hr, hlk, hin, hK⟩ := id hX
  exact lv_icmp_le hx hb hd ht (fun z => kt z p l e R s m args below meth c Q hX hE0 hf hl hc hs hE H locs ls hW hS hL) (fun z => kf z p l e R s m args below meth c Q hX hE0 hf hl hc hs hE H locs ls hW hS hL)
theorem x_if_eq {x : Int32} {off : Int} {tgt : Nat} (hd : decode M.2.1 pc = .ok (.ifCond .eq off, 3)) (ht : (pc : Int) + off = (tgt : Int)) (kt : x = 0 → xS E M G d mc ms k n hh sz tgt lv st Post) (kf : ¬ x = 0 → xS E M G d mc ms k n hh sz (pc + 3) lv st Post) : xS E M G d mc ms k n hh sz pc lv (.int x :: st) Post := by
  intro p l e R s m args below meth c Q hX hE0 hf hl hc hs hE H locs ls hW hS hL
  obtain ⟨hx, hb, hml, hown, hts, hr, hlk, hin, hK⟩ := id hX
  exact lv_if_eq hx hb hd ht (fun z => kt z p l e R s m args below meth c Q hX hE0 hf hl hc hs hE H locs ls hW hS hL) (fun z => kf z p l e R s m args below meth c Q hX hE0 hf hl hc hs hE H locs ls hW hS hL)
theorem x_if_ge {x : Int32} {off : Int} {tgt : Nat} (hd : decode M.2.1 pc = .ok (.ifCond .ge off, 3)) (ht : (pc : Int) + off = (tgt : Int)) (kt : 0 ≤ x → xS E M G d mc ms k n hh sz tgt lv st Post) (kf : ¬ 0 ≤ x → xS E M G d mc ms k n hh sz (pc + 3) lv st Post) : xS E M G d mc ms k n hh sz pc lv (.int x :: st) Post := by
  intro p l e R s m args below meth c Q hX hE0 hf hl hc hs hE H locs ls hW hS hL
  obtain ⟨hx, hb, hml, hown, hts, hr, hlk, hin, hK⟩ := id hX
  exact lv_if_ge hx hb hd ht (fun z => kt z p l e R s m args below meth c Q hX hE0 hf hl hc hs hE H locs ls hW hS hL) (fun z => kf z p l e R s m args below meth c Q hX hE0 hf hl hc hs hE H locs ls hW hS hL)
theorem x_ireturn {x : Int32} (hd : decode M.2.1 pc = .ok (.ireturn, 1)) (hrt : ∃ ty, M.2.2.2.1 = some ty ∧ narrow ty (.int x) = .int x) (h : Post (some (.int x)) hh sz k n) : xS E M G d mc ms k n hh sz pc lv [.int x] Post := by
  intro p l e R s m args below meth c Q hX hE0 hf hl hc hs hE H locs ls hW hS hL
  obtain ⟨hx, hb, hml, hown, hts, hr, hlk, hin, hK⟩ := id hX
  obtain ⟨ty, e1, e2⟩ := hrt
  exact hE _ hh sz k n H locs pc ls h hW hS (Or.inr (Or.inl ⟨x, ty, rfl, e1, e2, hd⟩))
theorem x_new {idx ci : Nat} {fs : List Value} (hd : decode M.2.1 pc = .ok (.new idx, 3)) (hq : ci < 7 ∧ Cond.classLink M.1 idx (zc ci).1 ∈ zT ∧ Cond.instantiable (zc ci).1 (zc ci).2.2 ∈ zT ∧ Cond.initialized (zc ci).1 ∈ zT) (hfs : ∀ j, j < (zc ci).2.2 → defaultValue (zty ci j) = vp_V fs j) (hk : k + 1 ≤ mc) (hn : n + (zc ci).2.2 ≤ ms) (kk : xS E M G d mc ms (k + 1) (n + (zc ci).2.2) (zup hh sz (.inr (ci, fs))) (sz + 1) (pc + 3) lv (.ref sz :: st) Post) : xS E M G d mc ms k n hh sz pc lv st Post := by
  intro p l e R s m args below meth c Q hX hE0 hf hl hc hs hE H locs ls hW hS hL
  obtain ⟨hx, hb, hml, hown, hts, hr, hlk, hin, hK⟩ := id hX
  obtain ⟨q1, q2, q3, q4⟩ := hq
  have hb1 : G.1 ≤ sz := by rw [← hW.1]; exact Nat.le_trans hK.2.2.2.2.2.2 hS.1
  have hcells : k + 1 ≤ R.cells := Nat.le_trans hk hc
  have hKn := hK.1.1 ci _ (zc_at q1)
  refine W.newcK hx hb hown (hts _ q2) (hts _ q3) (hts _ q4) rfl hd hcells (Nat.le_trans hn hs) hKn.2.1 hW.1 fun H1 kC hkC e1 z1 o1 => ?_
  refine kk p l e R s m args below meth c Q hX hE0 hf hl hc hs hE H1 locs ls (hW.push hb1 ⟨_, zc_at q1, (u_born (zty ci) hts (zc_in q1) hKn hkC e1 (zty_ok q1)).to hfs⟩ z1 o1) ⟨Nat.le_trans hS.1 (by rw [z1, hW.1]; omega), fun q g1 g2 => (o1 q (by rw [← hW.1]; exact Nat.lt_of_lt_of_le g1 hS.1)).trans (hS.2.1 q g1 g2), hS.2.2⟩ hL
theorem x_heap {h2 : zH} (e : hh = h2) (kk : xS E M G d mc ms k n h2 sz pc lv st Post) : xS E M G d mc ms k n hh sz pc lv st Post := e ▸ kk
theorem x_stk {st2 : List Value} (e : st = st2) (kk : xS E M G d mc ms k n hh sz pc lv st2 Post) : xS E M G d mc ms k n hh sz pc lv st Post := e ▸ kk
theorem x_eq {a b : Int32} (e : a = b) (kk : xS E M G d mc ms k n hh sz pc lv (.int b :: st) Post) : xS E M G d mc ms k n hh sz pc lv (.int a :: st) Post := e ▸ kk
end XR
section XD
variable {E : State → Prop} {M : zM} {G : zG} {d mc ms k n : Nat} {hh : zH} {sz : Nat} {pc : Nat} {lv : List (Option Value)} {st : List Value} {Post : Option Value → zH → Nat → Nat → Nat → Prop} {a b : Nat}
theorem x_iaddN (hd : decode M.2.1 pc = .ok (.iadd, 1)) (kk : xS E M G d mc ms k n hh sz (pc + 1) lv (.int (nI (a + b)) :: st) Post) : xS E M G d mc ms k n hh sz pc lv (.int (nI b) :: .int (nI a) :: st) Post := x_iadd hd (by rw [nI_add]; exact kk)
theorem x_imulN (hd : decode M.2.1 pc = .ok (.imul, 1)) (kk : xS E M G d mc ms k n hh sz (pc + 1) lv (.int (nI (a * b)) :: st) Post) : xS E M G d mc ms k n hh sz pc lv (.int (nI b) :: .int (nI a) :: st) Post := x_imul hd (by rw [pk_mul]; exact kk)
theorem x_iremN (hd : decode M.2.1 pc = .ok (.irem, 1)) (ha : a < 2 ^ 31) (h0 : 0 < b) (hb : b < 2 ^ 31) (kk : xS E M G d mc ms k n hh sz (pc + 1) lv (.int (nI (a % b)) :: st) Post) : xS E M G d mc ms k n hh sz pc lv (.int (nI b) :: .int (nI a) :: st) Post := x_irem hd (nI_ne0 h0 hb) (by rw [pk_rem ha h0 hb]; exact kk)
theorem x_idivN {a b : Nat} (hd : decode M.2.1 pc = .ok (.idiv, 1)) (ha : a < 2 ^ 31) (h0 : 0 < b) (hb : b < 2 ^ 31) (kk : xS E M G d mc ms k n hh sz (pc + 1) lv (.int (nI (a / b)) :: st) Post) : xS E M G d mc ms k n hh sz pc lv (.int (nI b) :: .int (nI a) :: st) Post := x_idiv hd (nI_ne0 h0 hb) (by rw [pk_div ha h0 hb]; exact kk)
theorem x_iincU {i : Nat} {lv' : List (Option Value)} (hd : decode M.2.1 pc = .ok (.iinc i 1, 3)) (hv : lv[i]? = some (some (.int (nI a)))) (hn : i < M.2.2.1) (hok : zok lv i = true) (hlv : lv.set i (some (.int (nI (a + 1)))) = lv') (kk : xS E M G d mc ms k n hh sz (pc + 3) lv' st Post) : xS E M G d mc ms k n hh sz pc lv st Post := x_iinc (v := nI (a + 1)) hd hv (by rw [nI_succ]; rfl) hn hok hlv kk
end XD
section XS
variable {b L : Nat} {xs : Nat → Int32} {M : zM} {G : zG} {d mc ms k n : Nat} {hh : zH} {sz : Nat} {pc : Nat} {lv : List (Option Value)} {st : List Value} {Post : Option Value → zH → Nat → Nat → Nat → Prop}
theorem x_sld {x : Int32} {j : Nat} (hd : decode M.2.1 pc = .ok (.iaload, 1)) (hx0 : x = nI j) (hj : j < L) (hL : L ≤ 260) (kk : xS (scE G b L xs) M G d mc ms k n hh sz (pc + 1) lv (.int (xs j) :: st) Post) : xS (scE G b L xs) M G d mc ms k n hh sz pc lv (.int x :: .ref b :: st) Post := by
  subst hx0
  intro p l e R s m args below meth c Q hX hE0 hf hl hc hs hE H locs ls hW hS hL'
  obtain ⟨hx, hb, hml, hown, hts, hr, hlk, hin, hK⟩ := id hX
  refine va_sld hx hb hE0.1 hE0.2.1 hE0.2.2 hS (vp_in_nI hj (by omega)) hd ?_
  rw [nI_clamp (by omega)]
  exact kk p l e R s m args below meth c Q hX hE0 hf hl hc hs hE H locs ls hW hS hL'
theorem x_slen (hd : decode M.2.1 pc = .ok (.arraylength, 1)) (kk : xS (scE G b L xs) M G d mc ms k n hh sz (pc + 1) lv (.int (nI L) :: st) Post) : xS (scE G b L xs) M G d mc ms k n hh sz pc lv (.ref b :: st) Post := by
  intro p l e R s m args below meth c Q hX hE0 hf hl hc hs hE H locs ls hW hS hL'
  obtain ⟨hx, hb, hml, hown, hts, hr, hlk, hin, hK⟩ := id hX
  exact va_slen hx hb hE0.1 hE0.2.1 hE0.2.2 hS hd (kk p l e R s m args below meth c Q hX hE0 hf hl hc hs hE H locs ls hW hS hL')
end XS
section XCALL
variable {E : State → Prop} {M : zM} {G : zG} {d mc ms k n : Nat} {hh : zH} {sz : Nat} {pc : Nat} {lv : List (Option Value)} {rest st : List Value} {Post : Option Value → zH → Nat → Nat → Nat → Prop}
variable {y : MethodName} {My : zM} {idx d' mc' ms' : Nat} {as : List Value} {P' : Option Value → zH → Nat → Prop}
theorem x_callV {ci b : Nat} {fs : List Value} (hC : zC G d' My y (.ref b :: as) hh sz mc' ms' P') (hd : decode M.2.1 pc = .ok (.invokevirtual idx, 3)) (hq : Cond.methodLink M.1 idx y ∈ zT ∧ Cond.code y My.2.1 My.2.2.1 My.2.2.2.1 ∈ zT ∧ Cond.initialized y.cls ∈ zT ∧ Cond.instanceMethod y ∈ zT ∧ Cond.selects (zc ci).1 y y ∈ zT ∧ ci < 7) (he : hh b = some (.inr (ci, fs))) (hroom : d' + 1 ≤ d ∧ My.2.2.1 ≤ 12) (hpar : zpar y as.length) (hwt : (rest.map fun v => v.category).sum ≤ 8) (hk : k + mc' ≤ mc) (hn : n + ms' ≤ ms) (kk : ∀ (r : Option Value) (hh' : zH) (sz' : Nat), P' r hh' sz' → xS E M G d mc ms (k + mc') (n + ms') hh' sz' (pc + 3) lv (r.toList ++ rest) Post) (hst : st = as.reverse ++ .ref b :: rest) : xS E M G d mc ms k n hh sz pc lv st Post := by
  intro p l e R s m args below meth c Q hX hE0 hf hl hc hs hE H locs ls hW hS hL
  obtain ⟨hx, hb, hml, hown, hts, hr, hlk, hin, hK⟩ := id hX
  have hR : ({ frames := d', cells := mc', slots := ms', locals := 31 * d' } : Room).frames + 1 ≤ R.frames ∧ 8 + (My.2.2.1 + 11) + ({ frames := d', cells := mc', slots := ms', locals := 31 * d' } : Room).locals ≤ R.locals := ⟨by show d' + 1 ≤ _; omega, by show 8 + (My.2.2.1 + 11) + 31 * d' ≤ _; omega⟩
  subst hst
  obtain ⟨q1, q2, q3, q4, q5, q6⟩ := hq
  exact z_cont (va_runV (C := (zc ci).1) (As := as) (rest := rest) ⟨hx, hb, hml, hown, fun w hw => hts w hw⟩ (hC l) ⟨callB_of (ws' := zT) as.length hts (z_goodIn q2) rfl rfl rfl (hts _ q3) (hts _ q1) hpar hR, hts _ q4, hts _ q5⟩ ⟨z_blind, va_recv hK.1 (hW.one he) (ci := ci) (q0 := 0) (zc_at q6) rfl, fun U hU hw => ⟨rfl, z_start hK hW hS hU hw⟩⟩ rfl rfl hL.size rfl (lv_room hwt) hd ⟨Nat.le_trans hk hc, Nat.le_trans hn hs⟩) hS (fun r hh1 sz1 H1 locs1 hp hW1 hS1 => kk r hh1 sz1 hp p l e R s m args below meth c Q hX hE0 hf hl hc hs hE H1 locs1 ls hW1 hS1 hL)
theorem x_callS (hC : zC G d' My y as hh sz mc' ms' P') (hd : decode M.2.1 pc = .ok (.invokestatic idx, 3)) (hq : Cond.methodLink M.1 idx y ∈ zT ∧ Cond.code y My.2.1 My.2.2.1 My.2.2.2.1 ∈ zT ∧ Cond.initialized y.cls ∈ zT ∧ Cond.static y ∈ zT) (hroom : d' + 1 ≤ d ∧ My.2.2.1 ≤ 12) (hpar : zpar y as.length) (hwt : (rest.map fun v => v.category).sum ≤ 8) (hk : k + mc' ≤ mc) (hn : n + ms' ≤ ms) (kk : ∀ (r : Option Value) (hh' : zH) (sz' : Nat), P' r hh' sz' → xS E M G d mc ms (k + mc') (n + ms') hh' sz' (pc + 3) lv (r.toList ++ rest) Post) (hst : st = as.reverse ++ rest) : xS E M G d mc ms k n hh sz pc lv st Post := by
  intro p l e R s m args below meth c Q hX hE0 hf hl hc hs hE H locs ls hW hS hL
  obtain ⟨hx, hb, hml, hown, hts, hr, hlk, hin, hK⟩ := id hX
  have hR : ({ frames := d', cells := mc', slots := ms', locals := 31 * d' } : Room).frames + 1 ≤ R.frames ∧ 8 + (My.2.2.1 + 11) + ({ frames := d', cells := mc', slots := ms', locals := 31 * d' } : Room).locals ≤ R.locals := ⟨by show d' + 1 ≤ _; omega, by show 8 + (My.2.2.1 + 11) + 31 * d' ≤ _; omega⟩
  subst hst
  obtain ⟨q1, q2, q3, q4⟩ := hq
  exact z_cont (va_runS (As := as) (rest := rest) ⟨hx, hb, hml, hown, fun w hw => hts w hw⟩ (hC l) ⟨callB_of (ws' := zT) as.length hts (z_goodIn q2) rfl rfl rfl (hts _ q3) (hts _ q1) hpar hR, hts _ q4⟩ ⟨z_blind, fun U hU hw => ⟨rfl, z_start hK hW hS hU hw⟩⟩ rfl rfl hL.size rfl (lv_room hwt) hd ⟨Nat.le_trans hk hc, Nat.le_trans hn hs⟩) hS (fun r hh1 sz1 H1 locs1 hp hW1 hS1 => kk r hh1 sz1 hp p l e R s m args below meth c Q hX hE0 hf hl hc hs hE H1 locs1 ls hW1 hS1 hL)
theorem x_callI {b : Nat} (hC : zC G d' My y (.ref b :: as) hh sz mc' ms' P') (hd : decode M.2.1 pc = .ok (.invokespecial idx, 3)) (hq : Cond.methodLink M.1 idx y ∈ zT ∧ Cond.code y My.2.1 My.2.2.1 none ∈ zT ∧ Cond.initialized y.cls ∈ zT ∧ Cond.instanceMethod y ∈ zT ∧ y.name = "<init>") (hret : My.2.2.2.1 = none) (hroom : d' + 1 ≤ d ∧ My.2.2.1 ≤ 12) (hpar : zpar y as.length) (hwt : (rest.map fun v => v.category).sum ≤ 8) (hk : k + mc' ≤ mc) (hn : n + ms' ≤ ms) (kk : ∀ (r : Option Value) (hh' : zH) (sz' : Nat), P' r hh' sz' → xS E M G d mc ms (k + mc') (n + ms') hh' sz' (pc + 3) lv (r.toList ++ rest) Post) (hst : st = as.reverse ++ .ref b :: rest) : xS E M G d mc ms k n hh sz pc lv st Post := by
  intro p l e R s m args below meth c Q hX hE0 hf hl hc hs hE H locs ls hW hS hL
  obtain ⟨hx, hb, hml, hown, hts, hr, hlk, hin, hK⟩ := id hX
  have hR : ({ frames := d', cells := mc', slots := ms', locals := 31 * d' } : Room).frames + 1 ≤ R.frames ∧ 8 + (My.2.2.1 + 11) + ({ frames := d', cells := mc', slots := ms', locals := 31 * d' } : Room).locals ≤ R.locals := ⟨by show d' + 1 ≤ _; omega, by show 8 + (My.2.2.1 + 11) + 31 * d' ≤ _; omega⟩
  subst hst
  obtain ⟨q1, q2, q3, q4, q5⟩ := hq
  exact z_cont (va_runI (As := as) (rest := rest) ⟨hx, hb, hml, hown, fun w hw => hts w hw⟩ (show Met l y (.code y My.2.1 My.2.2.1 none :: zT) _ _ _ _ _ _ from by rw [← hret]; exact hC l) ⟨callB_of (ws' := zT) as.length hts (z_goodIn q2) rfl rfl rfl (hts _ q3) (hts _ q1) hpar hR, q5, hts _ q4⟩ ⟨z_blind, fun U hU hw => ⟨rfl, z_start hK hW hS hU hw⟩⟩ rfl rfl hL.size rfl (lv_room hwt) hd ⟨Nat.le_trans hk hc, Nat.le_trans hn hs⟩) hS (fun r hh1 sz1 H1 locs1 hp hW1 hS1 => kk r hh1 sz1 hp p l e R s m args below meth c Q hX hE0 hf hl hc hs hE H1 locs1 ls hW1 hS1 hL)
end XCALL
section XCALLR
variable {E : State → Prop} {M : zM} {G : zG} {d mc ms k n : Nat} {hh : zH} {sz : Nat} {pc : Nat} {lv : List (Option Value)} {rest st : List Value} {Post : Option Value → zH → Nat → Nat → Nat → Prop}
variable {y : MethodName} {My : zM} {idx d' mc' ms' : Nat} {as : List Value} {hh' : zH} {sz' : Nat} {x : Value}
theorem x_callSR (hC : zC G d' My y as hh sz mc' ms' (zR x hh' sz')) (hd : decode M.2.1 pc = .ok (.invokestatic idx, 3)) (hq : Cond.methodLink M.1 idx y ∈ zT ∧ Cond.code y My.2.1 My.2.2.1 My.2.2.2.1 ∈ zT ∧ Cond.initialized y.cls ∈ zT ∧ Cond.static y ∈ zT) (hroom : d' + 1 ≤ d ∧ My.2.2.1 ≤ 12) (hpar : zpar y as.length) (hst : st = as.reverse ++ rest) (hwt : (rest.map fun v => v.category).sum ≤ 8) (hk : k + mc' ≤ mc) (hn : n + ms' ≤ ms) (kk : xS E M G d mc ms (k + mc') (n + ms') hh' sz' (pc + 3) lv (x :: rest) Post) : xS E M G d mc ms k n hh sz pc lv st Post :=
  x_callS hC hd hq hroom hpar hwt hk hn (fun r h1 s1 hp => by obtain ⟨rfl, rfl, rfl⟩ := hp; exact kk) hst
theorem x_callVR {ci b : Nat} {fs : List Value} (hC : zC G d' My y (.ref b :: as) hh sz mc' ms' (zR x hh' sz')) (hd : decode M.2.1 pc = .ok (.invokevirtual idx, 3)) (hq : Cond.methodLink M.1 idx y ∈ zT ∧ Cond.code y My.2.1 My.2.2.1 My.2.2.2.1 ∈ zT ∧ Cond.initialized y.cls ∈ zT ∧ Cond.instanceMethod y ∈ zT ∧ Cond.selects (zc ci).1 y y ∈ zT ∧ ci < 7) (he : hh b = some (.inr (ci, fs))) (hroom : d' + 1 ≤ d ∧ My.2.2.1 ≤ 12) (hpar : zpar y as.length) (hst : st = as.reverse ++ .ref b :: rest) (hwt : (rest.map fun v => v.category).sum ≤ 8) (hk : k + mc' ≤ mc) (hn : n + ms' ≤ ms) (kk : xS E M G d mc ms (k + mc') (n + ms') hh' sz' (pc + 3) lv (x :: rest) Post) : xS E M G d mc ms k n hh sz pc lv st Post :=
  x_callV hC hd hq he hroom hpar hwt hk hn (fun r h1 s1 hp => by obtain ⟨rfl, rfl, rfl⟩ := hp; exact kk) hst
end XCALLR
/-- a contract with something more that is known of the start -/
def zCE (E : State → Prop) (G : zG) (d : Nat) (M : zM) (y : MethodName) (as : List Value) (hh : zH) (sz mc ms : Nat) (Post : Option Value → zH → Nat → Prop) : Prop :=
  ∀ l : Launch, Met l y (.code y M.2.1 M.2.2.1 M.2.2.2.1 :: zT) { frames := d, cells := mc, slots := ms, locals := 31 * d } (va_Pc as (fun U => (zW G hh sz U.heap ∧ zK G U) ∧ E U)) (fun _ st oc t => ∃ (r : Option Value) (hh' : zH) (sz' : Nat), oc = .returned r ∧ Post r hh' sz' ∧ zW G hh' sz' t.heap ∧ va_F (zA G) st t) mc ms (zA G)
theorem x_intro {E : State → Prop} {G : zG} {d : Nat} {M : zM} {y : MethodName} {as : List Value} {hh : zH} {sz mc ms : Nat} {Post : Option Value → zH → Nat → Prop} (lv : List (Option Value)) (hlv : zl0 as ++ List.replicate (M.2.2.1 - (zl0 as).length) none = lv) (hy : (plainName y.cls && (y.cls == M.1) && (!M.2.2.2.2 || y.name == "<init>")) = true) (hn : (lg_sl as).length ≤ M.2.2.1)
    (h : xS E M G d mc ms 0 0 hh sz 0 lv [] (fun r h' s' k' n' => Post r h' s' ∧ k' ≤ mc ∧ n' ≤ ms)) : zCE E G d M y as hh sz mc ms Post := by
  intro l
  simp only [Bool.and_eq_true, beq_iff_eq] at hy
  obtain ⟨⟨hy1, hy2⟩, hy3⟩ := hy
  refine Met.ofW (cc := M.2.1) (maxL := M.2.2.1) (ret := M.2.2.2.1) hy1 rfl ?_
  intro p e s m args below meth c s₁ B hml hv
  obtain ⟨rfl, ⟨hW, hK⟩, hE0⟩ := hv
  have hx := B.exec
  have hb := B.bytes
  have hr := B.returns
  have hts := atoms_spec B.pre
  have hown : s.vm.findClass y.cls = some m.cls := findClass_of_methodNamed B.named
  have hlocks := B.notSynchronized
  have hX : zX p s m as.toArray meth c M G := by
    refine ⟨hx, hb, hml, hy2 ▸ hown, fun w hw => hts w (List.mem_cons_of_mem _ hw), hr, hlocks, fun hi => ?_, hK⟩
    have e1 := (name_of_methodNamed B.named B.method).1
    rw [hi] at hy3
    simp at hy3
    rw [e1]; exact hy3
  have hS : va_S (zA G) s.heap s.heap [] := va_S.rf
  have hl := lv_entry as (n := M.2.2.1) hn
  rw [lg_entry_eq]
  generalize (lg_sl as ++ List.replicate (M.2.2.1 - (lg_sl as).length) Slot.unset).toArray = ls at hl ⊢
  have hL : zL ls M.2.2.1 lv := by
    intro l1 hl1
    refine ⟨hl.1, hl.2.1, fun q hq => hl.2.2 q ?_⟩
    have h1 := hl1 q hq
    rw [← hlv] at h1
    have h2 := zl0_mem as _ 0 q.1 q.2 h1
    rwa [Nat.zero_add] at h2
  refine h p l e _ s m as.toArray below meth c _ hX hE0 (Nat.le_refl _) (Nat.le_refl _) (Nat.le_refl _) (Nat.le_refl _) ?_ s.heap [] ls hW hS hL
  intro r hh' sz' k' n' H' locs' pc' ls' hp hW' hS' hE
  obtain ⟨hp, hk', hn'⟩ := hp
  refine W.widen (k := mc) (n := ms) hk' hn' ?_
  rcases hE with ⟨e1, e2, e3⟩ | ⟨v, ty, e1, e2, e3, e4⟩ | ⟨v, C, e1, e2, e3, e4⟩
  · subst e1
    exact W.vret hx hb (hr.trans e2) (fun t ht hWm => ⟨none, hh', sz', rfl, hp, by rw [ht]; exact hW', hS'.F ht⟩) hS'.2.2 e3
  · subst e1
    exact W.zret hx hb (hr.trans e2) e3 (fun t ht hWm => ⟨_, hh', sz', rfl, hp, by rw [ht]; exact hW', hS'.F ht⟩) hS'.2.2 e4
  · subst e1
    exact W.aret hx hb (hr.trans e2) (Or.inl ⟨C, rfl⟩) e3 (fun t ht hWm => ⟨_, hh', sz', rfl, hp, by rw [ht]; exact hW', hS'.F ht⟩) hS'.2.2 e4
theorem sc_blind {G : zG} {b L : Nat} {xs : Nat → Int32} {hh : zH} {sz : Nat} {as : List Value} : FrameBlind (va_Pc as (fun U => (zW G hh sz U.heap ∧ zK G U) ∧ scE G b L xs U)) := fun _ U g mk q => ⟨q.1, ⟨q.2.1.1, q.2.1.2.calling⟩, va_X.moved (Vm.Alike.refl U.vm) q.2.2.1, q.2.2.2⟩
theorem sc_start {G : zG} {b L : Nat} {xs : Nat → Int32} {s U : State} {H : Heap} {locs : List Loc} (h : scE G b L xs s) (hS : va_S (zA G) s.heap H locs) (e : U.heap = H) (hw : s.WarmedH U.vm) : scE G b L xs U :=
  ⟨(va_X.moved hw.alike h.1).kept (by rw [e]; exact hS.2.1 b h.2.1 h.2.2), by rw [e]; exact Nat.lt_of_lt_of_le h.2.1 hS.1, h.2.2⟩
section XCE
variable {M : zM} {G : zG} {d mc ms k n : Nat} {hh : zH} {sz : Nat} {pc : Nat} {lv : List (Option Value)} {rest st : List Value} {Post : Option Value → zH → Nat → Nat → Nat → Prop}
variable {y : MethodName} {My : zM} {idx d' mc' ms' : Nat} {as : List Value} {P' : Option Value → zH → Nat → Prop}
theorem x_callSE {b L : Nat} {xs : Nat → Int32} (hC : zCE (scE G b L xs) G d' My y as hh sz mc' ms' P') (hd : decode M.2.1 pc = .ok (.invokestatic idx, 3)) (hq : Cond.methodLink M.1 idx y ∈ zT ∧ Cond.code y My.2.1 My.2.2.1 My.2.2.2.1 ∈ zT ∧ Cond.initialized y.cls ∈ zT ∧ Cond.static y ∈ zT) (hroom : d' + 1 ≤ d ∧ My.2.2.1 ≤ 12) (hpar : zpar y as.length) (hwt : (rest.map fun v => v.category).sum ≤ 8) (hk : k + mc' ≤ mc) (hn : n + ms' ≤ ms) (kk : ∀ (r : Option Value) (hh' : zH) (sz' : Nat), P' r hh' sz' → xS (scE G b L xs) M G d mc ms (k + mc') (n + ms') hh' sz' (pc + 3) lv (r.toList ++ rest) Post) (hst : st = as.reverse ++ rest) : xS (scE G b L xs) M G d mc ms k n hh sz pc lv st Post := by
  intro p l e R s m args below meth c Q hX hE0 hf hl hc hs hE H locs ls hW hS hL
  obtain ⟨hx, hb, hml, hown, hts, hr, hlk, hin, hK⟩ := id hX
  have hR : ({ frames := d', cells := mc', slots := ms', locals := 31 * d' } : Room).frames + 1 ≤ R.frames ∧ 8 + (My.2.2.1 + 11) + ({ frames := d', cells := mc', slots := ms', locals := 31 * d' } : Room).locals ≤ R.locals := ⟨by show d' + 1 ≤ _; omega, by show 8 + (My.2.2.1 + 11) + 31 * d' ≤ _; omega⟩
  subst hst
  obtain ⟨q1, q2, q3, q4⟩ := hq
  exact z_cont (va_runS (As := as) (rest := rest) ⟨hx, hb, hml, hown, fun w hw => hts w hw⟩ (hC l) ⟨callB_of (ws' := zT) as.length hts (z_goodIn q2) rfl rfl rfl (hts _ q3) (hts _ q1) hpar hR, hts _ q4⟩ ⟨sc_blind, fun U hU hw => ⟨rfl, z_start hK hW hS hU hw, sc_start hE0 hS hU hw⟩⟩ rfl rfl hL.size rfl (lv_room hwt) hd ⟨Nat.le_trans hk hc, Nat.le_trans hn hs⟩) hS (fun r hh1 sz1 H1 locs1 hp hW1 hS1 => kk r hh1 sz1 hp p l e R s m args below meth c Q hX hE0 hf hl hc hs hE H1 locs1 ls hW1 hS1 hL)
end XCE
set_option maxHeartbeats 4000000 in
set_option maxRecDepth 100000 in
theorem k_L_cell {G : zG} {hh : zH} {sz b L j : Nat} {xs : Nat → Int32} (hL : L ≤ 260) (hj : j < L) : zCE (scE G b L xs) G 0 ML_cell yL_cell [.ref b, .int (nI j)] hh sz 0 0 (zR (.int (xs j)) hh sz) := by
  refine x_intro _ rfl zy_L_cell (Nat.le_of_ble_eq_true rfl) ?_
  refine x_iload_n dL_cell_0 rfl ?_
  refine x_aload_n dL_cell_1 rfl ?_
  refine x_slen dL_cell_2 ?_
  refine x_icmp_ge (tgt := 12) dL_cell_3 (by decide) (fun c_3 => absurd c_3 (nI_ge (by omega) (by omega))) (fun c_3 => ?_)
  refine x_aload_n dL_cell_6 rfl ?_
  refine x_iload_n dL_cell_7 rfl ?_
  refine x_sld dL_cell_8 rfl hj hL ?_
  refine x_goto (tgt := 20) dL_cell_9 (by decide) ?_
  exact x_ireturn dL_cell_20 ⟨.int, rfl, rfl⟩ ⟨⟨rfl, rfl, rfl⟩, Nat.le_refl _, Nat.le_refl _⟩
