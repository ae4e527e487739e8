abbrev ML_law : zM := (RL, cL_law, 4, some .boolean, false)
/-- the judgement of 04 with something more that is known of the start -/
def xS (E : State → Prop) (M : zM) (G : zG) (d mc ms k n : Nat) (hh : zH) (sz : Nat) (pc : Nat) (lv : List (Option Value)) (st : List Value) (Post : Option Value → zH → Nat → Nat → Nat → Prop) : Prop :=
  ∀ (p : Program) (l : Launch) (e : Env) (R : Room) (s : State) (m : MethodId) (args : Array Value) (below : List Frame) (meth : Method) (c : Code) (Q : State → Prop), zX p s m args meth c M G → E s → d ≤ R.frames → 31 * d ≤ R.locals → mc ≤ R.cells → ms ≤ R.slots →
    (∀ (r : Option Value) (hh' : zH) (sz' k' n' : Nat) (H' : Heap) (locs' : List Loc) (pc' : Nat) (ls' : Array Slot), Post r hh' sz' k' n' → zW G hh' sz' H' → va_S (zA G) s.heap H' locs' → zEnd M r pc' → W p l e R s m args below meth c H' locs' k' n' Q (F0 m pc' ls' r.toList)) →
    ∀ (H : Heap) (locs : List Loc) (ls : Array Slot), zW G hh sz H → va_S (zA G) s.heap H locs → zL ls M.2.2.1 lv → W p l e R s m args below meth c H locs k n Q (F0 m pc ls st)
/-- the script -/
def scE (G : zG) (b L : Nat) (xs : Nat → Int32) (s : State) : Prop := va_X b L xs s s.heap ∧ b < s.heap.size ∧ ¬ zA G b
section XR
variable {E : State → Prop} {M : zM} {G : zG} {d mc ms k n : Nat} {hh : zH} {sz : Nat} {pc : Nat} {lv : List (Option Value)} {st : List Value} {Post : Option Value → zH → Nat → Nat → Nat → Prop}
theorem x_iconst {i : Int} {v : Int32} (hd : decode M.2.1 pc = .ok (.iconst i, 1)) (hv : Int32.ofInt i = v) (kk : xS E M G d mc ms k n hh sz (pc + 1) lv (.int v :: st) Post) : xS E M G d mc ms k n hh sz pc lv (st) Post := by
  intro p l e R s m args below meth c Q hX hE0 hf hl hc hs hE H locs ls hW hS hL
  obtain ⟨hx, hb, hml, hown, hts, hr, hlk, hin, hK⟩ := id hX
  exact lv_iconst hx hb hd hv (kk p l e R s m args below meth c Q hX hE0 hf hl hc hs hE H locs ls hW hS hL)
theorem x_bipush {i : Int} {v : Int32} (hd : decode M.2.1 pc = .ok (.bipush i, 2)) (hv : (Int8.ofInt i).toInt32 = v) (kk : xS E M G d mc ms k n hh sz (pc + 2) lv (.int v :: st) Post) : xS E M G d mc ms k n hh sz pc lv (st) Post := by
  intro p l e R s m args below meth c Q hX hE0 hf hl hc hs hE H locs ls hW hS hL
  obtain ⟨hx, hb, hml, hown, hts, hr, hlk, hin, hK⟩ := id hX
  exact lv_bipush hx hb hd hv (kk p l e R s m args below meth c Q hX hE0 hf hl hc hs hE H locs ls hW hS hL)
theorem x_iadd {x y : Int32} (hd : decode M.2.1 pc = .ok (.iadd, 1))  (kk : xS E M G d mc ms k n hh sz (pc + 1) lv (.int (x + y) :: st) Post) : xS E M G d mc ms k n hh sz pc lv (.int y :: .int x :: st) Post := by
  intro p l e R s m args below meth c Q hX hE0 hf hl hc hs hE H locs ls hW hS hL
  obtain ⟨hx, hb, hml, hown, hts, hr, hlk, hin, hK⟩ := id hX
  exact lv_iadd hx hb hd  (kk p l e R s m args below meth c Q hX hE0 hf hl hc hs hE H locs ls hW hS hL)
theorem x_isub {x y : Int32} (hd : decode M.2.1 pc = .ok (.isub, 1))  (kk : xS E M G d mc ms k n hh sz (pc + 1) lv (.int (x - y) :: st) Post) : xS E M G d mc ms k n hh sz pc lv (.int y :: .int x :: st) Post := by
  intro p l e R s m args below meth c Q hX hE0 hf hl hc hs hE H locs ls hW hS hL
  obtain ⟨hx, hb, hml, hown, hts, hr, hlk, hin, hK⟩ := id hX
  exact lv_isub hx hb hd  (kk p l e R s m args below meth c Q hX hE0 hf hl hc hs hE H locs ls hW hS hL)
theorem x_iand {x y : Int32} (hd : decode M.2.1 pc = .ok (.iand, 1))  (kk : xS E M G d mc ms k n hh sz (pc + 1) lv (.int (x &&& y) :: st) Post) : xS E M G d mc ms k n hh sz pc lv (.int y :: .int x :: st) Post := by
  intro p l e R s m args below meth c Q hX hE0 hf hl hc hs hE H locs ls hW hS hL
  obtain ⟨hx, hb, hml, hown, hts, hr, hlk, hin, hK⟩ := id hX
  exact lv_iand hx hb hd  (kk p l e R s m args below meth c Q hX hE0 hf hl hc hs hE H locs ls hW hS hL)
theorem x_land {x y : Int64} (hd : decode M.2.1 pc = .ok (.land, 1))  (kk : xS E M G d mc ms k n hh sz (pc + 1) lv (.long (x &&& y) :: st) Post) : xS E M G d mc ms k n hh sz pc lv (.long y :: .long x :: st) Post := by
  intro p l e R s m args below meth c Q hX hE0 hf hl hc hs hE H locs ls hW hS hL
  obtain ⟨hx, hb, hml, hown, hts, hr, hlk, hin, hK⟩ := id hX
  exact lv_land hx hb hd  (kk p l e R s m args below meth c Q hX hE0 hf hl hc hs hE H locs ls hW hS hL)
theorem x_lor {x y : Int64} (hd : decode M.2.1 pc = .ok (.lor, 1))  (kk : xS E M G d mc ms k n hh sz (pc + 1) lv (.long (x ||| y) :: st) Post) : xS E M G d mc ms k n hh sz pc lv (.long y :: .long x :: st) Post := by
  intro p l e R s m args below meth c Q hX hE0 hf hl hc hs hE H locs ls hW hS hL
  obtain ⟨hx, hb, hml, hown, hts, hr, hlk, hin, hK⟩ := id hX
  exact lv_lor hx hb hd  (kk p l e R s m args below meth c Q hX hE0 hf hl hc hs hE H locs ls hW hS hL)
theorem x_lshl {x : Int64} {y : Int32} (hd : decode M.2.1 pc = .ok (.lshl, 1))  (kk : xS E M G d mc ms k n hh sz (pc + 1) lv (.long (x <<< (y.toInt64 &&& 63)) :: st) Post) : xS E M G d mc ms k n hh sz pc lv (.int y :: .long x :: st) Post := by
  intro p l e R s m args below meth c Q hX hE0 hf hl hc hs hE H locs ls hW hS hL
  obtain ⟨hx, hb, hml, hown, hts, hr, hlk, hin, hK⟩ := id hX
  exact lv_lshl hx hb hd rfl (kk p l e R s m args below meth c Q hX hE0 hf hl hc hs hE H locs ls hW hS hL)
theorem x_i2l {x : Int32} (hd : decode M.2.1 pc = .ok (.i2l, 1))  (kk : xS E M G d mc ms k n hh sz (pc + 1) lv (.long x.toInt64 :: st) Post) : xS E M G d mc ms k n hh sz pc lv (.int x :: st) Post := by
  intro p l e R s m args below meth c Q hX hE0 hf hl hc hs hE H locs ls hW hS hL
  obtain ⟨hx, hb, hml, hown, hts, hr, hlk, hin, hK⟩ := id hX
  exact lv_i2l hx hb hd rfl (kk p l e R s m args below meth c Q hX hE0 hf hl hc hs hE H locs ls hW hS hL)
theorem x_dup {v : Value} (hd : decode M.2.1 pc = .ok (.dup, 1)) (hv : v.category = 1) (kk : xS E M G d mc ms k n hh sz (pc + 1) lv (v :: v :: st) Post) : xS E M G d mc ms k n hh sz pc lv (v :: st) Post := by
  intro p l e R s m args below meth c Q hX hE0 hf hl hc hs hE H locs ls hW hS hL
  obtain ⟨hx, hb, hml, hown, hts, hr, hlk, hin, hK⟩ := id hX
  exact lv_dup hx hb hd hv (kk p l e R s m args below meth c Q hX hE0 hf hl hc hs hE H locs ls hW hS hL)
theorem x_iload_n {i : Fin 4} {x : Int32} (hd : decode M.2.1 pc = .ok (.iload_n i, 1)) (hv : lv[(i : Nat)]? = some (some (.int x))) (kk : xS E M G d mc ms k n hh sz (pc + 1) lv (.int x :: st) Post) : xS E M G d mc ms k n hh sz pc lv st Post := by
  intro p l e R s m args below meth c Q hX hE0 hf hl hc hs hE H locs ls hW hS hL
  obtain ⟨hx, hb, hml, hown, hts, hr, hlk, hin, hK⟩ := id hX
  exact lv_iload_n hx hb hd rfl (hL.at hv) (kk p l e R s m args below meth c Q hX hE0 hf hl hc hs hE H locs ls hW hS hL)
theorem x_aload_n {i : Fin 4} {x : Nat} (hd : decode M.2.1 pc = .ok (.aload_n i, 1)) (hv : lv[(i : Nat)]? = some (some (.ref x))) (kk : xS E M G d mc ms k n hh sz (pc + 1) lv (.ref x :: st) Post) : xS E M G d mc ms k n hh sz pc lv st Post := by
  intro p l e R s m args below meth c Q hX hE0 hf hl hc hs hE H locs ls hW hS hL
  obtain ⟨hx, hb, hml, hown, hts, hr, hlk, hin, hK⟩ := id hX
  exact lv_aload_n hx hb hd rfl (hL.at hv) (kk p l e R s m args below meth c Q hX hE0 hf hl hc hs hE H locs ls hW hS hL)
theorem x_istore_n {i : Fin 4} {x : Int32} {lv' : List (Option Value)} (hd : decode M.2.1 pc = .ok (.istore_n i, 1)) (hn : (i : Nat) < M.2.2.1) (hok : zok lv (i : Nat) = true) (hlv : lv.set (i : Nat) (some (.int x)) = lv') (kk : xS E M G d mc ms k n hh sz (pc + 1) lv' st Post) : xS E M G d mc ms k n hh sz pc lv (.int x :: st) Post := by
  intro p l e R s m args below meth c Q hX hE0 hf hl hc hs hE H locs ls hW hS hL
  obtain ⟨hx, hb, hml, hown, hts, hr, hlk, hin, hK⟩ := id hX
  subst hlv
  exact lv_istore_n hx hb hd rfl hL.has hn rfl (fun ls1 h1 => kk p l e R s m args below meth c Q hX hE0 hf hl hc hs hE H locs ls1 hW hS (zL.store hok h1))
theorem x_astore_n {i : Fin 4} {x : Nat} {lv' : List (Option Value)} (hd : decode M.2.1 pc = .ok (.astore_n i, 1)) (hn : (i : Nat) < M.2.2.1) (hok : zok lv (i : Nat) = true) (hlv : lv.set (i : Nat) (some (.ref x)) = lv') (kk : xS E M G d mc ms k n hh sz (pc + 1) lv' st Post) : xS E M G d mc ms k n hh sz pc lv (.ref x :: st) Post := by
  intro p l e R s m args below meth c Q hX hE0 hf hl hc hs hE H locs ls hW hS hL
  obtain ⟨hx, hb, hml, hown, hts, hr, hlk, hin, hK⟩ := id hX
  subst hlv
  exact lv_astore_n hx hb hd rfl hL.has hn rfl (fun ls1 h1 => kk p l e R s m args below meth c Q hX hE0 hf hl hc hs hE H locs ls1 hW hS (zL.store hok h1))
theorem x_iinc {i : Nat} {j : Int} {x v : Int32} {lv' : List (Option Value)} (hd : decode M.2.1 pc = .ok (.iinc i j, 3)) (hv : lv[i]? = some (some (.int x))) (hj : x + Int32.ofInt j = v) (hn : i < M.2.2.1) (hok : zok lv i = true) (hlv : lv.set i (some (.int v)) = lv') (kk : xS E M G d mc ms k n hh sz (pc + 3) lv' st Post) : xS E M G d mc ms k n hh sz pc lv st Post := by
  intro p l e R s m args below meth c Q hX hE0 hf hl hc hs hE H locs ls hW hS hL
  obtain ⟨hx, hb, hml, hown, hts, hr, hlk, hin, hK⟩ := id hX
  subst hlv
  obtain ⟨kq, hkq⟩ := List.getElem?_of_mem (zLp_mem (q := (i, .int x)).mpr hv)
  exact lv_iinc hx hb hd hL.has hkq hj hn rfl (fun ls1 h1 => kk p l e R s m args below meth c Q hX hE0 hf hl hc hs hE H locs ls1 hW hS (zL.store hok h1))
theorem x_goto {off : Int} {tgt : Nat} (hd : decode M.2.1 pc = .ok (.goto off, 3)) (ht : (pc : Int) + off = (tgt : Int)) (kk : xS E M G d mc ms k n hh sz tgt lv st Post) : xS E M G d mc ms k n hh sz pc lv st Post := by
  intro p l e R s m args below meth c Q hX hE0 hf hl hc hs hE H locs ls hW hS hL
  obtain ⟨hx, hb, hml, hown, hts, hr, hlk, hin, hK⟩ := id hX
  exact lv_goto hx hb hd ht (kk p l e R s m args below meth c Q hX hE0 hf hl hc hs hE H locs ls hW hS hL)
theorem x_icmp_eq {x y : Int32} {off : Int} {tgt : Nat} (hd : decode M.2.1 pc = .ok (.if_icmp .eq off, 3)) (ht : (pc : Int) + off = (tgt : Int)) (kt : x = y → xS E M G d mc ms k n hh sz tgt lv st Post) (kf : ¬ x = y → xS E M G d mc ms k n hh sz (pc + 3) lv st Post) : xS E M G d mc ms k n hh sz pc lv (.int y :: .int x :: st) Post := by
  intro p l e R s m args below meth c Q hX hE0 hf hl hc hs hE H locs ls hW hS hL
  obtain ⟨hx, hb, hml, hown, hts, hr, hlk, hin, hK⟩ := id hX
  exact lv_icmp_eq hx hb hd ht (fun z => kt z p l e R s m args below meth c Q hX hE0 hf hl hc hs hE H locs ls hW hS hL) (fun z => kf z p l e R s m args below meth c Q hX hE0 hf hl hc hs hE H locs ls hW hS hL)
theorem x_icmp_gt {x y : Int32} {off : Int} {tgt : Nat} (hd : decode M.2.1 pc = .ok (.if_icmp .gt off, 3)) (ht : (pc : Int) + off = (tgt : Int)) (kt : y < x → xS E M G d mc ms k n hh sz tgt lv st Post) (kf : ¬ y < x → xS E M G d mc ms k n hh sz (pc + 3) lv st Post) : xS E M G d mc ms k n hh sz pc lv (.int y :: .int x :: st) Post := by
  intro p l e R s m args below meth c Q hX hE0 hf hl hc hs hE H locs ls hW hS hL
  obtain ⟨hx, hb, hml, hown, hts, hr, hlk, hin, hK⟩ := id hX
  exact lv_icmp_gt hx hb hd ht (fun z => kt z p l e R s m args below meth c Q hX hE0 hf hl hc hs hE H locs ls hW hS hL) (fun z => kf z p l e R s m args below meth c Q hX hE0 hf hl hc hs hE H locs ls hW hS hL)
theorem x_tableIn {dflt lo hi : Int} {offs : Array Int} {len : Nat} {x : Int32} {off : Int} {tgt : Nat} (hd : decode M.2.1 pc = .ok (.tableswitch dflt lo hi offs, len)) (h1 : ¬ x.toInt < lo) (h2 : ¬ hi < x.toInt) (ho : offs[(x.toInt - lo).toNat]? = some off) (ht : (pc : Int) + off = (tgt : Int)) (kk : xS E M G d mc ms k n hh sz tgt lv st Post) : xS E M G d mc ms k n hh sz pc lv (.int x :: st) Post := by
  intro p l e R s m args below meth c Q hX hE0 hf hl hc hs hE H locs ls hW hS hL
  obtain ⟨hx, hb, hml, hown, hts, hr, hlk, hin, hK⟩ := id hX
  exact lv_tableIn hx hb hd h1 h2 ho ht (kk p l e R s m args below meth c Q hX hE0 hf hl hc hs hE H locs ls hW hS hL)
theorem x_tableOut {dflt lo hi : Int} {offs : Array Int} {len : Nat} {x : Int32} {tgt : Nat} (hd : decode M.2.1 pc = .ok (.tableswitch dflt lo hi offs, len)) (h : x.toInt < lo ∨ hi < x.toInt) (ht : (pc : Int) + dflt = (tgt : Int)) (kk : xS E M G d mc ms k n hh sz tgt lv st Post) : xS E M G d mc ms k n hh sz pc lv (.int x :: st) Post := by
  intro p l e R s m args below meth c Q hX hE0 hf hl hc hs hE H locs ls hW hS hL
  obtain ⟨hx, hb, hml, hown, hts, hr, hlk, hin, hK⟩ := id hX
  exact lv_tableOut hx hb hd h ht (kk p l e R s m args below meth c Q hX hE0 hf hl hc hs hE H locs ls hW hS hL)
theorem x_ldc2 {i : Nat} {v : Int64} (hd : decode M.2.1 pc = .ok (.ldc2_w i, 3)) (hw : Jvm.Cond.constantLong M.1 i v ∈ zT) (kk : xS E M G d mc ms k n hh sz (pc + 3) lv (.long v :: st) Post) : xS E M G d mc ms k n hh sz pc lv st Post := by
  intro p l e R s m args below meth c Q hX hE0 hf hl hc hs hE H locs ls hW hS hL
  obtain ⟨hx, hb, hml, hown, hts, hr, hlk, hin, hK⟩ := id hX
  exact lv_ldc2 hx hb hown (hts _ hw) hd (kk p l e R s m args below meth c Q hX hE0 hf hl hc hs hE H locs ls hW hS hL)
theorem x_ireturn {x : Int32} (hd : decode M.2.1 pc = .ok (.ireturn, 1)) (hrt : ∃ ty, M.2.2.2.1 = some ty ∧ narrow ty (.int x) = .int x) (h : Post (some (.int x)) hh sz k n) : xS E M G d mc ms k n hh sz pc lv [.int x] Post := by
  intro p l e R s m args below meth c Q hX hE0 hf hl hc hs hE H locs ls hW hS hL
  obtain ⟨hx, hb, hml, hown, hts, hr, hlk, hin, hK⟩ := id hX
  obtain ⟨ty, e1, e2⟩ := hrt
  exact hE _ hh sz k n H locs pc ls h hW hS (Or.inr (Or.inl ⟨x, ty, rfl, e1, e2, hd⟩))
theorem x_new {idx ci : Nat} {fs : List Value} (hd : decode M.2.1 pc = .ok (.new idx, 3)) (hq : ci < 8 ∧ Cond.classLink M.1 idx (zc ci).1 ∈ zT ∧ Cond.instantiable (zc ci).1 (zc ci).2.2 ∈ zT ∧ Cond.initialized (zc ci).1 ∈ zT) (hfs : ∀ j, j < (zc ci).2.2 → defaultValue (zty ci j) = vp_V fs j) (hk : k + 1 ≤ mc) (hn : n + (zc ci).2.2 ≤ ms) (kk : xS E M G d mc ms (k + 1) (n + (zc ci).2.2) (zup hh sz (.inr (ci, fs))) (sz + 1) (pc + 3) lv (.ref sz :: st) Post) : xS E M G d mc ms k n hh sz pc lv st Post := by
  intro p l e R s m args below meth c Q hX hE0 hf hl hc hs hE H locs ls hW hS hL
  obtain ⟨hx, hb, hml, hown, hts, hr, hlk, hin, hK⟩ := id hX
  obtain ⟨q1, q2, q3, q4⟩ := hq
  have hb1 : G.1 ≤ sz := by rw [← hW.1]; exact Nat.le_trans hK.2.2.2.2.2.2 hS.1
  have hcells : k + 1 ≤ R.cells := Nat.le_trans hk hc
  have hKn := hK.1.1 ci _ (zc_at q1)
  refine W.newcK hx hb hown (hts _ q2) (hts _ q3) (hts _ q4) rfl hd hcells (Nat.le_trans hn hs) hKn.2.1 hW.1 fun H1 kC hkC e1 z1 o1 => ?_
  refine kk p l e R s m args below meth c Q hX hE0 hf hl hc hs hE H1 locs ls (hW.push hb1 ⟨_, zc_at q1, (u_born (zty ci) hts (zc_in q1) hKn hkC e1 (zty_ok q1)).to hfs⟩ z1 o1) ⟨Nat.le_trans hS.1 (by rw [z1, hW.1]; omega), fun q g1 g2 => (o1 q (by rw [← hW.1]; exact Nat.lt_of_lt_of_le g1 hS.1)).trans (hS.2.1 q g1 g2), hS.2.2⟩ hL
theorem x_heap {h2 : zH} (e : hh = h2) (kk : xS E M G d mc ms k n h2 sz pc lv st Post) : xS E M G d mc ms k n hh sz pc lv st Post := e ▸ kk
theorem x_stk {st2 : List Value} (e : st = st2) (kk : xS E M G d mc ms k n hh sz pc lv st2 Post) : xS E M G d mc ms k n hh sz pc lv st Post := e ▸ kk
end XR
section XS
variable {b L : Nat} {xs : Nat → Int32} {M : zM} {G : zG} {d mc ms k n : Nat} {hh : zH} {sz : Nat} {pc : Nat} {lv : List (Option Value)} {st : List Value} {Post : Option Value → zH → Nat → Nat → Nat → Prop}
theorem x_sld {x : Int32} {j : Nat} (hd : decode M.2.1 pc = .ok (.iaload, 1)) (hx0 : x = nI j) (hj : j < L) (hL : L ≤ 3072) (kk : xS (scE G b L xs) M G d mc ms k n hh sz (pc + 1) lv (.int (xs j) :: st) Post) : xS (scE G b L xs) M G d mc ms k n hh sz pc lv (.int x :: .ref b :: st) Post := by
  subst hx0
  intro p l e R s m args below meth c Q hX hE0 hf hl hc hs hE H locs ls hW hS hL'
  obtain ⟨hx, hb, hml, hown, hts, hr, hlk, hin, hK⟩ := id hX
  refine va_sld hx hb hE0.1 hE0.2.1 hE0.2.2 hS (vp_in_nI hj (by omega)) hd ?_
  rw [nI_clamp (by omega)]
  exact kk p l e R s m args below meth c Q hX hE0 hf hl hc hs hE H locs ls hW hS hL'
theorem x_slen (hd : decode M.2.1 pc = .ok (.arraylength, 1)) (kk : xS (scE G b L xs) M G d mc ms k n hh sz (pc + 1) lv (.int (nI L) :: st) Post) : xS (scE G b L xs) M G d mc ms k n hh sz pc lv (.ref b :: st) Post := by
  intro p l e R s m args below meth c Q hX hE0 hf hl hc hs hE H locs ls hW hS hL'
  obtain ⟨hx, hb, hml, hown, hts, hr, hlk, hin, hK⟩ := id hX
  exact va_slen hx hb hE0.1 hE0.2.1 hE0.2.2 hS hd (kk p l e R s m args below meth c Q hX hE0 hf hl hc hs hE H locs ls hW hS hL')
/-- an int of the script, i + q -/
theorem x_arg {i q : Nat} {z : Int} (h0 : decode M.2.1 pc = .ok (.aload_n 0, 1)) (h1 : decode M.2.1 (pc + 1) = .ok (.iload_n 3, 1)) (h2 : decode M.2.1 (pc + 1 + 1) = .ok (.iconst z, 1)) (h3 : decode M.2.1 (pc + 1 + 1 + 1) = .ok (.iadd, 1)) (h4 : decode M.2.1 (pc + 1 + 1 + 1 + 1) = .ok (.iaload, 1))
    (hz : Int32.ofInt z = nI q) (l0 : lv[0]? = some (some (.ref b))) (l3 : lv[3]? = some (some (.int (nI i)))) (hi : i + q < L) (hL : L ≤ 3072) (kk : xS (scE G b L xs) M G d mc ms k n hh sz (pc + 1 + 1 + 1 + 1 + 1) lv (.int (xs (i + q)) :: st) Post) : xS (scE G b L xs) M G d mc ms k n hh sz pc lv st Post := by
  refine x_aload_n h0 l0 ?_
  refine x_iload_n h1 l3 ?_
  refine x_iconst h2 hz ?_
  refine x_iadd h3 ?_
  exact x_sld h4 (nI_add i q) hi hL kk
end XS
section XCALL
variable {E : State → Prop} {M : zM} {G : zG} {d mc ms k n : Nat} {hh : zH} {sz : Nat} {pc : Nat} {lv : List (Option Value)} {rest : List Value} {Post : Option Value → zH → Nat → Nat → Nat → Prop}
variable {y : MethodName} {My : zM} {idx d' mc' ms' : Nat} {as : List Value} {P' : Option Value → zH → Nat → Prop}
theorem x_callV {ci b : Nat} {fs : List Value} (hC : zC G d' My y (.ref b :: as) hh sz mc' ms' P') (hd : decode M.2.1 pc = .ok (.invokevirtual idx, 3)) (hq : Cond.methodLink M.1 idx y ∈ zT ∧ Cond.code y My.2.1 My.2.2.1 My.2.2.2.1 ∈ zT ∧ Cond.initialized y.cls ∈ zT ∧ Cond.instanceMethod y ∈ zT ∧ Cond.selects (zc ci).1 y y ∈ zT ∧ ci < 8) (he : hh b = some (.inr (ci, fs))) (hroom : d' + 1 ≤ d ∧ My.2.2.1 ≤ 12) (hpar : zpar y as.length) (hwt : (rest.map fun v => v.category).sum ≤ 8) (hk : k + mc' ≤ mc) (hn : n + ms' ≤ ms) (kk : ∀ (r : Option Value) (hh' : zH) (sz' : Nat), P' r hh' sz' → xS E M G d mc ms (k + mc') (n + ms') hh' sz' (pc + 3) lv (r.toList ++ rest) Post) {st : List Value} (hst : st = as.reverse ++ .ref b :: rest) : xS E M G d mc ms k n hh sz pc lv st Post := by
  intro p l e R s m args below meth c Q hX hE0 hf hl hc hs hE H locs ls hW hS hL
  obtain ⟨hx, hb, hml, hown, hts, hr, hlk, hin, hK⟩ := id hX
  have hR : ({ frames := d', cells := mc', slots := ms', locals := 31 * d' } : Room).frames + 1 ≤ R.frames ∧ 8 + (My.2.2.1 + 11) + ({ frames := d', cells := mc', slots := ms', locals := 31 * d' } : Room).locals ≤ R.locals := ⟨by show d' + 1 ≤ _; omega, by show 8 + (My.2.2.1 + 11) + 31 * d' ≤ _; omega⟩
  subst hst
  obtain ⟨q1, q2, q3, q4, q5, q6⟩ := hq
  exact z_cont (va_runV (C := (zc ci).1) (As := as) (rest := rest) ⟨hx, hb, hml, hown, fun w hw => hts w hw⟩ (hC l) ⟨callB_of (ws' := zT) as.length hts (z_goodIn q2) rfl rfl rfl (hts _ q3) (hts _ q1) hpar hR, hts _ q4, hts _ q5⟩ ⟨z_blind, va_recv hK.1 (hW.one he) (ci := ci) (q0 := 0) (zc_at q6) rfl, fun U hU hw => ⟨rfl, z_start hK hW hS hU hw⟩⟩ rfl rfl hL.size rfl (lv_room hwt) hd ⟨Nat.le_trans hk hc, Nat.le_trans hn hs⟩) hS (fun r hh1 sz1 H1 locs1 hp hW1 hS1 => kk r hh1 sz1 hp p l e R s m args below meth c Q hX hE0 hf hl hc hs hE H1 locs1 ls hW1 hS1 hL)
theorem x_callI {b : Nat} (hC : zC G d' My y (.ref b :: as) hh sz mc' ms' P') (hd : decode M.2.1 pc = .ok (.invokespecial idx, 3)) (hq : Cond.methodLink M.1 idx y ∈ zT ∧ Cond.code y My.2.1 My.2.2.1 none ∈ zT ∧ Cond.initialized y.cls ∈ zT ∧ Cond.instanceMethod y ∈ zT ∧ y.name = "<init>") (hret : My.2.2.2.1 = none) (hroom : d' + 1 ≤ d ∧ My.2.2.1 ≤ 12) (hpar : zpar y as.length) (hwt : (rest.map fun v => v.category).sum ≤ 8) (hk : k + mc' ≤ mc) (hn : n + ms' ≤ ms) (kk : ∀ (r : Option Value) (hh' : zH) (sz' : Nat), P' r hh' sz' → xS E M G d mc ms (k + mc') (n + ms') hh' sz' (pc + 3) lv (r.toList ++ rest) Post) {st : List Value} (hst : st = as.reverse ++ .ref b :: rest) : xS E M G d mc ms k n hh sz pc lv st Post := by
  intro p l e R s m args below meth c Q hX hE0 hf hl hc hs hE H locs ls hW hS hL
  obtain ⟨hx, hb, hml, hown, hts, hr, hlk, hin, hK⟩ := id hX
  have hR : ({ frames := d', cells := mc', slots := ms', locals := 31 * d' } : Room).frames + 1 ≤ R.frames ∧ 8 + (My.2.2.1 + 11) + ({ frames := d', cells := mc', slots := ms', locals := 31 * d' } : Room).locals ≤ R.locals := ⟨by show d' + 1 ≤ _; omega, by show 8 + (My.2.2.1 + 11) + 31 * d' ≤ _; omega⟩
  subst hst
  obtain ⟨q1, q2, q3, q4, q5⟩ := hq
  exact z_cont (va_runI (As := as) (rest := rest) ⟨hx, hb, hml, hown, fun w hw => hts w hw⟩ (show Met l y (.code y My.2.1 My.2.2.1 none :: zT) _ _ _ _ _ _ from by rw [← hret]; exact hC l) ⟨callB_of (ws' := zT) as.length hts (z_goodIn q2) rfl rfl rfl (hts _ q3) (hts _ q1) hpar hR, q5, hts _ q4⟩ ⟨z_blind, fun U hU hw => ⟨rfl, z_start hK hW hS hU hw⟩⟩ rfl rfl hL.size rfl (lv_room hwt) hd ⟨Nat.le_trans hk hc, Nat.le_trans hn hs⟩) hS (fun r hh1 sz1 H1 locs1 hp hW1 hS1 => kk r hh1 sz1 hp p l e R s m args below meth c Q hX hE0 hf hl hc hs hE H1 locs1 ls hW1 hS1 hL)
end XCALL
