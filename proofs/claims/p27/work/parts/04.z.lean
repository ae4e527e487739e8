/-! a world: a function from addresses to cells; the whole world of a run, and the run of one method in it -/
abbrev zH : Type := Nat → Option va_E
/-- base, the class tables, the array classes, the cells of LETTER_ROWS, of the text of the signs, of its bytes -/
abbrev zG : Type := Nat × va_G × (Nat → ClassId) × (Nat × Nat × Nat)
/-- a method: its class, its bytes, its locals, its answer's type, whether it is a constructor -/
abbrev zM : Type := String × ByteArray × Nat × Option FieldType × Bool
def zTys (G : zG) : List (ClassId × FieldType) := [(G.2.2.1 0, .int), (G.2.2.1 1, .char), (G.2.2.1 2, .int), (G.2.2.1 3, .object RX5), (G.2.2.1 4, .object RX4), (G.2.2.1 5, .object RX2)]
def zRows : Nat → Int32 := fun j => ([2, 2, 2, 2, 2, 4, 4, 4, 4, 7, 7, 5, 5, 5, 7, 7, 2, 2, 2, 2, 5, 5, 5, 5, 7, 7, 4, 7, 4, 7, 5, 5, 7, 5, 5, 7, 4, 7, 1, 7] : List Int32).getD j 0
abbrev zA (G : zG) : Nat → Prop := fun q => G.1 ≤ q
theorem zNw_warm {w : Cond} {s U : State} (hW : s.WarmedH U.vm) (h : va_Nw w s) (hn : zisNest w = true) : va_Nw w U := by
  cases w <;> first | exact va_Nw.warmF hW h | exact va_Nw.warmM hW h | (exfalso; simp [zisNest] at hn; done)
theorem zNw_same {w : Cond} {u U : State} (hv : u.vm = U.vm) (h : va_Nw w u) (hn : zisNest w = true) : va_Nw w U := by
  refine va_Nw.same ?_ hv h
  cases w <;> first | rfl | (exfalso; simp [zisNest] at hn; done)
def zK (G : zG) (U : State) : Prop := va_K G.2.1 vwCl (zTys G) U ∧ va_Z RX6 "LETTER_ROWS" "[I" (.ref G.2.2.2.1) (zA G) U U.heap ∧ va_T .int G.2.2.2.1 40 (fun j => .int (zRows j)) (zA G) U U.heap ∧ (va_AO RX5 U ∧ va_AO RX4 U ∧ va_AO RX2 U) ∧ (vk_R RX1 29 "ilotuehs" G.2.2.2.2.1 U ∧ vk_S 1 [8] [[105, 108, 111, 116, 117, 101, 104, 115]] (fun _ => G.2.2.2.2.1) (fun _ => G.2.2.2.2.2) (zA G) U U.heap ∧ va_Z "java/lang/String" "COMPACT_STRINGS" "Z" (.int 1) (zA G) U U.heap) ∧ (∀ w ∈ zN, va_Nw w U) ∧ G.1 ≤ U.heap.size
theorem zK.to {G : zG} {s U : State} (h : zK G s) (hW : s.WarmedH U.vm) (hz : s.heap.size ≤ U.heap.size) (hq : ∀ q : Nat, q < s.heap.size → ¬ zA G q → U.heap[q]? = s.heap[q]?) : zK G U := by
  obtain ⟨h1, h2, h3, ⟨h4, h5, h6⟩, ⟨h7, h8, h9⟩, hN, h10⟩ := h
  have hvm := hW.alike
  exact ⟨va_K.moved hvm h1, (va_Z.moved hvm h2).kept hq, (va_T.moved hvm h3).kept hq, ⟨va_AO.moved hvm h4, va_AO.moved hvm h5, va_AO.moved hvm h6⟩, ⟨vk_R.warm hW h7, (vk_S.moved hvm h8).kept hq, (va_Z.moved hvm h9).kept hq⟩, fun w hw => zNw_warm hW (hN w hw) (List.mem_filter.mp hw).2, Nat.le_trans h10 hz⟩
theorem zK.calling {G : zG} {U : State} {g : JFrame} {mk : MethodId} {a : Array Value} (h : zK G U) : zK G (U.calling g mk a) := by
  obtain ⟨h1, h2, h3, ⟨h4, h5, h6⟩, ⟨h7, h8, h9⟩, hN, h10⟩ := h
  have hvm : U.vm.Alike (U.calling g mk a).vm := Vm.Alike.refl U.vm
  have hq : ∀ q : Nat, q < U.heap.size → ¬ zA G q → (U.calling g mk a).heap[q]? = U.heap[q]? := fun _ _ _ => rfl
  exact ⟨va_K.moved hvm h1, (va_Z.moved hvm h2).kept hq, (va_T.moved hvm h3).kept hq, ⟨va_AO.moved hvm h4, va_AO.moved hvm h5, va_AO.moved hvm h6⟩, ⟨vk_R.same rfl h7, (vk_S.moved hvm h8).kept hq, (va_Z.moved hvm h9).kept hq⟩, fun w hw => zNw_same (u := U) (U := U.calling g mk a) rfl (hN w hw) (List.mem_filter.mp hw).2, h10⟩
/-- the machine's heap holds the world -/
def zW (G : zG) (hh : zH) (sz : Nat) (H : Heap) : Prop := H.size = sz ∧ ∀ (a : Nat) (e : va_E), hh a = some e → G.1 ≤ a ∧ va_at G.2.1 vwCl (a, e) H
def zup (hh : zH) (a : Nat) (e : va_E) : zH := fun q => if q = a then some e else hh q
theorem zup_eq (hh : zH) (a : Nat) (e : va_E) : zup hh a e a = some e := if_pos rfl
theorem zup_ne {hh : zH} {a q : Nat} {e : va_E} (h : q ≠ a) : zup hh a e q = hh q := if_neg h
theorem zW.lt {G : zG} {hh : zH} {sz : Nat} {H : Heap} (h : zW G hh sz H) {a : Nat} {e : va_E} (ha : hh a = some e) : a < sz := by
  rw [← h.1]; exact (h.2 a e ha).2.lt
theorem zW.one {G : zG} {hh : zH} {sz : Nat} {H : Heap} (h : zW G hh sz H) {a : Nat} {e : va_E} (ha : hh a = some e) : va_P G.2.1 vwCl [(a, e)] H := by
  intro k q hk
  have hz : k < 1 := (List.getElem?_eq_some_iff.mp hk).1
  rw [show k = 0 by omega] at hk
  cases hk
  exact (h.2 a e ha).2
theorem zW.set {G : zG} {hh : zH} {sz : Nat} {H H1 : Heap} (h : zW G hh sz H) {a : Nat} {e0 e : va_E} (ha : hh a = some e0) (he : va_at G.2.1 vwCl (a, e) H1) (z : H1.size = H.size) (oq : ∀ q : Nat, q ≠ a → H1[q]? = H[q]?) : zW G (zup hh a e) sz H1 := by
  refine ⟨z.trans h.1, fun q e' hq => ?_⟩
  by_cases hqa : q = a
  · subst hqa
    rw [zup_eq] at hq
    cases hq
    exact ⟨(h.2 q e0 ha).1, he⟩
  · rw [zup_ne hqa] at hq
    exact ⟨(h.2 q e' hq).1, (h.2 q e' hq).2.kept (oq q hqa)⟩
theorem zW.push {G : zG} {hh : zH} {sz : Nat} {H H1 : Heap} {e : va_E} (h : zW G hh sz H) (hb : G.1 ≤ sz) (he : va_at G.2.1 vwCl (sz, e) H1) (z : H1.size = sz + 1) (oq : ∀ q : Nat, q < sz → H1[q]? = H[q]?) : zW G (zup hh sz e) (sz + 1) H1 := by
  refine ⟨z, fun q e' hq => ?_⟩
  by_cases hqa : q = sz
  · subst hqa
    rw [zup_eq] at hq
    cases hq
    exact ⟨hb, he⟩
  · rw [zup_ne hqa] at hq
    exact ⟨(h.2 q e' hq).1, (h.2 q e' hq).2.kept (oq q (h.lt hq))⟩
/-! the locals, by places -/
def zL (ls : Array Slot) (nL : Nat) (lv : List (Option Value)) : Prop := ∀ l : List (Nat × Value), (∀ q ∈ l, lv[q.1]? = some (some q.2)) → lv_has ls nL l
theorem zL.at {ls : Array Slot} {nL : Nat} {lv : List (Option Value)} (h : zL ls nL lv) {i : Nat} {v : Value} (hv : lv[i]? = some (some v)) : ls[i]? = some (.val v) :=
  (h [(i, v)] (fun q hq => by rw [List.mem_singleton.mp hq]; exact hv)).2.2 (i, v) (List.mem_singleton.mpr rfl)
theorem zL.size {ls : Array Slot} {nL : Nat} {lv : List (Option Value)} (h : zL ls nL lv) : ls.size = nL := (h [] (fun q hq => by cases hq)).1
def zLp (lv : List (Option Value)) : List (Nat × Value) := (List.range lv.length).filterMap (fun i => ((lv[i]?).join).map (fun v => (i, v)))
theorem zLp_mem {lv : List (Option Value)} {q : Nat × Value} : q ∈ zLp lv ↔ lv[q.1]? = some (some q.2) := by
  unfold zLp
  rw [List.mem_filterMap]
  constructor
  · rintro ⟨i, hi, h⟩
    cases h1 : lv[i]? with
    | none => rw [h1] at h; cases h
    | some w =>
      cases w with
      | none => rw [h1] at h; cases h
      | some v => rw [h1] at h; cases h; exact h1
  · intro h
    refine ⟨q.1, List.mem_range.mpr (List.getElem?_eq_some_iff.mp h).1, ?_⟩
    rw [h]; rfl
theorem zL.has {ls : Array Slot} {nL : Nat} {lv : List (Option Value)} (h : zL ls nL lv) : lv_has ls nL (zLp lv) := h _ (fun _ hq => zLp_mem.mp hq)
/-- a place of one slot may be stored at i: no long ends there -/
def zok (lv : List (Option Value)) (i : Nat) : Bool := decide (i < lv.length) && match i with
  | 0 => true
  | j + 1 => match lv[j]? with
    | some (some w) => w.category != 2
    | _ => true
theorem zL.store {ls' : Array Slot} {nL : Nat} {lv : List (Option Value)} {i : Nat} {v : Value} (hok : zok lv i = true) (h' : lv_has ls' nL ((i, v) :: (zLp lv).filter (fun q => !(q.1 == i) && !(q.1 + 1 == i && q.2.category == 2)))) : zL ls' nL (lv.set i (some v)) := by
  intro l hl
  refine ⟨h'.1, h'.2.1, fun q hq => h'.2.2 q ?_⟩
  have h1 := hl q hq
  simp only [zok, Bool.and_eq_true, decide_eq_true_eq] at hok
  by_cases hqi : q.1 = i
  · subst hqi
    rw [List.getElem?_set_self hok.1] at h1
    obtain ⟨q1, q2⟩ := q
    cases h1
    exact List.mem_cons_self
  · rw [List.getElem?_set_ne (fun e => hqi e.symm)] at h1
    refine List.mem_cons_of_mem _ (List.mem_filter.mpr ⟨zLp_mem.mpr h1, ?_⟩)
    simp only [Bool.and_eq_true, Bool.not_eq_true', beq_eq_false_iff_ne, ne_eq, Bool.and_eq_false_iff]
    refine ⟨hqi, ?_⟩
    by_cases hj : q.1 + 1 = i
    · right
      subst hj
      have h2 := hok.2
      simp only [h1] at h2
      simpa using h2
    · exact Or.inl hj
def zl0 : List Value → List (Option Value)
  | [] => []
  | v :: vs => if v.category = 2 then some v :: none :: zl0 vs else some v :: zl0 vs
theorem zl0_mem : ∀ (vs : List Value) (n k i : Nat) (v : Value), (zl0 vs ++ List.replicate n none)[i]? = some (some v) → (k + i, v) ∈ lv_args k vs
  | [], n, k, i, v, h => by
    simp only [zl0, List.nil_append] at h
    have := List.eq_of_mem_replicate (List.mem_of_getElem? h)
    cases this
  | w :: vs, n, k, i, v, h => by
    unfold zl0 at h
    unfold lv_args
    by_cases hc : w.category = 2
    · rw [if_pos hc] at h ⊢
      match i, h with
      | 0, h => cases h; exact List.mem_cons_self
      | 1, h => cases h
      | i + 2, h =>
        have := zl0_mem vs n (k + 2) i v h
        rw [show k + (i + 2) = k + 2 + i by omega]
        exact List.mem_cons_of_mem _ this
    · rw [if_neg hc] at h ⊢
      match i, h with
      | 0, h => cases h; exact List.mem_cons_self
      | i + 1, h =>
        have := zl0_mem vs n (k + 1) i v h
        rw [show k + (i + 1) = k + 1 + i by omega]
        exact List.mem_cons_of_mem _ this
/-! what is fixed in the run of one method -/
def zX (p : Program) (s : State) (m : MethodId) (args : Array Value) (meth : Method) (c : Code) (M : zM) (G : zG) : Prop :=
  p.tables.exec = Jvm.exec ∧ c.code = M.2.1 ∧ c.maxLocals = M.2.2.1 ∧ s.vm.findClass M.1 = some m.cls ∧ (∀ w ∈ zT, w.before args s = true) ∧ meth.sig.returnType = M.2.2.2.1 ∧ meth.locks = false ∧ (M.2.2.2.2 = true → meth.name = "<init>") ∧ zK G s
/-- a return stands at pc, and r is such an answer -/
def zEnd (M : zM) (r : Option Value) (pc : Nat) : Prop :=
  (r = none ∧ M.2.2.2.1 = none ∧ decode M.2.1 pc = .ok (.return_, 1)) ∨
  (∃ (v : Int32) (ty : FieldType), r = some (.int v) ∧ M.2.2.2.1 = some ty ∧ narrow ty (.int v) = .int v ∧ decode M.2.1 pc = .ok (.ireturn, 1)) ∨
  (∃ (v : Value) (C : String), r = some v ∧ M.2.2.2.1 = some (.object C) ∧ (v = .null ∨ ∃ a, v = .ref a) ∧ decode M.2.1 pc = .ok (.areturn, 1))
/-- THE JUDGEMENT: method M, at pc, with these locals and this stack, in the world hh of sz cells (k cells and n slots made so far, at most mc and ms, d frames deep): it returns, and Post holds of its answer, its world, its size, and what was made -/
def zS (M : zM) (G : zG) (d mc ms k n : Nat) (hh : zH) (sz : Nat) (pc : Nat) (lv : List (Option Value)) (st : List Value) (Post : Option Value → zH → Nat → Nat → Nat → Prop) : Prop :=
  ∀ (p : Program) (l : Launch) (e : Env) (R : Room) (s : State) (m : MethodId) (args : Array Value) (below : List Frame) (meth : Method) (c : Code) (Q : State → Prop), zX p s m args meth c M G → d ≤ R.frames → 31 * d ≤ R.locals → mc ≤ R.cells → ms ≤ R.slots →
    (∀ (r : Option Value) (hh' : zH) (sz' k' n' : Nat) (H' : Heap) (locs' : List Loc) (pc' : Nat) (ls' : Array Slot), Post r hh' sz' k' n' → zW G hh' sz' H' → va_S (zA G) s.heap H' locs' → zEnd M r pc' → W p l e R s m args below meth c H' locs' k' n' Q (F0 m pc' ls' r.toList)) →
    ∀ (H : Heap) (locs : List Loc) (ls : Array Slot), zW G hh sz H → va_S (zA G) s.heap H locs → zL ls M.2.2.1 lv → W p l e R s m args below meth c H locs k n Q (F0 m pc ls st)
/-- a method's contract in a world -/
def zC (G : zG) (d : Nat) (M : zM) (y : MethodName) (as : List Value) (hh : zH) (sz mc ms : Nat) (Post : Option Value → zH → Nat → Prop) : Prop :=
  ∀ l : Launch, Met l y (.code y M.2.1 M.2.2.1 M.2.2.2.1 :: zT) { frames := d, cells := mc, slots := ms, locals := 31 * d } (va_Pc as (fun U => zW G hh sz U.heap ∧ zK G U)) (fun _ st oc t => ∃ (r : Option Value) (hh' : zH) (sz' : Nat), oc = .returned r ∧ Post r hh' sz' ∧ zW G hh' sz' t.heap ∧ va_F (zA G) st t) mc ms (zA G)
theorem zC.mono {G : zG} {d : Nat} {M : zM} {y : MethodName} {as : List Value} {hh : zH} {sz mc ms : Nat} {P Q : Option Value → zH → Nat → Prop} (h : zC G d M y as hh sz mc ms P) (hPQ : ∀ r h' s', P r h' s' → Q r h' s') : zC G d M y as hh sz mc ms Q := by
  intro l p e ha hc hk s m args below hf happ hP hK
  obtain ⟨t, o, k1, h1, h2, ⟨⟨r, hh', sz', e1, e2, e3⟩, e4⟩⟩ := h l p e ha hc hk s m args below hf happ hP hK
  exact ⟨t, o, k1, h1, h2, ⟨⟨r, hh', sz', e1, hPQ _ _ _ e2, e3⟩, e4⟩⟩
theorem z_intro {G : zG} {d : Nat} {M : zM} {y : MethodName} {as : List Value} {hh : zH} {sz mc ms : Nat} {Post : Option Value → zH → Nat → Prop} (lv : List (Option Value)) (hlv : zl0 as ++ List.replicate (M.2.2.1 - (zl0 as).length) none = lv) (hy : (plainName y.cls && (y.cls == M.1) && (!M.2.2.2.2 || y.name == "<init>")) = true) (hn : (lg_sl as).length ≤ M.2.2.1)
    (h : zS M G d mc ms 0 0 hh sz 0 lv [] (fun r h' s' k' n' => Post r h' s' ∧ k' ≤ mc ∧ n' ≤ ms)) : zC G d M y as hh sz mc ms Post := by
  intro l
  simp only [Bool.and_eq_true, beq_iff_eq] at hy
  obtain ⟨⟨hy1, hy2⟩, hy3⟩ := hy
  refine Met.ofW (cc := M.2.1) (maxL := M.2.2.1) (ret := M.2.2.2.1) hy1 rfl ?_
  intro p e s m args below meth c s₁ B hml hv
  obtain ⟨rfl, hW, hK⟩ := hv
  have hx := B.exec
  have hb := B.bytes
  have hr := B.returns
  have hts := atoms_spec B.pre
  have hown : s.vm.findClass y.cls = some m.cls := findClass_of_methodNamed B.named
  have hlocks := B.notSynchronized
  have hX : zX p s m as.toArray meth c M G := by
    refine ⟨hx, hb, hml, hy2 ▸ hown, fun w hw => hts w (List.mem_cons_of_mem _ hw), hr, hlocks, fun hi => ?_, hK⟩
    have e1 := (name_of_methodNamed B.named B.method).1
    rw [hi] at hy3
    simp at hy3
    rw [e1]; exact hy3
  have hS : va_S (zA G) s.heap s.heap [] := va_S.rf
  have hl := lv_entry as (n := M.2.2.1) hn
  rw [lg_entry_eq]
  generalize (lg_sl as ++ List.replicate (M.2.2.1 - (lg_sl as).length) Slot.unset).toArray = ls at hl ⊢
  have hL : zL ls M.2.2.1 lv := by
    intro l1 hl1
    refine ⟨hl.1, hl.2.1, fun q hq => hl.2.2 q ?_⟩
    have h1 := hl1 q hq
    rw [← hlv] at h1
    have h2 := zl0_mem as _ 0 q.1 q.2 h1
    rwa [Nat.zero_add] at h2
  refine h p l e _ s m as.toArray below meth c _ hX (Nat.le_refl _) (Nat.le_refl _) (Nat.le_refl _) (Nat.le_refl _) ?_ s.heap [] ls hW hS hL
  intro r hh' sz' k' n' H' locs' pc' ls' hp hW' hS' hE
  obtain ⟨hp, hk', hn'⟩ := hp
  refine W.widen (k := mc) (n := ms) hk' hn' ?_
  rcases hE with ⟨e1, e2, e3⟩ | ⟨v, ty, e1, e2, e3, e4⟩ | ⟨v, C, e1, e2, e3, e4⟩
  · subst e1
    exact W.vret hx hb (hr.trans e2) (fun t ht hWm => ⟨none, hh', sz', rfl, hp, by rw [ht]; exact hW', hS'.F ht⟩) hS'.2.2 e3
  · subst e1
    exact W.zret hx hb (hr.trans e2) e3 (fun t ht hWm => ⟨_, hh', sz', rfl, hp, by rw [ht]; exact hW', hS'.F ht⟩) hS'.2.2 e4
  · subst e1
    exact W.aret hx hb (hr.trans e2) (Or.inl ⟨C, rfl⟩) e3 (fun t ht hWm => ⟨_, hh', sz', rfl, hp, by rw [ht]; exact hW', hS'.F ht⟩) hS'.2.2 e4

section ZR
variable {M : zM} {G : zG} {d mc ms k n : Nat} {hh : zH} {sz : Nat} {pc : Nat} {lv : List (Option Value)} {st : List Value} {Post : Option Value → zH → Nat → Nat → Nat → Prop}
theorem z_iconst {i : Int} {v : Int32} (hd : decode M.2.1 pc = .ok (.iconst i, 1)) (hv : Int32.ofInt i = v) (kk : zS M G d mc ms k n hh sz (pc + 1) lv (.int v :: st) Post) : zS M G d mc ms k n hh sz pc lv (st) Post := by
  intro p l e R s m args below meth c Q hX hf hl hc hs hE H locs ls hW hS hL
  obtain ⟨hx, hb, hml, hown, hts, hr, hlk, hin, hK⟩ := id hX
  exact lv_iconst hx hb hd hv (kk p l e R s m args below meth c Q hX hf hl hc hs hE H locs ls hW hS hL)
theorem z_bipush {i : Int} {v : Int32} (hd : decode M.2.1 pc = .ok (.bipush i, 2)) (hv : (Int8.ofInt i).toInt32 = v) (kk : zS M G d mc ms k n hh sz (pc + 2) lv (.int v :: st) Post) : zS M G d mc ms k n hh sz pc lv (st) Post := by
  intro p l e R s m args below meth c Q hX hf hl hc hs hE H locs ls hW hS hL
  obtain ⟨hx, hb, hml, hown, hts, hr, hlk, hin, hK⟩ := id hX
  exact lv_bipush hx hb hd hv (kk p l e R s m args below meth c Q hX hf hl hc hs hE H locs ls hW hS hL)
theorem z_sipush {i : Int} {v : Int32} (hd : decode M.2.1 pc = .ok (.sipush i, 3)) (hv : (Int16.ofInt i).toInt32 = v) (kk : zS M G d mc ms k n hh sz (pc + 3) lv (.int v :: st) Post) : zS M G d mc ms k n hh sz pc lv (st) Post := by
  intro p l e R s m args below meth c Q hX hf hl hc hs hE H locs ls hW hS hL
  obtain ⟨hx, hb, hml, hown, hts, hr, hlk, hin, hK⟩ := id hX
  exact lv_sipush hx hb hd hv (kk p l e R s m args below meth c Q hX hf hl hc hs hE H locs ls hW hS hL)
theorem z_lconst {i : Fin 2} {v : Int64} (hd : decode M.2.1 pc = .ok (.lconst i, 1)) (hv : Int64.ofNat (i : Nat) = v) (kk : zS M G d mc ms k n hh sz (pc + 1) lv (.long v :: st) Post) : zS M G d mc ms k n hh sz pc lv (st) Post := by
  intro p l e R s m args below meth c Q hX hf hl hc hs hE H locs ls hW hS hL
  obtain ⟨hx, hb, hml, hown, hts, hr, hlk, hin, hK⟩ := id hX
  exact lv_lconst hx hb hd hv (kk p l e R s m args below meth c Q hX hf hl hc hs hE H locs ls hW hS hL)
theorem z_iadd {x y : Int32} (hd : decode M.2.1 pc = .ok (.iadd, 1))  (kk : zS M G d mc ms k n hh sz (pc + 1) lv (.int (x + y) :: st) Post) : zS M G d mc ms k n hh sz pc lv (.int y :: .int x :: st) Post := by
  intro p l e R s m args below meth c Q hX hf hl hc hs hE H locs ls hW hS hL
  obtain ⟨hx, hb, hml, hown, hts, hr, hlk, hin, hK⟩ := id hX
  exact lv_iadd hx hb hd  (kk p l e R s m args below meth c Q hX hf hl hc hs hE H locs ls hW hS hL)
theorem z_isub {x y : Int32} (hd : decode M.2.1 pc = .ok (.isub, 1))  (kk : zS M G d mc ms k n hh sz (pc + 1) lv (.int (x - y) :: st) Post) : zS M G d mc ms k n hh sz pc lv (.int y :: .int x :: st) Post := by
  intro p l e R s m args below meth c Q hX hf hl hc hs hE H locs ls hW hS hL
  obtain ⟨hx, hb, hml, hown, hts, hr, hlk, hin, hK⟩ := id hX
  exact lv_isub hx hb hd  (kk p l e R s m args below meth c Q hX hf hl hc hs hE H locs ls hW hS hL)
theorem z_imul {x y : Int32} (hd : decode M.2.1 pc = .ok (.imul, 1))  (kk : zS M G d mc ms k n hh sz (pc + 1) lv (.int (x * y) :: st) Post) : zS M G d mc ms k n hh sz pc lv (.int y :: .int x :: st) Post := by
  intro p l e R s m args below meth c Q hX hf hl hc hs hE H locs ls hW hS hL
  obtain ⟨hx, hb, hml, hown, hts, hr, hlk, hin, hK⟩ := id hX
  exact lv_imul hx hb hd  (kk p l e R s m args below meth c Q hX hf hl hc hs hE H locs ls hW hS hL)
theorem z_iand {x y : Int32} (hd : decode M.2.1 pc = .ok (.iand, 1))  (kk : zS M G d mc ms k n hh sz (pc + 1) lv (.int (x &&& y) :: st) Post) : zS M G d mc ms k n hh sz pc lv (.int y :: .int x :: st) Post := by
  intro p l e R s m args below meth c Q hX hf hl hc hs hE H locs ls hW hS hL
  obtain ⟨hx, hb, hml, hown, hts, hr, hlk, hin, hK⟩ := id hX
  exact lv_iand hx hb hd  (kk p l e R s m args below meth c Q hX hf hl hc hs hE H locs ls hW hS hL)
theorem z_ior {x y : Int32} (hd : decode M.2.1 pc = .ok (.ior, 1))  (kk : zS M G d mc ms k n hh sz (pc + 1) lv (.int (x ||| y) :: st) Post) : zS M G d mc ms k n hh sz pc lv (.int y :: .int x :: st) Post := by
  intro p l e R s m args below meth c Q hX hf hl hc hs hE H locs ls hW hS hL
  obtain ⟨hx, hb, hml, hown, hts, hr, hlk, hin, hK⟩ := id hX
  exact lv_ior hx hb hd  (kk p l e R s m args below meth c Q hX hf hl hc hs hE H locs ls hW hS hL)
theorem z_ixor {x y : Int32} (hd : decode M.2.1 pc = .ok (.ixor, 1))  (kk : zS M G d mc ms k n hh sz (pc + 1) lv (.int (x ^^^ y) :: st) Post) : zS M G d mc ms k n hh sz pc lv (.int y :: .int x :: st) Post := by
  intro p l e R s m args below meth c Q hX hf hl hc hs hE H locs ls hW hS hL
  obtain ⟨hx, hb, hml, hown, hts, hr, hlk, hin, hK⟩ := id hX
  exact lv_ixor hx hb hd  (kk p l e R s m args below meth c Q hX hf hl hc hs hE H locs ls hW hS hL)
theorem z_ishl {x y : Int32} (hd : decode M.2.1 pc = .ok (.ishl, 1))  (kk : zS M G d mc ms k n hh sz (pc + 1) lv (.int (x <<< (y &&& 31)) :: st) Post) : zS M G d mc ms k n hh sz pc lv (.int y :: .int x :: st) Post := by
  intro p l e R s m args below meth c Q hX hf hl hc hs hE H locs ls hW hS hL
  obtain ⟨hx, hb, hml, hown, hts, hr, hlk, hin, hK⟩ := id hX
  exact lv_ishl hx hb hd  (kk p l e R s m args below meth c Q hX hf hl hc hs hE H locs ls hW hS hL)
theorem z_ishr {x y : Int32} (hd : decode M.2.1 pc = .ok (.ishr, 1))  (kk : zS M G d mc ms k n hh sz (pc + 1) lv (.int (x >>> (y &&& 31)) :: st) Post) : zS M G d mc ms k n hh sz pc lv (.int y :: .int x :: st) Post := by
  intro p l e R s m args below meth c Q hX hf hl hc hs hE H locs ls hW hS hL
  obtain ⟨hx, hb, hml, hown, hts, hr, hlk, hin, hK⟩ := id hX
  exact lv_ishr hx hb hd  (kk p l e R s m args below meth c Q hX hf hl hc hs hE H locs ls hW hS hL)
theorem z_land {x y : Int64} (hd : decode M.2.1 pc = .ok (.land, 1))  (kk : zS M G d mc ms k n hh sz (pc + 1) lv (.long (x &&& y) :: st) Post) : zS M G d mc ms k n hh sz pc lv (.long y :: .long x :: st) Post := by
  intro p l e R s m args below meth c Q hX hf hl hc hs hE H locs ls hW hS hL
  obtain ⟨hx, hb, hml, hown, hts, hr, hlk, hin, hK⟩ := id hX
  exact lv_land hx hb hd  (kk p l e R s m args below meth c Q hX hf hl hc hs hE H locs ls hW hS hL)
theorem z_lor {x y : Int64} (hd : decode M.2.1 pc = .ok (.lor, 1))  (kk : zS M G d mc ms k n hh sz (pc + 1) lv (.long (x ||| y) :: st) Post) : zS M G d mc ms k n hh sz pc lv (.long y :: .long x :: st) Post := by
  intro p l e R s m args below meth c Q hX hf hl hc hs hE H locs ls hW hS hL
  obtain ⟨hx, hb, hml, hown, hts, hr, hlk, hin, hK⟩ := id hX
  exact lv_lor hx hb hd  (kk p l e R s m args below meth c Q hX hf hl hc hs hE H locs ls hW hS hL)
theorem z_idiv {x y : Int32} (hd : decode M.2.1 pc = .ok (.idiv, 1)) (hne : ¬ y = 0) (kk : zS M G d mc ms k n hh sz (pc + 1) lv (.int (x / y) :: st) Post) : zS M G d mc ms k n hh sz pc lv (.int y :: .int x :: st) Post := by
  intro p l e R s m args below meth c Q hX hf hl hc hs hE H locs ls hW hS hL
  obtain ⟨hx, hb, hml, hown, hts, hr, hlk, hin, hK⟩ := id hX
  exact lv_idiv hx hb hd hne (kk p l e R s m args below meth c Q hX hf hl hc hs hE H locs ls hW hS hL)
theorem z_irem {x y : Int32} (hd : decode M.2.1 pc = .ok (.irem, 1)) (hne : ¬ y = 0) (kk : zS M G d mc ms k n hh sz (pc + 1) lv (.int (x - x / y * y) :: st) Post) : zS M G d mc ms k n hh sz pc lv (.int y :: .int x :: st) Post := by
  intro p l e R s m args below meth c Q hX hf hl hc hs hE H locs ls hW hS hL
  obtain ⟨hx, hb, hml, hown, hts, hr, hlk, hin, hK⟩ := id hX
  exact lv_irem hx hb hd hne (kk p l e R s m args below meth c Q hX hf hl hc hs hE H locs ls hW hS hL)
theorem z_iushr {x y : Int32} (hd : decode M.2.1 pc = .ok (.iushr, 1))  (kk : zS M G d mc ms k n hh sz (pc + 1) lv (.int ((x.toUInt32 >>> (y.toUInt32 &&& Int32.toUInt32 31)).toInt32) :: st) Post) : zS M G d mc ms k n hh sz pc lv (.int y :: .int x :: st) Post := by
  intro p l e R s m args below meth c Q hX hf hl hc hs hE H locs ls hW hS hL
  obtain ⟨hx, hb, hml, hown, hts, hr, hlk, hin, hK⟩ := id hX
  exact lv_iushr hx hb hd rfl (kk p l e R s m args below meth c Q hX hf hl hc hs hE H locs ls hW hS hL)
theorem z_lushr {x : Int64} {y : Int32} (hd : decode M.2.1 pc = .ok (.lushr, 1))  (kk : zS M G d mc ms k n hh sz (pc + 1) lv (.long ((x.toUInt64 >>> (y.toInt64.toUInt64 &&& Int64.toUInt64 63)).toInt64) :: st) Post) : zS M G d mc ms k n hh sz pc lv (.int y :: .long x :: st) Post := by
  intro p l e R s m args below meth c Q hX hf hl hc hs hE H locs ls hW hS hL
  obtain ⟨hx, hb, hml, hown, hts, hr, hlk, hin, hK⟩ := id hX
  exact lv_lushr hx hb hd rfl (kk p l e R s m args below meth c Q hX hf hl hc hs hE H locs ls hW hS hL)
theorem z_lshl {x : Int64} {y : Int32} (hd : decode M.2.1 pc = .ok (.lshl, 1))  (kk : zS M G d mc ms k n hh sz (pc + 1) lv (.long (x <<< (y.toInt64 &&& 63)) :: st) Post) : zS M G d mc ms k n hh sz pc lv (.int y :: .long x :: st) Post := by
  intro p l e R s m args below meth c Q hX hf hl hc hs hE H locs ls hW hS hL
  obtain ⟨hx, hb, hml, hown, hts, hr, hlk, hin, hK⟩ := id hX
  exact lv_lshl hx hb hd rfl (kk p l e R s m args below meth c Q hX hf hl hc hs hE H locs ls hW hS hL)
theorem z_l2i {x : Int64} (hd : decode M.2.1 pc = .ok (.l2i, 1))  (kk : zS M G d mc ms k n hh sz (pc + 1) lv (.int x.toInt32 :: st) Post) : zS M G d mc ms k n hh sz pc lv (.long x :: st) Post := by
  intro p l e R s m args below meth c Q hX hf hl hc hs hE H locs ls hW hS hL
  obtain ⟨hx, hb, hml, hown, hts, hr, hlk, hin, hK⟩ := id hX
  exact lv_l2i hx hb hd rfl (kk p l e R s m args below meth c Q hX hf hl hc hs hE H locs ls hW hS hL)
theorem z_i2l {x : Int32} (hd : decode M.2.1 pc = .ok (.i2l, 1))  (kk : zS M G d mc ms k n hh sz (pc + 1) lv (.long x.toInt64 :: st) Post) : zS M G d mc ms k n hh sz pc lv (.int x :: st) Post := by
  intro p l e R s m args below meth c Q hX hf hl hc hs hE H locs ls hW hS hL
  obtain ⟨hx, hb, hml, hown, hts, hr, hlk, hin, hK⟩ := id hX
  exact lv_i2l hx hb hd rfl (kk p l e R s m args below meth c Q hX hf hl hc hs hE H locs ls hW hS hL)
theorem z_i2c {x : Int32} (hd : decode M.2.1 pc = .ok (.i2c, 1))  (kk : zS M G d mc ms k n hh sz (pc + 1) lv (.int ((x.toUInt32 % 65536).toInt32) :: st) Post) : zS M G d mc ms k n hh sz pc lv (.int x :: st) Post := by
  intro p l e R s m args below meth c Q hX hf hl hc hs hE H locs ls hW hS hL
  obtain ⟨hx, hb, hml, hown, hts, hr, hlk, hin, hK⟩ := id hX
  exact lv_i2c hx hb hd rfl (kk p l e R s m args below meth c Q hX hf hl hc hs hE H locs ls hW hS hL)
theorem z_dup {v : Value} (hd : decode M.2.1 pc = .ok (.dup, 1)) (hv : v.category = 1) (kk : zS M G d mc ms k n hh sz (pc + 1) lv (v :: v :: st) Post) : zS M G d mc ms k n hh sz pc lv (v :: st) Post := by
  intro p l e R s m args below meth c Q hX hf hl hc hs hE H locs ls hW hS hL
  obtain ⟨hx, hb, hml, hown, hts, hr, hlk, hin, hK⟩ := id hX
  exact lv_dup hx hb hd hv (kk p l e R s m args below meth c Q hX hf hl hc hs hE H locs ls hW hS hL)
theorem z_dup_x1 {v w : Value} (hd : decode M.2.1 pc = .ok (.dup_x1, 1)) (hv : v.category = 1) (hw : w.category = 1) (kk : zS M G d mc ms k n hh sz (pc + 1) lv (v :: w :: v :: st) Post) : zS M G d mc ms k n hh sz pc lv (v :: w :: st) Post := by
  intro p l e R s m args below meth c Q hX hf hl hc hs hE H locs ls hW hS hL
  obtain ⟨hx, hb, hml, hown, hts, hr, hlk, hin, hK⟩ := id hX
  exact lv_dup_x1 hx hb hd hv hw (kk p l e R s m args below meth c Q hX hf hl hc hs hE H locs ls hW hS hL)
theorem z_pop {v : Value} (hd : decode M.2.1 pc = .ok (.pop, 1)) (hv : v.category = 1) (kk : zS M G d mc ms k n hh sz (pc + 1) lv (st) Post) : zS M G d mc ms k n hh sz pc lv (v :: st) Post := by
  intro p l e R s m args below meth c Q hX hf hl hc hs hE H locs ls hW hS hL
  obtain ⟨hx, hb, hml, hown, hts, hr, hlk, hin, hK⟩ := id hX
  exact lv_pop hx hb hd hv (kk p l e R s m args below meth c Q hX hf hl hc hs hE H locs ls hW hS hL)
theorem z_null  (hd : decode M.2.1 pc = .ok (.aconst_null, 1))  (kk : zS M G d mc ms k n hh sz (pc + 1) lv (.null :: st) Post) : zS M G d mc ms k n hh sz pc lv (st) Post := by
  intro p l e R s m args below meth c Q hX hf hl hc hs hE H locs ls hW hS hL
  obtain ⟨hx, hb, hml, hown, hts, hr, hlk, hin, hK⟩ := id hX
  exact lv_null hx hb hd  (kk p l e R s m args below meth c Q hX hf hl hc hs hE H locs ls hW hS hL)
theorem z_iload_n {i : Fin 4} {x : Int32} (hd : decode M.2.1 pc = .ok (.iload_n i, 1)) (hv : lv[(i : Nat)]? = some (some (.int x))) (kk : zS M G d mc ms k n hh sz (pc + 1) lv (.int x :: st) Post) : zS M G d mc ms k n hh sz pc lv st Post := by
  intro p l e R s m args below meth c Q hX hf hl hc hs hE H locs ls hW hS hL
  obtain ⟨hx, hb, hml, hown, hts, hr, hlk, hin, hK⟩ := id hX
  exact lv_iload_n hx hb hd rfl (hL.at hv) (kk p l e R s m args below meth c Q hX hf hl hc hs hE H locs ls hW hS hL)
theorem z_iload {i : Nat} {x : Int32} (hd : decode M.2.1 pc = .ok (.iload i, 2)) (hv : lv[i]? = some (some (.int x))) (kk : zS M G d mc ms k n hh sz (pc + 2) lv (.int x :: st) Post) : zS M G d mc ms k n hh sz pc lv st Post := by
  intro p l e R s m args below meth c Q hX hf hl hc hs hE H locs ls hW hS hL
  obtain ⟨hx, hb, hml, hown, hts, hr, hlk, hin, hK⟩ := id hX
  exact lv_iload hx hb hd (hL.at hv) (kk p l e R s m args below meth c Q hX hf hl hc hs hE H locs ls hW hS hL)
theorem z_aload_n {i : Fin 4} {x : Nat} (hd : decode M.2.1 pc = .ok (.aload_n i, 1)) (hv : lv[(i : Nat)]? = some (some (.ref x))) (kk : zS M G d mc ms k n hh sz (pc + 1) lv (.ref x :: st) Post) : zS M G d mc ms k n hh sz pc lv st Post := by
  intro p l e R s m args below meth c Q hX hf hl hc hs hE H locs ls hW hS hL
  obtain ⟨hx, hb, hml, hown, hts, hr, hlk, hin, hK⟩ := id hX
  exact lv_aload_n hx hb hd rfl (hL.at hv) (kk p l e R s m args below meth c Q hX hf hl hc hs hE H locs ls hW hS hL)
theorem z_aload {i : Nat} {x : Nat} (hd : decode M.2.1 pc = .ok (.aload i, 2)) (hv : lv[i]? = some (some (.ref x))) (kk : zS M G d mc ms k n hh sz (pc + 2) lv (.ref x :: st) Post) : zS M G d mc ms k n hh sz pc lv st Post := by
  intro p l e R s m args below meth c Q hX hf hl hc hs hE H locs ls hW hS hL
  obtain ⟨hx, hb, hml, hown, hts, hr, hlk, hin, hK⟩ := id hX
  exact lv_aload hx hb hd (hL.at hv) (kk p l e R s m args below meth c Q hX hf hl hc hs hE H locs ls hW hS hL)
theorem z_lload_n {i : Fin 4} {x : Int64} (hd : decode M.2.1 pc = .ok (.lload_n i, 1)) (hv : lv[(i : Nat)]? = some (some (.long x))) (kk : zS M G d mc ms k n hh sz (pc + 1) lv (.long x :: st) Post) : zS M G d mc ms k n hh sz pc lv st Post := by
  intro p l e R s m args below meth c Q hX hf hl hc hs hE H locs ls hW hS hL
  obtain ⟨hx, hb, hml, hown, hts, hr, hlk, hin, hK⟩ := id hX
  exact lv_lload_n hx hb hd rfl (hL.at hv) (kk p l e R s m args below meth c Q hX hf hl hc hs hE H locs ls hW hS hL)
theorem z_istore_n {i : Fin 4} {x : Int32} {lv' : List (Option Value)} (hd : decode M.2.1 pc = .ok (.istore_n i, 1)) (hn : (i : Nat) < M.2.2.1) (hok : zok lv (i : Nat) = true) (hlv : lv.set (i : Nat) (some (.int x)) = lv') (kk : zS M G d mc ms k n hh sz (pc + 1) lv' st Post) : zS M G d mc ms k n hh sz pc lv (.int x :: st) Post := by
  intro p l e R s m args below meth c Q hX hf hl hc hs hE H locs ls hW hS hL
  obtain ⟨hx, hb, hml, hown, hts, hr, hlk, hin, hK⟩ := id hX
  subst hlv
  exact lv_istore_n hx hb hd rfl hL.has hn rfl (fun ls1 h1 => kk p l e R s m args below meth c Q hX hf hl hc hs hE H locs ls1 hW hS (zL.store hok h1))
theorem z_istore {i : Nat} {x : Int32} {lv' : List (Option Value)} (hd : decode M.2.1 pc = .ok (.istore i, 2)) (hn : i < M.2.2.1) (hok : zok lv i = true) (hlv : lv.set i (some (.int x)) = lv') (kk : zS M G d mc ms k n hh sz (pc + 2) lv' st Post) : zS M G d mc ms k n hh sz pc lv (.int x :: st) Post := by
  intro p l e R s m args below meth c Q hX hf hl hc hs hE H locs ls hW hS hL
  obtain ⟨hx, hb, hml, hown, hts, hr, hlk, hin, hK⟩ := id hX
  subst hlv
  exact lv_istore hx hb hd  hL.has hn rfl (fun ls1 h1 => kk p l e R s m args below meth c Q hX hf hl hc hs hE H locs ls1 hW hS (zL.store hok h1))
theorem z_astore_n {i : Fin 4} {x : Nat} {lv' : List (Option Value)} (hd : decode M.2.1 pc = .ok (.astore_n i, 1)) (hn : (i : Nat) < M.2.2.1) (hok : zok lv (i : Nat) = true) (hlv : lv.set (i : Nat) (some (.ref x)) = lv') (kk : zS M G d mc ms k n hh sz (pc + 1) lv' st Post) : zS M G d mc ms k n hh sz pc lv (.ref x :: st) Post := by
  intro p l e R s m args below meth c Q hX hf hl hc hs hE H locs ls hW hS hL
  obtain ⟨hx, hb, hml, hown, hts, hr, hlk, hin, hK⟩ := id hX
  subst hlv
  exact lv_astore_n hx hb hd rfl hL.has hn rfl (fun ls1 h1 => kk p l e R s m args below meth c Q hX hf hl hc hs hE H locs ls1 hW hS (zL.store hok h1))
theorem z_astore {i : Nat} {x : Nat} {lv' : List (Option Value)} (hd : decode M.2.1 pc = .ok (.astore i, 2)) (hn : i < M.2.2.1) (hok : zok lv i = true) (hlv : lv.set i (some (.ref x)) = lv') (kk : zS M G d mc ms k n hh sz (pc + 2) lv' st Post) : zS M G d mc ms k n hh sz pc lv (.ref x :: st) Post := by
  intro p l e R s m args below meth c Q hX hf hl hc hs hE H locs ls hW hS hL
  obtain ⟨hx, hb, hml, hown, hts, hr, hlk, hin, hK⟩ := id hX
  subst hlv
  exact lv_astore hx hb hd  hL.has hn rfl (fun ls1 h1 => kk p l e R s m args below meth c Q hX hf hl hc hs hE H locs ls1 hW hS (zL.store hok h1))
theorem z_iinc {i : Nat} {j : Int} {x v : Int32} {lv' : List (Option Value)} (hd : decode M.2.1 pc = .ok (.iinc i j, 3)) (hv : lv[i]? = some (some (.int x))) (hj : x + Int32.ofInt j = v) (hn : i < M.2.2.1) (hok : zok lv i = true) (hlv : lv.set i (some (.int v)) = lv') (kk : zS M G d mc ms k n hh sz (pc + 3) lv' st Post) : zS M G d mc ms k n hh sz pc lv st Post := by
  intro p l e R s m args below meth c Q hX hf hl hc hs hE H locs ls hW hS hL
  obtain ⟨hx, hb, hml, hown, hts, hr, hlk, hin, hK⟩ := id hX
  subst hlv
  obtain ⟨kq, hkq⟩ := List.getElem?_of_mem (zLp_mem (q := (i, .int x)).mpr hv)
  exact lv_iinc hx hb hd hL.has hkq hj hn rfl (fun ls1 h1 => kk p l e R s m args below meth c Q hX hf hl hc hs hE H locs ls1 hW hS (zL.store hok h1))
theorem z_goto {off : Int} {tgt : Nat} (hd : decode M.2.1 pc = .ok (.goto off, 3)) (ht : (pc : Int) + off = (tgt : Int)) (kk : zS M G d mc ms k n hh sz tgt lv st Post) : zS M G d mc ms k n hh sz pc lv st Post := by
  intro p l e R s m args below meth c Q hX hf hl hc hs hE H locs ls hW hS hL
  obtain ⟨hx, hb, hml, hown, hts, hr, hlk, hin, hK⟩ := id hX
  exact lv_goto hx hb hd ht (kk p l e R s m args below meth c Q hX hf hl hc hs hE H locs ls hW hS hL)
theorem z_icmp_eq {x y : Int32} {off : Int} {tgt : Nat} (hd : decode M.2.1 pc = .ok (.if_icmp .eq off, 3)) (ht : (pc : Int) + off = (tgt : Int)) (kt : x = y → zS M G d mc ms k n hh sz tgt lv st Post) (kf : ¬ x = y → zS M G d mc ms k n hh sz (pc + 3) lv st Post) : zS M G d mc ms k n hh sz pc lv (.int y :: .int x :: st) Post := by
  intro p l e R s m args below meth c Q hX hf hl hc hs hE H locs ls hW hS hL
  obtain ⟨hx, hb, hml, hown, hts, hr, hlk, hin, hK⟩ := id hX
  exact lv_icmp_eq hx hb hd ht (fun z => kt z p l e R s m args below meth c Q hX hf hl hc hs hE H locs ls hW hS hL) (fun z => kf z p l e R s m args below meth c Q hX hf hl hc hs hE H locs ls hW hS hL)
theorem z_if_eq {x : Int32} {off : Int} {tgt : Nat} (hd : decode M.2.1 pc = .ok (.ifCond .eq off, 3)) (ht : (pc : Int) + off = (tgt : Int)) (kt : x = 0 → zS M G d mc ms k n hh sz tgt lv st Post) (kf : ¬ x = 0 → zS M G d mc ms k n hh sz (pc + 3) lv st Post) : zS M G d mc ms k n hh sz pc lv (.int x :: st) Post := by
  intro p l e R s m args below meth c Q hX hf hl hc hs hE H locs ls hW hS hL
  obtain ⟨hx, hb, hml, hown, hts, hr, hlk, hin, hK⟩ := id hX
  exact lv_if_eq hx hb hd ht (fun z => kt z p l e R s m args below meth c Q hX hf hl hc hs hE H locs ls hW hS hL) (fun z => kf z p l e R s m args below meth c Q hX hf hl hc hs hE H locs ls hW hS hL)
theorem z_icmp_ne {x y : Int32} {off : Int} {tgt : Nat} (hd : decode M.2.1 pc = .ok (.if_icmp .ne off, 3)) (ht : (pc : Int) + off = (tgt : Int)) (kt : ¬ x = y → zS M G d mc ms k n hh sz tgt lv st Post) (kf : x = y → zS M G d mc ms k n hh sz (pc + 3) lv st Post) : zS M G d mc ms k n hh sz pc lv (.int y :: .int x :: st) Post := by
  intro p l e R s m args below meth c Q hX hf hl hc hs hE H locs ls hW hS hL
  obtain ⟨hx, hb, hml, hown, hts, hr, hlk, hin, hK⟩ := id hX
  exact lv_icmp_ne hx hb hd ht (fun z => kt z p l e R s m args below meth c Q hX hf hl hc hs hE H locs ls hW hS hL) (fun z => kf z p l e R s m args below meth c Q hX hf hl hc hs hE H locs ls hW hS hL)
theorem z_if_ne {x : Int32} {off : Int} {tgt : Nat} (hd : decode M.2.1 pc = .ok (.ifCond .ne off, 3)) (ht : (pc : Int) + off = (tgt : Int)) (kt : ¬ x = 0 → zS M G d mc ms k n hh sz tgt lv st Post) (kf : x = 0 → zS M G d mc ms k n hh sz (pc + 3) lv st Post) : zS M G d mc ms k n hh sz pc lv (.int x :: st) Post := by
  intro p l e R s m args below meth c Q hX hf hl hc hs hE H locs ls hW hS hL
  obtain ⟨hx, hb, hml, hown, hts, hr, hlk, hin, hK⟩ := id hX
  exact lv_if_ne hx hb hd ht (fun z => kt z p l e R s m args below meth c Q hX hf hl hc hs hE H locs ls hW hS hL) (fun z => kf z p l e R s m args below meth c Q hX hf hl hc hs hE H locs ls hW hS hL)
theorem z_icmp_lt {x y : Int32} {off : Int} {tgt : Nat} (hd : decode M.2.1 pc = .ok (.if_icmp .lt off, 3)) (ht : (pc : Int) + off = (tgt : Int)) (kt : x < y → zS M G d mc ms k n hh sz tgt lv st Post) (kf : ¬ x < y → zS M G d mc ms k n hh sz (pc + 3) lv st Post) : zS M G d mc ms k n hh sz pc lv (.int y :: .int x :: st) Post := by
  intro p l e R s m args below meth c Q hX hf hl hc hs hE H locs ls hW hS hL
  obtain ⟨hx, hb, hml, hown, hts, hr, hlk, hin, hK⟩ := id hX
  exact lv_icmp_lt hx hb hd ht (fun z => kt z p l e R s m args below meth c Q hX hf hl hc hs hE H locs ls hW hS hL) (fun z => kf z p l e R s m args below meth c Q hX hf hl hc hs hE H locs ls hW hS hL)
theorem z_if_lt {x : Int32} {off : Int} {tgt : Nat} (hd : decode M.2.1 pc = .ok (.ifCond .lt off, 3)) (ht : (pc : Int) + off = (tgt : Int)) (kt : x < 0 → zS M G d mc ms k n hh sz tgt lv st Post) (kf : ¬ x < 0 → zS M G d mc ms k n hh sz (pc + 3) lv st Post) : zS M G d mc ms k n hh sz pc lv (.int x :: st) Post := by
  intro p l e R s m args below meth c Q hX hf hl hc hs hE H locs ls hW hS hL
  obtain ⟨hx, hb, hml, hown, hts, hr, hlk, hin, hK⟩ := id hX
  exact lv_if_lt hx hb hd ht (fun z => kt z p l e R s m args below meth c Q hX hf hl hc hs hE H locs ls hW hS hL) (fun z => kf z p l e R s m args below meth c Q hX hf hl hc hs hE H locs ls hW hS hL)
theorem z_icmp_ge {x y : Int32} {off : Int} {tgt : Nat} (hd : decode M.2.1 pc = .ok (.if_icmp .ge off, 3)) (ht : (pc : Int) + off = (tgt : Int)) (kt : y ≤ x → zS M G d mc ms k n hh sz tgt lv st Post) (kf : ¬ y ≤ x → zS M G d mc ms k n hh sz (pc + 3) lv st Post) : zS M G d mc ms k n hh sz pc lv (.int y :: .int x :: st) Post := by
  intro p l e R s m args below meth c Q hX hf hl hc hs hE H locs ls hW hS hL
  obtain ⟨hx, hb, hml, hown, hts, hr, hlk, hin, hK⟩ := id hX
  exact lv_icmp_ge hx hb hd ht (fun z => kt z p l e R s m args below meth c Q hX hf hl hc hs hE H locs ls hW hS hL) (fun z => kf z p l e R s m args below meth c Q hX hf hl hc hs hE H locs ls hW hS hL)
theorem z_if_ge {x : Int32} {off : Int} {tgt : Nat} (hd : decode M.2.1 pc = .ok (.ifCond .ge off, 3)) (ht : (pc : Int) + off = (tgt : Int)) (kt : 0 ≤ x → zS M G d mc ms k n hh sz tgt lv st Post) (kf : ¬ 0 ≤ x → zS M G d mc ms k n hh sz (pc + 3) lv st Post) : zS M G d mc ms k n hh sz pc lv (.int x :: st) Post := by
  intro p l e R s m args below meth c Q hX hf hl hc hs hE H locs ls hW hS hL
  obtain ⟨hx, hb, hml, hown, hts, hr, hlk, hin, hK⟩ := id hX
  exact lv_if_ge hx hb hd ht (fun z => kt z p l e R s m args below meth c Q hX hf hl hc hs hE H locs ls hW hS hL) (fun z => kf z p l e R s m args below meth c Q hX hf hl hc hs hE H locs ls hW hS hL)
theorem z_icmp_gt {x y : Int32} {off : Int} {tgt : Nat} (hd : decode M.2.1 pc = .ok (.if_icmp .gt off, 3)) (ht : (pc : Int) + off = (tgt : Int)) (kt : y < x → zS M G d mc ms k n hh sz tgt lv st Post) (kf : ¬ y < x → zS M G d mc ms k n hh sz (pc + 3) lv st Post) : zS M G d mc ms k n hh sz pc lv (.int y :: .int x :: st) Post := by
  intro p l e R s m args below meth c Q hX hf hl hc hs hE H locs ls hW hS hL
  obtain ⟨hx, hb, hml, hown, hts, hr, hlk, hin, hK⟩ := id hX
  exact lv_icmp_gt hx hb hd ht (fun z => kt z p l e R s m args below meth c Q hX hf hl hc hs hE H locs ls hW hS hL) (fun z => kf z p l e R s m args below meth c Q hX hf hl hc hs hE H locs ls hW hS hL)
theorem z_if_gt {x : Int32} {off : Int} {tgt : Nat} (hd : decode M.2.1 pc = .ok (.ifCond .gt off, 3)) (ht : (pc : Int) + off = (tgt : Int)) (kt : 0 < x → zS M G d mc ms k n hh sz tgt lv st Post) (kf : ¬ 0 < x → zS M G d mc ms k n hh sz (pc + 3) lv st Post) : zS M G d mc ms k n hh sz pc lv (.int x :: st) Post := by
  intro p l e R s m args below meth c Q hX hf hl hc hs hE H locs ls hW hS hL
  obtain ⟨hx, hb, hml, hown, hts, hr, hlk, hin, hK⟩ := id hX
  exact lv_if_gt hx hb hd ht (fun z => kt z p l e R s m args below meth c Q hX hf hl hc hs hE H locs ls hW hS hL) (fun z => kf z p l e R s m args below meth c Q hX hf hl hc hs hE H locs ls hW hS hL)
theorem z_icmp_le {x y : Int32} {off : Int} {tgt : Nat} (hd : decode M.2.1 pc = .ok (.if_icmp .le off, 3)) (ht : (pc : Int) + off = (tgt : Int)) (kt : x ≤ y → zS M G d mc ms k n hh sz tgt lv st Post) (kf : ¬ x ≤ y → zS M G d mc ms k n hh sz (pc + 3) lv st Post) : zS M G d mc ms k n hh sz pc lv (.int y :: .int x :: st) Post := by
  intro p l e R s m args below meth c Q hX hf hl hc hs hE H locs ls hW hS hL
  obtain ⟨hx, hb, hml, hown, hts, hr, hlk, hin, hK⟩ := id hX
  exact lv_icmp_le hx hb hd ht (fun z => kt z p l e R s m args below meth c Q hX hf hl hc hs hE H locs ls hW hS hL) (fun z => kf z p l e R s m args below meth c Q hX hf hl hc hs hE H locs ls hW hS hL)
theorem z_if_le {x : Int32} {off : Int} {tgt : Nat} (hd : decode M.2.1 pc = .ok (.ifCond .le off, 3)) (ht : (pc : Int) + off = (tgt : Int)) (kt : x ≤ 0 → zS M G d mc ms k n hh sz tgt lv st Post) (kf : ¬ x ≤ 0 → zS M G d mc ms k n hh sz (pc + 3) lv st Post) : zS M G d mc ms k n hh sz pc lv (.int x :: st) Post := by
  intro p l e R s m args below meth c Q hX hf hl hc hs hE H locs ls hW hS hL
  obtain ⟨hx, hb, hml, hown, hts, hr, hlk, hin, hK⟩ := id hX
  exact lv_if_le hx hb hd ht (fun z => kt z p l e R s m args below meth c Q hX hf hl hc hs hE H locs ls hW hS hL) (fun z => kf z p l e R s m args below meth c Q hX hf hl hc hs hE H locs ls hW hS hL)
theorem z_ifnull {x : Nat} {off : Int} (hd : decode M.2.1 pc = .ok (.ifnull off, 3)) (kk : zS M G d mc ms k n hh sz (pc + 3) lv st Post) : zS M G d mc ms k n hh sz pc lv (.ref x :: st) Post := by
  intro p l e R s m args below meth c Q hX hf hl hc hs hE H locs ls hW hS hL
  obtain ⟨hx, hb, hml, hown, hts, hr, hlk, hin, hK⟩ := id hX
  exact lv_ifnull hx hb hd (kk p l e R s m args below meth c Q hX hf hl hc hs hE H locs ls hW hS hL)
theorem z_ifnullN {off : Int} {tgt : Nat} (hd : decode M.2.1 pc = .ok (.ifnull off, 3)) (ht : (pc : Int) + off = (tgt : Int)) (kk : zS M G d mc ms k n hh sz tgt lv st Post) : zS M G d mc ms k n hh sz pc lv (.null :: st) Post := by
  intro p l e R s m args below meth c Q hX hf hl hc hs hE H locs ls hW hS hL
  obtain ⟨hx, hb, hml, hown, hts, hr, hlk, hin, hK⟩ := id hX
  exact lv_ifnullN hx hb hd ht (kk p l e R s m args below meth c Q hX hf hl hc hs hE H locs ls hW hS hL)
theorem z_ifnonnull {x : Nat} {off : Int} {tgt : Nat} (hd : decode M.2.1 pc = .ok (.ifnonnull off, 3)) (ht : (pc : Int) + off = (tgt : Int)) (kk : zS M G d mc ms k n hh sz tgt lv st Post) : zS M G d mc ms k n hh sz pc lv (.ref x :: st) Post := by
  intro p l e R s m args below meth c Q hX hf hl hc hs hE H locs ls hW hS hL
  obtain ⟨hx, hb, hml, hown, hts, hr, hlk, hin, hK⟩ := id hX
  exact lv_ifnonnull hx hb hd ht (kk p l e R s m args below meth c Q hX hf hl hc hs hE H locs ls hW hS hL)
theorem z_ifnonnullN {off : Int} (hd : decode M.2.1 pc = .ok (.ifnonnull off, 3)) (kk : zS M G d mc ms k n hh sz (pc + 3) lv st Post) : zS M G d mc ms k n hh sz pc lv (.null :: st) Post := by
  intro p l e R s m args below meth c Q hX hf hl hc hs hE H locs ls hW hS hL
  obtain ⟨hx, hb, hml, hown, hts, hr, hlk, hin, hK⟩ := id hX
  exact lv_ifnonnullN hx hb hd (kk p l e R s m args below meth c Q hX hf hl hc hs hE H locs ls hW hS hL)
theorem z_tableIn {dflt lo hi : Int} {offs : Array Int} {len : Nat} {x : Int32} {off : Int} {tgt : Nat} (hd : decode M.2.1 pc = .ok (.tableswitch dflt lo hi offs, len)) (h1 : ¬ x.toInt < lo) (h2 : ¬ hi < x.toInt) (ho : offs[(x.toInt - lo).toNat]? = some off) (ht : (pc : Int) + off = (tgt : Int)) (kk : zS M G d mc ms k n hh sz tgt lv st Post) : zS M G d mc ms k n hh sz pc lv (.int x :: st) Post := by
  intro p l e R s m args below meth c Q hX hf hl hc hs hE H locs ls hW hS hL
  obtain ⟨hx, hb, hml, hown, hts, hr, hlk, hin, hK⟩ := id hX
  exact lv_tableIn hx hb hd h1 h2 ho ht (kk p l e R s m args below meth c Q hX hf hl hc hs hE H locs ls hW hS hL)
theorem z_tableOut {dflt lo hi : Int} {offs : Array Int} {len : Nat} {x : Int32} {tgt : Nat} (hd : decode M.2.1 pc = .ok (.tableswitch dflt lo hi offs, len)) (h : x.toInt < lo ∨ hi < x.toInt) (ht : (pc : Int) + dflt = (tgt : Int)) (kk : zS M G d mc ms k n hh sz tgt lv st Post) : zS M G d mc ms k n hh sz pc lv (.int x :: st) Post := by
  intro p l e R s m args below meth c Q hX hf hl hc hs hE H locs ls hW hS hL
  obtain ⟨hx, hb, hml, hown, hts, hr, hlk, hin, hK⟩ := id hX
  exact lv_tableOut hx hb hd h ht (kk p l e R s m args below meth c Q hX hf hl hc hs hE H locs ls hW hS hL)
theorem z_lookup {dflt : Int} {ps : Array (Int × Int)} {len : Nat} {x : Int32} {off : Int} {tgt : Nat} (hd : decode M.2.1 pc = .ok (.lookupswitch dflt ps, len)) (hp : (ps.toList.zip (ps.toList.drop 1)).all (fun (a, next) => a.1 < next.1) = true) (ho : Op.lookupswitch.offset ps.toList dflt x.toInt = off) (ht : (pc : Int) + off = (tgt : Int)) (kk : zS M G d mc ms k n hh sz tgt lv st Post) : zS M G d mc ms k n hh sz pc lv (.int x :: st) Post := by
  intro p l e R s m args below meth c Q hX hf hl hc hs hE H locs ls hW hS hL
  obtain ⟨hx, hb, hml, hown, hts, hr, hlk, hin, hK⟩ := id hX
  exact lv_lookup hx hb hd hp ho ht (kk p l e R s m args below meth c Q hX hf hl hc hs hE H locs ls hW hS hL)
theorem z_dup2 {v w : Value} (hd : decode M.2.1 pc = .ok (.dup2, 1)) (hv : v.category = 1) (hw : w.category = 1) (kk : zS M G d mc ms k n hh sz (pc + 1) lv (v :: w :: v :: w :: st) Post) : zS M G d mc ms k n hh sz pc lv (v :: w :: st) Post := by
  intro p l e R s m args below meth c Q hX hf hl hc hs hE H locs ls hW hS hL
  obtain ⟨hx, hb, hml, hown, hts, hr, hlk, hin, hK⟩ := id hX
  exact lv_dup2_11 hx hb hd hv hw (kk p l e R s m args below meth c Q hX hf hl hc hs hE H locs ls hW hS hL)
theorem z_lcmp {x y : Int64} (hd : decode M.2.1 pc = .ok (.lcmp, 1)) (kk : zS M G d mc ms k n hh sz (pc + 1) lv (.int (lg_cmp x y) :: st) Post) : zS M G d mc ms k n hh sz pc lv (.long y :: .long x :: st) Post := by
  intro p l e R s m args below meth c Q hX hf hl hc hs hE H locs ls hW hS hL
  obtain ⟨hx, hb, hml, hown, hts, hr, hlk, hin, hK⟩ := id hX
  exact W.lcmp hx hb hd (kk p l e R s m args below meth c Q hX hf hl hc hs hE H locs ls hW hS hL)
theorem z_ldc {i : Nat} {v : Int32} (hd : decode M.2.1 pc = .ok (.ldc i, 2)) (hw : Jvm.Cond.constant M.1 i v ∈ zT) (kk : zS M G d mc ms k n hh sz (pc + 2) lv (.int v :: st) Post) : zS M G d mc ms k n hh sz pc lv st Post := by
  intro p l e R s m args below meth c Q hX hf hl hc hs hE H locs ls hW hS hL
  obtain ⟨hx, hb, hml, hown, hts, hr, hlk, hin, hK⟩ := id hX
  exact lv_ldc hx hb hown (hts _ hw) hd (kk p l e R s m args below meth c Q hX hf hl hc hs hE H locs ls hW hS hL)
theorem z_ldcw {i : Nat} {v : Int32} (hd : decode M.2.1 pc = .ok (.ldc_w i, 3)) (hw : Jvm.Cond.constant M.1 i v ∈ zT) (kk : zS M G d mc ms k n hh sz (pc + 3) lv (.int v :: st) Post) : zS M G d mc ms k n hh sz pc lv st Post := by
  intro p l e R s m args below meth c Q hX hf hl hc hs hE H locs ls hW hS hL
  obtain ⟨hx, hb, hml, hown, hts, hr, hlk, hin, hK⟩ := id hX
  exact lv_ldcw hx hb hown (hts _ hw) hd (kk p l e R s m args below meth c Q hX hf hl hc hs hE H locs ls hW hS hL)
theorem z_ldc2 {i : Nat} {v : Int64} (hd : decode M.2.1 pc = .ok (.ldc2_w i, 3)) (hw : Jvm.Cond.constantLong M.1 i v ∈ zT) (kk : zS M G d mc ms k n hh sz (pc + 3) lv (.long v :: st) Post) : zS M G d mc ms k n hh sz pc lv st Post := by
  intro p l e R s m args below meth c Q hX hf hl hc hs hE H locs ls hW hS hL
  obtain ⟨hx, hb, hml, hown, hts, hr, hlk, hin, hK⟩ := id hX
  exact lv_ldc2 hx hb hown (hts _ hw) hd (kk p l e R s m args below meth c Q hX hf hl hc hs hE H locs ls hW hS hL)
theorem z_ireturn {x : Int32} (hd : decode M.2.1 pc = .ok (.ireturn, 1)) (hrt : ∃ ty, M.2.2.2.1 = some ty ∧ narrow ty (.int x) = .int x) (h : Post (some (.int x)) hh sz k n) : zS M G d mc ms k n hh sz pc lv [.int x] Post := by
  intro p l e R s m args below meth c Q hX hf hl hc hs hE H locs ls hW hS hL
  obtain ⟨hx, hb, hml, hown, hts, hr, hlk, hin, hK⟩ := id hX
  obtain ⟨ty, e1, e2⟩ := hrt
  exact hE _ hh sz k n H locs pc ls h hW hS (Or.inr (Or.inl ⟨x, ty, rfl, e1, e2, hd⟩))
theorem z_return (hd : decode M.2.1 pc = .ok (.return_, 1)) (hrt : M.2.2.2.1 = none) (h : Post none hh sz k n) : zS M G d mc ms k n hh sz pc lv [] Post := by
  intro p l e R s m args below meth c Q hX hf hl hc hs hE H locs ls hW hS hL
  obtain ⟨hx, hb, hml, hown, hts, hr, hlk, hin, hK⟩ := id hX
  exact hE _ hh sz k n H locs pc ls h hW hS (Or.inl ⟨rfl, hrt, hd⟩)
theorem z_areturn {a : Nat} {C : String} (hd : decode M.2.1 pc = .ok (.areturn, 1)) (hrt : M.2.2.2.1 = some (.object C)) (h : Post (some (.ref a)) hh sz k n) : zS M G d mc ms k n hh sz pc lv [.ref a] Post := by
  intro p l e R s m args below meth c Q hX hf hl hc hs hE H locs ls hW hS hL
  obtain ⟨hx, hb, hml, hown, hts, hr, hlk, hin, hK⟩ := id hX
  exact hE _ hh sz k n H locs pc ls h hW hS (Or.inr (Or.inr ⟨_, C, rfl, hrt, Or.inr ⟨a, rfl⟩, hd⟩))
theorem z_areturnN {C : String} (hd : decode M.2.1 pc = .ok (.areturn, 1)) (hrt : M.2.2.2.1 = some (.object C)) (h : Post (some .null) hh sz k n) : zS M G d mc ms k n hh sz pc lv [.null] Post := by
  intro p l e R s m args below meth c Q hX hf hl hc hs hE H locs ls hW hS hL
  obtain ⟨hx, hb, hml, hown, hts, hr, hlk, hin, hK⟩ := id hX
  exact hE _ hh sz k n H locs pc ls h hW hS (Or.inr (Or.inr ⟨_, C, rfl, hrt, Or.inl rfl, hd⟩))
theorem z_post {P2 : Option Value → zH → Nat → Nat → Nat → Prop} (hPQ : ∀ r h' s' k' n', P2 r h' s' k' n' → Post r h' s' k' n') (kk : zS M G d mc ms k n hh sz pc lv st P2) : zS M G d mc ms k n hh sz pc lv st Post := by
  intro p l e R s m args below meth c Q hX hf hl hc hs hE H locs ls hW hS hL
  obtain ⟨hx, hb, hml, hown, hts, hr, hlk, hin, hK⟩ := id hX
  exact kk p l e R s m args below meth c Q hX hf hl hc hs (fun r h' s' k' n' H' locs' pc' ls' h1 => hE r h' s' k' n' H' locs' pc' ls' (hPQ _ _ _ _ _ h1)) H locs ls hW hS hL
/-- the class of a kind -/
def zc (ci : Nat) : vw_C := vwCl.getD ci (RX0, TX0, 4)
/-- the words of a field instruction: own class, pool index, kind, field -/
def zfw (own : String) (idx ci f : Nat) : Prop := ci < 7 ∧ f < (zc ci).2.2 ∧ Cond.fieldLink own idx (zc ci).1 ((zc ci).2.1 f).2.1 ((zc ci).2.1 f).2.2.1 ∈ zT ∧ ((zc ci).2.1 f).1 = (zc ci).1
def zfn (own : String) (idx ci f : Nat) : Prop := ci < 7 ∧ f < (zc ci).2.2 ∧ Cond.fieldLinkNest own idx (zc ci).1 ((zc ci).2.1 f).2.1 ((zc ci).2.1 f).2.2.1 "WindowLetters" ∈ zN ∧ ((zc ci).2.1 f).1 = (zc ci).1
theorem zc_at {ci : Nat} (h : ci < 7) : vwCl[ci]? = some ((zc ci).1, (zc ci).2.1, (zc ci).2.2) := by
  match ci, h with
  | 0, _ => rfl
  | 1, _ => rfl
  | 2, _ => rfl
  | 3, _ => rfl
  | 4, _ => rfl
  | 5, _ => rfl
  | 6, _ => rfl
theorem zc_in {ci : Nat} (h : ci < 7) : ∀ w ∈ u_ws (zc ci).1 (zc ci).2.1 (zc ci).2.2, w ∈ zT := by
  match ci, h with
  | 0, _ => exact zin0
  | 1, _ => exact zin1
  | 2, _ => exact zin2
  | 3, _ => exact zin3
  | 4, _ => exact zin4
  | 5, _ => exact zin5
  | 6, _ => exact zin6
def zty (ci : Nat) : Nat → FieldType := match ci with
  | 0 => tyX0
  | 1 => tyX1
  | 2 => tyX2
  | 3 => tyX3
  | 4 => tyX4
  | 5 => tyX5
  | _ => tyX6
theorem zty_ok {ci : Nat} (h : ci < 7) : ∀ k, k < (zc ci).2.2 → parseFieldDescriptor ((zc ci).2.1 k).2.2.1 = some (zty ci k) := by
  match ci, h with
  | 0, _ => exact tyX0_ok
  | 1, _ => exact tyX1_ok
  | 2, _ => exact tyX2_ok
  | 3, _ => exact tyX3_ok
  | 4, _ => exact tyX4_ok
  | 5, _ => exact tyX5_ok
  | 6, _ => exact tyX6_ok
theorem zty_nm {ci : Nat} (h : ci < 7) : ∀ a, a < (zc ci).2.2 → ∀ b, b < (zc ci).2.2 → a ≠ b → ((zc ci).2.1 a).2.1 ≠ ((zc ci).2.1 b).2.1 := by
  match ci, h with
  | 0, _ => exact nmX0
  | 1, _ => exact nmX1
  | 2, _ => exact nmX2
  | 3, _ => exact nmX3
  | 4, _ => exact nmX4
  | 5, _ => exact nmX5
  | 6, _ => exact nmX6
theorem z_get {idx ci f a : Nat} {fs : List Value} {v : Value} (hd : decode M.2.1 pc = .ok (.getfield idx, 3)) (hq : zfw M.1 idx ci f) (he : hh a = some (.inr (ci, fs))) (hv : fs[f]? = some v) (kk : zS M G d mc ms k n hh sz (pc + 3) lv (v :: st) Post) : zS M G d mc ms k n hh sz pc lv (.ref a :: st) Post := by
  intro p l e R s m args below meth c Q hX hf hl hc hs hE H locs ls hW hS hL
  obtain ⟨hx, hb, hml, hown, hts, hr, hlk, hin, hK⟩ := id hX
  obtain ⟨q1, q2, q3, q4⟩ := (hq : zfw _ _ _ _)
  exact va_get (D := G.2.1) (ci := ci) (v := v) hx hb hts (zc_in q1) hown hK.1 (hW.one he) 0 rfl (zc_at q1) f q2 (hts _ q3) (fun _ h9 => by rw [q4] at h9; exact h9) hv hd (kk p l e R s m args below meth c Q hX hf hl hc hs hE H locs ls hW hS hL)
theorem z_getN {idx ci f a : Nat} {fs : List Value} {v : Value} (hd : decode M.2.1 pc = .ok (.getfield idx, 3)) (hq : zfn M.1 idx ci f) (he : hh a = some (.inr (ci, fs))) (hv : fs[f]? = some v) (kk : zS M G d mc ms k n hh sz (pc + 3) lv (v :: st) Post) : zS M G d mc ms k n hh sz pc lv (.ref a :: st) Post := by
  intro p l e R s m args below meth c Q hX hf hl hc hs hE H locs ls hW hS hL
  obtain ⟨hx, hb, hml, hown, hts, hr, hlk, hin, hK⟩ := id hX
  obtain ⟨q1, q2, q3, q4⟩ := (hq : zfn _ _ _ _)
  exact va_getN (D := G.2.1) (ci := ci) (v := v) (host := "WindowLetters") hx hb hts (zc_in q1) hown hK.1 (hW.one he) 0 rfl (zc_at q1) f q2 (va_Nw.use rfl (hK.2.2.2.2.2.1 _ q3)) (fun _ h9 => by rw [q4] at h9; exact h9) hv hd (kk p l e R s m args below meth c Q hX hf hl hc hs hE H locs ls hW hS hL)
theorem z_atset {D : va_G} {cl : List vw_C} {a ci f : Nat} {C : String} {T : u_T} {N : Nat} {fs : List Value} {v : Value} {cell : Cell} {H1 : Heap} (hc : cl[ci]? = some (C, T, N)) (q2 : cell.cls = D.1 ci) (q3 : cell.vm = .none) (q4 : ∀ k, k < N → cell.slots[D.2 ci k]? = some (vp_V fs k)) (hap : ∀ x y, x < N → y < N → x ≠ y → (D.2 ci) x ≠ (D.2 ci) y) (hf : f < N) (hl : f < fs.length) (e1 : H1[a]? = some (cell.setSlot (D.2 ci f) v)) : va_at D cl (a, .inr (ci, fs.set f v)) H1 :=
  ⟨_, hc, t_OB.to (V := updV (vp_V fs) f v) ⟨_, e1, q2, q3, t_set q4 hap hf v⟩ (fun j _ => vp_updV_set hl v j)⟩
theorem z_put {idx ci f a : Nat} {fs : List Value} {v : Value} (hd : decode M.2.1 pc = .ok (.putfield idx, 3)) (hq : zfw M.1 idx ci f) (he : hh a = some (.inr (ci, fs))) (hfin : ((zc ci).2.1 f).2.2.2 = false) (hn : narrow (zty ci f) v = v) (hfit : fits (zty ci f) v = true) (hl : f < fs.length) (kk : zS M G d mc ms k n (zup hh a (.inr (ci, fs.set f v))) sz (pc + 3) lv st Post) : zS M G d mc ms k n hh sz pc lv (v :: .ref a :: st) Post := by
  intro p l e R s m args below meth c Q hX hf hl9 hc hs hE H locs ls hW hS hL
  obtain ⟨hx, hb, hml, hown, hts, hr, hlk, hin, hK⟩ := id hX
  obtain ⟨q1, q2, q3, q4⟩ := (hq : zfw _ _ _ _)
  have hap := va_apart (own := M.1) hts (zc_in q1) (zty ci) (zty_ok q1) (zty_nm q1) hK.1 (zc_at q1)
  obtain ⟨r, h1, cell, g1, g2, g3, g4⟩ := (hW.2 a _ he).2
  have hr2 : r = ((zc ci).1, (zc ci).2.1, (zc ci).2.2) := Option.some.inj (h1.symm.trans (zc_at q1))
  subst hr2
  obtain ⟨hSl, hfc, kC, hkC, hkind⟩ := hK.1.1 ci _ (zc_at q1)
  obtain ⟨cf, kf, fi, fd, hi, hsl⟩ := hSl f q2
  have hlay := hts _ (zc_in q1 _ (u_in_lay q2))
  unfold u_lay at hlay
  rw [if_neg (by rw [hfin]; decide)] at hlay
  have hst := (u_facts hfc hkC (u_lays hts (zc_in q1) q2) hi).1
  have h6 := u_store hfc hkC hkind hlay hi (zty_ok q1 f q2) hn hfit
  refine W.putK hx hb (f := fd) ⟨hown, hts _ q3, ⟨_, _, _, q4 ▸ hi⟩, hst⟩ (by rw [g2]; exact h6) g1 g3 (by rw [hsl]; exact k2_hasslot (g4 f q2)) rfl rfl hd fun H' e1 e2 e3 => ?_
  rw [hsl] at e1 ⊢
  exact kk p l e R s m args below meth c Q hX hf hl9 hc hs hE H' _ ls (hW.set he (z_atset (zc_at q1) g2 g3 g4 hap q2 hl e1) e2 e3) (hS.put e2 e3 (hW.2 a _ he).1) hL
theorem z_putN {idx ci f a : Nat} {fs : List Value} {v : Value} (hd : decode M.2.1 pc = .ok (.putfield idx, 3)) (hq : zfn M.1 idx ci f) (he : hh a = some (.inr (ci, fs))) (hfin : ((zc ci).2.1 f).2.2.2 = false) (hn : narrow (zty ci f) v = v) (hfit : fits (zty ci f) v = true) (hl : f < fs.length) (kk : zS M G d mc ms k n (zup hh a (.inr (ci, fs.set f v))) sz (pc + 3) lv st Post) : zS M G d mc ms k n hh sz pc lv (v :: .ref a :: st) Post := by
  intro p l e R s m args below meth c Q hX hf hl9 hc hs hE H locs ls hW hS hL
  obtain ⟨hx, hb, hml, hown, hts, hr, hlk, hin, hK⟩ := id hX
  obtain ⟨q1, q2, q3, q4⟩ := (hq : zfn _ _ _ _)
  have hap := va_apart (own := M.1) hts (zc_in q1) (zty ci) (zty_ok q1) (zty_nm q1) hK.1 (zc_at q1)
  obtain ⟨r, h1, cell, g1, g2, g3, g4⟩ := (hW.2 a _ he).2
  have hr2 : r = ((zc ci).1, (zc ci).2.1, (zc ci).2.2) := Option.some.inj (h1.symm.trans (zc_at q1))
  subst hr2
  obtain ⟨hSl, hfc, kC, hkC, hkind⟩ := hK.1.1 ci _ (zc_at q1)
  obtain ⟨cf, kf, fi, fd, hi, hsl⟩ := hSl f q2
  have hlay := hts _ (zc_in q1 _ (u_in_lay q2))
  unfold u_lay at hlay
  rw [if_neg (by rw [hfin]; decide)] at hlay
  have hst := (u_facts hfc hkC (u_lays hts (zc_in q1) q2) hi).1
  have h6 := u_store hfc hkC hkind hlay hi (zty_ok q1 f q2) hn hfit
  refine va_WputK hx hb (f := fd) hown (va_Nw.use rfl (hK.2.2.2.2.2.1 _ q3)) (q4 ▸ hi) hst (by rw [g2]; exact h6) g1 g3 (by rw [hsl]; exact k2_hasslot (g4 f q2)) rfl rfl hd fun H' e1 e2 e3 => ?_
  rw [hsl] at e1 ⊢
  exact kk p l e R s m args below meth c Q hX hf hl9 hc hs hE H' _ ls (hW.set he (z_atset (zc_at q1) g2 g3 g4 hap q2 hl e1) e2 e3) (hS.put e2 e3 (hW.2 a _ he).1) hL
theorem z_putF {idx ci f a : Nat} {fs : List Value} {v : Value} (hd : decode M.2.1 pc = .ok (.putfield idx, 3)) (hq : zfw M.1 idx ci f) (he : hh a = some (.inr (ci, fs))) (hfin : ((zc ci).2.1 f).2.2.2 = true) (hini : M.2.2.2.2 = true) (hdecl : (zc ci).1 = M.1) (hn : narrow (zty ci f) v = v) (hfit : fits (zty ci f) v = true) (hl : f < fs.length) (kk : zS M G d mc ms k n (zup hh a (.inr (ci, fs.set f v))) sz (pc + 3) lv st Post) : zS M G d mc ms k n hh sz pc lv (v :: .ref a :: st) Post := by
  intro p l e R s m args below meth c Q hX hf hl9 hc hs hE H locs ls hW hS hL
  obtain ⟨hx, hb, hml, hown, hts, hr, hlk, hin, hK⟩ := id hX
  obtain ⟨q1, q2, q3, q4⟩ := (hq : zfw _ _ _ _)
  have hap := va_apart (own := M.1) hts (zc_in q1) (zty ci) (zty_ok q1) (zty_nm q1) hK.1 (zc_at q1)
  obtain ⟨r, h1, cell, g1, g2, g3, g4⟩ := (hW.2 a _ he).2
  have hr2 : r = ((zc ci).1, (zc ci).2.1, (zc ci).2.2) := Option.some.inj (h1.symm.trans (zc_at q1))
  subst hr2
  obtain ⟨hSl, hfc, kC, hkC, hkind⟩ := hK.1.1 ci _ (zc_at q1)
  obtain ⟨cf, kf, fi, fd, hi, hsl⟩ := hSl f q2
  have hlay := hts _ (zc_in q1 _ (u_in_lay q2))
  unfold u_lay at hlay
  rw [if_pos hfin] at hlay
  have hst := (u_facts hfc hkC (u_lays hts (zc_in q1) q2) hi).1
  have hcf : m.cls = cf := by
    obtain ⟨_, _, c', _, _, _, -, -, hf', -, -, -, hown2, -⟩ := Cond.laysFinal_spec hlay
    have e1 : c' = cf := by have := hi.symm.trans hf'; simp at this; exact this.1.symm
    rw [q4, hdecl] at hown2
    rw [← e1]; exact Option.some.inj (hown.symm.trans hown2)
  have h6 := u_fits hfc hkC hkind (Or.inr hlay) hi (zty_ok q1 f q2) hn hfit
  refine W.putFinK hx hb hown (hts _ q3) (q4 ▸ hi) hst hcf (hin hini) (by rw [g2]; exact h6) g1 g3 (by rw [hsl]; exact k2_hasslot (g4 f q2)) rfl rfl hd fun H' e1 e2 e3 => ?_
  rw [hsl] at e1 ⊢
  exact kk p l e R s m args below meth c Q hX hf hl9 hc hs hE H' _ ls (hW.set he (z_atset (zc_at q1) g2 g3 g4 hap q2 hl e1) e2 e3) (hS.put e2 e3 (hW.2 a _ he).1) hL
theorem z_iald {a N : Nat} {f : Nat → Int32} {x : Int32} (hd : decode M.2.1 pc = .ok (.iaload, 1)) (ha : hh a = some (.inl (G.2.2.1 0, N, .inl f))) (hi : vp_in x N) (kk : zS M G d mc ms k n hh sz (pc + 1) lv (.int (f x.toNatClampNeg) :: st) Post) : zS M G d mc ms k n hh sz pc lv (.int x :: .ref a :: st) Post := by
  intro p l e R s m args below meth c Q hX hf hl hc hs hE H locs ls hW hS hL
  obtain ⟨hx, hb, hml, hown, hts, hr, hlk, hin, hK⟩ := id hX
  exact va_iald hx hb hK.1 (hW.one ha) 0 0 rfl rfl hi hd (kk p l e R s m args below meth c Q hX hf hl hc hs hE H locs ls hW hS hL)
theorem z_cald {a N : Nat} {f : Nat → Int32} {x : Int32} (hd : decode M.2.1 pc = .ok (.caload, 1)) (ha : hh a = some (.inl (G.2.2.1 1, N, .inl f))) (hi : vp_in x N) (kk : zS M G d mc ms k n hh sz (pc + 1) lv (.int (f x.toNatClampNeg) :: st) Post) : zS M G d mc ms k n hh sz pc lv (.int x :: .ref a :: st) Post := by
  intro p l e R s m args below meth c Q hX hf hl hc hs hE H locs ls hW hS hL
  obtain ⟨hx, hb, hml, hown, hts, hr, hlk, hin, hK⟩ := id hX
  exact va_cald hx hb hK.1 (hW.one ha) 0 1 rfl rfl hi hd (kk p l e R s m args below meth c Q hX hf hl hc hs hE H locs ls hW hS hL)
theorem z_iast {a N : Nat} {f : Nat → Int32} {x y : Int32} (hd : decode M.2.1 pc = .ok (.iastore, 1)) (ha : hh a = some (.inl (G.2.2.1 0, N, .inl f))) (hi : vp_in x N) (kk : zS M G d mc ms k n (zup hh a (.inl (G.2.2.1 0, N, .inl (upd f x.toNatClampNeg (y))))) sz (pc + 1) lv st Post) : zS M G d mc ms k n hh sz pc lv (.int y :: .int x :: .ref a :: st) Post := by
  intro p l e R s m args below meth c Q hX hf hl hc hs hE H locs ls hW hS hL
  obtain ⟨hx, hb, hml, hown, hts, hr, hlk, hin, hK⟩ := id hX
  refine W.iast hx hb (hW.2 a _ ha).2 ((hK.1.2 0 _ rfl).1 N (fun j => .int (f j))) (fun q => by cases q) (by show ¬ (x < 0 ∨ (arrV _ _ _).slots.size ≤ _); rw [arrV_size]; exact hi) rfl rfl hd fun H1 e1 z oq => ?_
  refine kk p l e R s m args below meth c Q hX hf hl hc hs hE H1 _ ls (hW.set ha ?_ z oq) (hS.put z oq (hW.2 a _ ha).1) hL
  show H1[a]? = some (vp_cell _ _)
  rw [e1]
  rw [vp_cell_i, vp_cell_i, arrV_store]
  congr 2
  funext q
  by_cases hq : q = x.toNatClampNeg
  · subst hq
    simp [updV, upd, vp_nar]
    try rfl
  · simp [updV, upd, hq]
theorem z_cast {a N : Nat} {f : Nat → Int32} {x y : Int32} (hd : decode M.2.1 pc = .ok (.castore, 1)) (ha : hh a = some (.inl (G.2.2.1 1, N, .inl f))) (hi : vp_in x N) (kk : zS M G d mc ms k n (zup hh a (.inl (G.2.2.1 1, N, .inl (upd f x.toNatClampNeg (vp_nar .char y))))) sz (pc + 1) lv st Post) : zS M G d mc ms k n hh sz pc lv (.int y :: .int x :: .ref a :: st) Post := by
  intro p l e R s m args below meth c Q hX hf hl hc hs hE H locs ls hW hS hL
  obtain ⟨hx, hb, hml, hown, hts, hr, hlk, hin, hK⟩ := id hX
  refine W.cast hx hb (hW.2 a _ ha).2 ((hK.1.2 1 _ rfl).1 N (fun j => .int (f j))) (fun q => by cases q) (by show ¬ (x < 0 ∨ (arrV _ _ _).slots.size ≤ _); rw [arrV_size]; exact hi) rfl rfl hd fun H1 e1 z oq => ?_
  refine kk p l e R s m args below meth c Q hX hf hl hc hs hE H1 _ ls (hW.set ha ?_ z oq) (hS.put z oq (hW.2 a _ ha).1) hL
  show H1[a]? = some (vp_cell _ _)
  rw [e1]
  rw [vp_cell_i, vp_cell_i, arrV_store]
  congr 2
  funext q
  by_cases hq : q = x.toNatClampNeg
  · subst hq
    simp [updV, upd, vp_nar]
    try rfl
  · simp [updV, upd, hq]
theorem z_aald {a N t : Nat} {C : String} {f : Nat → Option Nat} {x : Int32} (hd : decode M.2.1 pc = .ok (.aaload, 1)) (ha : hh a = some (.inl (G.2.2.1 t, N, .inr (.inr (.inr (.inr f)))))) (ht : (zTys G)[t]? = some (G.2.2.1 t, .object C)) (hi : vp_in x N) (kk : zS M G d mc ms k n hh sz (pc + 1) lv (va_rf (f x.toNatClampNeg) :: st) Post) : zS M G d mc ms k n hh sz pc lv (.int x :: .ref a :: st) Post := by
  intro p l e R s m args below meth c Q hX hf hl hc hs hE H locs ls hW hS hL
  obtain ⟨hx, hb, hml, hown, hts, hr, hlk, hin, hK⟩ := id hX
  exact va_aldq hx hb hK.1 (hW.one ha) 0 t rfl ht hi hd (kk p l e R s m args below meth c Q hX hf hl hc hs hE H locs ls hW hS hL)
theorem z_aast {a N t v ci : Nat} {vs : List Value} {f : Nat → Option Nat} {x : Int32} (hd : decode M.2.1 pc = .ok (.aastore, 1)) (ha : hh a = some (.inl (G.2.2.1 t, N, .inr (.inr (.inr (.inr f)))))) (hci : ci < 7) (ht : (zTys G)[t]? = some (G.2.2.1 t, .object (zc ci).1)) (hv : hh v = some (.inr (ci, vs))) (hi : vp_in x N) (kk : zS M G d mc ms k n (zup hh a (.inl (G.2.2.1 t, N, .inr (.inr (.inr (.inr (va_up f x.toNatClampNeg (some v)))))))) sz (pc + 1) lv st Post) : zS M G d mc ms k n hh sz pc lv (.ref v :: .int x :: .ref a :: st) Post := by
  intro p l e R s m args below meth c Q hX hf hl hc hs hE H locs ls hW hS hL
  obtain ⟨hx, hb, hml, hown, hts, hr, hlk, hin, hK⟩ := id hX
  have hlt : x.toNatClampNeg < N := Nat.not_le.mp fun q => hi (Or.inr q)
  have h0 : ¬ x < 0 := fun q => hi (Or.inl q)
  obtain ⟨r', hr', cellV, g1, g2, g3, -⟩ := (hW.2 v _ hv).2
  have hcls := (hK.1.1 ci _ (zc_at hci)).2
  obtain ⟨kA, comp, k1, k2, k3, -⟩ := (hK.1.2 t _ ht).2
  have hcomp : comp = G.2.1.1 ci := Option.some.inj (k3.symm.trans hcls.1)
  subst hcomp
  obtain ⟨kC, hkC, -⟩ := hcls.2
  refine W.aast hx hb (hW.2 a _ ha).2 (fun q h => by cases h) (fun h => by cases h) k1 k2 rfl hkC ⟨h0, by show _ < (arrV _ _ _).slots.size; rw [arrV_size]; exact hlt⟩ g1 (fun q h => by rw [g3] at h; cases h) (by rw [g2]; exact hkC) (by rw [g2]; exact va_assign hcls) rfl rfl hd fun H1 e1 z oq => ?_
  refine kk p l e R s m args below meth c Q hX hf hl hc hs hE H1 _ ls (hW.set ha ?_ z oq) (hS.put z oq (hW.2 a _ ha).1) hL
  show H1[a]? = some (vp_cell _ _)
  rw [e1]
  rw [vp_cell_q, vp_cell_q, arrV_store]
  congr 2
  funext q
  by_cases hq : q = x.toNatClampNeg
  · subst hq
    simp [updV, va_up, va_rf]
  · simp [updV, va_up, hq]
theorem z_alen {a t : Nat} {ty : FieldType} {x : vp_A} {v : Int32} (hd : decode M.2.1 pc = .ok (.arraylength, 1)) (ha : hh a = some (.inl (G.2.2.1 t, x))) (ht : (zTys G)[t]? = some (G.2.2.1 t, ty)) (hv : Int32.ofNat x.1 = v) (kk : zS M G d mc ms k n hh sz (pc + 1) lv (.int v :: st) Post) : zS M G d mc ms k n hh sz pc lv (.ref a :: st) Post := by
  intro p l e R s m args below meth c Q hX hf hl hc hs hE H locs ls hW hS hL
  obtain ⟨hx, hb, hml, hown, hts, hr, hlk, hin, hK⟩ := id hX
  exact va_alen hx hb hK.1 (hW.one ha) 0 t rfl ht hv hd (kk p l e R s m args below meth c Q hX hf hl hc hs hE H locs ls hW hS hL)
theorem z_new {idx ci : Nat} {fs : List Value} (hd : decode M.2.1 pc = .ok (.new idx, 3)) (hq : ci < 7 ∧ Cond.classLink M.1 idx (zc ci).1 ∈ zT ∧ Cond.instantiable (zc ci).1 (zc ci).2.2 ∈ zT ∧ Cond.initialized (zc ci).1 ∈ zT) (hfs : ∀ j, j < (zc ci).2.2 → defaultValue (zty ci j) = vp_V fs j) (hk : k + 1 ≤ mc) (hn : n + (zc ci).2.2 ≤ ms) (kk : zS M G d mc ms (k + 1) (n + (zc ci).2.2) (zup hh sz (.inr (ci, fs))) (sz + 1) (pc + 3) lv (.ref sz :: st) Post) : zS M G d mc ms k n hh sz pc lv st Post := by
  intro p l e R s m args below meth c Q hX hf hl hc hs hE H locs ls hW hS hL
  obtain ⟨hx, hb, hml, hown, hts, hr, hlk, hin, hK⟩ := id hX
  obtain ⟨q1, q2, q3, q4⟩ := hq
  have hb1 : G.1 ≤ sz := by rw [← hW.1]; exact Nat.le_trans hK.2.2.2.2.2.2 hS.1
  have hcells : k + 1 ≤ R.cells := Nat.le_trans hk hc
  have hKn := hK.1.1 ci _ (zc_at q1)
  refine W.newcK hx hb hown (hts _ q2) (hts _ q3) (hts _ q4) rfl hd hcells (Nat.le_trans hn hs) hKn.2.1 hW.1 fun H1 kC hkC e1 z1 o1 => ?_
  refine kk p l e R s m args below meth c Q hX hf hl hc hs hE H1 locs ls (hW.push hb1 ⟨_, zc_at q1, (u_born (zty ci) hts (zc_in q1) hKn hkC e1 (zty_ok q1)).to hfs⟩ z1 o1) ⟨Nat.le_trans hS.1 (by rw [z1, hW.1]; omega), fun q g1 g2 => (o1 q (by rw [← hW.1]; exact Nat.lt_of_lt_of_le g1 hS.1)).trans (hS.2.1 q g1 g2), hS.2.2⟩ hL
theorem z_newI {x : Int32} {N : Nat} (hd : decode M.2.1 pc = .ok (.newarray .int, 2)) (hq : Cond.arrayClass .int ∈ zT) (h0 : ¬ x < 0) (hN : x.toNatClampNeg = N) (hsm : N * 8 ≤ 536870912) (hk : k + 1 ≤ mc) (hn : n + N ≤ ms) (kk : zS M G d mc ms (k + 1) (n + N) (zup hh sz (.inl (G.2.2.1 0, N, .inl (fun _ => 0)))) (sz + 1) (pc + 2) lv (.ref sz :: st) Post) : zS M G d mc ms k n hh sz pc lv (.int x :: st) Post := by
  intro p l e R s m args below meth c Q hX hf hl hc hs hE H locs ls hW hS hL
  obtain ⟨hx, hb, hml, hown, hts, hr, hlk, hin, hK⟩ := id hX
  have hb1 : G.1 ≤ sz := by rw [← hW.1]; exact Nat.le_trans hK.2.2.2.2.2.2 hS.1
  have hcells : k + 1 ≤ R.cells := Nat.le_trans hk hc
  have hsm2 : N * componentBytes (newarray.typeOf .int) ≤ 536870912 := Nat.le_trans (Nat.mul_le_mul_left _ (by decide)) hsm
  refine va_newaK (atype := .int) hx hb (hts _ hq) rfl hd rfl h0 hN hsm2 hcells (Nat.le_trans hn hs) hW.1 fun H1 cA e1 z1 o1 hAr hNm => ?_
  have hcA : cA = G.2.2.1 0 := Option.some.inj (hNm.symm.trans (hK.1.2 0 _ rfl).2)
  subst hcA
  refine kk p l e R s m args below meth c Q hX hf hl hc hs hE H1 locs ls (hW.push hb1 ?_ z1 o1) ⟨Nat.le_trans hS.1 (by rw [z1, hW.1]; omega), fun q g1 g2 => (o1 q (by rw [← hW.1]; exact Nat.lt_of_lt_of_le g1 hS.1)).trans (hS.2.1 q g1 g2), hS.2.2⟩ hL
  show H1[sz]? = some (vp_cell _ _)
  rw [vp_cell_i]
  exact e1
theorem z_newC {x : Int32} {N : Nat} (hd : decode M.2.1 pc = .ok (.newarray .char, 2)) (hq : Cond.arrayClass .char ∈ zT) (h0 : ¬ x < 0) (hN : x.toNatClampNeg = N) (hsm : N * 8 ≤ 536870912) (hk : k + 1 ≤ mc) (hn : n + N ≤ ms) (kk : zS M G d mc ms (k + 1) (n + N) (zup hh sz (.inl (G.2.2.1 1, N, .inl (fun _ => 0)))) (sz + 1) (pc + 2) lv (.ref sz :: st) Post) : zS M G d mc ms k n hh sz pc lv (.int x :: st) Post := by
  intro p l e R s m args below meth c Q hX hf hl hc hs hE H locs ls hW hS hL
  obtain ⟨hx, hb, hml, hown, hts, hr, hlk, hin, hK⟩ := id hX
  have hb1 : G.1 ≤ sz := by rw [← hW.1]; exact Nat.le_trans hK.2.2.2.2.2.2 hS.1
  have hcells : k + 1 ≤ R.cells := Nat.le_trans hk hc
  have hsm2 : N * componentBytes (newarray.typeOf .char) ≤ 536870912 := Nat.le_trans (Nat.mul_le_mul_left _ (by decide)) hsm
  refine va_newaK (atype := .char) hx hb (hts _ hq) rfl hd rfl h0 hN hsm2 hcells (Nat.le_trans hn hs) hW.1 fun H1 cA e1 z1 o1 hAr hNm => ?_
  have hcA : cA = G.2.2.1 1 := Option.some.inj (hNm.symm.trans (hK.1.2 1 _ rfl).2)
  subst hcA
  refine kk p l e R s m args below meth c Q hX hf hl hc hs hE H1 locs ls (hW.push hb1 ?_ z1 o1) ⟨Nat.le_trans hS.1 (by rw [z1, hW.1]; omega), fun q g1 g2 => (o1 q (by rw [← hW.1]; exact Nat.lt_of_lt_of_le g1 hS.1)).trans (hS.2.1 q g1 g2), hS.2.2⟩ hL
  show H1[sz]? = some (vp_cell _ _)
  rw [vp_cell_i]
  exact e1
theorem z_newR {x : Int32} {N idx t : Nat} {C : String} (hd : decode M.2.1 pc = .ok (.anewarray idx, 3)) (hq : Cond.classLink M.1 idx C ∈ zT) (hC : C = RX5 ∧ t = 3 ∨ C = RX4 ∧ t = 4 ∨ C = RX2 ∧ t = 5) (h0 : ¬ x < 0) (hN : x.toNatClampNeg = N) (hsm : N * 4 ≤ 536870912) (hk : k + 1 ≤ mc) (hn : n + N ≤ ms) (kk : zS M G d mc ms (k + 1) (n + N) (zup hh sz (.inl (G.2.2.1 t, N, .inr (.inr (.inr (.inr (fun _ => none))))))) (sz + 1) (pc + 3) lv (.ref sz :: st) Post) : zS M G d mc ms k n hh sz pc lv (.int x :: st) Post := by
  intro p l e R s m args below meth c Q hX hf hl hc hs hE H locs ls hW hS hL
  obtain ⟨hx, hb, hml, hown, hts, hr, hlk, hin, hK⟩ := id hX
  have hb1 : G.1 ≤ sz := by rw [← hW.1]; exact Nat.le_trans hK.2.2.2.2.2.2 hS.1
  have hcells : k + 1 ≤ R.cells := Nat.le_trans hk hc
  have hAO : va_AO C s := by
    obtain ⟨a1, a2, a3⟩ := hK.2.2.2.1
    rcases hC with ⟨rfl, -⟩ | ⟨rfl, -⟩ | ⟨rfl, -⟩
    · exact a1
    · exact a2
    · exact a3
  have hT : (zTys G)[t]? = some (G.2.2.1 t, .object C) := by
    rcases hC with ⟨rfl, rfl⟩ | ⟨rfl, rfl⟩ | ⟨rfl, rfl⟩ <;> rfl
  subst hN
  refine W.anew hx hb hown (hts _ hq) (va_AO.use hAO) rfl hd rfl h0 hsm hcells (Nat.le_trans hn hs) fun cA kA comp f1 f2 f3 f4 => ?_
  generalize hH1 : H.push ({ cls := cA, slots := Array.replicate x.toNatClampNeg .null, vm := .none } : Cell) = H1
  have z1 : H1.size = sz + 1 := by rw [← hH1, Array.size_push, hW.1]
  have e1 : H1[sz]? = some (arrV cA x.toNatClampNeg (fun _ => .null)) := by rw [← hH1, ← hW.1, Array.getElem?_push_size, ← arrV_new]
  have o1 : ∀ q : Nat, q < sz → H1[q]? = H[q]? := fun q hq => by rw [← hH1, Array.getElem?_push, if_neg (Nat.ne_of_lt (by rw [hW.1]; exact hq))]
  have hcA : cA = G.2.2.1 t := by
    obtain ⟨_, _, _, _, _, h4⟩ := (hK.1.2 t _ hT).2
    exact Option.some.inj (f1.symm.trans h4)
  subst hcA
  refine W.eq (g2 := F0 m (pc + 3) ls (.ref sz :: st)) (by rw [← hW.1]) ?_
  refine kk p l e R s m args below meth c Q hX hf hl hc hs hE H1 locs ls (hW.push hb1 ?_ z1 o1) ⟨Nat.le_trans hS.1 (by rw [z1, hW.1]; omega), fun q g1 g2 => (o1 q (by rw [← hW.1]; exact Nat.lt_of_lt_of_le g1 hS.1)).trans (hS.2.1 q g1 g2), hS.2.2⟩ hL
  show H1[sz]? = some (vp_cell _ _)
  rw [vp_cell_q]
  exact e1
end ZR

/-! calls -/
theorem z_good {w : Cond} (h : w ∈ zT) : (w.onTables && w.keeps) = true ∨ ∃ ty, w = .arrayClass ty := good_of_word (zT_good h)
theorem z_goodIn {y : MethodName} {cc : ByteArray} {nL : Nat} {ret : Option FieldType} (h : Cond.code y cc nL ret ∈ zT) : GoodIn zT (.code y cc nL ret :: zT) := by
  intro w hw
  rcases List.mem_cons.mp hw with rfl | hw
  · exact ⟨h, z_good h⟩
  · exact ⟨hw, z_good hw⟩
/-- the callee's start -/
theorem z_blind {G : zG} {hh : zH} {sz : Nat} {as : List Value} : FrameBlind (va_Pc as (fun U => zW G hh sz U.heap ∧ zK G U)) := fun _ _ _ _ q => ⟨q.1, q.2.1, q.2.2.calling⟩
theorem z_start {G : zG} {hh : zH} {sz : Nat} {s U : State} {H : Heap} {locs : List Loc} (hK : zK G s) (hW : zW G hh sz H) (hS : va_S (zA G) s.heap H locs) (e : U.heap = H) (hw : s.WarmedH U.vm) : zW G hh sz U.heap ∧ zK G U :=
  ⟨by rw [e]; exact hW, hK.to hw (by rw [e]; exact hS.1) (fun q h1 h2 => by rw [e]; exact hS.2.1 q h1 h2)⟩
/-- behind a call -/
theorem z_cont {p : Program} {l : Launch} {e : Env} {R : Room} {s : State} {m : MethodId} {args : Array Value} {below : List Frame} {meth : Method} {c : Code} {H : Heap} {locs : List Loc} {cells slots mc ms : Nat} {Q : State → Prop} {pc : Nat} {ls : Array Slot} {rest st0 : List Value} {G : zG} {Post : Option Value → zH → Nat → Prop}
    (hr : va_Run p l e R s m args below meth c H locs cells slots mc ms (F0 m pc ls st0) rest (fun st oc t => ∃ (r : Option Value) (hh' : zH) (sz' : Nat), oc = .returned r ∧ Post r hh' sz' ∧ zW G hh' sz' t.heap ∧ va_F (zA G) st t) (zA G)) (hS : va_S (zA G) s.heap H locs)
    (kk : ∀ (r : Option Value) (hh' : zH) (sz' : Nat) (H1 : Heap) (locs1 : List Loc), Post r hh' sz' → zW G hh' sz' H1 → va_S (zA G) s.heap H1 locs1 → W p l e R s m args below meth c H1 locs1 (cells + mc) (slots + ms) Q (F0 m (pc + 3) ls (r.toList ++ rest))) : W p l e R s m args below meth c H locs cells slots Q (F0 m pc ls st0) := by
  intro T hT X
  obtain ⟨v, st₀, t, T', L, h0, X', hL, e1, e2, ⟨r, hh', sz', hv, hp, hw, hz, hk⟩, st⟩ := hr T hT X
  cases hv
  rw [h0] at hz hk
  obtain ⟨t2, a1, b1⟩ := kk _ hh' sz' T'.heap (locs ++ L) hp (by rw [e1]; exact hw)
    ⟨Nat.le_trans hS.1 (by rw [e1]; exact hz), fun q h1 h2 => by rw [e1, hk q (Nat.lt_of_lt_of_le h1 hS.1) h2]; exact hS.2.1 q h1 h2, fun q hq => by
      rcases List.mem_append.mp hq with h | h
      · exact hS.2.2 q h
      · exact hL q h⟩ T' rfl X'
  exact ⟨t2, st t2 a1, b1⟩
theorem z_weight {p : Program} {m : MethodId} {pc : Nat} {ls : Array Slot} {rest st : List Value} (h : (st.map fun v => v.category).sum ≤ 8) : 2 * (F0 m pc ls rest).monitorRoom + (st.map fun v => v.category).sum ≤ 8 := lv_room h
def zpar (y : MethodName) (n : Nat) : Prop := y.cls ≠ "java/lang/invoke/MethodHandle" ∧ y.cls ≠ "java/lang/invoke/VarHandle" ∧ (parseMethodDescriptor y.desc).map (fun d => d.parameters.length) = some n
section ZCALL
variable {M : zM} {G : zG} {d mc ms k n : Nat} {hh : zH} {sz : Nat} {pc : Nat} {lv : List (Option Value)} {rest : List Value} {Post : Option Value → zH → Nat → Nat → Nat → Prop}
variable {y : MethodName} {My : zM} {idx d' mc' ms' : Nat} {as : List Value} {P' : Option Value → zH → Nat → Prop}
theorem z_callS (hC : zC G d' My y as hh sz mc' ms' P') (hd : decode M.2.1 pc = .ok (.invokestatic idx, 3)) (hq : Cond.methodLink M.1 idx y ∈ zT ∧ Cond.code y My.2.1 My.2.2.1 My.2.2.2.1 ∈ zT ∧ Cond.initialized y.cls ∈ zT ∧ Cond.static y ∈ zT) (hroom : d' + 1 ≤ d ∧ My.2.2.1 ≤ 12) (hpar : zpar y as.length) (hwt : (rest.map fun v => v.category).sum ≤ 8) (hk : k + mc' ≤ mc) (hn : n + ms' ≤ ms) (kk : ∀ (r : Option Value) (hh' : zH) (sz' : Nat), P' r hh' sz' → zS M G d mc ms (k + mc') (n + ms') hh' sz' (pc + 3) lv (r.toList ++ rest) Post) {st : List Value} (hst : st = as.reverse ++ rest) : zS M G d mc ms k n hh sz pc lv st Post := by
  intro p l e R s m args below meth c Q hX hf hl hc hs hE H locs ls hW hS hL
  obtain ⟨hx, hb, hml, hown, hts, hr, hlk, hin, hK⟩ := id hX
  have hR : ({ frames := d', cells := mc', slots := ms', locals := 31 * d' } : Room).frames + 1 ≤ R.frames ∧ 8 + (My.2.2.1 + 11) + ({ frames := d', cells := mc', slots := ms', locals := 31 * d' } : Room).locals ≤ R.locals := ⟨by show d' + 1 ≤ _; omega, by show 8 + (My.2.2.1 + 11) + 31 * d' ≤ _; omega⟩
  subst hst
  obtain ⟨q1, q2, q3, q4⟩ := hq
  exact z_cont (va_runS (As := as) (rest := rest) ⟨hx, hb, hml, hown, fun w hw => hts w hw⟩ (hC l) ⟨callB_of (ws' := zT) as.length hts (z_goodIn q2) rfl rfl rfl (hts _ q3) (hts _ q1) hpar hR, hts _ q4⟩ ⟨z_blind, fun U hU hw => ⟨rfl, z_start hK hW hS hU hw⟩⟩ rfl rfl hL.size rfl (lv_room hwt) hd ⟨Nat.le_trans hk hc, Nat.le_trans hn hs⟩) hS (fun r hh1 sz1 H1 locs1 hp hW1 hS1 => kk r hh1 sz1 hp p l e R s m args below meth c Q hX hf hl hc hs hE H1 locs1 ls hW1 hS1 hL)
theorem z_callSN (hC : zC G d' My y as hh sz mc' ms' P') (hd : decode M.2.1 pc = .ok (.invokestatic idx, 3)) (hq : Cond.methodLinkNest M.1 idx y "WindowLetters" ∈ zN ∧ Cond.code y My.2.1 My.2.2.1 My.2.2.2.1 ∈ zT ∧ Cond.initialized y.cls ∈ zT ∧ Cond.static y ∈ zT) (hroom : d' + 1 ≤ d ∧ My.2.2.1 ≤ 12) (hpar : zpar y as.length) (hwt : (rest.map fun v => v.category).sum ≤ 8) (hk : k + mc' ≤ mc) (hn : n + ms' ≤ ms) (kk : ∀ (r : Option Value) (hh' : zH) (sz' : Nat), P' r hh' sz' → zS M G d mc ms (k + mc') (n + ms') hh' sz' (pc + 3) lv (r.toList ++ rest) Post) {st : List Value} (hst : st = as.reverse ++ rest) : zS M G d mc ms k n hh sz pc lv st Post := by
  intro p l e R s m args below meth c Q hX hf hl hc hs hE H locs ls hW hS hL
  obtain ⟨hx, hb, hml, hown, hts, hr, hlk, hin, hK⟩ := id hX
  have hR : ({ frames := d', cells := mc', slots := ms', locals := 31 * d' } : Room).frames + 1 ≤ R.frames ∧ 8 + (My.2.2.1 + 11) + ({ frames := d', cells := mc', slots := ms', locals := 31 * d' } : Room).locals ≤ R.locals := ⟨by show d' + 1 ≤ _; omega, by show 8 + (My.2.2.1 + 11) + 31 * d' ≤ _; omega⟩
  subst hst
  obtain ⟨q1, q2, q3, q4⟩ := hq
  exact z_cont (va_runSN (As := as) (rest := rest) ⟨hx, hb, hml, hown, fun w hw => hts w hw⟩ (hC l) ⟨va_cnB (ws' := zT) as.length hts (z_goodIn q2) rfl rfl rfl (hK.2.2.2.2.2.1 _ q1) (hts _ q3) hpar hR, hts _ q4, trivial⟩ ⟨z_blind, fun U hU hw => ⟨rfl, z_start hK hW hS hU hw⟩⟩ rfl rfl hL.size rfl (lv_room hwt) hd ⟨Nat.le_trans hk hc, Nat.le_trans hn hs⟩) hS (fun r hh1 sz1 H1 locs1 hp hW1 hS1 => kk r hh1 sz1 hp p l e R s m args below meth c Q hX hf hl hc hs hE H1 locs1 ls hW1 hS1 hL)
theorem z_callV {ci b : Nat} {fs : List Value} (hC : zC G d' My y (.ref b :: as) hh sz mc' ms' P') (hd : decode M.2.1 pc = .ok (.invokevirtual idx, 3)) (hq : Cond.methodLink M.1 idx y ∈ zT ∧ Cond.code y My.2.1 My.2.2.1 My.2.2.2.1 ∈ zT ∧ Cond.initialized y.cls ∈ zT ∧ Cond.instanceMethod y ∈ zT ∧ Cond.selects (zc ci).1 y y ∈ zT ∧ ci < 7) (he : hh b = some (.inr (ci, fs))) (hroom : d' + 1 ≤ d ∧ My.2.2.1 ≤ 12) (hpar : zpar y as.length) (hwt : (rest.map fun v => v.category).sum ≤ 8) (hk : k + mc' ≤ mc) (hn : n + ms' ≤ ms) (kk : ∀ (r : Option Value) (hh' : zH) (sz' : Nat), P' r hh' sz' → zS M G d mc ms (k + mc') (n + ms') hh' sz' (pc + 3) lv (r.toList ++ rest) Post) {st : List Value} (hst : st = as.reverse ++ .ref b :: rest) : zS M G d mc ms k n hh sz pc lv st Post := by
  intro p l e R s m args below meth c Q hX hf hl hc hs hE H locs ls hW hS hL
  obtain ⟨hx, hb, hml, hown, hts, hr, hlk, hin, hK⟩ := id hX
  have hR : ({ frames := d', cells := mc', slots := ms', locals := 31 * d' } : Room).frames + 1 ≤ R.frames ∧ 8 + (My.2.2.1 + 11) + ({ frames := d', cells := mc', slots := ms', locals := 31 * d' } : Room).locals ≤ R.locals := ⟨by show d' + 1 ≤ _; omega, by show 8 + (My.2.2.1 + 11) + 31 * d' ≤ _; omega⟩
  subst hst
  obtain ⟨q1, q2, q3, q4, q5, q6⟩ := hq
  exact z_cont (va_runV (C := (zc ci).1) (As := as) (rest := rest) ⟨hx, hb, hml, hown, fun w hw => hts w hw⟩ (hC l) ⟨callB_of (ws' := zT) as.length hts (z_goodIn q2) rfl rfl rfl (hts _ q3) (hts _ q1) hpar hR, hts _ q4, hts _ q5⟩ ⟨z_blind, va_recv hK.1 (hW.one he) (ci := ci) (q0 := 0) (zc_at q6) rfl, fun U hU hw => ⟨rfl, z_start hK hW hS hU hw⟩⟩ rfl rfl hL.size rfl (lv_room hwt) hd ⟨Nat.le_trans hk hc, Nat.le_trans hn hs⟩) hS (fun r hh1 sz1 H1 locs1 hp hW1 hS1 => kk r hh1 sz1 hp p l e R s m args below meth c Q hX hf hl hc hs hE H1 locs1 ls hW1 hS1 hL)
theorem z_callVN {ci b : Nat} {fs : List Value} (hC : zC G d' My y (.ref b :: as) hh sz mc' ms' P') (hd : decode M.2.1 pc = .ok (.invokevirtual idx, 3)) (hq : Cond.methodLinkNest M.1 idx y "WindowLetters" ∈ zN ∧ Cond.code y My.2.1 My.2.2.1 My.2.2.2.1 ∈ zT ∧ Cond.initialized y.cls ∈ zT ∧ Cond.instanceMethod y ∈ zT ∧ Cond.selects (zc ci).1 y y ∈ zT ∧ ci < 7) (he : hh b = some (.inr (ci, fs))) (hroom : d' + 1 ≤ d ∧ My.2.2.1 ≤ 12) (hpar : zpar y as.length) (hwt : (rest.map fun v => v.category).sum ≤ 8) (hk : k + mc' ≤ mc) (hn : n + ms' ≤ ms) (kk : ∀ (r : Option Value) (hh' : zH) (sz' : Nat), P' r hh' sz' → zS M G d mc ms (k + mc') (n + ms') hh' sz' (pc + 3) lv (r.toList ++ rest) Post) {st : List Value} (hst : st = as.reverse ++ .ref b :: rest) : zS M G d mc ms k n hh sz pc lv st Post := by
  intro p l e R s m args below meth c Q hX hf hl hc hs hE H locs ls hW hS hL
  obtain ⟨hx, hb, hml, hown, hts, hr, hlk, hin, hK⟩ := id hX
  have hR : ({ frames := d', cells := mc', slots := ms', locals := 31 * d' } : Room).frames + 1 ≤ R.frames ∧ 8 + (My.2.2.1 + 11) + ({ frames := d', cells := mc', slots := ms', locals := 31 * d' } : Room).locals ≤ R.locals := ⟨by show d' + 1 ≤ _; omega, by show 8 + (My.2.2.1 + 11) + 31 * d' ≤ _; omega⟩
  subst hst
  obtain ⟨q1, q2, q3, q4, q5, q6⟩ := hq
  exact z_cont (va_runVN (C := (zc ci).1) (As := as) (rest := rest) ⟨hx, hb, hml, hown, fun w hw => hts w hw⟩ (hC l) ⟨va_cnB (ws' := zT) as.length hts (z_goodIn q2) rfl rfl rfl (hK.2.2.2.2.2.1 _ q1) (hts _ q3) hpar hR, hts _ q4, hts _ q5⟩ ⟨z_blind, va_recv hK.1 (hW.one he) (ci := ci) (q0 := 0) (zc_at q6) rfl, fun U hU hw => ⟨rfl, z_start hK hW hS hU hw⟩⟩ rfl rfl hL.size rfl (lv_room hwt) hd ⟨Nat.le_trans hk hc, Nat.le_trans hn hs⟩) hS (fun r hh1 sz1 H1 locs1 hp hW1 hS1 => kk r hh1 sz1 hp p l e R s m args below meth c Q hX hf hl hc hs hE H1 locs1 ls hW1 hS1 hL)
theorem z_callI {b : Nat} (hC : zC G d' My y (.ref b :: as) hh sz mc' ms' P') (hd : decode M.2.1 pc = .ok (.invokespecial idx, 3)) (hq : Cond.methodLink M.1 idx y ∈ zT ∧ Cond.code y My.2.1 My.2.2.1 none ∈ zT ∧ Cond.initialized y.cls ∈ zT ∧ Cond.instanceMethod y ∈ zT ∧ y.name = "<init>") (hret : My.2.2.2.1 = none) (hroom : d' + 1 ≤ d ∧ My.2.2.1 ≤ 12) (hpar : zpar y as.length) (hwt : (rest.map fun v => v.category).sum ≤ 8) (hk : k + mc' ≤ mc) (hn : n + ms' ≤ ms) (kk : ∀ (r : Option Value) (hh' : zH) (sz' : Nat), P' r hh' sz' → zS M G d mc ms (k + mc') (n + ms') hh' sz' (pc + 3) lv (r.toList ++ rest) Post) {st : List Value} (hst : st = as.reverse ++ .ref b :: rest) : zS M G d mc ms k n hh sz pc lv st Post := by
  intro p l e R s m args below meth c Q hX hf hl hc hs hE H locs ls hW hS hL
  obtain ⟨hx, hb, hml, hown, hts, hr, hlk, hin, hK⟩ := id hX
  have hR : ({ frames := d', cells := mc', slots := ms', locals := 31 * d' } : Room).frames + 1 ≤ R.frames ∧ 8 + (My.2.2.1 + 11) + ({ frames := d', cells := mc', slots := ms', locals := 31 * d' } : Room).locals ≤ R.locals := ⟨by show d' + 1 ≤ _; omega, by show 8 + (My.2.2.1 + 11) + 31 * d' ≤ _; omega⟩
  subst hst
  obtain ⟨q1, q2, q3, q4, q5⟩ := hq
  exact z_cont (va_runI (As := as) (rest := rest) ⟨hx, hb, hml, hown, fun w hw => hts w hw⟩ (show Met l y (.code y My.2.1 My.2.2.1 none :: zT) _ _ _ _ _ _ from by rw [← hret]; exact hC l) ⟨callB_of (ws' := zT) as.length hts (z_goodIn q2) rfl rfl rfl (hts _ q3) (hts _ q1) hpar hR, q5, hts _ q4⟩ ⟨z_blind, fun U hU hw => ⟨rfl, z_start hK hW hS hU hw⟩⟩ rfl rfl hL.size rfl (lv_room hwt) hd ⟨Nat.le_trans hk hc, Nat.le_trans hn hs⟩) hS (fun r hh1 sz1 H1 locs1 hp hW1 hS1 => kk r hh1 sz1 hp p l e R s m args below meth c Q hX hf hl hc hs hE H1 locs1 ls hW1 hS1 hL)
theorem z_callIN {b : Nat} (hC : zC G d' My y (.ref b :: as) hh sz mc' ms' P') (hd : decode M.2.1 pc = .ok (.invokespecial idx, 3)) (hq : Cond.methodLinkNest M.1 idx y "WindowLetters" ∈ zN ∧ Cond.code y My.2.1 My.2.2.1 none ∈ zT ∧ Cond.initialized y.cls ∈ zT ∧ Cond.instanceMethod y ∈ zT ∧ y.name = "<init>") (hret : My.2.2.2.1 = none) (hroom : d' + 1 ≤ d ∧ My.2.2.1 ≤ 12) (hpar : zpar y as.length) (hwt : (rest.map fun v => v.category).sum ≤ 8) (hk : k + mc' ≤ mc) (hn : n + ms' ≤ ms) (kk : ∀ (r : Option Value) (hh' : zH) (sz' : Nat), P' r hh' sz' → zS M G d mc ms (k + mc') (n + ms') hh' sz' (pc + 3) lv (r.toList ++ rest) Post) {st : List Value} (hst : st = as.reverse ++ .ref b :: rest) : zS M G d mc ms k n hh sz pc lv st Post := by
  intro p l e R s m args below meth c Q hX hf hl hc hs hE H locs ls hW hS hL
  obtain ⟨hx, hb, hml, hown, hts, hr, hlk, hin, hK⟩ := id hX
  have hR : ({ frames := d', cells := mc', slots := ms', locals := 31 * d' } : Room).frames + 1 ≤ R.frames ∧ 8 + (My.2.2.1 + 11) + ({ frames := d', cells := mc', slots := ms', locals := 31 * d' } : Room).locals ≤ R.locals := ⟨by show d' + 1 ≤ _; omega, by show 8 + (My.2.2.1 + 11) + 31 * d' ≤ _; omega⟩
  subst hst
  obtain ⟨q1, q2, q3, q4, q5⟩ := hq
  exact z_cont (va_runIN (As := as) (rest := rest) ⟨hx, hb, hml, hown, fun w hw => hts w hw⟩ (show Met l y (.code y My.2.1 My.2.2.1 none :: zT) _ _ _ _ _ _ from by rw [← hret]; exact hC l) ⟨va_cnB (ws' := zT) as.length hts (z_goodIn q2) rfl rfl rfl (hK.2.2.2.2.2.1 _ q1) (hts _ q3) hpar hR, q5, hts _ q4⟩ ⟨z_blind, fun U hU hw => ⟨rfl, z_start hK hW hS hU hw⟩⟩ rfl rfl hL.size rfl (lv_room hwt) hd ⟨Nat.le_trans hk hc, Nat.le_trans hn hs⟩) hS (fun r hh1 sz1 H1 locs1 hp hW1 hS1 => kk r hh1 sz1 hp p l e R s m args below meth c Q hX hf hl hc hs hE H1 locs1 ls hW1 hS1 hL)
end ZCALL
section ZOI
variable {M : zM} {G : zG} {d mc ms k n : Nat} {hh : zH} {sz : Nat} {pc : Nat} {lv : List (Option Value)} {rest : List Value} {Post : Option Value → zH → Nat → Nat → Nat → Prop}
theorem z_objInit {idx b : Nat} (hd : decode M.2.1 pc = .ok (.invokespecial idx, 3)) (hq : Cond.methodLink M.1 idx objectInit ∈ zT ∧ Cond.instanceMethod objectInit ∈ zT ∧ Cond.code objectInit ⟨#[0xb1]⟩ 1 none ∈ zT) (h1 : 1 ≤ d) (hwt : (rest.map fun v => v.category).sum ≤ 8) (kk : zS M G d mc ms k n hh sz (pc + 3) lv rest Post) : zS M G d mc ms k n hh sz pc lv (.ref b :: rest) Post := by
  intro p l e R s m args below meth c Q hX hf hl hc hs hE H locs ls hW hS hL
  obtain ⟨hx, hb, hml, hown, hts, hr, hlk, hin, hK⟩ := id hX
  have hw : 2 * (F0 m pc ls (Value.ref b :: rest)).monitorRoom + (rest.map fun v => v.category).sum ≤ 8 := lv_room hwt
  exact W.objInit hx hb hown (hts _ hq.1) (hts _ hq.2.1) (hts _ hq.2.2) rfl (by rw [hml]; exact hL.size) rfl hd (by omega) (by omega) (kk p l e R s m args below meth c Q hX hf hl hc hs hE H locs ls hW hS hL)
end ZOI
