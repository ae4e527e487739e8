def R_law : String := "WindowLettersLaw"
def lw_P (b : Addr) (xs : List Int32) (args : Array Value) (s : State) : Prop := args = #[.ref b] ∧ s.IntsAt b xs ∧ xs.length ≤ 260 ∧ (Jvm.Cond.and given_1 narrow_1).before args s = true
def lw_Q (_ : Array Value) (s : State) (o : Outcome) (t : State) : Prop := o = .returned (some (.int 1)) ∧ Framed s o t [] 690083 7031998
def lw_Z (below : List Frame) (a : Array Value) (s : State) : State → Prop := fun t => ∃ o, t.status = .running ∧ Ended t below o ∧ lw_Q a s o t
/-- the law's own end, with 1 on the stack, nothing written that was there before, its room as the claim has it -/
theorem lw_ret {p : Program} {l : Launch} {e : Env} {s : State} {m : MethodId} {below : List Frame} {meth : Method} {c : Code} {b : Nat} (hx : p.tables.exec = Jvm.exec) (hb : c.code = code) (hr : meth.sig.returnType = ret) (hlocks : meth.locks = false) {pc : Nat} {H : Heap} {ls : Array Slot} (hdg : decode code pc = .ok (.ireturn, 1)) : W p l e room_1 s m #[Value.ref b] below meth c H [] 690083 7031998 (lw_Z below #[Value.ref b] s) (F0 m pc ls [.int 1]) := by
  intro T hT X
  obtain ⟨fs, hret, hrun, hended, hW, hframe⟩ := X.leave (v := some (.int 1)) (hlocks := hlocks) (fun h => by rw [hr] at h; cases h)
  have hmeth' : T.vm.method? m = some meth := X.method'
  refine ⟨T.setFrames fs, ?_, .returned (some (.int 1)), hrun, hended, rfl, ⟨_, rfl⟩, hW, hframe⟩
  jvm_step X.here [X.here.top, hx, hb, hdg, hmeth', hr, ret, narrow_b1]
  (try refine ⟨rfl, ?_⟩); (try refine ⟨rfl, ?_⟩)
  first | (intro acts; rw [hret _ acts rfl rfl rfl]) | rw [hret _ _ rfl rfl rfl]
  exact Steps.refl _
/-- what holds at the law's entry: the machine, the code, the tables' words (any of lw_tbl by 'hts w (by decide +kernel)'), the script of L ints xs at the cell b, what the Statement gives of the start (any of its parts by flat_of_before) -/
def lw_At (p : Program) (s : State) (m : MethodId) (meth : Method) (c : Code) (b L : Nat) (xs : Nat → Int32) : Prop :=
  p.tables.exec = Jvm.exec ∧ c.code = code ∧ meth.sig.returnType = ret ∧ c.maxLocals = 7 ∧ s.vm.findClass R_law = some m.cls ∧ (∀ w ∈ lw_tbl, w.before #[Value.ref b] s = true) ∧ va_X b L xs s s.heap ∧ b < s.heap.size ∧ meth.locks = false ∧ (Jvm.Cond.and given_1 narrow_1).before #[Value.ref b] s = true
theorem zq_lays_rows : (Jvm.Cond.laysStatic "WindowLetters" "LETTER_ROWS" "[I") ∈ lw_tbl := List.mem_append_right _ (List.mem_append_left _ (List.mem_of_getElem? (i := 51) rfl))
theorem zq_over4 : (Jvm.Cond.arrayOver (Jvm.ClassFile.FieldType.object "WindowLetters$Sheet")) ∈ lw_tbl := List.mem_append_right _ (List.mem_append_left _ (List.mem_of_getElem? (i := 64) rfl))
theorem zq_over2 : (Jvm.Cond.arrayOver (Jvm.ClassFile.FieldType.object "WindowLetters$Piece")) ∈ lw_tbl := List.mem_append_right _ (List.mem_append_left _ (List.mem_of_getElem? (i := 66) rfl))
theorem zq_over5 : (Jvm.Cond.arrayOver (Jvm.ClassFile.FieldType.object "WindowLetters$Shop")) ∈ lw_tbl := List.mem_append_right _ (List.mem_append_left _ (List.mem_of_getElem? (i := 155) rfl))
theorem zq_str : (Jvm.Cond.stringRef "WindowLetters$Pad" (29 : Nat) "ilotuehs") ∈ lw_tbl := List.mem_append_right _ (List.mem_append_right _ (List.mem_append_left _ (List.mem_of_getElem? (i := 183) rfl)))
theorem zq_lays_cs : (Jvm.Cond.laysStatic "java/lang/String" "COMPACT_STRINGS" "Z") ∈ lw_tbl := List.mem_append_right _ (List.mem_append_right _ (List.mem_append_left _ (List.mem_of_getElem? (i := 197) rfl)))
theorem zK_cls {s : State} {args : Array Value} (hts : ∀ w ∈ zT, w.before args s = true) : ∃ D : va_G, ∀ (c : Nat) (q : vw_C), vwCl[c]? = some q → u_Kn s q.1 q.2.1 q.2.2 (D.1 c) (D.2 c) := by
  have h : ∀ k : Nat, ∃ q : ClassId × (Nat → Nat), k < 7 → u_Kn s (zc k).1 (zc k).2.1 (zc k).2.2 q.1 q.2 := by
    intro k
    by_cases hk : k < 7
    · have hi : ∃ n : Nat, (Cond.instantiable (zc k).1 n).before args s = true := by
        match k, hk with
        | 0, _ => exact ⟨4, hts _ zm_157⟩
        | 1, _ => exact ⟨2, hts _ zm_178⟩
        | 2, _ => exact ⟨7, hts _ zm_90⟩
        | 3, _ => exact ⟨1, hts _ zm_24⟩
        | 4, _ => exact ⟨4, hts _ zm_67⟩
        | 5, _ => exact ⟨6, hts _ zm_58⟩
        | 6, _ => exact ⟨7, hts _ zm_16⟩
      obtain ⟨n, hn⟩ := hi
      obtain ⟨cC, iS, hq⟩ := u_known hts (zc_in hk) hn
      exact ⟨(cC, iS), fun _ => hq⟩
    · exact ⟨(0, fun _ => 0), fun z => absurd z hk⟩
  obtain ⟨f, hf⟩ := Classical.axiomOfChoice h
  refine ⟨(fun k => (f k).1, fun k => (f k).2), fun c q hq => ?_⟩
  have hc : c < 7 := (List.getElem?_eq_some_iff.mp hq).1
  have e := (zc_at hc).symm.trans hq
  cases e
  exact hf c hc
theorem zK_prim {s : State} {args : Array Value} {ty : FieldType} (hne : ∀ C, ty ≠ .object C) (h : (Cond.arrayClass ty).before args s = true) : ∃ cA : ClassId, ArrOfT s cA ty ∧ va_RA s cA ty := by
  obtain ⟨c, k, comp, h1, h2, h3⟩ := Cond.arrayClass_spec h
  refine ⟨c, fun N z => ⟨(fun k h => by cases h), k, h2, comp, h3⟩, ?_⟩
  cases ty with
  | object C => exact absurd rfl (hne C)
  | _ => exact h1
theorem zK_ref {s : State} {args : Array Value} {C : String} (h : (Cond.arrayOver (.object C)).before args s = true) : ∃ cA : ClassId, ArrOfT s cA (.object C) ∧ va_RA s cA (.object C) := by
  obtain ⟨comp, c, k, h1, h2, h3, h4, h5⟩ := Cond.arrayOver_spec h
  exact ⟨c, fun N z => ⟨(fun k h => by cases h), k, h3, comp, h4⟩, k, comp, h3, h4, h1, h5⟩
set_option maxHeartbeats 4000000 in
set_option maxRecDepth 100000 in
theorem zK_rows {s : State} {args : Array Value} (h : (Jvm.Cond.and given_1 narrow_1).before args s = true) : ∀ j : Nat, j < 40 → (Cond.eq (.elem (.static "WindowLetters" "LETTER_ROWS" "[I") (.int (Int32.ofNat j))) (.int (zRows j))).before args s = true := by
  have hs := flat_of_before _ h
  intro j hj
  match j, hj with
  | 0, _ => exact hs (Cond.eq (.elem (.static "WindowLetters" "LETTER_ROWS" "[I") (.int 0)) (.int 2)) (by decide +kernel)
  | 1, _ => exact hs (Cond.eq (.elem (.static "WindowLetters" "LETTER_ROWS" "[I") (.int 1)) (.int 2)) (by decide +kernel)
  | 2, _ => exact hs (Cond.eq (.elem (.static "WindowLetters" "LETTER_ROWS" "[I") (.int 2)) (.int 2)) (by decide +kernel)
  | 3, _ => exact hs (Cond.eq (.elem (.static "WindowLetters" "LETTER_ROWS" "[I") (.int 3)) (.int 2)) (by decide +kernel)
  | 4, _ => exact hs (Cond.eq (.elem (.static "WindowLetters" "LETTER_ROWS" "[I") (.int 4)) (.int 2)) (by decide +kernel)
  | 5, _ => exact hs (Cond.eq (.elem (.static "WindowLetters" "LETTER_ROWS" "[I") (.int 5)) (.int 4)) (by decide +kernel)
  | 6, _ => exact hs (Cond.eq (.elem (.static "WindowLetters" "LETTER_ROWS" "[I") (.int 6)) (.int 4)) (by decide +kernel)
  | 7, _ => exact hs (Cond.eq (.elem (.static "WindowLetters" "LETTER_ROWS" "[I") (.int 7)) (.int 4)) (by decide +kernel)
  | 8, _ => exact hs (Cond.eq (.elem (.static "WindowLetters" "LETTER_ROWS" "[I") (.int 8)) (.int 4)) (by decide +kernel)
  | 9, _ => exact hs (Cond.eq (.elem (.static "WindowLetters" "LETTER_ROWS" "[I") (.int 9)) (.int 7)) (by decide +kernel)
  | 10, _ => exact hs (Cond.eq (.elem (.static "WindowLetters" "LETTER_ROWS" "[I") (.int 10)) (.int 7)) (by decide +kernel)
  | 11, _ => exact hs (Cond.eq (.elem (.static "WindowLetters" "LETTER_ROWS" "[I") (.int 11)) (.int 5)) (by decide +kernel)
  | 12, _ => exact hs (Cond.eq (.elem (.static "WindowLetters" "LETTER_ROWS" "[I") (.int 12)) (.int 5)) (by decide +kernel)
  | 13, _ => exact hs (Cond.eq (.elem (.static "WindowLetters" "LETTER_ROWS" "[I") (.int 13)) (.int 5)) (by decide +kernel)
  | 14, _ => exact hs (Cond.eq (.elem (.static "WindowLetters" "LETTER_ROWS" "[I") (.int 14)) (.int 7)) (by decide +kernel)
  | 15, _ => exact hs (Cond.eq (.elem (.static "WindowLetters" "LETTER_ROWS" "[I") (.int 15)) (.int 7)) (by decide +kernel)
  | 16, _ => exact hs (Cond.eq (.elem (.static "WindowLetters" "LETTER_ROWS" "[I") (.int 16)) (.int 2)) (by decide +kernel)
  | 17, _ => exact hs (Cond.eq (.elem (.static "WindowLetters" "LETTER_ROWS" "[I") (.int 17)) (.int 2)) (by decide +kernel)
  | 18, _ => exact hs (Cond.eq (.elem (.static "WindowLetters" "LETTER_ROWS" "[I") (.int 18)) (.int 2)) (by decide +kernel)
  | 19, _ => exact hs (Cond.eq (.elem (.static "WindowLetters" "LETTER_ROWS" "[I") (.int 19)) (.int 2)) (by decide +kernel)
  | 20, _ => exact hs (Cond.eq (.elem (.static "WindowLetters" "LETTER_ROWS" "[I") (.int 20)) (.int 5)) (by decide +kernel)
  | 21, _ => exact hs (Cond.eq (.elem (.static "WindowLetters" "LETTER_ROWS" "[I") (.int 21)) (.int 5)) (by decide +kernel)
  | 22, _ => exact hs (Cond.eq (.elem (.static "WindowLetters" "LETTER_ROWS" "[I") (.int 22)) (.int 5)) (by decide +kernel)
  | 23, _ => exact hs (Cond.eq (.elem (.static "WindowLetters" "LETTER_ROWS" "[I") (.int 23)) (.int 5)) (by decide +kernel)
  | 24, _ => exact hs (Cond.eq (.elem (.static "WindowLetters" "LETTER_ROWS" "[I") (.int 24)) (.int 7)) (by decide +kernel)
  | 25, _ => exact hs (Cond.eq (.elem (.static "WindowLetters" "LETTER_ROWS" "[I") (.int 25)) (.int 7)) (by decide +kernel)
  | 26, _ => exact hs (Cond.eq (.elem (.static "WindowLetters" "LETTER_ROWS" "[I") (.int 26)) (.int 4)) (by decide +kernel)
  | 27, _ => exact hs (Cond.eq (.elem (.static "WindowLetters" "LETTER_ROWS" "[I") (.int 27)) (.int 7)) (by decide +kernel)
  | 28, _ => exact hs (Cond.eq (.elem (.static "WindowLetters" "LETTER_ROWS" "[I") (.int 28)) (.int 4)) (by decide +kernel)
  | 29, _ => exact hs (Cond.eq (.elem (.static "WindowLetters" "LETTER_ROWS" "[I") (.int 29)) (.int 7)) (by decide +kernel)
  | 30, _ => exact hs (Cond.eq (.elem (.static "WindowLetters" "LETTER_ROWS" "[I") (.int 30)) (.int 5)) (by decide +kernel)
  | 31, _ => exact hs (Cond.eq (.elem (.static "WindowLetters" "LETTER_ROWS" "[I") (.int 31)) (.int 5)) (by decide +kernel)
  | 32, _ => exact hs (Cond.eq (.elem (.static "WindowLetters" "LETTER_ROWS" "[I") (.int 32)) (.int 7)) (by decide +kernel)
  | 33, _ => exact hs (Cond.eq (.elem (.static "WindowLetters" "LETTER_ROWS" "[I") (.int 33)) (.int 5)) (by decide +kernel)
  | 34, _ => exact hs (Cond.eq (.elem (.static "WindowLetters" "LETTER_ROWS" "[I") (.int 34)) (.int 5)) (by decide +kernel)
  | 35, _ => exact hs (Cond.eq (.elem (.static "WindowLetters" "LETTER_ROWS" "[I") (.int 35)) (.int 7)) (by decide +kernel)
  | 36, _ => exact hs (Cond.eq (.elem (.static "WindowLetters" "LETTER_ROWS" "[I") (.int 36)) (.int 4)) (by decide +kernel)
  | 37, _ => exact hs (Cond.eq (.elem (.static "WindowLetters" "LETTER_ROWS" "[I") (.int 37)) (.int 7)) (by decide +kernel)
  | 38, _ => exact hs (Cond.eq (.elem (.static "WindowLetters" "LETTER_ROWS" "[I") (.int 38)) (.int 1)) (by decide +kernel)
  | 39, _ => exact hs (Cond.eq (.elem (.static "WindowLetters" "LETTER_ROWS" "[I") (.int 39)) (.int 7)) (by decide +kernel)
  | k + 40, hk => exact absurd hk (by omega)
set_option maxHeartbeats 4000000 in
set_option maxRecDepth 100000 in
theorem zK_signs {s : State} {args : Array Value} (h : (Jvm.Cond.and given_1 narrow_1).before args s = true) : ∀ j : Nat, j < 8 → (Cond.eq (.elem (.field (.string "WindowLetters$Pad" 29) "java/lang/String" "value" "[B") (.int (Int32.ofNat j))) (.int (([105, 108, 111, 116, 117, 101, 104, 115] : List Int32).getD j 0))).before args s = true := by
  have hs := flat_of_before _ h
  intro j hj
  match j, hj with
  | 0, _ => exact hs (Cond.eq (.elem (.field (.string "WindowLetters$Pad" 29) "java/lang/String" "value" "[B") (.int 0)) (.int 105)) (by decide +kernel)
  | 1, _ => exact hs (Cond.eq (.elem (.field (.string "WindowLetters$Pad" 29) "java/lang/String" "value" "[B") (.int 1)) (.int 108)) (by decide +kernel)
  | 2, _ => exact hs (Cond.eq (.elem (.field (.string "WindowLetters$Pad" 29) "java/lang/String" "value" "[B") (.int 2)) (.int 111)) (by decide +kernel)
  | 3, _ => exact hs (Cond.eq (.elem (.field (.string "WindowLetters$Pad" 29) "java/lang/String" "value" "[B") (.int 3)) (.int 116)) (by decide +kernel)
  | 4, _ => exact hs (Cond.eq (.elem (.field (.string "WindowLetters$Pad" 29) "java/lang/String" "value" "[B") (.int 4)) (.int 117)) (by decide +kernel)
  | 5, _ => exact hs (Cond.eq (.elem (.field (.string "WindowLetters$Pad" 29) "java/lang/String" "value" "[B") (.int 5)) (.int 101)) (by decide +kernel)
  | 6, _ => exact hs (Cond.eq (.elem (.field (.string "WindowLetters$Pad" 29) "java/lang/String" "value" "[B") (.int 6)) (.int 104)) (by decide +kernel)
  | 7, _ => exact hs (Cond.eq (.elem (.field (.string "WindowLetters$Pad" 29) "java/lang/String" "value" "[B") (.int 7)) (.int 115)) (by decide +kernel)
set_option maxHeartbeats 4000000 in
set_option maxRecDepth 100000 in
theorem zK_start {s : State} {args : Array Value} (hts : ∀ w ∈ lw_tbl, w.before args s = true) (h : (Jvm.Cond.and given_1 narrow_1).before args s = true) : ∃ G : zG, G.1 = s.heap.size ∧ zK G s := by
  have hs := flat_of_before _ h
  have ht2 : ∀ w ∈ zT, w.before args s = true := fun w hw => hts w (zT_sub w hw)
  have hA : ∀ a : Nat, a < s.heap.size → ¬ s.heap.size ≤ a := fun a h1 h2 => absurd h1 (Nat.not_lt.mpr h2)
  obtain ⟨D, hD⟩ := zK_cls ht2
  obtain ⟨c0, a0, b0⟩ := zK_prim (ty := .int) (fun C e => by cases e) (ht2 _ zm_56)
  obtain ⟨c1, a1, b1⟩ := zK_prim (ty := .char) (fun C e => by cases e) (ht2 _ zm_192)
  obtain ⟨c3, a3, b3⟩ := zK_ref (C := RX5) (hts _ zq_over5)
  obtain ⟨c4, a4, b4⟩ := zK_ref (C := RX4) (hts _ zq_over4)
  obtain ⟨c5, a5, b5⟩ := zK_ref (C := RX2) (hts _ zq_over2)
  obtain ⟨t, et, hT⟩ := va_Tof (tm := .static "WindowLetters" "LETTER_ROWS" "[I") (ty := .int) (N := 40) (f := fun j => .int (zRows j)) (A := fun a => s.heap.size ≤ a) (by decide) (hs _ (by decide +kernel)) (va_eqt (hs (Cond.eq (.length (.static "WindowLetters" "LETTER_ROWS" "[I")) (.int 40)) (by decide +kernel))) (fun j hj => va_eqt (zK_rows h j hj)) hA
  have hZ : va_Z RX6 "LETTER_ROWS" "[I" (.ref t) (fun a => s.heap.size ≤ a) s s.heap := va_Zref (hts _ zq_lays_rows) (ht2 _ zm_1) et hA
  have hZc : va_Z "java/lang/String" "COMPACT_STRINGS" "Z" (.int 1) (fun a => s.heap.size ≤ a) s s.heap := va_Zof (hts _ zq_lays_cs) (ht2 _ zm_10) (va_eqi (hs _ (by decide +kernel))) hA
  have ex : (Cond.exactly (.string "WindowLetters$Pad" 29) "java/lang/String").before args s = true := hs _ (by decide +kernel)
  have co : (Cond.eq (.field (.string "WindowLetters$Pad" 29) "java/lang/String" "coder" "B") (.int 0)).before args s = true := hs _ (by decide +kernel)
  have ar : (Cond.arrayOf (.field (.string "WindowLetters$Pad" 29) "java/lang/String" "value" "[B") .byte).before args s = true := hs _ (by decide +kernel)
  have le : (Cond.eq (.length (.field (.string "WindowLetters$Pad" 29) "java/lang/String" "value" "[B")) (.int 8)).before args s = true := hs _ (by decide +kernel)
  have one : ∀ i : Nat, i < 1 → i = 0 := fun i hi => by omega
  obtain ⟨adK, adV, hS, hE⟩ := vk_Sof (N := 1) (tm := fun _ => .string "WindowLetters$Pad" 29) (len := [8]) (byt := [[105, 108, 111, 116, 117, 101, 104, 115]]) (A := fun a => s.heap.size ≤ a) (args := args) (s := s)
    (fun i hi => by rw [one i hi]; decide) (fun i hi => ex) (fun i hi => co) (fun i hi => ar) (fun i hi => by rw [one i hi]; exact le) (fun i hi j hj => by rw [one i hi] at hj ⊢; exact zK_signs h j hj) (fun i j hi hj hij => absurd ((one i hi).trans (one j hj).symm) hij) hA
  refine ⟨(s.heap.size, D, fun k => match k with | 0 => c0 | 1 => c1 | 2 => c0 | 3 => c3 | 4 => c4 | _ => c5, t, adK 0, adV 0), rfl, ⟨hD, ?_⟩, hZ, hT, ⟨va_AO.of (hts _ zq_over5), va_AO.of (hts _ zq_over4), va_AO.of (hts _ zq_over2)⟩, ⟨vk_R.of (hts _ zq_str) (hE 0 (by decide)), ?_, hZc⟩, ?_, Nat.le_refl _⟩
  · intro k q hq
    have hk : k < 6 := (List.getElem?_eq_some_iff.mp hq).1
    match k, hk, hq with
    | 0, _, hq => cases hq; exact ⟨a0, b0⟩
    | 1, _, hq => cases hq; exact ⟨a1, b1⟩
    | 2, _, hq => cases hq; exact ⟨a0, b0⟩
    | 3, _, hq => cases hq; exact ⟨a3, b3⟩
    | 4, _, hq => cases hq; exact ⟨a4, b4⟩
    | 5, _, hq => cases hq; exact ⟨a5, b5⟩
  · refine ⟨fun i hi => ?_, fun i j hi hj _ => (one i hi).trans (one j hj).symm⟩
    have q := hS.1 0 (by decide)
    rw [one i hi]
    exact q
  · intro w hw
    have hw2 := List.mem_filter.mp hw
    refine va_Nw.of ?_ (hts w hw2.1)
    have hn := hw2.2
    cases w <;> first | rfl | (exfalso; simp [zisNest] at hn; done)
