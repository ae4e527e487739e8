abbrev MJ9_floorMod_7cf53 : zM := (RJ9, cJ9_floorMod_7cf53, 3, some .int, false)
theorem zp_J9_floorMod_7cf53 : zpar yJ9_floorMod_7cf53 2 := ⟨by decide +kernel, by decide +kernel, by decide +kernel⟩
theorem Met.ofWF {l : Launch} {y : MethodName} {ws ws' : List Cond} {rm : Room} {Pc : Array Value → State → Prop} {Qc : Array Value → State → Outcome → State → Prop} {mc ms : Nat} {free : Addr → Prop} {cc : ByteArray} {maxL : Nat} {ret : Option FieldType}
    (hy : plainFor y = true) (hw : ws = Cond.code y cc maxL ret :: ws')
    (body : ∀ p e s m args below meth c s₁, BodyLoose p l y (headSpec ws rm) cc maxL ret e s m args below meth c s₁ → c.maxLocals = maxL → Pc args s →
      W p l e (headSpec ws rm).room s m args below meth c s.heap [] 0 0 (MQ below Qc args s mc ms free) (entryFrame m args maxL)) : Met l y ws rm Pc Qc mc ms free := by
  refine MetFree.of_bodySF (code := cc) (maxLocals := maxL) (ret := ret) hy ?_ ?_
  · intro args s m h hn
    obtain ⟨meth, c, h1, h2, h3, h4, h5, h6, -, -⟩ := Cond.code_spec hn (atoms_spec (ws := ws) h _ (by rw [hw]; exact List.mem_cons_self))
    exact ⟨meth, c, h1, h2, h3, h4, h5, h6⟩
  · intro p e s m args below meth c s₁ B hml hP _
    have hh0 : s₁.heap = s.heap := by rw [B.state]; rfl
    obtain ⟨t, a1, o, b1, b2, b3⟩ := body p e s m args below meth c s₁ B hml hP s₁ hh0 (Stand.of_body B)
    exact ⟨t, o, a1, b1, b2, ⟨b3.1, b3.2⟩⟩
theorem z_introF {G : zG} {d : Nat} {M : zM} {y : MethodName} {as : List Value} {hh : zH} {sz mc ms : Nat} {Post : Option Value → zH → Nat → Prop} (lv : List (Option Value)) (hlv : zl0 as ++ List.replicate (M.2.2.1 - (zl0 as).length) none = lv) (hy : (plainFor y && (y.cls == M.1) && (!M.2.2.2.2 || y.name == "<init>")) = true) (hn : (lg_sl as).length ≤ M.2.2.1)
    (h : zS M G d mc ms 0 0 hh sz 0 lv [] (fun r h' s' k' n' => Post r h' s' ∧ k' ≤ mc ∧ n' ≤ ms)) : zC G d M y as hh sz mc ms Post := by
  intro l
  simp only [Bool.and_eq_true, beq_iff_eq] at hy
  obtain ⟨⟨hy1, hy2⟩, hy3⟩ := hy
  refine Met.ofWF (cc := M.2.1) (maxL := M.2.2.1) (ret := M.2.2.2.1) hy1 rfl ?_
  intro p e s m args below meth c s₁ B hml hv
  obtain ⟨rfl, hW, hK⟩ := hv
  have hx := B.exec
  have hb := B.bytes
  have hr := B.returns
  have hts := atoms_spec B.pre
  have hown : s.vm.findClass y.cls = some m.cls := findClass_of_methodNamed B.named
  have hlocks := B.notSynchronized
  have hX : zX p s m as.toArray meth c M G := by
    refine ⟨hx, hb, hml, hy2 ▸ hown, fun w hw => hts w (List.mem_cons_of_mem _ hw), hr, hlocks, fun hi => ?_, hK⟩
    have e1 := (name_of_methodNamed B.named B.method).1
    rw [hi] at hy3
    simp at hy3
    rw [e1]; exact hy3
  have hS : va_S (zA G) s.heap s.heap [] := va_S.rf
  have hl := lv_entry as (n := M.2.2.1) hn
  rw [lg_entry_eq]
  generalize (lg_sl as ++ List.replicate (M.2.2.1 - (lg_sl as).length) Slot.unset).toArray = ls at hl ⊢
  have hL : zL ls M.2.2.1 lv := by
    intro l1 hl1
    refine ⟨hl.1, hl.2.1, fun q hq => hl.2.2 q ?_⟩
    have h1 := hl1 q hq
    rw [← hlv] at h1
    have h2 := zl0_mem as _ 0 q.1 q.2 h1
    rwa [Nat.zero_add] at h2
  refine h p l e _ s m as.toArray below meth c _ hX (Nat.le_refl _) (Nat.le_refl _) (Nat.le_refl _) (Nat.le_refl _) ?_ s.heap [] ls hW hS hL
  intro r hh' sz' k' n' H' locs' pc' ls' hp hW' hS' hE
  obtain ⟨hp, hk', hn'⟩ := hp
  refine W.widen (k := mc) (n := ms) hk' hn' ?_
  rcases hE with ⟨e1, e2, e3⟩ | ⟨v, ty, e1, e2, e3, e4⟩ | ⟨v, C, e1, e2, e3, e4⟩
  · subst e1
    exact W.vret hx hb (hr.trans e2) (fun t ht hWm => ⟨none, hh', sz', rfl, hp, by rw [ht]; exact hW', hS'.F ht⟩) hS'.2.2 e3
  · subst e1
    exact W.zret hx hb (hr.trans e2) e3 (fun t ht hWm => ⟨_, hh', sz', rfl, hp, by rw [ht]; exact hW', hS'.F ht⟩) hS'.2.2 e4
  · subst e1
    exact W.aret hx hb (hr.trans e2) (Or.inl ⟨C, rfl⟩) e3 (fun t ht hWm => ⟨_, hh', sz', rfl, hp, by rw [ht]; exact hW', hS'.F ht⟩) hS'.2.2 e4


theorem zy_J9_floorMod_7cf53 : (plainFor yJ9_floorMod_7cf53 && (yJ9_floorMod_7cf53.cls == MJ9_floorMod_7cf53.1) && (!MJ9_floorMod_7cf53.2.2.2.2 || yJ9_floorMod_7cf53.name == "<init>")) = true := by decide +kernel
theorem fm_pos {a : Nat} (h : a < 2 ^ 31) : 0 ≤ nI a ^^^ nI 6 := by
  have e : nI a ^^^ nI 6 = nI (a ^^^ 6) := by
    apply Int32.toBitVec_inj.mp
    show BitVec.ofNat 32 a ^^^ BitVec.ofNat 32 6 = BitVec.ofNat 32 (a ^^^ 6)
    rw [BitVec.ofNat_xor]
  rw [e]
  exact nI_pos' (Nat.xor_lt_two_pow h (by omega))
set_option maxHeartbeats 4000000 in
set_option maxRecDepth 100000 in
theorem kn_floorMod {G : zG} {hh : zH} {sz : Nat} {a : Nat} (ha : a < 2 ^ 31) : zC G 0 MJ9_floorMod_7cf53 yJ9_floorMod_7cf53 [.int (nI a), .int (nI 6)] hh sz 0 0 (zR (.int (nI (a % 6))) hh sz) := by
  refine z_introF _ rfl zy_J9_floorMod_7cf53 (Nat.le_of_ble_eq_true rfl) ?_
  refine z_iload_n dJ9_floorMod_7cf53_0 rfl ?_
  refine z_iload_n dJ9_floorMod_7cf53_1 rfl ?_
  refine z_iremN dJ9_floorMod_7cf53_2 (by omega) (by omega) (by omega) ?_
  refine z_istore_n dJ9_floorMod_7cf53_3 (by decide) rfl rfl ?_
  refine z_iload_n dJ9_floorMod_7cf53_4 rfl ?_
  refine z_iload_n dJ9_floorMod_7cf53_5 rfl ?_
  refine z_ixor dJ9_floorMod_7cf53_6 ?_
  refine z_if_ge (tgt := 18) dJ9_floorMod_7cf53_7 (by decide) (fun c_7 => ?_) (fun c_7 => absurd c_7 (not_not_intro (fm_pos ha)))
  refine z_iload_n dJ9_floorMod_7cf53_18 rfl ?_
  exact z_iretR dJ9_floorMod_7cf53_19 rfl rfl rfl rfl (Nat.le_refl _) (Nat.le_refl _)
