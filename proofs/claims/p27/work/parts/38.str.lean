section
variable {M : zM} {G : zG} {d mc ms k n : Nat} {hh : zH} {sz pc : Nat} {lv : List (Option Value)} {st : List Value} {Post : Option Value → zH → Nat → Nat → Nat → Prop}
/-- the bytes of the letters' text -/
def sgT : Nat → Int32 := fun j => ([105, 108, 111, 116, 117, 101, 104, 115] : List Int32).getD j 0
theorem z_ldcS  (hd : decode M.2.1 pc = .ok (.ldc 29, 2)) (hM : M.1 = RX1) (kk : zS M G d mc ms k n hh sz (pc + 2) lv (.ref G.2.2.2.2.1 :: st) Post) : zS M G d mc ms k n hh sz pc lv (st) Post := by
  intro p l e R s m args below meth c Q hX hf hl hc hs hE H locs ls hW hS hL
  obtain ⟨hx, hb, hml, hown, hts, hr, hlk, hin, hK⟩ := id hX
  exact va_ldcS (own := RX1) hx hb (by rw [← hM]; exact hown) hK.2.2.2.2.1.1 hd (kk p l e R s m args below meth c Q hX hf hl hc hs hE H locs ls hW hS hL)
theorem z_coder {idx : Nat} (hd : decode M.2.1 pc = .ok (.getfield idx, 3)) (hq : Cond.fieldLink M.1 idx "java/lang/String" "coder" "B" ∈ zT) (kk : zS M G d mc ms k n hh sz (pc + 3) lv (.int 0 :: st) Post) : zS M G d mc ms k n hh sz pc lv (.ref G.2.2.2.2.1 :: st) Post := by
  intro p l e R s m args below meth c Q hX hf hl hc hs hE H locs ls hW hS hL
  obtain ⟨hx, hb, hml, hown, hts, hr, hlk, hin, hK⟩ := id hX
  exact vk_getf hx hb (hK.2.2.2.2.1.2.1.1 0 (by decide)).2.1 hS hown (hts _ hq) (fun _ h => h) hd (kk p l e R s m args below meth c Q hX hf hl hc hs hE H locs ls hW hS hL)
theorem z_value {idx : Nat} (hd : decode M.2.1 pc = .ok (.getfield idx, 3)) (hq : Cond.fieldLink M.1 idx "java/lang/String" "value" "[B" ∈ zT) (kk : zS M G d mc ms k n hh sz (pc + 3) lv (.ref G.2.2.2.2.2 :: st) Post) : zS M G d mc ms k n hh sz pc lv (.ref G.2.2.2.2.1 :: st) Post := by
  intro p l e R s m args below meth c Q hX hf hl hc hs hE H locs ls hW hS hL
  obtain ⟨hx, hb, hml, hown, hts, hr, hlk, hin, hK⟩ := id hX
  exact vk_getf hx hb (hK.2.2.2.2.1.2.1.1 0 (by decide)).2.2.1 hS hown (hts _ hq) (fun _ h => h) hd (kk p l e R s m args below meth c Q hX hf hl hc hs hE H locs ls hW hS hL)
theorem z_compact {idx : Nat} (hd : decode M.2.1 pc = .ok (.getstatic idx, 3)) (hq : Cond.fieldLink M.1 idx "java/lang/String" "COMPACT_STRINGS" "Z" ∈ zT) (kk : zS M G d mc ms k n hh sz (pc + 3) lv (.int 1 :: st) Post) : zS M G d mc ms k n hh sz pc lv (st) Post := by
  intro p l e R s m args below meth c Q hX hf hl hc hs hE H locs ls hW hS hL
  obtain ⟨hx, hb, hml, hown, hts, hr, hlk, hin, hK⟩ := id hX
  exact va_gets hx hb hK.2.2.2.2.1.2.2 hS hown (hts _ hq) (fun _ h => h) hd (kk p l e R s m args below meth c Q hX hf hl hc hs hE H locs ls hW hS hL)
theorem z_rowsN {idx : Nat} (hd : decode M.2.1 pc = .ok (.getstatic idx, 3)) (hq : Cond.fieldLinkNest M.1 idx RX6 "LETTER_ROWS" "[I" "WindowLetters" ∈ zN) (kk : zS M G d mc ms k n hh sz (pc + 3) lv (.ref G.2.2.2.1 :: st) Post) : zS M G d mc ms k n hh sz pc lv (st) Post := by
  intro p l e R s m args below meth c Q hX hf hl hc hs hE H locs ls hW hS hL
  obtain ⟨hx, hb, hml, hown, hts, hr, hlk, hin, hK⟩ := id hX
  exact va_getsN (host := "WindowLetters") hx hb hK.2.1 hS hown (va_Nw.use rfl (hK.2.2.2.2.2.1 _ hq)) (fun _ h => h) hd (kk p l e R s m args below meth c Q hX hf hl hc hs hE H locs ls hW hS hL)
theorem z_tai {j : Nat} {x : Int32} (hd : decode M.2.1 pc = .ok (.iaload, 1)) (hx0 : x = nI j) (hj : j < 40) (kk : zS M G d mc ms k n hh sz (pc + 1) lv (.int (zRows j) :: st) Post) : zS M G d mc ms k n hh sz pc lv (.int x :: .ref G.2.2.2.1 :: st) Post := by
  subst hx0
  intro p l e R s m args below meth c Q hX hf hl hc hs hE H locs ls hW hS hL
  obtain ⟨hx, hb, hml, hown, hts, hr, hlk, hin, hK⟩ := id hX
  exact va_ti hx hb hK.2.2.1 hS (vp_in_nI hj (by omega)) (by rw [nI_clamp (by omega)]) hd (kk p l e R s m args below meth c Q hX hf hl hc hs hE H locs ls hW hS hL)
theorem z_tab {j : Nat} {x : Int32} (hd : decode M.2.1 pc = .ok (.baload, 1)) (hx0 : x = nI j) (hj : j < 8) (kk : zS M G d mc ms k n hh sz (pc + 1) lv (.int (sgT j) :: st) Post) : zS M G d mc ms k n hh sz pc lv (.int x :: .ref G.2.2.2.2.2 :: st) Post := by
  subst hx0
  intro p l e R s m args below meth c Q hX hf hl hc hs hE H locs ls hW hS hL
  obtain ⟨hx, hb, hml, hown, hts, hr, hlk, hin, hK⟩ := id hX
  exact va_tb (N := 8) (v := .int (sgT j)) hx hb (hK.2.2.2.2.1.2.1.1 0 (by decide)).2.2.2 hS (vp_in_nI hj (by omega)) (by rw [nI_clamp (by omega)]; rfl) hd (kk p l e R s m args below meth c Q hX hf hl hc hs hE H locs ls hW hS hL)
theorem z_tlen  (hd : decode M.2.1 pc = .ok (.arraylength, 1))  (kk : zS M G d mc ms k n hh sz (pc + 1) lv (.int (nI 8) :: st) Post) : zS M G d mc ms k n hh sz pc lv (.ref G.2.2.2.2.2 :: st) Post := by
  intro p l e R s m args below meth c Q hX hf hl hc hs hE H locs ls hW hS hL
  obtain ⟨hx, hb, hml, hown, hts, hr, hlk, hin, hK⟩ := id hX
  exact va_tlen (v := nI 8) hx hb (hK.2.2.2.2.1.2.1.1 0 (by decide)).2.2.2 hS rfl hd (kk p l e R s m args below meth c Q hX hf hl hc hs hE H locs ls hW hS hL)
theorem z_i2b {x : Int32} (hd : decode M.2.1 pc = .ok (.i2b, 1))  (kk : zS M G d mc ms k n hh sz (pc + 1) lv (.int x.toInt8.toInt32 :: st) Post) : zS M G d mc ms k n hh sz pc lv (.int x :: st) Post := by
  intro p l e R s m args below meth c Q hX hf hl hc hs hE H locs ls hW hS hL
  obtain ⟨hx, hb, hml, hown, hts, hr, hlk, hin, hK⟩ := id hX
  exact lv_i2b hx hb hd rfl (kk p l e R s m args below meth c Q hX hf hl hc hs hE H locs ls hW hS hL)
theorem z_callStr {idx d' mc' ms' : Nat} {My : zM} {y : MethodName} {as rest : List Value} {P' : Option Value → zH → Nat → Prop} (hC : zC G d' My y (.ref G.2.2.2.2.1 :: as) hh sz mc' ms' P') (hd : decode M.2.1 pc = .ok (.invokevirtual idx, 3)) (hq : Cond.methodLink M.1 idx y ∈ zT ∧ Cond.code y My.2.1 My.2.2.1 My.2.2.2.1 ∈ zT ∧ Cond.initialized y.cls ∈ zT ∧ Cond.instanceMethod y ∈ zT ∧ Cond.selects "java/lang/String" y y ∈ zT) (hroom : d' + 1 ≤ d ∧ My.2.2.1 ≤ 12) (hpar : zpar y as.length) (hwt : (rest.map fun v => v.category).sum ≤ 8) (hk : k + mc' ≤ mc) (hn : n + ms' ≤ ms) (kk : ∀ (r : Option Value) (hh' : zH) (sz' : Nat), P' r hh' sz' → zS M G d mc ms (k + mc') (n + ms') hh' sz' (pc + 3) lv (r.toList ++ rest) Post) {st : List Value} (hst : st = as.reverse ++ .ref G.2.2.2.2.1 :: rest) : zS M G d mc ms k n hh sz pc lv st Post := by
  intro p l e R s m args below meth c Q hX hf hl hc hs hE H locs ls hW hS hL
  obtain ⟨hx, hb, hml, hown, hts, hr, hlk, hin, hK⟩ := id hX
  have hR : ({ frames := d', cells := mc', slots := ms', locals := 31 * d' } : Room).frames + 1 ≤ R.frames ∧ 8 + (My.2.2.1 + 11) + ({ frames := d', cells := mc', slots := ms', locals := 31 * d' } : Room).locals ≤ R.locals := ⟨by show d' + 1 ≤ _; omega, by show 8 + (My.2.2.1 + 11) + 31 * d' ≤ _; omega⟩
  subst hst
  obtain ⟨q1, q2, q3, q4, q5⟩ := hq
  exact z_cont (va_runV (C := "java/lang/String") (As := as) (rest := rest) ⟨hx, hb, hml, hown, fun w hw => hts w hw⟩ (hC l) ⟨callB_of (ws' := zT) as.length hts (z_goodIn q2) rfl rfl rfl (hts _ q3) (hts _ q1) hpar hR, hts _ q4, hts _ q5⟩ ⟨z_blind, vk_recv hK.2.2.2.2.1.2.1 (i := 0) (by decide) hS, fun U hU hw => ⟨rfl, z_start hK hW hS hU hw⟩⟩ rfl rfl hL.size rfl (lv_room hwt) hd ⟨Nat.le_trans hk hc, Nat.le_trans hn hs⟩) hS (fun r hh1 sz1 H1 locs1 hp hW1 hS1 => kk r hh1 sz1 hp p l e R s m args below meth c Q hX hf hl hc hs hE H1 locs1 ls hW1 hS1 hL)
theorem z_callStrR {idx d' mc' ms' : Nat} {My : zM} {y : MethodName} {as rest : List Value} {x : Value} {hh' : zH} {sz' : Nat} (hC : zC G d' My y (.ref G.2.2.2.2.1 :: as) hh sz mc' ms' (zR x hh' sz')) (hd : decode M.2.1 pc = .ok (.invokevirtual idx, 3)) (hq : Cond.methodLink M.1 idx y ∈ zT ∧ Cond.code y My.2.1 My.2.2.1 My.2.2.2.1 ∈ zT ∧ Cond.initialized y.cls ∈ zT ∧ Cond.instanceMethod y ∈ zT ∧ Cond.selects "java/lang/String" y y ∈ zT) (hroom : d' + 1 ≤ d ∧ My.2.2.1 ≤ 12) (hpar : zpar y as.length) {st : List Value} (hst : st = as.reverse ++ .ref G.2.2.2.2.1 :: rest) (hwt : (rest.map fun v => v.category).sum ≤ 8) (hk : k + mc' ≤ mc) (hn : n + ms' ≤ ms) (kk : zS M G d mc ms (k + mc') (n + ms') hh' sz' (pc + 3) lv (x :: rest) Post) : zS M G d mc ms k n hh sz pc lv st Post :=
  z_callStr hC hd hq hroom hpar hwt hk hn (fun r h1 s1 hp => by obtain ⟨rfl, rfl, rfl⟩ := hp; exact kk) hst
end
abbrev MJ0_coder_7d493 : zM := (RJ0, cJ0_coder_7d493, 1, some .byte, false)
theorem zy_J0_coder_7d493 : (plainName yJ0_coder_7d493.cls && (yJ0_coder_7d493.cls == MJ0_coder_7d493.1) && (!MJ0_coder_7d493.2.2.2.2 || yJ0_coder_7d493.name == "<init>")) = true := by decide +kernel
theorem zp_J0_coder_7d493 : zpar yJ0_coder_7d493 0 := ⟨by decide +kernel, by decide +kernel, by decide +kernel⟩
abbrev MJ0_isLatin1_aae02 : zM := (RJ0, cJ0_isLatin1_aae02, 1, some .boolean, false)
theorem zy_J0_isLatin1_aae02 : (plainName yJ0_isLatin1_aae02.cls && (yJ0_isLatin1_aae02.cls == MJ0_isLatin1_aae02.1) && (!MJ0_isLatin1_aae02.2.2.2.2 || yJ0_isLatin1_aae02.name == "<init>")) = true := by decide +kernel
theorem zp_J0_isLatin1_aae02 : zpar yJ0_isLatin1_aae02 0 := ⟨by decide +kernel, by decide +kernel, by decide +kernel⟩
abbrev MJ0_length_8abf5 : zM := (RJ0, cJ0_length_8abf5, 1, some .int, false)
theorem zy_J0_length_8abf5 : (plainName yJ0_length_8abf5.cls && (yJ0_length_8abf5.cls == MJ0_length_8abf5.1) && (!MJ0_length_8abf5.2.2.2.2 || yJ0_length_8abf5.name == "<init>")) = true := by decide +kernel
theorem zp_J0_length_8abf5 : zpar yJ0_length_8abf5 0 := ⟨by decide +kernel, by decide +kernel, by decide +kernel⟩
abbrev MJ0_indexOf_0f7a4 : zM := (RJ0, cJ0_indexOf_0f7a4, 2, some .int, false)
theorem zy_J0_indexOf_0f7a4 : (plainName yJ0_indexOf_0f7a4.cls && (yJ0_indexOf_0f7a4.cls == MJ0_indexOf_0f7a4.1) && (!MJ0_indexOf_0f7a4.2.2.2.2 || yJ0_indexOf_0f7a4.name == "<init>")) = true := by decide +kernel
theorem zp_J0_indexOf_0f7a4 : zpar yJ0_indexOf_0f7a4 1 := ⟨by decide +kernel, by decide +kernel, by decide +kernel⟩
abbrev MJ0_indexOf_7cf53 : zM := (RJ0, cJ0_indexOf_7cf53, 3, some .int, false)
theorem zy_J0_indexOf_7cf53 : (plainName yJ0_indexOf_7cf53.cls && (yJ0_indexOf_7cf53.cls == MJ0_indexOf_7cf53.1) && (!MJ0_indexOf_7cf53.2.2.2.2 || yJ0_indexOf_7cf53.name == "<init>")) = true := by decide +kernel
theorem zp_J0_indexOf_7cf53 : zpar yJ0_indexOf_7cf53 2 := ⟨by decide +kernel, by decide +kernel, by decide +kernel⟩
abbrev MJ1_canEncode_9a6ad : zM := (RJ1, cJ1_canEncode_9a6ad, 1, some .boolean, false)
theorem zy_J1_canEncode_9a6ad : (plainName yJ1_canEncode_9a6ad.cls && (yJ1_canEncode_9a6ad.cls == MJ1_canEncode_9a6ad.1) && (!MJ1_canEncode_9a6ad.2.2.2.2 || yJ1_canEncode_9a6ad.name == "<init>")) = true := by decide +kernel
theorem zp_J1_canEncode_9a6ad : zpar yJ1_canEncode_9a6ad 1 := ⟨by decide +kernel, by decide +kernel, by decide +kernel⟩
abbrev MJ1_indexOfChar_4cfef : zM := (RJ1, cJ1_indexOfChar_4cfef, 6, some .int, false)
theorem zy_J1_indexOfChar_4cfef : (plainName yJ1_indexOfChar_4cfef.cls && (yJ1_indexOfChar_4cfef.cls == MJ1_indexOfChar_4cfef.1) && (!MJ1_indexOfChar_4cfef.2.2.2.2 || yJ1_indexOfChar_4cfef.name == "<init>")) = true := by decide +kernel
theorem zp_J1_indexOfChar_4cfef : zpar yJ1_indexOfChar_4cfef 4 := ⟨by decide +kernel, by decide +kernel, by decide +kernel⟩
abbrev MJ1_indexOf_4cfef : zM := (RJ1, cJ1_indexOf_4cfef, 4, some .int, false)
theorem zy_J1_indexOf_4cfef : (plainName yJ1_indexOf_4cfef.cls && (yJ1_indexOf_4cfef.cls == MJ1_indexOf_4cfef.1) && (!MJ1_indexOf_4cfef.2.2.2.2 || yJ1_indexOf_4cfef.name == "<init>")) = true := by decide +kernel
theorem zp_J1_indexOf_4cfef : zpar yJ1_indexOf_4cfef 4 := ⟨by decide +kernel, by decide +kernel, by decide +kernel⟩
abbrev MJ9_max_7cf53 : zM := (RJ9, cJ9_max_7cf53, 2, some .int, false)
theorem zy_J9_max_7cf53 : (plainFor yJ9_max_7cf53 && (yJ9_max_7cf53.cls == MJ9_max_7cf53.1) && (!MJ9_max_7cf53.2.2.2.2 || yJ9_max_7cf53.name == "<init>")) = true := by decide +kernel
theorem zp_J9_max_7cf53 : zpar yJ9_max_7cf53 2 := ⟨by decide +kernel, by decide +kernel, by decide +kernel⟩
abbrev MJ9_min_7cf53 : zM := (RJ9, cJ9_min_7cf53, 2, some .int, false)
theorem zy_J9_min_7cf53 : (plainFor yJ9_min_7cf53 && (yJ9_min_7cf53.cls == MJ9_min_7cf53.1) && (!MJ9_min_7cf53.2.2.2.2 || yJ9_min_7cf53.name == "<init>")) = true := by decide +kernel
theorem zp_J9_min_7cf53 : zpar yJ9_min_7cf53 2 := ⟨by decide +kernel, by decide +kernel, by decide +kernel⟩
set_option maxHeartbeats 4000000 in
set_option maxRecDepth 100000 in
theorem kn_J0_coder_7d493 {G : zG} {hh : zH} {sz : Nat}  : zC G 0 MJ0_coder_7d493 yJ0_coder_7d493 [.ref G.2.2.2.2.1] hh sz 0 0 (zR (.int (0)) hh sz) := by
  refine z_intro _ rfl zy_J0_coder_7d493 (Nat.le_of_ble_eq_true rfl) ?_
  refine z_compact dJ0_coder_7d493_0 zm_436 ?_
  refine z_if_eq (tgt := 13) dJ0_coder_7d493_3 (by decide) (fun c_3 => absurd c_3 (by decide)) (fun c_3 => ?_)
  refine z_aload_n dJ0_coder_7d493_6 rfl ?_
  refine z_coder dJ0_coder_7d493_7 zm_656 ?_
  refine z_goto (tgt := 14) dJ0_coder_7d493_10 (by decide) ?_
  exact z_ireturn dJ0_coder_7d493_14 ⟨.byte, rfl, rfl⟩ ⟨⟨rfl, rfl, rfl⟩, Nat.le_refl _, Nat.le_refl _⟩
set_option maxHeartbeats 4000000 in
set_option maxRecDepth 100000 in
theorem kn_J0_isLatin1_aae02 {G : zG} {hh : zH} {sz : Nat}  : zC G 0 MJ0_isLatin1_aae02 yJ0_isLatin1_aae02 [.ref G.2.2.2.2.1] hh sz 0 0 (zR (.int (1)) hh sz) := by
  refine z_intro _ rfl zy_J0_isLatin1_aae02 (Nat.le_of_ble_eq_true rfl) ?_
  refine z_compact dJ0_isLatin1_aae02_0 zm_436 ?_
  refine z_if_eq (tgt := 17) dJ0_isLatin1_aae02_3 (by decide) (fun c_3 => absurd c_3 (by decide)) (fun c_3 => ?_)
  refine z_aload_n dJ0_isLatin1_aae02_6 rfl ?_
  refine z_coder dJ0_isLatin1_aae02_7 zm_656 ?_
  refine z_if_ne (tgt := 17) dJ0_isLatin1_aae02_10 (by decide) (fun c_10 => absurd rfl c_10) (fun c_10 => ?_)
  refine z_iconst (v := 1) dJ0_isLatin1_aae02_13 (by decide) ?_
  refine z_goto (tgt := 18) dJ0_isLatin1_aae02_14 (by decide) ?_
  exact z_zretR dJ0_isLatin1_aae02_18 rfl (Or.inr rfl) rfl rfl rfl (Nat.le_refl _) (Nat.le_refl _)
set_option maxHeartbeats 4000000 in
set_option maxRecDepth 100000 in
theorem kn_J0_length_8abf5 {G : zG} {hh : zH} {sz : Nat}  : zC G 1 MJ0_length_8abf5 yJ0_length_8abf5 [.ref G.2.2.2.2.1] hh sz 0 0 (zR (.int (nI 8)) hh sz) := by
  refine z_intro _ rfl zy_J0_length_8abf5 (Nat.le_of_ble_eq_true rfl) ?_
  refine z_aload_n dJ0_length_8abf5_0 rfl ?_
  refine z_value dJ0_length_8abf5_1 zm_657 ?_
  refine z_tlen dJ0_length_8abf5_4 ?_
  refine z_aload_n dJ0_length_8abf5_5 rfl ?_
  refine z_callStrR kn_J0_coder_7d493 dJ0_length_8abf5_6 ⟨zm_442, zm_445, zm_10, zm_443, zm_444⟩ (by decide) zp_J0_coder_7d493 rfl (Nat.le_of_ble_eq_true rfl) (Nat.le_refl _) (Nat.le_refl _) ?_
  refine z_ishr dJ0_length_8abf5_9 ?_
  exact z_iretR dJ0_length_8abf5_10 rfl (by decide) rfl rfl (Nat.le_refl _) (Nat.le_refl _)
set_option maxHeartbeats 4000000 in
set_option maxRecDepth 100000 in
theorem kn_J1_canEncode_9a6ad {G : zG} {hh : zH} {sz : Nat} {c : Nat} (hc : c < 256) : zC G 0 MJ1_canEncode_9a6ad yJ1_canEncode_9a6ad [.int (nI c)] hh sz 0 0 (zR (.int (1)) hh sz) := by
  refine z_intro _ rfl zy_J1_canEncode_9a6ad (Nat.le_of_ble_eq_true rfl) ?_
  refine z_iload_n dJ1_canEncode_9a6ad_0 rfl ?_
  refine z_if_lt (tgt := 15) dJ1_canEncode_9a6ad_1 (by decide) (fun c_1 => absurd c_1 (nI_pos (by omega))) (fun c_1 => ?_)
  refine z_iload_n dJ1_canEncode_9a6ad_4 rfl ?_
  refine z_sipush (v := (nI 255)) dJ1_canEncode_9a6ad_5 (by decide) ?_
  refine z_icmp_gt (tgt := 15) dJ1_canEncode_9a6ad_8 (by decide) (fun c_8 => absurd c_8 (nI_nlt (by omega) (by omega))) (fun c_8 => ?_)
  refine z_iconst (v := 1) dJ1_canEncode_9a6ad_11 (by decide) ?_
  refine z_goto (tgt := 16) dJ1_canEncode_9a6ad_12 (by decide) ?_
  exact z_zretR dJ1_canEncode_9a6ad_16 rfl (Or.inr rfl) rfl rfl rfl (Nat.le_refl _) (Nat.le_refl _)
set_option maxHeartbeats 4000000 in
set_option maxRecDepth 100000 in
theorem kn_J9_max_7cf53 {G : zG} {hh : zH} {sz : Nat}  : zC G 0 MJ9_max_7cf53 yJ9_max_7cf53 [.int 0, .int 0] hh sz 0 0 (zR (.int (0)) hh sz) := by
  refine z_introF _ rfl zy_J9_max_7cf53 (Nat.le_of_ble_eq_true rfl) ?_
  refine z_iload_n dJ9_max_7cf53_0 rfl ?_
  refine z_iload_n dJ9_max_7cf53_1 rfl ?_
  refine z_icmp_lt (tgt := 9) dJ9_max_7cf53_2 (by decide) (fun c_2 => absurd c_2 (by decide)) (fun c_2 => ?_)
  refine z_iload_n dJ9_max_7cf53_5 rfl ?_
  refine z_goto (tgt := 10) dJ9_max_7cf53_6 (by decide) ?_
  exact z_iretR dJ9_max_7cf53_10 rfl rfl rfl rfl (Nat.le_refl _) (Nat.le_refl _)
set_option maxHeartbeats 4000000 in
set_option maxRecDepth 100000 in
theorem kn_J9_min_7cf53 {G : zG} {hh : zH} {sz : Nat}  : zC G 0 MJ9_min_7cf53 yJ9_min_7cf53 [.int (nI 8), .int (nI 8)] hh sz 0 0 (zR (.int (nI 8)) hh sz) := by
  refine z_introF _ rfl zy_J9_min_7cf53 (Nat.le_of_ble_eq_true rfl) ?_
  refine z_iload_n dJ9_min_7cf53_0 rfl ?_
  refine z_iload_n dJ9_min_7cf53_1 rfl ?_
  refine z_icmp_gt (tgt := 9) dJ9_min_7cf53_2 (by decide) (fun c_2 => absurd c_2 (by decide)) (fun c_2 => ?_)
  refine z_iload_n dJ9_min_7cf53_5 rfl ?_
  refine z_goto (tgt := 10) dJ9_min_7cf53_6 (by decide) ?_
  exact z_iretR dJ9_min_7cf53_10 rfl rfl rfl rfl (Nat.le_refl _) (Nat.le_refl _)
/-- the first place of a code in the letters' text -/
def ixF (c : Int32) : Nat → Nat → Int32
  | 0, _ => -1
  | n + 1, k => if sgT k = c then nI k else ixF c n (k + 1)
set_option maxHeartbeats 4000000 in
set_option maxRecDepth 100000 in
theorem l_J1_indexOfChar_4cfef {G : zG} {hh : zH} {sz : Nat} {c : Nat} : ∀ (n i : Nat), i + n = 8 → zS MJ1_indexOfChar_4cfef G 0 0 0 0 0 hh sz 7 [some (.ref G.2.2.2.2.2), some (.int (nI c)), some (.int 0), some (.int (nI 8)), some (.int (nI c)), some (.int (nI i))] [] (fun rr hh' ss' kk' nn' => zR (.int (ixF (nI c) n i)) hh sz rr hh' ss' ∧ kk' ≤ 0 ∧ nn' ≤ 0) := by
  intro n; induction n with
  | zero =>
    intro i hi
    refine z_iload dJ1_indexOfChar_4cfef_7 rfl ?_
    refine z_iload_n dJ1_indexOfChar_4cfef_9 rfl ?_
    refine z_icmp_ge (tgt := 31) dJ1_indexOfChar_4cfef_10 (by decide) (fun c_10 => ?_) (fun c_10 => absurd (nI_le (by omega) (by omega)) c_10)
    refine z_iconst (v := -1) dJ1_indexOfChar_4cfef_31 (by decide) ?_
    exact z_iretR dJ1_indexOfChar_4cfef_32 rfl rfl rfl rfl (Nat.le_refl _) (Nat.le_refl _)
  | succ n ih =>
    intro i hi
    refine z_iload dJ1_indexOfChar_4cfef_7 rfl ?_
    refine z_iload_n dJ1_indexOfChar_4cfef_9 rfl ?_
    refine z_icmp_ge (tgt := 31) dJ1_indexOfChar_4cfef_10 (by decide) (fun c_10 => absurd c_10 (nI_ge (by omega) (by omega))) (fun c_10 => ?_)
    refine z_aload_n dJ1_indexOfChar_4cfef_13 rfl ?_
    refine z_iload dJ1_indexOfChar_4cfef_14 rfl ?_
    refine z_tab dJ1_indexOfChar_4cfef_16 rfl (by omega) ?_
    refine z_iload dJ1_indexOfChar_4cfef_17 rfl ?_
    refine z_icmp_ne (tgt := 25) dJ1_indexOfChar_4cfef_19 (by decide) (fun c_19 => ?_) (fun c_19 => ?_)
    · refine z_iincU dJ1_indexOfChar_4cfef_25 rfl (by decide) rfl rfl ?_
      refine z_goto (tgt := 7) dJ1_indexOfChar_4cfef_28 (by decide) ?_
      have e : ixF (nI c) (n + 1) i = ixF (nI c) n (i + 1) := by rw [ixF, if_neg c_19]
      rw [e]
      exact ih (i + 1) (by omega)
    · refine z_iload dJ1_indexOfChar_4cfef_22 rfl ?_
      exact z_iretR dJ1_indexOfChar_4cfef_24 rfl (by rw [ixF, if_pos c_19]) rfl rfl (Nat.le_refl _) (Nat.le_refl _)
theorem i2b_id : ∀ c, c < 128 → (nI c).toInt8.toInt32 = nI c := by decide +kernel
set_option maxHeartbeats 4000000 in
set_option maxRecDepth 100000 in
theorem kn_J1_indexOfChar_4cfef {G : zG} {hh : zH} {sz : Nat} {c : Nat} (hc : c < 128) : zC G 0 MJ1_indexOfChar_4cfef yJ1_indexOfChar_4cfef [.ref G.2.2.2.2.2, .int (nI c), .int 0, .int (nI 8)] hh sz 0 0 (zR (.int (ixF (nI c) 8 0)) hh sz) := by
  refine z_intro _ rfl zy_J1_indexOfChar_4cfef (Nat.le_of_ble_eq_true rfl) ?_
  refine z_iload_n dJ1_indexOfChar_4cfef_0 rfl ?_
  refine z_i2b dJ1_indexOfChar_4cfef_1 ?_
  refine z_eq (i2b_id c hc) ?_
  refine z_istore dJ1_indexOfChar_4cfef_2 (by decide) rfl rfl ?_
  refine z_iload_n dJ1_indexOfChar_4cfef_4 rfl ?_
  refine z_istore dJ1_indexOfChar_4cfef_5 (by decide) rfl rfl ?_
  exact l_J1_indexOfChar_4cfef 8 0 rfl
set_option maxHeartbeats 4000000 in
set_option maxRecDepth 100000 in
theorem kn_J1_indexOf_4cfef {G : zG} {hh : zH} {sz : Nat} {c : Nat} (hc : c < 128) : zC G 1 MJ1_indexOf_4cfef yJ1_indexOf_4cfef [.ref G.2.2.2.2.2, .int (nI c), .int 0, .int (nI 8)] hh sz 0 0 (zR (.int (ixF (nI c) 8 0)) hh sz) := by
  refine z_intro _ rfl zy_J1_indexOf_4cfef (Nat.le_of_ble_eq_true rfl) ?_
  refine z_iload_n dJ1_indexOf_4cfef_0 rfl ?_
  refine z_callSR (kn_J1_canEncode_9a6ad (by omega)) dJ1_indexOf_4cfef_1 ⟨zm_449, zm_451, zm_11, zm_450⟩ (by decide) zp_J1_canEncode_9a6ad rfl (Nat.le_of_ble_eq_true rfl) (Nat.le_refl _) (Nat.le_refl _) ?_
  refine z_if_ne (tgt := 9) dJ1_indexOf_4cfef_4 (by decide) (fun c_4 => ?_) (fun c_4 => absurd c_4 (by decide))
  refine z_iload_n dJ1_indexOf_4cfef_9 rfl ?_
  refine z_iconst (v := 0) dJ1_indexOf_4cfef_10 (by decide) ?_
  refine z_callSR kn_J9_max_7cf53 dJ1_indexOf_4cfef_11 ⟨zm_452, zm_454, zm_9, zm_453⟩ (by decide) zp_J9_max_7cf53 rfl (Nat.le_of_ble_eq_true rfl) (Nat.le_refl _) (Nat.le_refl _) ?_
  refine z_istore_n dJ1_indexOf_4cfef_14 (by decide) rfl rfl ?_
  refine z_iload_n dJ1_indexOf_4cfef_15 rfl ?_
  refine z_aload_n dJ1_indexOf_4cfef_16 rfl ?_
  refine z_tlen dJ1_indexOf_4cfef_17 ?_
  refine z_callSR kn_J9_min_7cf53 dJ1_indexOf_4cfef_18 ⟨zm_455, zm_457, zm_9, zm_456⟩ (by decide) zp_J9_min_7cf53 rfl (Nat.le_of_ble_eq_true rfl) (Nat.le_refl _) (Nat.le_refl _) ?_
  refine z_istore_n dJ1_indexOf_4cfef_21 (by decide) rfl rfl ?_
  refine z_iload_n dJ1_indexOf_4cfef_22 rfl ?_
  refine z_iload_n dJ1_indexOf_4cfef_23 rfl ?_
  refine z_icmp_lt (tgt := 29) dJ1_indexOf_4cfef_24 (by decide) (fun c_24 => ?_) (fun c_24 => absurd (by decide) c_24)
  refine z_aload_n dJ1_indexOf_4cfef_29 rfl ?_
  refine z_iload_n dJ1_indexOf_4cfef_30 rfl ?_
  refine z_iload_n dJ1_indexOf_4cfef_31 rfl ?_
  refine z_iload_n dJ1_indexOf_4cfef_32 rfl ?_
  refine z_callSR (kn_J1_indexOfChar_4cfef hc) dJ1_indexOf_4cfef_33 ⟨zm_458, zm_460, zm_11, zm_459⟩ (by decide) zp_J1_indexOfChar_4cfef rfl (Nat.le_of_ble_eq_true rfl) (Nat.le_refl _) (Nat.le_refl _) ?_
  exact z_iretR dJ1_indexOf_4cfef_36 rfl rfl rfl rfl (Nat.le_refl _) (Nat.le_refl _)
set_option maxHeartbeats 4000000 in
set_option maxRecDepth 100000 in
theorem kn_J0_indexOf_7cf53 {G : zG} {hh : zH} {sz : Nat} {c : Nat} (hc : c < 128) : zC G 2 MJ0_indexOf_7cf53 yJ0_indexOf_7cf53 [.ref G.2.2.2.2.1, .int (nI c), .int 0] hh sz 0 0 (zR (.int (ixF (nI c) 8 0)) hh sz) := by
  refine z_intro _ rfl zy_J0_indexOf_7cf53 (Nat.le_of_ble_eq_true rfl) ?_
  refine z_aload_n dJ0_indexOf_7cf53_0 rfl ?_
  refine z_callStrR kn_J0_isLatin1_aae02 dJ0_indexOf_7cf53_1 ⟨zm_432, zm_435, zm_10, zm_433, zm_434⟩ (by decide) zp_J0_isLatin1_aae02 rfl (Nat.le_of_ble_eq_true rfl) (Nat.le_refl _) (Nat.le_refl _) ?_
  refine z_if_eq (tgt := 23) dJ0_indexOf_7cf53_4 (by decide) (fun c_4 => absurd c_4 (by decide)) (fun c_4 => ?_)
  refine z_aload_n dJ0_indexOf_7cf53_7 rfl ?_
  refine z_value dJ0_indexOf_7cf53_8 zm_657 ?_
  refine z_iload_n dJ0_indexOf_7cf53_11 rfl ?_
  refine z_iload_n dJ0_indexOf_7cf53_12 rfl ?_
  refine z_aload_n dJ0_indexOf_7cf53_13 rfl ?_
  refine z_callStrR kn_J0_length_8abf5 dJ0_indexOf_7cf53_14 ⟨zm_438, zm_441, zm_10, zm_439, zm_440⟩ (by decide) zp_J0_length_8abf5 rfl (Nat.le_of_ble_eq_true rfl) (Nat.le_refl _) (Nat.le_refl _) ?_
  refine z_callSR (kn_J1_indexOf_4cfef hc) dJ0_indexOf_7cf53_17 ⟨zm_446, zm_448, zm_11, zm_447⟩ (by decide) zp_J1_indexOf_4cfef rfl (Nat.le_of_ble_eq_true rfl) (Nat.le_refl _) (Nat.le_refl _) ?_
  refine z_goto (tgt := 36) dJ0_indexOf_7cf53_20 (by decide) ?_
  exact z_iretR dJ0_indexOf_7cf53_36 rfl rfl rfl rfl (Nat.le_refl _) (Nat.le_refl _)
set_option maxHeartbeats 4000000 in
set_option maxRecDepth 100000 in
theorem kn_J0_indexOf_0f7a4 {G : zG} {hh : zH} {sz : Nat} {c : Nat} (hc : c < 128) : zC G 3 MJ0_indexOf_0f7a4 yJ0_indexOf_0f7a4 [.ref G.2.2.2.2.1, .int (nI c)] hh sz 0 0 (zR (.int (ixF (nI c) 8 0)) hh sz) := by
  refine z_intro _ rfl zy_J0_indexOf_0f7a4 (Nat.le_of_ble_eq_true rfl) ?_
  refine z_aload_n dJ0_indexOf_0f7a4_0 rfl ?_
  refine z_iload_n dJ0_indexOf_0f7a4_1 rfl ?_
  refine z_iconst (v := 0) dJ0_indexOf_0f7a4_2 (by decide) ?_
  refine z_callStrR (kn_J0_indexOf_7cf53 hc) dJ0_indexOf_0f7a4_3 ⟨zm_428, zm_431, zm_10, zm_429, zm_430⟩ (by decide) zp_J0_indexOf_7cf53 rfl (Nat.le_of_ble_eq_true rfl) (Nat.le_refl _) (Nat.le_refl _) ?_
  exact z_iretR dJ0_indexOf_0f7a4_6 rfl rfl rfl rfl (Nat.le_refl _) (Nat.le_refl _)
theorem ix_ltr : ∀ c, c < 128 → (if ixF (nI c) 8 0 < 0 then (-6 : Int32) else ixF (nI c) 8 0) = ltrI (nI c) := by decide +kernel
