set_option maxHeartbeats 4000000 in
set_option maxRecDepth 100000 in
theorem k_X6_init {G : zG} {hh : zH} {B : Nat} (h0 : hh B = some (.inr (6, [.null, .null, .null, .null, .null, .null, .null]))) : zC G 5 MX6_init yX6_init [.ref B] hh (B + 1) 137 1448 (fun rr hh' ss' => rr = none ∧ ss' = B + 138 ∧ fxA G B 0 0 0 (fun _ => 0) (fun _ => none) (fun _ => none) hh' ∧ shopA G (B + 1) (B + 3) (fun _ => 0) sp0 hh' ∧ shopA G (B + 1) (B + 67) (fun _ => 0) sp0 hh' ∧ ∀ b, b < B → hh' b = hh b) := by
  refine z_intro _ rfl zy_X6_init (Nat.le_of_ble_eq_true rfl) ?_
  refine z_aload_n dX6_init_0 rfl ?_
  refine z_objInit dX6_init_1 ⟨zm_20, zm_21, zm_22⟩ (by decide) (Nat.le_of_ble_eq_true rfl) ?_
  refine z_aload_n dX6_init_4 rfl ?_
  refine z_new (ci := 3) (fs := [.null]) dX6_init_5 ⟨by decide, zm_23, zm_24, zm_2⟩ (by decide) (by decide) (by decide) ?_
  refine z_dup dX6_init_8 rfl ?_
  refine z_callIU (k_X3_init (zup_eq _ _ _)) dX6_init_9 ⟨zm_25, zm_27, zm_2, zm_26, rfl⟩ rfl (by decide) zp_X3_init rfl (Nat.le_of_ble_eq_true rfl) (by decide) (by decide) ?_
  refine z_putF (ci := 6) (f := 0) dX6_init_12 ⟨by decide, by decide, zm_193, rfl⟩ ((zup_ne (by omega)).trans ((zup_ne (by omega)).trans ((zup_ne (by omega)).trans h0))) rfl rfl rfl rfl rfl (Nat.le_of_ble_eq_true rfl) ?_
  refine z_aload_n dX6_init_15 rfl ?_
  refine z_new (ci := 5) (fs := [.null, .null, .null, .null, .int 0, .int 0]) dX6_init_16 ⟨by decide, zm_57, zm_58, zm_3⟩ (by decide) (by decide) (by decide) ?_
  refine z_dup dX6_init_19 rfl ?_
  refine z_aload_n dX6_init_20 rfl ?_
  refine z_get (ci := 6) (f := 0) dX6_init_21 ⟨by decide, by decide, zm_193, rfl⟩ ((zup_ne (by omega)).trans (zup_eq _ _ _)) rfl ?_
  refine z_callIU (k_X5_init (zup_eq _ _ _)) dX6_init_24 ⟨zm_59, zm_61, zm_3, zm_60, rfl⟩ rfl (by decide) zp_X5_init rfl (Nat.le_of_ble_eq_true rfl) (by decide) (by decide) ?_
  refine z_putF (ci := 6) (f := 1) dX6_init_27 ⟨by decide, by decide, zm_194, rfl⟩ ((sput_out (by omega)).trans ((zup_ne (by omega)).trans (zup_eq _ _ _))) rfl rfl rfl rfl rfl (Nat.le_of_ble_eq_true rfl) ?_
  refine z_aload_n dX6_init_30 rfl ?_
  refine z_new (ci := 5) (fs := [.null, .null, .null, .null, .int 0, .int 0]) dX6_init_31 ⟨by decide, zm_57, zm_58, zm_3⟩ (by decide) (by decide) (by decide) ?_
  refine z_dup dX6_init_34 rfl ?_
  refine z_aload_n dX6_init_35 rfl ?_
  refine z_get (ci := 6) (f := 0) dX6_init_36 ⟨by decide, by decide, zm_193, rfl⟩ ((zup_ne (by omega)).trans (zup_eq _ _ _)) rfl ?_
  refine z_callIU (k_X5_init (zup_eq _ _ _)) dX6_init_39 ⟨zm_59, zm_61, zm_3, zm_60, rfl⟩ rfl (by decide) zp_X5_init rfl (Nat.le_of_ble_eq_true rfl) (by decide) (by decide) ?_
  refine z_putF (ci := 6) (f := 2) dX6_init_42 ⟨by decide, by decide, zm_195, rfl⟩ ((sput_out (by omega)).trans ((zup_ne (by omega)).trans (zup_eq _ _ _))) rfl rfl rfl rfl rfl (Nat.le_of_ble_eq_true rfl) ?_
  refine z_aload_n dX6_init_45 rfl ?_
  refine z_new (ci := 4) (fs := [.null, .null, .int 0, .int 0]) dX6_init_46 ⟨by decide, zm_153, zm_67, zm_4⟩ (by decide) (by decide) (by decide) ?_
  refine z_dup dX6_init_49 rfl ?_
  refine z_aload_n dX6_init_50 rfl ?_
  refine z_get (ci := 6) (f := 0) dX6_init_51 ⟨by decide, by decide, zm_193, rfl⟩ ((zup_ne (by omega)).trans (zup_eq _ _ _)) rfl ?_
  refine z_callIU (k_X4_init (zup_eq _ _ _)) dX6_init_54 ⟨zm_154, zm_70, zm_4, zm_69, rfl⟩ rfl (by decide) zp_X4_init rfl (Nat.le_of_ble_eq_true rfl) (by decide) (by decide) ?_
  refine z_putF (ci := 6) (f := 3) dX6_init_57 ⟨by decide, by decide, zm_196, rfl⟩ ((zup_ne (by omega)).trans ((zup_ne (by omega)).trans ((zup_ne (by omega)).trans (zup_eq _ _ _)))) rfl rfl rfl rfl rfl (Nat.le_of_ble_eq_true rfl) ?_
  refine z_aload_n dX6_init_60 rfl ?_
  refine z_iconst (v := (nI 2)) dX6_init_61 (by decide) ?_
  refine z_newR (t := 3) (N := 2) dX6_init_62 zm_57 (Or.inl ⟨rfl, rfl⟩) (by decide) (by decide) (by decide) (by decide) (by decide) ?_
  refine z_putF (ci := 6) (f := 4) dX6_init_65 ⟨by decide, by decide, zm_197, rfl⟩ ((zup_ne (by omega)).trans (zup_eq _ _ _)) rfl rfl rfl rfl rfl (Nat.le_of_ble_eq_true rfl) ?_
  refine z_aload_n dX6_init_68 rfl ?_
  refine z_new (ci := 0) (fs := [.null, .null, .int 0, .int 0]) dX6_init_69 ⟨by decide, zm_156, zm_157, zm_6⟩ (by decide) (by decide) (by decide) ?_
  refine z_dup dX6_init_72 rfl ?_
  refine z_aload_n dX6_init_73 rfl ?_
  refine z_get (ci := 6) (f := 0) dX6_init_74 ⟨by decide, by decide, zm_193, rfl⟩ ((zup_ne (by omega)).trans (zup_eq _ _ _)) rfl ?_
  refine z_callIU (k_X0_init (zup_eq _ _ _)) dX6_init_77 ⟨zm_158, zm_160, zm_6, zm_159, rfl⟩ rfl (by decide) zp_X0_init rfl (Nat.le_of_ble_eq_true rfl) (by decide) (by decide) ?_
  refine z_putF (ci := 6) (f := 5) dX6_init_80 ⟨by decide, by decide, zm_198, rfl⟩ ((zup_ne (by omega)).trans ((zup_ne (by omega)).trans ((zup_ne (by omega)).trans (zup_eq _ _ _)))) rfl rfl rfl rfl rfl (Nat.le_of_ble_eq_true rfl) ?_
  refine z_aload_n dX6_init_83 rfl ?_
  refine z_new (ci := 1) (fs := [.null, .int 0]) dX6_init_84 ⟨by decide, zm_177, zm_178, zm_7⟩ (by decide) (by decide) (by decide) ?_
  refine z_dup dX6_init_87 rfl ?_
  refine z_callINU (k_X1_init (zup_eq _ _ _)) dX6_init_88 ⟨zm_179, zm_181, zm_7, zm_180, rfl⟩ rfl (by decide) zp_X1_init rfl (Nat.le_of_ble_eq_true rfl) (by decide) (by decide) ?_
  refine z_putF (ci := 6) (f := 6) dX6_init_91 ⟨by decide, by decide, zm_199, rfl⟩ ((zup_ne (by omega)).trans ((zup_ne (by omega)).trans ((zup_ne (by omega)).trans (zup_eq _ _ _)))) rfl rfl rfl rfl rfl (Nat.le_of_ble_eq_true rfl) ?_
  refine z_return dX6_init_94 rfl ⟨⟨rfl, rfl, ⟨zup_eq _ _ _, ⟨(by (repeat (first | (refine (zup_ne (by omega)).trans ?_) | (refine (sput_out (by omega)).trans ?_))); exact zup_eq _ _ _), (by (repeat (first | (refine (zup_ne (by omega)).trans ?_) | (refine (sput_out (by omega)).trans ?_))); exact zup_eq _ _ _)⟩, ⟨0, 0, fun _ => 0, (by (repeat (first | (refine (zup_ne (by omega)).trans ?_) | (refine (sput_out (by omega)).trans ?_))); exact zup_eq _ _ _), (by (repeat (first | (refine (zup_ne (by omega)).trans ?_) | (refine (sput_out (by omega)).trans ?_))); exact zup_eq _ _ _), fun _ _ => rfl⟩, (by (repeat (first | (refine (zup_ne (by omega)).trans ?_) | (refine (sput_out (by omega)).trans ?_))); exact zup_eq _ _ _), (by (repeat (first | (refine (zup_ne (by omega)).trans ?_) | (refine (sput_out (by omega)).trans ?_))); exact zup_eq _ _ _), (by (repeat (first | (refine (zup_ne (by omega)).trans ?_) | (refine (sput_out (by omega)).trans ?_))); exact zup_eq _ _ _), ⟨(by (repeat (first | (refine (zup_ne (by omega)).trans ?_) | (refine (sput_out (by omega)).trans ?_))); exact zup_eq _ _ _), (by (repeat (first | (refine (zup_ne (by omega)).trans ?_) | (refine (sput_out (by omega)).trans ?_))); exact zup_eq _ _ _)⟩⟩, (fun k hk => by (repeat (first | (refine (zup_ne (by omega)).trans ?_) | (refine (sput_out (by omega)).trans ?_))); exact sput_A k hk), (fun k hk => by (repeat (first | (refine (zup_ne (by omega)).trans ?_) | (refine (sput_out (by omega)).trans ?_))); exact sput_A k hk), fun b hb => by (repeat (first | (refine (zup_ne (by omega)).trans ?_) | (refine (sput_out (by omega)).trans ?_))); rfl⟩, by decide, by decide⟩
