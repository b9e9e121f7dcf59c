set_option maxHeartbeats 4000000 in
set_option maxRecDepth 100000 in
theorem c31_X4_copyFrom (l : Launch) (D : va_G) (ct : Nat → ClassId) (a0 : Nat) (a1 : Nat) (a2 : Nat) (a3 : Nat) (a4 : Nat) (f0 : Nat → Int32) (f1 : Nat → Int32) (a5 : Nat) (a6 : Nat) (a7 : Nat) (f2 : Nat → Int32) (f3 : Nat → Int32) (f4 : Nat → Int32) : CV l yX4_copyFrom cX4_copyFrom 2 none { frames := 1, cells := 0, slots := 0, locals := 60 } D ct [.ref a0, .ref a1] [(a0, .inr (4, [.ref a2, .ref a3, .ref a4, .int 0])), (a3, .inl (ct 0, 56, .inl f0)), (a4, .inl (ct 0, 8, .inl f0)), (a2, .inl (ct 0, 7, .inl f1)), (a1, .inr (4, [.ref a5, .ref a6, .ref a7, .int 0])), (a5, .inl (ct 0, 7, .inl f2)), (a6, .inl (ct 0, 56, .inl f3)), (a7, .inl (ct 0, 8, .inl f4))] True (fun u => [(a0, .inr (4, [.ref a2, .ref a3, .ref a4, .int 0])), (a3, .inl (ct 0, 56, .inl (va_cpy f3 f0 0 0 56))), (a4, .inl (ct 0, 8, .inl (va_cpy f4 f0 0 0 8))), (a2, .inl (ct 0, 7, .inl (va_cpy f2 f1 0 0 7))), (a1, .inr (4, [.ref a5, .ref a6, .ref a7, .int 0])), (a5, .inl (ct 0, 7, .inl f2)), (a6, .inl (ct 0, 56, .inl f3)), (a7, .inl (ct 0, 8, .inl f4))]) := by
  refine CV.of (by decide +kernel) (Nat.le_of_ble_eq_true rfl) ?_
  intro p e s m below meth c A ls hE
  obtain ⟨X, hr, hlk, hnm, hw, hl⟩ := hE
  have X : CX p m c cX4_copyFrom 2 s [.ref a0, .ref a1].toArray RX4 D ct := X
  have hl : lv_has ls 2 [(0, .ref a0), (1, .ref a1)] := hl
  obtain ⟨⟨hx, hb, hml, hown, hts⟩, hK⟩ := id X
  refine lv_aload_n hx hb dX4_copyFrom_0 rfl (lv_at hl 1 rfl) ?_
  refine fg_174 X hw 4 rfl rfl dX4_copyFrom_1 ?_
  refine lv_iconst (v := 0) hx hb dX4_copyFrom_4 (by decide) ?_
  refine lv_aload_n hx hb dX4_copyFrom_5 rfl (lv_at hl 0 rfl) ?_
  refine fg_174 X hw 0 rfl rfl dX4_copyFrom_6 ?_
  refine lv_iconst (v := 0) hx hb dX4_copyFrom_9 (by decide) ?_
  refine lv_bipush (v := 7) hx hb dX4_copyFrom_10 (by decide) ?_
  refine k_copyi X hl.1 wd_868 wd_863 wd_862 wd_149 hw 5 3 rfl rfl (by decide) (by decide) (by decide) (by decide) (by decide) (by decide) (Nat.le_of_ble_eq_true rfl) dX4_copyFrom_12 [(a0, .inr (4, [.ref a2, .ref a3, .ref a4, .int 0])), (a3, .inl (ct 0, 56, .inl f0)), (a4, .inl (ct 0, 8, .inl f0)), (a2, .inl (ct 0, 7, .inl (va_cpy f2 f1 0 0 7))), (a1, .inr (4, [.ref a5, .ref a6, .ref a7, .int 0])), (a5, .inl (ct 0, 7, .inl f2)), (a6, .inl (ct 0, 56, .inl f3)), (a7, .inl (ct 0, 8, .inl f4))] rfl (fun H locs hw => ?_)
  refine lv_aload_n hx hb dX4_copyFrom_15 rfl (lv_at hl 1 rfl) ?_
  refine fg_182 X hw 4 rfl rfl dX4_copyFrom_16 ?_
  refine lv_iconst (v := 0) hx hb dX4_copyFrom_19 (by decide) ?_
  refine lv_aload_n hx hb dX4_copyFrom_20 rfl (lv_at hl 0 rfl) ?_
  refine fg_182 X hw 0 rfl rfl dX4_copyFrom_21 ?_
  refine lv_iconst (v := 0) hx hb dX4_copyFrom_24 (by decide) ?_
  refine lv_bipush (v := 56) hx hb dX4_copyFrom_25 (by decide) ?_
  refine k_copyi X hl.1 wd_868 wd_863 wd_862 wd_149 hw 6 1 rfl rfl (by decide) (by decide) (by decide) (by decide) (by decide) (by decide) (Nat.le_of_ble_eq_true rfl) dX4_copyFrom_27 [(a0, .inr (4, [.ref a2, .ref a3, .ref a4, .int 0])), (a3, .inl (ct 0, 56, .inl (va_cpy f3 f0 0 0 56))), (a4, .inl (ct 0, 8, .inl f0)), (a2, .inl (ct 0, 7, .inl (va_cpy f2 f1 0 0 7))), (a1, .inr (4, [.ref a5, .ref a6, .ref a7, .int 0])), (a5, .inl (ct 0, 7, .inl f2)), (a6, .inl (ct 0, 56, .inl f3)), (a7, .inl (ct 0, 8, .inl f4))] rfl (fun H locs hw => ?_)
  refine lv_aload_n hx hb dX4_copyFrom_30 rfl (lv_at hl 1 rfl) ?_
  refine fg_186 X hw 4 rfl rfl dX4_copyFrom_31 ?_
  refine lv_iconst (v := 0) hx hb dX4_copyFrom_34 (by decide) ?_
  refine lv_aload_n hx hb dX4_copyFrom_35 rfl (lv_at hl 0 rfl) ?_
  refine fg_186 X hw 0 rfl rfl dX4_copyFrom_36 ?_
  refine lv_iconst (v := 0) hx hb dX4_copyFrom_39 (by decide) ?_
  refine lv_bipush (v := 8) hx hb dX4_copyFrom_40 (by decide) ?_
  refine k_copyi X hl.1 wd_868 wd_863 wd_862 wd_149 hw 7 2 rfl rfl (by decide) (by decide) (by decide) (by decide) (by decide) (by decide) (Nat.le_of_ble_eq_true rfl) dX4_copyFrom_42 [(a0, .inr (4, [.ref a2, .ref a3, .ref a4, .int 0])), (a3, .inl (ct 0, 56, .inl (va_cpy f3 f0 0 0 56))), (a4, .inl (ct 0, 8, .inl (va_cpy f4 f0 0 0 8))), (a2, .inl (ct 0, 7, .inl (va_cpy f2 f1 0 0 7))), (a1, .inr (4, [.ref a5, .ref a6, .ref a7, .int 0])), (a5, .inl (ct 0, 7, .inl f2)), (a6, .inl (ct 0, 56, .inl f3)), (a7, .inl (ct 0, 8, .inl f4))] rfl (fun H locs hw => ?_)
  refine lv_aload_n hx hb dX4_copyFrom_45 rfl (lv_at hl 0 rfl) ?_
  refine lv_aload_n hx hb dX4_copyFrom_46 rfl (lv_at hl 1 rfl) ?_
  refine fg_192 X hw 4 rfl rfl dX4_copyFrom_47 ?_
  refine fp_192 X hw 0 rfl rfl rfl (Nat.le_of_ble_eq_true rfl) dX4_copyFrom_50 [(a0, .inr (4, [.ref a2, .ref a3, .ref a4, .int 0])), (a3, .inl (ct 0, 56, .inl (va_cpy f3 f0 0 0 56))), (a4, .inl (ct 0, 8, .inl (va_cpy f4 f0 0 0 8))), (a2, .inl (ct 0, 7, .inl (va_cpy f2 f1 0 0 7))), (a1, .inr (4, [.ref a5, .ref a6, .ref a7, .int 0])), (a5, .inl (ct 0, 7, .inl f2)), (a6, .inl (ct 0, 56, .inl f3)), (a7, .inl (ct 0, 8, .inl f4))] rfl (fun H locs hw => ?_)
  exact r_v X hr hlk hw [0, 1, 2, 3, 4, 5, 6, 7] (fun _ => 0) rfl rfl trivial (by decide) (by decide) dX4_copyFrom_53
set_option maxHeartbeats 4000000 in
set_option maxRecDepth 100000 in
theorem c32_X2_copyFrom (l : Launch) (D : va_G) (ct : Nat → ClassId) (a0 : Nat) (a1 : Nat) (a2 : Nat) (a3 : Nat) (a4 : Nat) (a5 : Nat) (f0 : Nat → Int32) (a6 : Nat) (a7 : Nat) (a8 : Nat) (f1 : Nat → Int32) (a9 : Nat) (a10 : Nat) (a11 : Nat) (a12 : Nat) (f2 : Nat → Int32) (f3 : Nat → Int32) (a13 : Nat) (a14 : Nat) (a15 : Nat) (f4 : Nat → Int32) (f5 : Nat → Int32) (f6 : Nat → Int32) : CV l yX2_copyFrom cX2_copyFrom 2 none { frames := 2, cells := 0, slots := 0, locals := 81 } D ct [.ref a0, .ref a1] [(a0, .inr (2, [.int 0, .int 0, .int 0, .ref a2, .ref a3, .ref a4, .int 0, .int 0, .int 0, .int 0, .int 0, .ref a5, .int 0])), (a2, .inl (ct 0, 32, .inl f0)), (a3, .inl (ct 0, 35, .inl f0)), (a4, .inl (ct 0, 900, .inl f0)), (a5, .inr (4, [.ref a6, .ref a7, .ref a8, .int 0])), (a7, .inl (ct 0, 56, .inl f0)), (a8, .inl (ct 0, 8, .inl f0)), (a6, .inl (ct 0, 7, .inl f1)), (a9, .inl (ct 0, 900, .inl f0)), (a1, .inr (2, [.int 0, .int 0, .int 0, .ref a10, .ref a11, .ref a9, .int 0, .int 0, .int 0, .int 0, .int 0, .ref a12, .int 1])), (a10, .inl (ct 0, 32, .inl f2)), (a11, .inl (ct 0, 35, .inl f3)), (a12, .inr (4, [.ref a13, .ref a14, .ref a15, .int 0])), (a13, .inl (ct 0, 7, .inl f4)), (a14, .inl (ct 0, 56, .inl f5)), (a15, .inl (ct 0, 8, .inl f6))] True (fun u => [(a0, .inr (2, [.int 0, .int 0, .int 0, .ref a2, .ref a3, .ref a4, .int 0, .int 0, .int 0, .int 0, .int 0, .ref a5, .int 1])), (a2, .inl (ct 0, 32, .inl (va_cpy f2 f0 0 0 32))), (a3, .inl (ct 0, 35, .inl (va_cpy f3 f0 0 0 35))), (a4, .inl (ct 0, 900, .inl (va_cpy f0 f0 0 0 0))), (a9, .inl (ct 0, 900, .inl f0)), (a1, .inr (2, [.int 0, .int 0, .int 0, .ref a10, .ref a11, .ref a9, .int 0, .int 0, .int 0, .int 0, .int 0, .ref a12, .int 1])), (a10, .inl (ct 0, 32, .inl f2)), (a11, .inl (ct 0, 35, .inl f3)), (a5, .inr (4, [.ref a6, .ref a7, .ref a8, .int 0])), (a7, .inl (ct 0, 56, .inl (va_cpy f5 f0 0 0 56))), (a8, .inl (ct 0, 8, .inl (va_cpy f6 f0 0 0 8))), (a6, .inl (ct 0, 7, .inl (va_cpy f4 f1 0 0 7))), (a12, .inr (4, [.ref a13, .ref a14, .ref a15, .int 0])), (a13, .inl (ct 0, 7, .inl f4)), (a14, .inl (ct 0, 56, .inl f5)), (a15, .inl (ct 0, 8, .inl f6))]) := by
  refine CV.of (by decide +kernel) (Nat.le_of_ble_eq_true rfl) ?_
  intro p e s m below meth c A ls hE
  obtain ⟨X, hr, hlk, hnm, hw, hl⟩ := hE
  have X : CX p m c cX2_copyFrom 2 s [.ref a0, .ref a1].toArray RX2 D ct := X
  have hl : lv_has ls 2 [(0, .ref a0), (1, .ref a1)] := hl
  obtain ⟨⟨hx, hb, hml, hown, hts⟩, hK⟩ := id X
  refine lv_aload_n hx hb dX2_copyFrom_0 rfl (lv_at hl 0 rfl) ?_
  refine lv_aload_n hx hb dX2_copyFrom_1 rfl (lv_at hl 1 rfl) ?_
  refine fg_208 X hw 9 rfl rfl dX2_copyFrom_2 ?_
  refine fp_208 X hw 0 rfl rfl rfl (Nat.le_of_ble_eq_true rfl) dX2_copyFrom_5 [(a0, .inr (2, [.int 0, .int 0, .int 0, .ref a2, .ref a3, .ref a4, .int 0, .int 0, .int 0, .int 0, .int 0, .ref a5, .int 0])), (a2, .inl (ct 0, 32, .inl f0)), (a3, .inl (ct 0, 35, .inl f0)), (a4, .inl (ct 0, 900, .inl f0)), (a5, .inr (4, [.ref a6, .ref a7, .ref a8, .int 0])), (a7, .inl (ct 0, 56, .inl f0)), (a8, .inl (ct 0, 8, .inl f0)), (a6, .inl (ct 0, 7, .inl f1)), (a9, .inl (ct 0, 900, .inl f0)), (a1, .inr (2, [.int 0, .int 0, .int 0, .ref a10, .ref a11, .ref a9, .int 0, .int 0, .int 0, .int 0, .int 0, .ref a12, .int 1])), (a10, .inl (ct 0, 32, .inl f2)), (a11, .inl (ct 0, 35, .inl f3)), (a12, .inr (4, [.ref a13, .ref a14, .ref a15, .int 0])), (a13, .inl (ct 0, 7, .inl f4)), (a14, .inl (ct 0, 56, .inl f5)), (a15, .inl (ct 0, 8, .inl f6))] rfl (fun H locs hw => ?_)
  refine lv_aload_n hx hb dX2_copyFrom_8 rfl (lv_at hl 0 rfl) ?_
  refine lv_aload_n hx hb dX2_copyFrom_9 rfl (lv_at hl 1 rfl) ?_
  refine fg_211 X hw 9 rfl rfl dX2_copyFrom_10 ?_
  refine fp_211 X hw 0 rfl rfl rfl (Nat.le_of_ble_eq_true rfl) dX2_copyFrom_13 [(a0, .inr (2, [.int 0, .int 0, .int 0, .ref a2, .ref a3, .ref a4, .int 0, .int 0, .int 0, .int 0, .int 0, .ref a5, .int 0])), (a2, .inl (ct 0, 32, .inl f0)), (a3, .inl (ct 0, 35, .inl f0)), (a4, .inl (ct 0, 900, .inl f0)), (a5, .inr (4, [.ref a6, .ref a7, .ref a8, .int 0])), (a7, .inl (ct 0, 56, .inl f0)), (a8, .inl (ct 0, 8, .inl f0)), (a6, .inl (ct 0, 7, .inl f1)), (a9, .inl (ct 0, 900, .inl f0)), (a1, .inr (2, [.int 0, .int 0, .int 0, .ref a10, .ref a11, .ref a9, .int 0, .int 0, .int 0, .int 0, .int 0, .ref a12, .int 1])), (a10, .inl (ct 0, 32, .inl f2)), (a11, .inl (ct 0, 35, .inl f3)), (a12, .inr (4, [.ref a13, .ref a14, .ref a15, .int 0])), (a13, .inl (ct 0, 7, .inl f4)), (a14, .inl (ct 0, 56, .inl f5)), (a15, .inl (ct 0, 8, .inl f6))] rfl (fun H locs hw => ?_)
  refine lv_aload_n hx hb dX2_copyFrom_16 rfl (lv_at hl 0 rfl) ?_
  refine lv_aload_n hx hb dX2_copyFrom_17 rfl (lv_at hl 1 rfl) ?_
  refine fg_218 X hw 9 rfl rfl dX2_copyFrom_18 ?_
  refine fp_218 X hw 0 rfl rfl rfl (Nat.le_of_ble_eq_true rfl) dX2_copyFrom_21 [(a0, .inr (2, [.int 0, .int 0, .int 0, .ref a2, .ref a3, .ref a4, .int 0, .int 0, .int 0, .int 0, .int 0, .ref a5, .int 0])), (a2, .inl (ct 0, 32, .inl f0)), (a3, .inl (ct 0, 35, .inl f0)), (a4, .inl (ct 0, 900, .inl f0)), (a5, .inr (4, [.ref a6, .ref a7, .ref a8, .int 0])), (a7, .inl (ct 0, 56, .inl f0)), (a8, .inl (ct 0, 8, .inl f0)), (a6, .inl (ct 0, 7, .inl f1)), (a9, .inl (ct 0, 900, .inl f0)), (a1, .inr (2, [.int 0, .int 0, .int 0, .ref a10, .ref a11, .ref a9, .int 0, .int 0, .int 0, .int 0, .int 0, .ref a12, .int 1])), (a10, .inl (ct 0, 32, .inl f2)), (a11, .inl (ct 0, 35, .inl f3)), (a12, .inr (4, [.ref a13, .ref a14, .ref a15, .int 0])), (a13, .inl (ct 0, 7, .inl f4)), (a14, .inl (ct 0, 56, .inl f5)), (a15, .inl (ct 0, 8, .inl f6))] rfl (fun H locs hw => ?_)
  refine lv_aload_n hx hb dX2_copyFrom_24 rfl (lv_at hl 1 rfl) ?_
  refine fg_226 X hw 9 rfl rfl dX2_copyFrom_25 ?_
  refine lv_iconst (v := 0) hx hb dX2_copyFrom_28 (by decide) ?_
  refine lv_aload_n hx hb dX2_copyFrom_29 rfl (lv_at hl 0 rfl) ?_
  refine fg_226 X hw 0 rfl rfl dX2_copyFrom_30 ?_
  refine lv_iconst (v := 0) hx hb dX2_copyFrom_33 (by decide) ?_
  refine lv_aload_n hx hb dX2_copyFrom_34 rfl (lv_at hl 0 rfl) ?_
  refine fg_226 X hw 0 rfl rfl dX2_copyFrom_35 ?_
  refine k_alen (v := 32) X hw 1 0 rfl rfl rfl dX2_copyFrom_38 ?_
  refine k_copyi X hl.1 wd_861 wd_863 wd_862 wd_149 hw 10 1 rfl rfl (by decide) (by decide) (by decide) (by decide) (by decide) (by decide) (Nat.le_of_ble_eq_true rfl) dX2_copyFrom_39 [(a0, .inr (2, [.int 0, .int 0, .int 0, .ref a2, .ref a3, .ref a4, .int 0, .int 0, .int 0, .int 0, .int 0, .ref a5, .int 0])), (a2, .inl (ct 0, 32, .inl (va_cpy f2 f0 0 0 32))), (a3, .inl (ct 0, 35, .inl f0)), (a4, .inl (ct 0, 900, .inl f0)), (a5, .inr (4, [.ref a6, .ref a7, .ref a8, .int 0])), (a7, .inl (ct 0, 56, .inl f0)), (a8, .inl (ct 0, 8, .inl f0)), (a6, .inl (ct 0, 7, .inl f1)), (a9, .inl (ct 0, 900, .inl f0)), (a1, .inr (2, [.int 0, .int 0, .int 0, .ref a10, .ref a11, .ref a9, .int 0, .int 0, .int 0, .int 0, .int 0, .ref a12, .int 1])), (a10, .inl (ct 0, 32, .inl f2)), (a11, .inl (ct 0, 35, .inl f3)), (a12, .inr (4, [.ref a13, .ref a14, .ref a15, .int 0])), (a13, .inl (ct 0, 7, .inl f4)), (a14, .inl (ct 0, 56, .inl f5)), (a15, .inl (ct 0, 8, .inl f6))] rfl (fun H locs hw => ?_)
  refine lv_aload_n hx hb dX2_copyFrom_42 rfl (lv_at hl 1 rfl) ?_
  refine fg_228 X hw 9 rfl rfl dX2_copyFrom_43 ?_
  refine lv_iconst (v := 0) hx hb dX2_copyFrom_46 (by decide) ?_
  refine lv_aload_n hx hb dX2_copyFrom_47 rfl (lv_at hl 0 rfl) ?_
  refine fg_228 X hw 0 rfl rfl dX2_copyFrom_48 ?_
  refine lv_iconst (v := 0) hx hb dX2_copyFrom_51 (by decide) ?_
  refine lv_aload_n hx hb dX2_copyFrom_52 rfl (lv_at hl 0 rfl) ?_
  refine fg_228 X hw 0 rfl rfl dX2_copyFrom_53 ?_
  refine k_alen (v := 35) X hw 2 0 rfl rfl rfl dX2_copyFrom_56 ?_
  refine k_copyi X hl.1 wd_861 wd_863 wd_862 wd_149 hw 11 2 rfl rfl (by decide) (by decide) (by decide) (by decide) (by decide) (by decide) (Nat.le_of_ble_eq_true rfl) dX2_copyFrom_57 [(a0, .inr (2, [.int 0, .int 0, .int 0, .ref a2, .ref a3, .ref a4, .int 0, .int 0, .int 0, .int 0, .int 0, .ref a5, .int 0])), (a2, .inl (ct 0, 32, .inl (va_cpy f2 f0 0 0 32))), (a3, .inl (ct 0, 35, .inl (va_cpy f3 f0 0 0 35))), (a4, .inl (ct 0, 900, .inl f0)), (a5, .inr (4, [.ref a6, .ref a7, .ref a8, .int 0])), (a7, .inl (ct 0, 56, .inl f0)), (a8, .inl (ct 0, 8, .inl f0)), (a6, .inl (ct 0, 7, .inl f1)), (a9, .inl (ct 0, 900, .inl f0)), (a1, .inr (2, [.int 0, .int 0, .int 0, .ref a10, .ref a11, .ref a9, .int 0, .int 0, .int 0, .int 0, .int 0, .ref a12, .int 1])), (a10, .inl (ct 0, 32, .inl f2)), (a11, .inl (ct 0, 35, .inl f3)), (a12, .inr (4, [.ref a13, .ref a14, .ref a15, .int 0])), (a13, .inl (ct 0, 7, .inl f4)), (a14, .inl (ct 0, 56, .inl f5)), (a15, .inl (ct 0, 8, .inl f6))] rfl (fun H locs hw => ?_)
  refine lv_aload_n hx hb dX2_copyFrom_60 rfl (lv_at hl 1 rfl) ?_
  refine fg_230 X hw 9 rfl rfl dX2_copyFrom_61 ?_
  refine lv_iconst (v := 0) hx hb dX2_copyFrom_64 (by decide) ?_
  refine lv_aload_n hx hb dX2_copyFrom_65 rfl (lv_at hl 0 rfl) ?_
  refine fg_230 X hw 0 rfl rfl dX2_copyFrom_66 ?_
  refine lv_iconst (v := 0) hx hb dX2_copyFrom_69 (by decide) ?_
  refine lv_aload_n hx hb dX2_copyFrom_70 rfl (lv_at hl 1 rfl) ?_
  refine fg_233 X hw 9 rfl rfl dX2_copyFrom_71 ?_
  refine k_copyi X hl.1 wd_861 wd_863 wd_862 wd_149 hw 8 3 rfl rfl (by decide) (by decide) (by decide) (by decide) (by decide) (by decide) (Nat.le_of_ble_eq_true rfl) dX2_copyFrom_74 [(a0, .inr (2, [.int 0, .int 0, .int 0, .ref a2, .ref a3, .ref a4, .int 0, .int 0, .int 0, .int 0, .int 0, .ref a5, .int 0])), (a2, .inl (ct 0, 32, .inl (va_cpy f2 f0 0 0 32))), (a3, .inl (ct 0, 35, .inl (va_cpy f3 f0 0 0 35))), (a4, .inl (ct 0, 900, .inl (va_cpy f0 f0 0 0 0))), (a5, .inr (4, [.ref a6, .ref a7, .ref a8, .int 0])), (a7, .inl (ct 0, 56, .inl f0)), (a8, .inl (ct 0, 8, .inl f0)), (a6, .inl (ct 0, 7, .inl f1)), (a9, .inl (ct 0, 900, .inl f0)), (a1, .inr (2, [.int 0, .int 0, .int 0, .ref a10, .ref a11, .ref a9, .int 0, .int 0, .int 0, .int 0, .int 0, .ref a12, .int 1])), (a10, .inl (ct 0, 32, .inl f2)), (a11, .inl (ct 0, 35, .inl f3)), (a12, .inr (4, [.ref a13, .ref a14, .ref a15, .int 0])), (a13, .inl (ct 0, 7, .inl f4)), (a14, .inl (ct 0, 56, .inl f5)), (a15, .inl (ct 0, 8, .inl f6))] rfl (fun H locs hw => ?_)
  refine lv_aload_n hx hb dX2_copyFrom_77 rfl (lv_at hl 0 rfl) ?_
  refine lv_aload_n hx hb dX2_copyFrom_78 rfl (lv_at hl 1 rfl) ?_
  refine fg_233 X hw 9 rfl rfl dX2_copyFrom_79 ?_
  refine fp_233 X hw 0 rfl rfl rfl (Nat.le_of_ble_eq_true rfl) dX2_copyFrom_82 [(a0, .inr (2, [.int 0, .int 0, .int 0, .ref a2, .ref a3, .ref a4, .int 0, .int 0, .int 0, .int 0, .int 0, .ref a5, .int 0])), (a2, .inl (ct 0, 32, .inl (va_cpy f2 f0 0 0 32))), (a3, .inl (ct 0, 35, .inl (va_cpy f3 f0 0 0 35))), (a4, .inl (ct 0, 900, .inl (va_cpy f0 f0 0 0 0))), (a5, .inr (4, [.ref a6, .ref a7, .ref a8, .int 0])), (a7, .inl (ct 0, 56, .inl f0)), (a8, .inl (ct 0, 8, .inl f0)), (a6, .inl (ct 0, 7, .inl f1)), (a9, .inl (ct 0, 900, .inl f0)), (a1, .inr (2, [.int 0, .int 0, .int 0, .ref a10, .ref a11, .ref a9, .int 0, .int 0, .int 0, .int 0, .int 0, .ref a12, .int 1])), (a10, .inl (ct 0, 32, .inl f2)), (a11, .inl (ct 0, 35, .inl f3)), (a12, .inr (4, [.ref a13, .ref a14, .ref a15, .int 0])), (a13, .inl (ct 0, 7, .inl f4)), (a14, .inl (ct 0, 56, .inl f5)), (a15, .inl (ct 0, 8, .inl f6))] rfl (fun H locs hw => ?_)
  refine lv_aload_n hx hb dX2_copyFrom_85 rfl (lv_at hl 0 rfl) ?_
  refine lv_aload_n hx hb dX2_copyFrom_86 rfl (lv_at hl 1 rfl) ?_
  refine fg_235 X hw 9 rfl rfl dX2_copyFrom_87 ?_
  refine fp_235 X hw 0 rfl rfl rfl (Nat.le_of_ble_eq_true rfl) dX2_copyFrom_90 [(a0, .inr (2, [.int 0, .int 0, .int 0, .ref a2, .ref a3, .ref a4, .int 0, .int 0, .int 0, .int 0, .int 0, .ref a5, .int 0])), (a2, .inl (ct 0, 32, .inl (va_cpy f2 f0 0 0 32))), (a3, .inl (ct 0, 35, .inl (va_cpy f3 f0 0 0 35))), (a4, .inl (ct 0, 900, .inl (va_cpy f0 f0 0 0 0))), (a5, .inr (4, [.ref a6, .ref a7, .ref a8, .int 0])), (a7, .inl (ct 0, 56, .inl f0)), (a8, .inl (ct 0, 8, .inl f0)), (a6, .inl (ct 0, 7, .inl f1)), (a9, .inl (ct 0, 900, .inl f0)), (a1, .inr (2, [.int 0, .int 0, .int 0, .ref a10, .ref a11, .ref a9, .int 0, .int 0, .int 0, .int 0, .int 0, .ref a12, .int 1])), (a10, .inl (ct 0, 32, .inl f2)), (a11, .inl (ct 0, 35, .inl f3)), (a12, .inr (4, [.ref a13, .ref a14, .ref a15, .int 0])), (a13, .inl (ct 0, 7, .inl f4)), (a14, .inl (ct 0, 56, .inl f5)), (a15, .inl (ct 0, 8, .inl f6))] rfl (fun H locs hw => ?_)
  refine lv_aload_n hx hb dX2_copyFrom_93 rfl (lv_at hl 0 rfl) ?_
  refine lv_aload_n hx hb dX2_copyFrom_94 rfl (lv_at hl 1 rfl) ?_
  refine fg_238 X hw 9 rfl rfl dX2_copyFrom_95 ?_
  refine fp_238 X hw 0 rfl rfl rfl (Nat.le_of_ble_eq_true rfl) dX2_copyFrom_98 [(a0, .inr (2, [.int 0, .int 0, .int 0, .ref a2, .ref a3, .ref a4, .int 0, .int 0, .int 0, .int 0, .int 0, .ref a5, .int 0])), (a2, .inl (ct 0, 32, .inl (va_cpy f2 f0 0 0 32))), (a3, .inl (ct 0, 35, .inl (va_cpy f3 f0 0 0 35))), (a4, .inl (ct 0, 900, .inl (va_cpy f0 f0 0 0 0))), (a5, .inr (4, [.ref a6, .ref a7, .ref a8, .int 0])), (a7, .inl (ct 0, 56, .inl f0)), (a8, .inl (ct 0, 8, .inl f0)), (a6, .inl (ct 0, 7, .inl f1)), (a9, .inl (ct 0, 900, .inl f0)), (a1, .inr (2, [.int 0, .int 0, .int 0, .ref a10, .ref a11, .ref a9, .int 0, .int 0, .int 0, .int 0, .int 0, .ref a12, .int 1])), (a10, .inl (ct 0, 32, .inl f2)), (a11, .inl (ct 0, 35, .inl f3)), (a12, .inr (4, [.ref a13, .ref a14, .ref a15, .int 0])), (a13, .inl (ct 0, 7, .inl f4)), (a14, .inl (ct 0, 56, .inl f5)), (a15, .inl (ct 0, 8, .inl f6))] rfl (fun H locs hw => ?_)
  refine lv_aload_n hx hb dX2_copyFrom_101 rfl (lv_at hl 0 rfl) ?_
  refine lv_aload_n hx hb dX2_copyFrom_102 rfl (lv_at hl 1 rfl) ?_
  refine fg_241 X hw 9 rfl rfl dX2_copyFrom_103 ?_
  refine fp_241 X hw 0 rfl rfl rfl (Nat.le_of_ble_eq_true rfl) dX2_copyFrom_106 [(a0, .inr (2, [.int 0, .int 0, .int 0, .ref a2, .ref a3, .ref a4, .int 0, .int 0, .int 0, .int 0, .int 0, .ref a5, .int 0])), (a2, .inl (ct 0, 32, .inl (va_cpy f2 f0 0 0 32))), (a3, .inl (ct 0, 35, .inl (va_cpy f3 f0 0 0 35))), (a4, .inl (ct 0, 900, .inl (va_cpy f0 f0 0 0 0))), (a5, .inr (4, [.ref a6, .ref a7, .ref a8, .int 0])), (a7, .inl (ct 0, 56, .inl f0)), (a8, .inl (ct 0, 8, .inl f0)), (a6, .inl (ct 0, 7, .inl f1)), (a9, .inl (ct 0, 900, .inl f0)), (a1, .inr (2, [.int 0, .int 0, .int 0, .ref a10, .ref a11, .ref a9, .int 0, .int 0, .int 0, .int 0, .int 0, .ref a12, .int 1])), (a10, .inl (ct 0, 32, .inl f2)), (a11, .inl (ct 0, 35, .inl f3)), (a12, .inr (4, [.ref a13, .ref a14, .ref a15, .int 0])), (a13, .inl (ct 0, 7, .inl f4)), (a14, .inl (ct 0, 56, .inl f5)), (a15, .inl (ct 0, 8, .inl f6))] rfl (fun H locs hw => ?_)
  refine lv_aload_n hx hb dX2_copyFrom_109 rfl (lv_at hl 0 rfl) ?_
  refine lv_aload_n hx hb dX2_copyFrom_110 rfl (lv_at hl 1 rfl) ?_
  refine fg_244 X hw 9 rfl rfl dX2_copyFrom_111 ?_
  refine fp_244 X hw 0 rfl rfl rfl (Nat.le_of_ble_eq_true rfl) dX2_copyFrom_114 [(a0, .inr (2, [.int 0, .int 0, .int 0, .ref a2, .ref a3, .ref a4, .int 0, .int 0, .int 0, .int 0, .int 0, .ref a5, .int 0])), (a2, .inl (ct 0, 32, .inl (va_cpy f2 f0 0 0 32))), (a3, .inl (ct 0, 35, .inl (va_cpy f3 f0 0 0 35))), (a4, .inl (ct 0, 900, .inl (va_cpy f0 f0 0 0 0))), (a5, .inr (4, [.ref a6, .ref a7, .ref a8, .int 0])), (a7, .inl (ct 0, 56, .inl f0)), (a8, .inl (ct 0, 8, .inl f0)), (a6, .inl (ct 0, 7, .inl f1)), (a9, .inl (ct 0, 900, .inl f0)), (a1, .inr (2, [.int 0, .int 0, .int 0, .ref a10, .ref a11, .ref a9, .int 0, .int 0, .int 0, .int 0, .int 0, .ref a12, .int 1])), (a10, .inl (ct 0, 32, .inl f2)), (a11, .inl (ct 0, 35, .inl f3)), (a12, .inr (4, [.ref a13, .ref a14, .ref a15, .int 0])), (a13, .inl (ct 0, 7, .inl f4)), (a14, .inl (ct 0, 56, .inl f5)), (a15, .inl (ct 0, 8, .inl f6))] rfl (fun H locs hw => ?_)
  refine lv_aload_n hx hb dX2_copyFrom_117 rfl (lv_at hl 0 rfl) ?_
  refine fg_247 X hw 0 rfl rfl dX2_copyFrom_118 ?_
  refine lv_aload_n hx hb dX2_copyFrom_121 rfl (lv_at hl 1 rfl) ?_
  refine fg_247 X hw 9 rfl rfl dX2_copyFrom_122 ?_
  refine m_Vv (As := [.ref a12]) (rest := []) (c31_X4_copyFrom l D ct a5 a12 a6 a7 a8 f0 f1 a13 a14 a15 f4 f5 f6) X hl.1 kw_864 kd_yX4_copyFrom hw [4, 5, 6, 7, 12, 13, 14, 15] [0, 1, 2, 3, 8, 9, 10, 11] rfl rfl rfl rfl (by decide) 0 rfl rfl ⟨by decide, by decide⟩ rfl rfl (Nat.le_of_ble_eq_true rfl) dX2_copyFrom_125 ⟨by decide, by decide⟩ (fun u2 H locs hr3 hw => ?_)
  replace hw : WD D A s.heap _ _ [(a0, .inr (2, [.int 0, .int 0, .int 0, .ref a2, .ref a3, .ref a4, .int 0, .int 0, .int 0, .int 0, .int 0, .ref a5, .int 0])), (a2, .inl (ct 0, 32, .inl (va_cpy f2 f0 0 0 32))), (a3, .inl (ct 0, 35, .inl (va_cpy f3 f0 0 0 35))), (a4, .inl (ct 0, 900, .inl (va_cpy f0 f0 0 0 0))), (a9, .inl (ct 0, 900, .inl f0)), (a1, .inr (2, [.int 0, .int 0, .int 0, .ref a10, .ref a11, .ref a9, .int 0, .int 0, .int 0, .int 0, .int 0, .ref a12, .int 1])), (a10, .inl (ct 0, 32, .inl f2)), (a11, .inl (ct 0, 35, .inl f3)), (a5, .inr (4, [.ref a6, .ref a7, .ref a8, .int 0])), (a7, .inl (ct 0, 56, .inl (va_cpy f5 f0 0 0 56))), (a8, .inl (ct 0, 8, .inl (va_cpy f6 f0 0 0 8))), (a6, .inl (ct 0, 7, .inl (va_cpy f4 f1 0 0 7))), (a12, .inr (4, [.ref a13, .ref a14, .ref a15, .int 0])), (a13, .inl (ct 0, 7, .inl f4)), (a14, .inl (ct 0, 56, .inl f5)), (a15, .inl (ct 0, 8, .inl f6))] := hw
  refine lv_aload_n hx hb dX2_copyFrom_128 rfl (lv_at hl 0 rfl) ?_
  refine lv_dup hx hb dX2_copyFrom_129 rfl ?_
  refine fg_254 X hw 0 rfl rfl dX2_copyFrom_130 ?_
  refine lv_iconst (v := 1) hx hb dX2_copyFrom_133 (by decide) ?_
  refine kv_iadd (v := 1) hx hb (by decide) dX2_copyFrom_134 ?_
  refine fp_254 X hw 0 rfl rfl rfl (Nat.le_of_ble_eq_true rfl) dX2_copyFrom_135 [(a0, .inr (2, [.int 0, .int 0, .int 0, .ref a2, .ref a3, .ref a4, .int 0, .int 0, .int 0, .int 0, .int 0, .ref a5, .int 1])), (a2, .inl (ct 0, 32, .inl (va_cpy f2 f0 0 0 32))), (a3, .inl (ct 0, 35, .inl (va_cpy f3 f0 0 0 35))), (a4, .inl (ct 0, 900, .inl (va_cpy f0 f0 0 0 0))), (a9, .inl (ct 0, 900, .inl f0)), (a1, .inr (2, [.int 0, .int 0, .int 0, .ref a10, .ref a11, .ref a9, .int 0, .int 0, .int 0, .int 0, .int 0, .ref a12, .int 1])), (a10, .inl (ct 0, 32, .inl f2)), (a11, .inl (ct 0, 35, .inl f3)), (a5, .inr (4, [.ref a6, .ref a7, .ref a8, .int 0])), (a7, .inl (ct 0, 56, .inl (va_cpy f5 f0 0 0 56))), (a8, .inl (ct 0, 8, .inl (va_cpy f6 f0 0 0 8))), (a6, .inl (ct 0, 7, .inl (va_cpy f4 f1 0 0 7))), (a12, .inr (4, [.ref a13, .ref a14, .ref a15, .int 0])), (a13, .inl (ct 0, 7, .inl f4)), (a14, .inl (ct 0, 56, .inl f5)), (a15, .inl (ct 0, 8, .inl f6))] rfl (fun H locs hw => ?_)
  exact r_v X hr hlk hw [0, 1, 2, 3, 4, 5, 6, 7, 8, 9, 10, 11, 12, 13, 14, 15] (fun _ => 0) rfl rfl trivial (by decide) (by decide) dX2_copyFrom_138
set_option maxHeartbeats 4000000 in
set_option maxRecDepth 100000 in
theorem c33_X1_forget (l : Launch) (D : va_G) (ct : Nat → ClassId) (a0 : Nat) (a1 : Nat) : CV l yX1_forget cX1_forget 1 none { frames := 0, cells := 0, slots := 0, locals := 0 } D ct [.ref a0] [(a0, .inr (1, [.int 0, .int 0, .ref a1]))] True (fun u => [(a0, .inr (1, [.int 0, .int 0, .ref a1]))]) := by
  refine CV.of (by decide +kernel) (Nat.le_of_ble_eq_true rfl) ?_
  intro p e s m below meth c A ls hE
  obtain ⟨X, hr, hlk, hnm, hw, hl⟩ := hE
  have X : CX p m c cX1_forget 1 s [.ref a0].toArray RX1 D ct := X
  have hl : lv_has ls 1 [(0, .ref a0)] := hl
  obtain ⟨⟨hx, hb, hml, hown, hts⟩, hK⟩ := id X
  refine lv_aload_n hx hb dX1_forget_0 rfl (lv_at hl 0 rfl) ?_
  refine lv_iconst (v := 0) hx hb dX1_forget_1 (by decide) ?_
  refine fp_529 X hw 0 rfl rfl rfl (Nat.le_of_ble_eq_true rfl) dX1_forget_2 [(a0, .inr (1, [.int 0, .int 0, .ref a1]))] rfl (fun H locs hw => ?_)
  exact r_v X hr hlk hw [0] (fun _ => 0) rfl rfl trivial (by decide) (by decide) dX1_forget_5
set_option maxHeartbeats 4000000 in
set_option maxRecDepth 100000 in
theorem c34_X11_tower (l : Launch) (D : va_G) (ct : Nat → ClassId) (a0 : Nat) (p0 : Int32) (a1 : Nat) (a2 : Nat) (a3 : Nat) (a4 : Nat) (a5 : Nat) (a6 : Nat) (a7 : Nat) (a8 : Nat) (a9 : Nat) (a10 : Nat) (a11 : Nat) (a12 : Nat) (a13 : Nat) (a14 : Nat) (a15 : Nat) (f0 : Nat → Int32) (a16 : Nat) (a17 : Nat) (a18 : Nat) (a19 : Nat) (a20 : Nat) (a21 : Nat) (a22 : Nat) (f1 : Nat → Int32) (a23 : Nat) (a24 : Nat) (a25 : Nat) (a26 : Nat) (a27 : Nat) (a28 : Nat) (a29 : Nat) (a30 : Nat) (a31 : Nat) (a32 : Nat) : CI l yX11_tower cX11_tower 2 (some .int) { frames := 4, cells := 0, slots := 0, locals := 102 } D ct [.ref a0, .int p0] [(a0, .inr (11, [.ref a1, .int 0, .ref a2, .ref a3, .ref a4, .ref a5, .ref a6, .ref a7, .ref a8, .ref a9, .ref a10, .ref a11, .ref a12, .ref a13, .ref a14, .ref a15, .int (-1), .int (-1)])), (a1, .inl (ct 1, 900, .inl f0)), (a2, .inr (2, [.int 0, .int 0, .int 0, .ref a16, .ref a17, .ref a18, .int 0, .int 0, .int 0, .int 0, .int 0, .ref a19, .int 0])), (a16, .inl (ct 0, 32, .inl f0)), (a17, .inl (ct 0, 35, .inl f0)), (a18, .inl (ct 0, 900, .inl f0)), (a19, .inr (4, [.ref a20, .ref a21, .ref a22, .int 0])), (a21, .inl (ct 0, 56, .inl f0)), (a22, .inl (ct 0, 8, .inl f0)), (a20, .inl (ct 0, 7, .inl f1)), (a3, .inr (7, [.ref a23, .int 0, .int (-1), .ref a24, .int 0, .int 0, .int 0, .int 0, .int 0])), (a23, .inr (2, [.int 0, .int 0, .int 0, .ref a25, .ref a26, .ref a27, .int 0, .int 0, .int 0, .int 0, .int 0, .ref a28, .int 0])), (a25, .inl (ct 0, 32, .inl f0)), (a26, .inl (ct 0, 35, .inl f0)), (a27, .inl (ct 0, 900, .inl f0)), (a28, .inr (4, [.ref a29, .ref a30, .ref a31, .int 0])), (a30, .inl (ct 0, 56, .inl f0)), (a31, .inl (ct 0, 8, .inl f0)), (a29, .inl (ct 0, 7, .inl f1)), (a10, .inr (1, [.int 0, .int 0, .ref a32]))] (fun r => ((p0.toInt < 0) ∨ (p0.toInt ≥ 0 ∧ p0.toInt > 0)) ∧ r = (-3) ∨ (p0.toInt ≥ 0 ∧ p0.toInt ≤ 0 ∧ p0.toInt = 0) ∧ r = 0) (fun u => []) := by
  refine CI.of (by decide +kernel) (Nat.le_of_ble_eq_true rfl) ?_
  intro p e s m below meth c A ls hE
  obtain ⟨X, hr, hlk, hnm, hw, hl⟩ := hE
  have X : CX p m c cX11_tower 2 s [.ref a0, .int p0].toArray RX11 D ct := X
  have hl : lv_has ls 2 [(0, .ref a0), (1, .int p0)] := hl
  obtain ⟨⟨hx, hb, hml, hown, hts⟩, hK⟩ := id X
  refine lv_iload_n hx hb dX11_tower_0 rfl (lv_at hl 1 rfl) ?_
  refine lv_if_lt (tgt := 12) hx hb dX11_tower_1 (by decide) (fun h1 => ?_) (fun h1 => ?_)
  · have h1 : p0.toInt < 0 := by have q := ci_lt (a := p0.toInt) (b := 0) rfl (by decide) h1; omega
    refine lv_bipush (v := (-3)) hx hb dX11_tower_12 (by decide) ?_
    exact r_i X hr hlk hw [] (fun _ => 0) rfl rfl (Or.inl (⟨Or.inl (h1), rfl⟩)) (by decide) (by decide) dX11_tower_14
  · have h1 : p0.toInt ≥ 0 := by have q := ci_nlt (a := p0.toInt) (b := 0) rfl (by decide) h1; omega
    refine lv_iload_n hx hb dX11_tower_4 rfl (lv_at hl 1 rfl) ?_
    refine lv_aload_n hx hb dX11_tower_5 rfl (lv_at hl 0 rfl) ?_
    refine fg_566 X hw 0 rfl rfl dX11_tower_6 ?_
    refine lv_icmp_le (tgt := 15) hx hb dX11_tower_9 (by decide) (fun h2 => ?_) (fun h2 => ?_)
    · have h2 : p0.toInt ≤ 0 := by have q := ci_le (a := p0.toInt) (b := 0) rfl (by decide) h2; omega
      have e3 : p0.toInt = 0 := by omega
      obtain rfl : p0 = 0 := i32_of e3
      refine lv_aload_n hx hb dX11_tower_15 rfl (lv_at hl 0 rfl) ?_
      refine lv_iconst (v := 0) hx hb dX11_tower_16 (by decide) ?_
      refine fp_566 X hw 0 rfl rfl rfl (Nat.le_of_ble_eq_true rfl) dX11_tower_17 [(a0, .inr (11, [.ref a1, .int 0, .ref a2, .ref a3, .ref a4, .ref a5, .ref a6, .ref a7, .ref a8, .ref a9, .ref a10, .ref a11, .ref a12, .ref a13, .ref a14, .ref a15, .int (-1), .int (-1)])), (a1, .inl (ct 1, 900, .inl f0)), (a2, .inr (2, [.int 0, .int 0, .int 0, .ref a16, .ref a17, .ref a18, .int 0, .int 0, .int 0, .int 0, .int 0, .ref a19, .int 0])), (a16, .inl (ct 0, 32, .inl f0)), (a17, .inl (ct 0, 35, .inl f0)), (a18, .inl (ct 0, 900, .inl f0)), (a19, .inr (4, [.ref a20, .ref a21, .ref a22, .int 0])), (a21, .inl (ct 0, 56, .inl f0)), (a22, .inl (ct 0, 8, .inl f0)), (a20, .inl (ct 0, 7, .inl f1)), (a3, .inr (7, [.ref a23, .int 0, .int (-1), .ref a24, .int 0, .int 0, .int 0, .int 0, .int 0])), (a23, .inr (2, [.int 0, .int 0, .int 0, .ref a25, .ref a26, .ref a27, .int 0, .int 0, .int 0, .int 0, .int 0, .ref a28, .int 0])), (a25, .inl (ct 0, 32, .inl f0)), (a26, .inl (ct 0, 35, .inl f0)), (a27, .inl (ct 0, 900, .inl f0)), (a28, .inr (4, [.ref a29, .ref a30, .ref a31, .int 0])), (a30, .inl (ct 0, 56, .inl f0)), (a31, .inl (ct 0, 8, .inl f0)), (a29, .inl (ct 0, 7, .inl f1)), (a10, .inr (1, [.int 0, .int 0, .ref a32]))] rfl (fun H locs hw => ?_)
      refine lv_aload_n hx hb dX11_tower_20 rfl (lv_at hl 0 rfl) ?_
      refine fg_568 X hw 0 rfl rfl dX11_tower_21 ?_
      refine lv_aload_n hx hb dX11_tower_24 rfl (lv_at hl 0 rfl) ?_
      refine fg_565 X hw 0 rfl rfl dX11_tower_25 ?_
      refine lv_iload_n hx hb dX11_tower_28 rfl (lv_at hl 1 rfl) ?_
      refine m_Vi (As := [.ref a1, .int 0]) (rest := []) (c30_X7_readAll l D ct a3 a1 f0 a23 a24 a25 a26 a27 a28 a29 a30 a31 f1) X hl.1 kw_632 kd_yX7_readAll hw [1, 10, 11, 12, 13, 15, 16, 17, 18] [0, 2, 3, 4, 5, 6, 7, 8, 9, 14, 19] rfl rfl rfl rfl (by decide) 1 rfl rfl ⟨by decide, by decide⟩ rfl rfl (Nat.le_of_ble_eq_true rfl) dX11_tower_29 ⟨by decide, by decide⟩ (fun r4 u5 H locs hr6 hw => ?_)
      replace hw : WD D A s.heap _ _ [(a0, .inr (11, [.ref a1, .int 0, .ref a2, .ref a3, .ref a4, .ref a5, .ref a6, .ref a7, .ref a8, .ref a9, .ref a10, .ref a11, .ref a12, .ref a13, .ref a14, .ref a15, .int (-1), .int (-1)])), (a2, .inr (2, [.int 0, .int 0, .int 0, .ref a16, .ref a17, .ref a18, .int 0, .int 0, .int 0, .int 0, .int 0, .ref a19, .int 0])), (a16, .inl (ct 0, 32, .inl f0)), (a17, .inl (ct 0, 35, .inl f0)), (a18, .inl (ct 0, 900, .inl f0)), (a19, .inr (4, [.ref a20, .ref a21, .ref a22, .int 0])), (a21, .inl (ct 0, 56, .inl f0)), (a22, .inl (ct 0, 8, .inl f0)), (a20, .inl (ct 0, 7, .inl f1)), (a27, .inl (ct 0, 900, .inl f0)), (a10, .inr (1, [.int 0, .int 0, .ref a32])), (a1, .inl (ct 1, 900, .inl f0)), (a23, .inr (2, [.int 0, .int 0, .int 0, .ref a25, .ref a26, .ref a27, .int 0, .int 0, .int 0, .int 0, .int 0, .ref a28, .int 1])), (a25, .inl (ct 0, 32, .inl (va_cpy (fun _ => 0) f0 0 0 32))), (a26, .inl (ct 0, 35, .inl (va_cpy (fun _ => 0) f0 0 0 35))), (a28, .inr (4, [.ref a29, .ref a30, .ref a31, .int 0])), (a29, .inl (ct 0, 7, .inl (va_cpy (fun _ => (-1)) f1 0 0 7))), (a30, .inl (ct 0, 56, .inl (va_cpy (fun _ => 0) f0 0 0 56))), (a31, .inl (ct 0, 8, .inl (va_cpy (fun _ => 0) f0 0 0 8))), (a3, .inr (7, [.ref a23, .int 0, .int (-1), .ref a1, .int 0, .int 0, .int 0, .int 0, .int 0]))] := hw
      subst hr6
      refine lv_if_ne (tgt := 46) hx hb dX11_tower_32 (by decide) (fun _ => ?_) (fun h => absurd h (by decide))
      refine lv_aload_n hx hb dX11_tower_46 rfl (lv_at hl 0 rfl) ?_
      refine fg_567 X hw 0 rfl rfl dX11_tower_47 ?_
      refine lv_aload_n hx hb dX11_tower_50 rfl (lv_at hl 0 rfl) ?_
      refine fg_568 X hw 0 rfl rfl dX11_tower_51 ?_
      refine fg_295 X hw 19 rfl rfl dX11_tower_54 ?_
      refine m_Vv (As := [.ref a23]) (rest := []) (c32_X2_copyFrom l D ct a2 a23 a16 a17 a18 a19 f0 a20 a21 a22 f1 a27 a25 a26 a28 (va_cpy (fun _ => 0) f0 0 0 32) (va_cpy (fun _ => 0) f0 0 0 35) a29 a30 a31 (va_cpy (fun _ => (-1)) f1 0 0 7) (va_cpy (fun _ => 0) f0 0 0 56) (va_cpy (fun _ => 0) f0 0 0 8)) X hl.1 kw_857 kd_yX2_copyFrom hw [1, 2, 3, 4, 5, 6, 7, 8, 9, 12, 13, 14, 15, 16, 17, 18] [0, 10, 11, 19] rfl rfl rfl rfl (by decide) 0 rfl rfl ⟨by decide, by decide⟩ rfl rfl (Nat.le_of_ble_eq_true rfl) dX11_tower_57 ⟨by decide, by decide⟩ (fun u8 H locs hr9 hw => ?_)
      replace hw : WD D A s.heap _ _ [(a0, .inr (11, [.ref a1, .int 0, .ref a2, .ref a3, .ref a4, .ref a5, .ref a6, .ref a7, .ref a8, .ref a9, .ref a10, .ref a11, .ref a12, .ref a13, .ref a14, .ref a15, .int (-1), .int (-1)])), (a10, .inr (1, [.int 0, .int 0, .ref a32])), (a1, .inl (ct 1, 900, .inl f0)), (a3, .inr (7, [.ref a23, .int 0, .int (-1), .ref a1, .int 0, .int 0, .int 0, .int 0, .int 0])), (a2, .inr (2, [.int 0, .int 0, .int 0, .ref a16, .ref a17, .ref a18, .int 0, .int 0, .int 0, .int 0, .int 0, .ref a19, .int 1])), (a16, .inl (ct 0, 32, .inl (va_cpy (va_cpy (fun _ => 0) f0 0 0 32) f0 0 0 32))), (a17, .inl (ct 0, 35, .inl (va_cpy (va_cpy (fun _ => 0) f0 0 0 35) f0 0 0 35))), (a18, .inl (ct 0, 900, .inl (va_cpy f0 f0 0 0 0))), (a27, .inl (ct 0, 900, .inl f0)), (a23, .inr (2, [.int 0, .int 0, .int 0, .ref a25, .ref a26, .ref a27, .int 0, .int 0, .int 0, .int 0, .int 0, .ref a28, .int 1])), (a25, .inl (ct 0, 32, .inl (va_cpy (fun _ => 0) f0 0 0 32))), (a26, .inl (ct 0, 35, .inl (va_cpy (fun _ => 0) f0 0 0 35))), (a19, .inr (4, [.ref a20, .ref a21, .ref a22, .int 0])), (a21, .inl (ct 0, 56, .inl (va_cpy (va_cpy (fun _ => 0) f0 0 0 56) f0 0 0 56))), (a22, .inl (ct 0, 8, .inl (va_cpy (va_cpy (fun _ => 0) f0 0 0 8) f0 0 0 8))), (a20, .inl (ct 0, 7, .inl (va_cpy (va_cpy (fun _ => (-1)) f1 0 0 7) f1 0 0 7))), (a28, .inr (4, [.ref a29, .ref a30, .ref a31, .int 0])), (a29, .inl (ct 0, 7, .inl (va_cpy (fun _ => (-1)) f1 0 0 7))), (a30, .inl (ct 0, 56, .inl (va_cpy (fun _ => 0) f0 0 0 56))), (a31, .inl (ct 0, 8, .inl (va_cpy (fun _ => 0) f0 0 0 8)))] := hw
      refine lv_aload_n hx hb dX11_tower_60 rfl (lv_at hl 0 rfl) ?_
      refine fg_575 X hw 0 rfl rfl dX11_tower_61 ?_
      refine m_Vv (As := []) (rest := []) (c33_X1_forget l D ct a10 a32) X hl.1 kw_869 kd_yX1_forget hw [1] [0, 2, 3, 4, 5, 6, 7, 8, 9, 10, 11, 12, 13, 14, 15, 16, 17, 18, 19] rfl rfl rfl rfl (by decide) 0 rfl rfl ⟨by decide, by decide⟩ rfl rfl (Nat.le_of_ble_eq_true rfl) dX11_tower_64 ⟨by decide, by decide⟩ (fun u11 H locs hr12 hw => ?_)
      replace hw : WD D A s.heap _ _ [(a0, .inr (11, [.ref a1, .int 0, .ref a2, .ref a3, .ref a4, .ref a5, .ref a6, .ref a7, .ref a8, .ref a9, .ref a10, .ref a11, .ref a12, .ref a13, .ref a14, .ref a15, .int (-1), .int (-1)])), (a1, .inl (ct 1, 900, .inl f0)), (a3, .inr (7, [.ref a23, .int 0, .int (-1), .ref a1, .int 0, .int 0, .int 0, .int 0, .int 0])), (a2, .inr (2, [.int 0, .int 0, .int 0, .ref a16, .ref a17, .ref a18, .int 0, .int 0, .int 0, .int 0, .int 0, .ref a19, .int 1])), (a16, .inl (ct 0, 32, .inl (va_cpy (va_cpy (fun _ => 0) f0 0 0 32) f0 0 0 32))), (a17, .inl (ct 0, 35, .inl (va_cpy (va_cpy (fun _ => 0) f0 0 0 35) f0 0 0 35))), (a18, .inl (ct 0, 900, .inl (va_cpy f0 f0 0 0 0))), (a27, .inl (ct 0, 900, .inl f0)), (a23, .inr (2, [.int 0, .int 0, .int 0, .ref a25, .ref a26, .ref a27, .int 0, .int 0, .int 0, .int 0, .int 0, .ref a28, .int 1])), (a25, .inl (ct 0, 32, .inl (va_cpy (fun _ => 0) f0 0 0 32))), (a26, .inl (ct 0, 35, .inl (va_cpy (fun _ => 0) f0 0 0 35))), (a19, .inr (4, [.ref a20, .ref a21, .ref a22, .int 0])), (a21, .inl (ct 0, 56, .inl (va_cpy (va_cpy (fun _ => 0) f0 0 0 56) f0 0 0 56))), (a22, .inl (ct 0, 8, .inl (va_cpy (va_cpy (fun _ => 0) f0 0 0 8) f0 0 0 8))), (a20, .inl (ct 0, 7, .inl (va_cpy (va_cpy (fun _ => (-1)) f1 0 0 7) f1 0 0 7))), (a28, .inr (4, [.ref a29, .ref a30, .ref a31, .int 0])), (a29, .inl (ct 0, 7, .inl (va_cpy (fun _ => (-1)) f1 0 0 7))), (a30, .inl (ct 0, 56, .inl (va_cpy (fun _ => 0) f0 0 0 56))), (a31, .inl (ct 0, 8, .inl (va_cpy (fun _ => 0) f0 0 0 8))), (a10, .inr (1, [.int 0, .int 0, .ref a32]))] := hw
      refine lv_aload_n hx hb dX11_tower_67 rfl (lv_at hl 0 rfl) ?_
      refine fg_567 X hw 0 rfl rfl dX11_tower_68 ?_
      refine fg_210 X hw 3 rfl rfl dX11_tower_71 ?_
      exact r_i X hr hlk hw [] (fun _ => 0) rfl rfl (Or.inr (⟨⟨h1, h2, e3⟩, rfl⟩)) (by decide) (by decide) dX11_tower_74
    · have h2 : p0.toInt > 0 := by have q := ci_nle (a := p0.toInt) (b := 0) rfl (by decide) h2; omega
      refine lv_bipush (v := (-3)) hx hb dX11_tower_12 (by decide) ?_
      exact r_i X hr hlk hw [] (fun _ => 0) rfl rfl (Or.inl (⟨Or.inr (⟨h1, h2⟩), rfl⟩)) (by decide) (by decide) dX11_tower_14
set_option maxHeartbeats 4000000 in
set_option maxRecDepth 100000 in
theorem c35_X12_within (l : Launch) (D : va_G) (ct : Nat → ClassId) (w0 : Int64) : CI l yX12_within cX12_within 6 (some .boolean) { frames := 0, cells := 0, slots := 0, locals := 0 } D ct [.long w0, .long 0, .long 0] [] (fun r => ((w0.toInt < 0) ∨ (w0.toInt ≥ 0 ∧ w0.toInt > 0)) ∧ r = 0 ∨ (w0.toInt ≥ 0 ∧ w0.toInt ≤ 0) ∧ r = 1) (fun u => []) := by
  refine CI.of (by decide +kernel) (Nat.le_of_ble_eq_true rfl) ?_
  intro p e s m below meth c A ls hE
  obtain ⟨X, hr, hlk, hnm, hw, hl⟩ := hE
  have X : CX p m c cX12_within 6 s [.long w0, .long 0, .long 0].toArray RX12 D ct := X
  have hl : lv_has ls 6 [(0, .long w0), (2, .long 0), (4, .long 0)] := hl
  obtain ⟨⟨hx, hb, hml, hown, hts⟩, hK⟩ := id X
  refine lv_lload_n hx hb dX12_within_0 rfl (lv_at hl 0 rfl) ?_
  refine lv_lload_n hx hb dX12_within_1 rfl (lv_at hl 1 rfl) ?_
  refine W.lcmp hx hb dX12_within_2 ?_
  refine lv_if_lt (tgt := 17) hx hb dX12_within_3 (by decide) (fun h1 => ?_) (fun h1 => ?_)
  · have h1 : w0.toInt < 0 := by have q := cl_lt (a := w0.toInt) (b := 0) rfl (by decide) h1; omega
    refine lv_iconst (v := 0) hx hb dX12_within_17 (by decide) ?_
    exact r_z X hr hlk hw [] (fun _ => 0) rfl rfl (Or.inl (⟨Or.inl (h1), rfl⟩)) (by decide) (by decide) (by decide) dX12_within_18
  · have h1 : w0.toInt ≥ 0 := by have q := cl_nlt (a := w0.toInt) (b := 0) rfl (by decide) h1; omega
    refine lv_lload_n hx hb dX12_within_6 rfl (lv_at hl 0 rfl) ?_
    refine lv_lload hx hb dX12_within_7 (lv_at hl 2 rfl) ?_
    refine W.lcmp hx hb dX12_within_9 ?_
    refine lv_if_gt (tgt := 17) hx hb dX12_within_10 (by decide) (fun h2 => ?_) (fun h2 => ?_)
    · have h2 : w0.toInt > 0 := by have q := cl_gt (a := w0.toInt) (b := 0) rfl (by decide) h2; omega
      refine lv_iconst (v := 0) hx hb dX12_within_17 (by decide) ?_
      exact r_z X hr hlk hw [] (fun _ => 0) rfl rfl (Or.inl (⟨Or.inr (⟨h1, h2⟩), rfl⟩)) (by decide) (by decide) (by decide) dX12_within_18
    · have h2 : w0.toInt ≤ 0 := by have q := cl_ngt (a := w0.toInt) (b := 0) rfl (by decide) h2; omega
      refine lv_iconst (v := 1) hx hb dX12_within_13 (by decide) ?_
      refine lv_goto (tgt := 18) hx hb dX12_within_14 (by decide) ?_
      exact r_z X hr hlk hw [] (fun _ => 0) rfl rfl (Or.inr (⟨⟨h1, h2⟩, rfl⟩)) (by decide) (by decide) (by decide) dX12_within_18
set_option maxHeartbeats 4000000 in
set_option maxRecDepth 100000 in
theorem ylp7 {p : Program} {l : Launch} {e : Env} {R : Room} {s : State} {m : MethodId} {args : Array Value} {below : List Frame} {meth : Method} {c : Code} {cells slots : Nat} {Q : State → Prop} {D : va_G} {ct : Nat → ClassId} {A : Nat → Prop} {a0 : Nat} {f0 : Nat → Int32} (X : CX p m c cX12_plain 2 s args RX12 D ct) (kk : ∀ (g : Nat → Int32), g = (va_cpy (fun _ => 0) f0 0 0 1770) → ∀ (H : Heap) (locs : List Loc) (ls : Array Slot), WD D A s.heap H locs [(a0, .inl (ct 0, 1770, .inl g))] → lv_has ls 2 [(1, .int (nI 1770)), (0, .ref a0)] → W p l e R s m args below meth c H locs cells slots Q (F0 m 19 ls [])) : ∀ (n k : Nat), k + n = 1770 → ∀ (g : Nat → Int32), g = (va_cpy (fun _ => 0) f0 0 0 k) → ∀ (H : Heap) (locs : List Loc) (ls : Array Slot), WD D A s.heap H locs [(a0, .inl (ct 0, 1770, .inl g))] → lv_has ls 2 [(1, .int (nI k)), (0, .ref a0)] → W p l e R s m args below meth c H locs cells slots Q (F0 m 2 ls []) := by
  obtain ⟨⟨hx, hb, hml, hown, hts⟩, hK⟩ := id X
  intro n
  induction n with
  | zero =>
    intro k hk g hg H locs ls hw hl
    obtain rfl : k = 1770 := by omega
    refine lv_iload_n hx hb dX12_plain_2 rfl (lv_at hl 0 rfl) ?_
    refine lv_sipush (v := 1770) hx hb dX12_plain_3 (by decide) ?_
    refine lv_icmp_ge (tgt := 19) hx hb dX12_plain_6 (by decide) (fun _ => ?_) (fun h => absurd (nI_le (a := 1770) (b := 1770) (Nat.le_refl _) (by omega)) h)
    exact kk g hg _ _ _ hw hl
  | succ n ih =>
    intro k hk g hg H locs ls hw hl
    refine lv_iload_n hx hb dX12_plain_2 rfl (lv_at hl 0 rfl) ?_
    refine lv_sipush (v := 1770) hx hb dX12_plain_3 (by decide) ?_
    refine lv_icmp_ge (tgt := 19) hx hb dX12_plain_6 (by decide) (fun h => absurd h (nI_ge (a := k) (b := 1770) (by omega) (by omega))) (fun _ => ?_)
    refine lv_aload_n hx hb dX12_plain_9 rfl (lv_at hl 1 rfl) ?_
    refine lv_iload_n hx hb dX12_plain_10 rfl (lv_at hl 0 rfl) ?_
    refine lv_iconst (v := 0) hx hb dX12_plain_11 (by decide) ?_
    refine j_iast (j := (k)) X hw 0 rfl (nI_pos (by omega)) (nI_clamp (by omega)) (by omega) dX12_plain_12 [(a0, .inl (ct 0, 1770, .inl (upd g (k) 0)))] rfl (fun H locs hw => ?_)
    refine lv_iinc (v := (nI (k + 1))) (lv' := [(1, .int (nI (k + 1))), (0, .ref a0)]) hx hb dX12_plain_13 hl (k := 0) rfl (nI_add _ _) (by decide) rfl (fun ls hl => ?_)
    refine lv_goto (tgt := 2) hx hb dX12_plain_16 (by decide) ?_
    exact ih (k + 1) (by omega) _ (by rw [hg]; exact cpy_s _ _ _ _ _ _ _ (by omega) (by first | rfl | rw [Nat.zero_add])) _ _ _ hw (lv_sub hl [0, 1] rfl)
set_option maxHeartbeats 4000000 in
set_option maxRecDepth 100000 in
theorem c36_X12_plain (l : Launch) (D : va_G) (ct : Nat → ClassId) (a0 : Nat) (f0 : Nat → Int32) : CV l yX12_plain cX12_plain 2 none { frames := 0, cells := 0, slots := 0, locals := 0 } D ct [.ref a0] [(a0, .inl (ct 0, 1770, .inl f0))] True (fun u => [(a0, .inl (ct 0, 1770, .inl (upd (upd (upd (upd (upd (upd (upd (va_cpy (fun _ => 0) f0 0 0 1770) 76 (-1)) 77 (-1)) 78 (-1)) 79 (-1)) 80 (-1)) 81 (-1)) 82 (-1))))]) := by
  refine CV.of (by decide +kernel) (Nat.le_of_ble_eq_true rfl) ?_
  intro p e s m below meth c A ls hE
  obtain ⟨X, hr, hlk, hnm, hw, hl⟩ := hE
  have X : CX p m c cX12_plain 2 s [.ref a0].toArray RX12 D ct := X
  have hl : lv_has ls 2 [(0, .ref a0)] := hl
  obtain ⟨⟨hx, hb, hml, hown, hts⟩, hK⟩ := id X
  refine lv_iconst (v := 0) hx hb dX12_plain_0 (by decide) ?_
  refine lv_istore_n (lv' := [(1, .int 0), (0, .ref a0)]) hx hb dX12_plain_1 rfl hl (by decide) rfl (fun ls hl => ?_)
  refine ylp7 X (fun g hg H locs ls hw hl => ?_) 1770 0 (by omega) _ (cpy_0 _ _ _ _) _ _ _ hw hl
  subst hg
  replace hw : WD D A s.heap _ _ [(a0, .inl (ct 0, 1770, .inl (va_cpy (fun _ => 0) f0 0 0 1770)))] := hw
  replace hl : lv_has ls 2 [(1, .int 1770), (0, .ref a0)] := hl
  refine lv_iconst (v := 0) hx hb dX12_plain_19 (by decide) ?_
  refine lv_istore_n (lv' := [(1, .int 0), (0, .ref a0)]) hx hb dX12_plain_20 rfl hl (by decide) rfl (fun ls hl => ?_)
  refine lv_iload_n hx hb dX12_plain_21 rfl (lv_at hl 0 rfl) ?_
  refine lv_bipush (v := 7) hx hb dX12_plain_22 (by decide) ?_
  refine lv_icmp_ge (tgt := 40) hx hb dX12_plain_24 (by decide) (fun h => absurd h (by decide)) (fun _ => ?_)
  refine lv_aload_n hx hb dX12_plain_27 rfl (lv_at hl 1 rfl) ?_
  refine lv_bipush (v := 76) hx hb dX12_plain_28 (by decide) ?_
  refine lv_iload_n hx hb dX12_plain_30 rfl (lv_at hl 0 rfl) ?_
  refine kv_iadd (v := 76) hx hb (by decide) dX12_plain_31 ?_
  refine lv_iconst (v := (-1)) hx hb dX12_plain_32 (by decide) ?_
  refine j_iast (j := 76) X hw 0 rfl (by decide) (by decide) (by decide) dX12_plain_33 [(a0, .inl (ct 0, 1770, .inl (upd (va_cpy (fun _ => 0) f0 0 0 1770) 76 (-1))))] rfl (fun H locs hw => ?_)
  refine lv_iinc (v := 1) (lv' := [(1, .int 1), (0, .ref a0)]) hx hb dX12_plain_34 hl (k := 0) rfl (by decide) (by decide) rfl (fun ls hl => ?_)
  refine lv_goto (tgt := 21) hx hb dX12_plain_37 (by decide) ?_
  refine lv_iload_n hx hb dX12_plain_21 rfl (lv_at hl 0 rfl) ?_
  refine lv_bipush (v := 7) hx hb dX12_plain_22 (by decide) ?_
  refine lv_icmp_ge (tgt := 40) hx hb dX12_plain_24 (by decide) (fun h => absurd h (by decide)) (fun _ => ?_)
  refine lv_aload_n hx hb dX12_plain_27 rfl (lv_at hl 1 rfl) ?_
  refine lv_bipush (v := 76) hx hb dX12_plain_28 (by decide) ?_
  refine lv_iload_n hx hb dX12_plain_30 rfl (lv_at hl 0 rfl) ?_
  refine kv_iadd (v := 77) hx hb (by decide) dX12_plain_31 ?_
  refine lv_iconst (v := (-1)) hx hb dX12_plain_32 (by decide) ?_
  refine j_iast (j := 77) X hw 0 rfl (by decide) (by decide) (by decide) dX12_plain_33 [(a0, .inl (ct 0, 1770, .inl (upd (upd (va_cpy (fun _ => 0) f0 0 0 1770) 76 (-1)) 77 (-1))))] rfl (fun H locs hw => ?_)
  refine lv_iinc (v := 2) (lv' := [(1, .int 2), (0, .ref a0)]) hx hb dX12_plain_34 hl (k := 0) rfl (by decide) (by decide) rfl (fun ls hl => ?_)
  refine lv_goto (tgt := 21) hx hb dX12_plain_37 (by decide) ?_
  refine lv_iload_n hx hb dX12_plain_21 rfl (lv_at hl 0 rfl) ?_
  refine lv_bipush (v := 7) hx hb dX12_plain_22 (by decide) ?_
  refine lv_icmp_ge (tgt := 40) hx hb dX12_plain_24 (by decide) (fun h => absurd h (by decide)) (fun _ => ?_)
  refine lv_aload_n hx hb dX12_plain_27 rfl (lv_at hl 1 rfl) ?_
  refine lv_bipush (v := 76) hx hb dX12_plain_28 (by decide) ?_
  refine lv_iload_n hx hb dX12_plain_30 rfl (lv_at hl 0 rfl) ?_
  refine kv_iadd (v := 78) hx hb (by decide) dX12_plain_31 ?_
  refine lv_iconst (v := (-1)) hx hb dX12_plain_32 (by decide) ?_
  refine j_iast (j := 78) X hw 0 rfl (by decide) (by decide) (by decide) dX12_plain_33 [(a0, .inl (ct 0, 1770, .inl (upd (upd (upd (va_cpy (fun _ => 0) f0 0 0 1770) 76 (-1)) 77 (-1)) 78 (-1))))] rfl (fun H locs hw => ?_)
  refine lv_iinc (v := 3) (lv' := [(1, .int 3), (0, .ref a0)]) hx hb dX12_plain_34 hl (k := 0) rfl (by decide) (by decide) rfl (fun ls hl => ?_)
  refine lv_goto (tgt := 21) hx hb dX12_plain_37 (by decide) ?_
  refine lv_iload_n hx hb dX12_plain_21 rfl (lv_at hl 0 rfl) ?_
  refine lv_bipush (v := 7) hx hb dX12_plain_22 (by decide) ?_
  refine lv_icmp_ge (tgt := 40) hx hb dX12_plain_24 (by decide) (fun h => absurd h (by decide)) (fun _ => ?_)
  refine lv_aload_n hx hb dX12_plain_27 rfl (lv_at hl 1 rfl) ?_
  refine lv_bipush (v := 76) hx hb dX12_plain_28 (by decide) ?_
  refine lv_iload_n hx hb dX12_plain_30 rfl (lv_at hl 0 rfl) ?_
  refine kv_iadd (v := 79) hx hb (by decide) dX12_plain_31 ?_
  refine lv_iconst (v := (-1)) hx hb dX12_plain_32 (by decide) ?_
  refine j_iast (j := 79) X hw 0 rfl (by decide) (by decide) (by decide) dX12_plain_33 [(a0, .inl (ct 0, 1770, .inl (upd (upd (upd (upd (va_cpy (fun _ => 0) f0 0 0 1770) 76 (-1)) 77 (-1)) 78 (-1)) 79 (-1))))] rfl (fun H locs hw => ?_)
  refine lv_iinc (v := 4) (lv' := [(1, .int 4), (0, .ref a0)]) hx hb dX12_plain_34 hl (k := 0) rfl (by decide) (by decide) rfl (fun ls hl => ?_)
  refine lv_goto (tgt := 21) hx hb dX12_plain_37 (by decide) ?_
  refine lv_iload_n hx hb dX12_plain_21 rfl (lv_at hl 0 rfl) ?_
  refine lv_bipush (v := 7) hx hb dX12_plain_22 (by decide) ?_
  refine lv_icmp_ge (tgt := 40) hx hb dX12_plain_24 (by decide) (fun h => absurd h (by decide)) (fun _ => ?_)
  refine lv_aload_n hx hb dX12_plain_27 rfl (lv_at hl 1 rfl) ?_
  refine lv_bipush (v := 76) hx hb dX12_plain_28 (by decide) ?_
  refine lv_iload_n hx hb dX12_plain_30 rfl (lv_at hl 0 rfl) ?_
  refine kv_iadd (v := 80) hx hb (by decide) dX12_plain_31 ?_
  refine lv_iconst (v := (-1)) hx hb dX12_plain_32 (by decide) ?_
  refine j_iast (j := 80) X hw 0 rfl (by decide) (by decide) (by decide) dX12_plain_33 [(a0, .inl (ct 0, 1770, .inl (upd (upd (upd (upd (upd (va_cpy (fun _ => 0) f0 0 0 1770) 76 (-1)) 77 (-1)) 78 (-1)) 79 (-1)) 80 (-1))))] rfl (fun H locs hw => ?_)
  refine lv_iinc (v := 5) (lv' := [(1, .int 5), (0, .ref a0)]) hx hb dX12_plain_34 hl (k := 0) rfl (by decide) (by decide) rfl (fun ls hl => ?_)
  refine lv_goto (tgt := 21) hx hb dX12_plain_37 (by decide) ?_
  refine lv_iload_n hx hb dX12_plain_21 rfl (lv_at hl 0 rfl) ?_
  refine lv_bipush (v := 7) hx hb dX12_plain_22 (by decide) ?_
  refine lv_icmp_ge (tgt := 40) hx hb dX12_plain_24 (by decide) (fun h => absurd h (by decide)) (fun _ => ?_)
  refine lv_aload_n hx hb dX12_plain_27 rfl (lv_at hl 1 rfl) ?_
  refine lv_bipush (v := 76) hx hb dX12_plain_28 (by decide) ?_
  refine lv_iload_n hx hb dX12_plain_30 rfl (lv_at hl 0 rfl) ?_
  refine kv_iadd (v := 81) hx hb (by decide) dX12_plain_31 ?_
  refine lv_iconst (v := (-1)) hx hb dX12_plain_32 (by decide) ?_
  refine j_iast (j := 81) X hw 0 rfl (by decide) (by decide) (by decide) dX12_plain_33 [(a0, .inl (ct 0, 1770, .inl (upd (upd (upd (upd (upd (upd (va_cpy (fun _ => 0) f0 0 0 1770) 76 (-1)) 77 (-1)) 78 (-1)) 79 (-1)) 80 (-1)) 81 (-1))))] rfl (fun H locs hw => ?_)
  refine lv_iinc (v := 6) (lv' := [(1, .int 6), (0, .ref a0)]) hx hb dX12_plain_34 hl (k := 0) rfl (by decide) (by decide) rfl (fun ls hl => ?_)
  refine lv_goto (tgt := 21) hx hb dX12_plain_37 (by decide) ?_
  refine lv_iload_n hx hb dX12_plain_21 rfl (lv_at hl 0 rfl) ?_
  refine lv_bipush (v := 7) hx hb dX12_plain_22 (by decide) ?_
  refine lv_icmp_ge (tgt := 40) hx hb dX12_plain_24 (by decide) (fun h => absurd h (by decide)) (fun _ => ?_)
  refine lv_aload_n hx hb dX12_plain_27 rfl (lv_at hl 1 rfl) ?_
  refine lv_bipush (v := 76) hx hb dX12_plain_28 (by decide) ?_
  refine lv_iload_n hx hb dX12_plain_30 rfl (lv_at hl 0 rfl) ?_
  refine kv_iadd (v := 82) hx hb (by decide) dX12_plain_31 ?_
  refine lv_iconst (v := (-1)) hx hb dX12_plain_32 (by decide) ?_
  refine j_iast (j := 82) X hw 0 rfl (by decide) (by decide) (by decide) dX12_plain_33 [(a0, .inl (ct 0, 1770, .inl (upd (upd (upd (upd (upd (upd (upd (va_cpy (fun _ => 0) f0 0 0 1770) 76 (-1)) 77 (-1)) 78 (-1)) 79 (-1)) 80 (-1)) 81 (-1)) 82 (-1))))] rfl (fun H locs hw => ?_)
  refine lv_iinc (v := 7) (lv' := [(1, .int 7), (0, .ref a0)]) hx hb dX12_plain_34 hl (k := 0) rfl (by decide) (by decide) rfl (fun ls hl => ?_)
  refine lv_goto (tgt := 21) hx hb dX12_plain_37 (by decide) ?_
  refine lv_iload_n hx hb dX12_plain_21 rfl (lv_at hl 0 rfl) ?_
  refine lv_bipush (v := 7) hx hb dX12_plain_22 (by decide) ?_
  refine lv_icmp_ge (tgt := 40) hx hb dX12_plain_24 (by decide) (fun _ => ?_) (fun h => absurd (by decide) h)
  exact r_v X hr hlk hw [0] (fun _ => 0) rfl rfl trivial (by decide) (by decide) dX12_plain_40
set_option maxHeartbeats 4000000 in
set_option maxRecDepth 100000 in
theorem c37_X12_see (l : Launch) (D : va_G) (ct : Nat → ClassId) (a0 : Nat) (a1 : Nat) (a2 : Nat) (a3 : Nat) (a4 : Nat) (a5 : Nat) (a6 : Nat) (a7 : Nat) (a8 : Nat) (a9 : Nat) (a10 : Nat) (a11 : Nat) (a12 : Nat) (a13 : Nat) (a14 : Nat) (a15 : Nat) (a16 : Nat) : CI l yX12_see cX12_see 2 (some .int) { frames := 0, cells := 0, slots := 0, locals := 0 } D ct [.ref a0, .int 0] [(a0, .inr (12, [.int 0, .ref a1, .ref a2, .ref a3, .ref a4, .int 0, .int 0, .int 0, .int 0, .int 0, .int 0, .int 0, .int 0, .int 0, .int (-1), .ref a5, .ref a6, .ref a7, .ref a8, .int 0, .ref a9, .ref a10, .int 0, .int 0, .int 0, .ref a11, .ref a12, .ref a13, .ref a14, .ref a15, .ref a16]))] (fun r => r = (-1)) (fun u => [(a0, .inr (12, [.int 0, .ref a1, .ref a2, .ref a3, .ref a4, .int 0, .int 0, .int 0, .int 0, .int 0, .int 0, .int 0, .int 0, .int 0, .int (-1), .ref a5, .ref a6, .ref a7, .ref a8, .int 0, .ref a9, .ref a10, .int 0, .int 0, .int 0, .ref a11, .ref a12, .ref a13, .ref a14, .ref a15, .ref a16]))]) := by
  refine CI.of (by decide +kernel) (Nat.le_of_ble_eq_true rfl) ?_
  intro p e s m below meth c A ls hE
  obtain ⟨X, hr, hlk, hnm, hw, hl⟩ := hE
  have X : CX p m c cX12_see 2 s [.ref a0, .int 0].toArray RX12 D ct := X
  have hl : lv_has ls 2 [(0, .ref a0), (1, .int 0)] := hl
  obtain ⟨⟨hx, hb, hml, hown, hts⟩, hK⟩ := id X
  refine lv_iload_n hx hb dX12_see_0 rfl (lv_at hl 1 rfl) ?_
  refine lv_aload_n hx hb dX12_see_1 rfl (lv_at hl 0 rfl) ?_
  refine fg_1450 X hw 0 rfl rfl dX12_see_2 ?_
  refine lv_icmp_ge (tgt := 17) hx hb dX12_see_5 (by decide) (fun _ => ?_) (fun h => absurd (by decide) h)
  refine lv_iconst (v := (-1)) hx hb dX12_see_17 (by decide) ?_
  exact r_i X hr hlk hw [0] (fun _ => 0) rfl rfl rfl (by decide) (by decide) dX12_see_18
set_option maxHeartbeats 4000000 in
set_option maxRecDepth 100000 in
theorem c38_X12_next (l : Launch) (D : va_G) (ct : Nat → ClassId) (a0 : Nat) (a1 : Nat) (a2 : Nat) (a3 : Nat) (a4 : Nat) (a5 : Nat) (a6 : Nat) (a7 : Nat) (a8 : Nat) (a9 : Nat) (a10 : Nat) (a11 : Nat) (a12 : Nat) (a13 : Nat) (a14 : Nat) (a15 : Nat) (a16 : Nat) : CV l yX12_next cX12_next 2 none { frames := 1, cells := 0, slots := 0, locals := 21 } D ct [.ref a0] [(a0, .inr (12, [.int 0, .ref a1, .ref a2, .ref a3, .ref a4, .int 0, .int 0, .int 0, .int 0, .int 0, .int 0, .int 0, .int 0, .int 0, .int (-1), .ref a5, .ref a6, .ref a7, .ref a8, .int 0, .ref a9, .ref a10, .int 0, .int 0, .int 0, .ref a11, .ref a12, .ref a13, .ref a14, .ref a15, .ref a16]))] True (fun u => [(a0, .inr (12, [.int 0, .ref a1, .ref a2, .ref a3, .ref a4, .int 0, .int 0, .int 0, .int 0, .int 24, .int 0, .int 0, .int 0, .int 0, .int (-1), .ref a5, .ref a6, .ref a7, .ref a8, .int 0, .ref a9, .ref a10, .int 0, .int 0, .int 0, .ref a11, .ref a12, .ref a13, .ref a14, .ref a15, .ref a16]))]) := by
  refine CV.of (by decide +kernel) (Nat.le_of_ble_eq_true rfl) ?_
  intro p e s m below meth c A ls hE
  obtain ⟨X, hr, hlk, hnm, hw, hl⟩ := hE
  have X : CX p m c cX12_next 2 s [.ref a0].toArray RX12 D ct := X
  have hl : lv_has ls 2 [(0, .ref a0)] := hl
  obtain ⟨⟨hx, hb, hml, hown, hts⟩, hK⟩ := id X
  refine lv_aload_n hx hb dX12_next_0 rfl (lv_at hl 0 rfl) ?_
  refine lv_aload_n hx hb dX12_next_1 rfl (lv_at hl 0 rfl) ?_
  refine fg_1449 X hw 0 rfl rfl dX12_next_2 ?_
  refine fp_1448 X hw 0 rfl rfl rfl (Nat.le_of_ble_eq_true rfl) dX12_next_5 [(a0, .inr (12, [.int 0, .ref a1, .ref a2, .ref a3, .ref a4, .int 0, .int 0, .int 0, .int 0, .int 0, .int 0, .int 0, .int 0, .int 0, .int (-1), .ref a5, .ref a6, .ref a7, .ref a8, .int 0, .ref a9, .ref a10, .int 0, .int 0, .int 0, .ref a11, .ref a12, .ref a13, .ref a14, .ref a15, .ref a16]))] rfl (fun H locs hw => ?_)
  refine lv_aload_n hx hb dX12_next_8 rfl (lv_at hl 0 rfl) ?_
  refine lv_aload_n hx hb dX12_next_9 rfl (lv_at hl 0 rfl) ?_
  refine fg_1448 X hw 0 rfl rfl dX12_next_10 ?_
  refine m_Vi (As := [.int 0]) (rest := []) (c37_X12_see l D ct a0 a1 a2 a3 a4 a5 a6 a7 a8 a9 a10 a11 a12 a13 a14 a15 a16) X hl.1 kw_1552 kd_yX12_see hw [0] [] rfl rfl rfl rfl (by decide) 0 rfl rfl ⟨by decide, by decide⟩ rfl rfl (Nat.le_of_ble_eq_true rfl) dX12_next_13 ⟨by decide, by decide⟩ (fun r1 u2 H locs hr3 hw => ?_)
  replace hw : WD D A s.heap _ _ [(a0, .inr (12, [.int 0, .ref a1, .ref a2, .ref a3, .ref a4, .int 0, .int 0, .int 0, .int 0, .int 0, .int 0, .int 0, .int 0, .int 0, .int (-1), .ref a5, .ref a6, .ref a7, .ref a8, .int 0, .ref a9, .ref a10, .int 0, .int 0, .int 0, .ref a11, .ref a12, .ref a13, .ref a14, .ref a15, .ref a16]))] := hw
  subst hr3
  refine lv_bipush (v := 10) hx hb dX12_next_16 (by decide) ?_
  refine lv_icmp_eq (tgt := 34) hx hb dX12_next_18 (by decide) (fun h => absurd h (by decide)) (fun _ => ?_)
  refine lv_aload_n hx hb dX12_next_21 rfl (lv_at hl 0 rfl) ?_
  refine lv_aload_n hx hb dX12_next_22 rfl (lv_at hl 0 rfl) ?_
  refine fg_1448 X hw 0 rfl rfl dX12_next_23 ?_
  refine m_Vi (As := [.int 0]) (rest := []) (c37_X12_see l D ct a0 a1 a2 a3 a4 a5 a6 a7 a8 a9 a10 a11 a12 a13 a14 a15 a16) X hl.1 kw_1552 kd_yX12_see hw [0] [] rfl rfl rfl rfl (by decide) 0 rfl rfl ⟨by decide, by decide⟩ rfl rfl (Nat.le_of_ble_eq_true rfl) dX12_next_26 ⟨by decide, by decide⟩ (fun r4 u5 H locs hr6 hw => ?_)
  replace hw : WD D A s.heap _ _ [(a0, .inr (12, [.int 0, .ref a1, .ref a2, .ref a3, .ref a4, .int 0, .int 0, .int 0, .int 0, .int 0, .int 0, .int 0, .int 0, .int 0, .int (-1), .ref a5, .ref a6, .ref a7, .ref a8, .int 0, .ref a9, .ref a10, .int 0, .int 0, .int 0, .ref a11, .ref a12, .ref a13, .ref a14, .ref a15, .ref a16]))] := hw
  subst hr6
  refine lv_bipush (v := 32) hx hb dX12_next_29 (by decide) ?_
  refine lv_icmp_ne (tgt := 47) hx hb dX12_next_31 (by decide) (fun _ => ?_) (fun h => absurd h (by decide))
  refine lv_aload_n hx hb dX12_next_47 rfl (lv_at hl 0 rfl) ?_
  refine lv_aload_n hx hb dX12_next_48 rfl (lv_at hl 0 rfl) ?_
  refine fg_1448 X hw 0 rfl rfl dX12_next_49 ?_
  refine fp_1449 X hw 0 rfl rfl rfl (Nat.le_of_ble_eq_true rfl) dX12_next_52 [(a0, .inr (12, [.int 0, .ref a1, .ref a2, .ref a3, .ref a4, .int 0, .int 0, .int 0, .int 0, .int 0, .int 0, .int 0, .int 0, .int 0, .int (-1), .ref a5, .ref a6, .ref a7, .ref a8, .int 0, .ref a9, .ref a10, .int 0, .int 0, .int 0, .ref a11, .ref a12, .ref a13, .ref a14, .ref a15, .ref a16]))] rfl (fun H locs hw => ?_)
  refine lv_aload_n hx hb dX12_next_55 rfl (lv_at hl 0 rfl) ?_
  refine fg_1448 X hw 0 rfl rfl dX12_next_56 ?_
  refine lv_aload_n hx hb dX12_next_59 rfl (lv_at hl 0 rfl) ?_
  refine fg_1450 X hw 0 rfl rfl dX12_next_60 ?_
  refine lv_icmp_lt (tgt := 75) hx hb dX12_next_63 (by decide) (fun h => absurd h (by decide)) (fun _ => ?_)
  refine lv_aload_n hx hb dX12_next_66 rfl (lv_at hl 0 rfl) ?_
  refine lv_bipush (v := 24) hx hb dX12_next_67 (by decide) ?_
  refine fp_1451 X hw 0 rfl rfl rfl (Nat.le_of_ble_eq_true rfl) dX12_next_69 [(a0, .inr (12, [.int 0, .ref a1, .ref a2, .ref a3, .ref a4, .int 0, .int 0, .int 0, .int 0, .int 24, .int 0, .int 0, .int 0, .int 0, .int (-1), .ref a5, .ref a6, .ref a7, .ref a8, .int 0, .ref a9, .ref a10, .int 0, .int 0, .int 0, .ref a11, .ref a12, .ref a13, .ref a14, .ref a15, .ref a16]))] rfl (fun H locs hw => ?_)
  refine lv_goto (tgt := 294) hx hb dX12_next_72 (by decide) ?_
  exact r_v X hr hlk hw [0] (fun _ => 0) rfl rfl trivial (by decide) (by decide) dX12_next_294
set_option maxHeartbeats 4000000 in
set_option maxRecDepth 100000 in
theorem ylp8 {p : Program} {l : Launch} {e : Env} {R : Room} {s : State} {m : MethodId} {args : Array Value} {below : List Frame} {meth : Method} {c : Code} {cells slots : Nat} {Q : State → Prop} {D : va_G} {ct : Nat → ClassId} {A : Nat → Prop} {a1 : Nat} {a4 : Nat} {a0 : Nat} {a2 : Nat} {a3 : Nat} {a5 : Nat} {a6 : Nat} {a7 : Nat} {a8 : Nat} {a9 : Nat} {a10 : Nat} {a11 : Nat} {a12 : Nat} {a13 : Nat} {a14 : Nat} {a15 : Nat} {a16 : Nat} (X : CX p m c cX12_tower 3 s args RX12 D ct) (kk : ∀ (g : Nat → Int32), g = (va_cpy fx0 fx0 0 0 1770) → ∀ (H : Heap) (locs : List Loc) (ls : Array Slot), WD D A s.heap H locs [(a1, .inl (ct 0, 5310, .inl g)), (a4, .inl (ct 0, 1770, .inl fx0)), (a0, .inr (12, [.int 0, .ref a1, .ref a2, .ref a3, .ref a4, .int 0, .int 0, .int 0, .int 0, .int 24, .int 0, .int 0, .int 0, .int 0, .int (-1), .ref a5, .ref a6, .ref a7, .ref a8, .int 0, .ref a9, .ref a10, .int 0, .int 0, .int 0, .ref a11, .ref a12, .ref a13, .ref a14, .ref a15, .ref a16]))] → lv_has ls 3 [(2, .int (nI 1770)), (0, .ref a0), (1, .int 0)] → W p l e R s m args below meth c H locs cells slots Q (F0 m 169 ls [])) : ∀ (n k : Nat), k + n = 1770 → ∀ (g : Nat → Int32), g = (va_cpy fx0 fx0 0 0 k) → ∀ (H : Heap) (locs : List Loc) (ls : Array Slot), WD D A s.heap H locs [(a1, .inl (ct 0, 5310, .inl g)), (a4, .inl (ct 0, 1770, .inl fx0)), (a0, .inr (12, [.int 0, .ref a1, .ref a2, .ref a3, .ref a4, .int 0, .int 0, .int 0, .int 0, .int 24, .int 0, .int 0, .int 0, .int 0, .int (-1), .ref a5, .ref a6, .ref a7, .ref a8, .int 0, .ref a9, .ref a10, .int 0, .int 0, .int 0, .ref a11, .ref a12, .ref a13, .ref a14, .ref a15, .ref a16]))] → lv_has ls 3 [(2, .int (nI k)), (0, .ref a0), (1, .int 0)] → W p l e R s m args below meth c H locs cells slots Q (F0 m 144 ls []) := by
  obtain ⟨⟨hx, hb, hml, hown, hts⟩, hK⟩ := id X
  intro n
  induction n with
  | zero =>
    intro k hk g hg H locs ls hw hl
    obtain rfl : k = 1770 := by omega
    refine lv_iload_n hx hb dX12_tower_144 rfl (lv_at hl 0 rfl) ?_
    refine lv_sipush (v := 1770) hx hb dX12_tower_145 (by decide) ?_
    refine lv_icmp_ge (tgt := 169) hx hb dX12_tower_148 (by decide) (fun _ => ?_) (fun h => absurd (nI_le (a := 1770) (b := 1770) (Nat.le_refl _) (by omega)) h)
    exact kk g hg _ _ _ hw hl
  | succ n ih =>
    intro k hk g hg H locs ls hw hl
    refine lv_iload_n hx hb dX12_tower_144 rfl (lv_at hl 0 rfl) ?_
    refine lv_sipush (v := 1770) hx hb dX12_tower_145 (by decide) ?_
    refine lv_icmp_ge (tgt := 169) hx hb dX12_tower_148 (by decide) (fun h => absurd h (nI_ge (a := k) (b := 1770) (by omega) (by omega))) (fun _ => ?_)
    refine lv_aload_n hx hb dX12_tower_151 rfl (lv_at hl 1 rfl) ?_
    refine fg_1443 X hw 2 rfl rfl dX12_tower_152 ?_
    refine lv_iload_n hx hb dX12_tower_155 rfl (lv_at hl 0 rfl) ?_
    refine lv_aload_n hx hb dX12_tower_156 rfl (lv_at hl 1 rfl) ?_
    refine fg_1446 X hw 2 rfl rfl dX12_tower_157 ?_
    refine lv_iload_n hx hb dX12_tower_160 rfl (lv_at hl 0 rfl) ?_
    refine j_iald (j := (k)) (v := (fx0 (k))) X hw 1 rfl (nI_pos (by omega)) (nI_clamp (by omega)) (by omega) rfl dX12_tower_161 ?_
    refine j_iast (j := (k)) X hw 0 rfl (nI_pos (by omega)) (nI_clamp (by omega)) (by omega) dX12_tower_162 [(a1, .inl (ct 0, 5310, .inl (upd g (k) (fx0 (k))))), (a4, .inl (ct 0, 1770, .inl fx0)), (a0, .inr (12, [.int 0, .ref a1, .ref a2, .ref a3, .ref a4, .int 0, .int 0, .int 0, .int 0, .int 24, .int 0, .int 0, .int 0, .int 0, .int (-1), .ref a5, .ref a6, .ref a7, .ref a8, .int 0, .ref a9, .ref a10, .int 0, .int 0, .int 0, .ref a11, .ref a12, .ref a13, .ref a14, .ref a15, .ref a16]))] rfl (fun H locs hw => ?_)
    refine lv_iinc (v := (nI (k + 1))) (lv' := [(2, .int (nI (k + 1))), (0, .ref a0), (1, .int 0)]) hx hb dX12_tower_163 hl (k := 0) rfl (nI_add _ _) (by decide) rfl (fun ls hl => ?_)
    refine lv_goto (tgt := 144) hx hb dX12_tower_166 (by decide) ?_
    exact ih (k + 1) (by omega) _ (by rw [hg]; exact cpy_s _ _ _ _ _ _ _ (by omega) (by first | rfl | rw [Nat.zero_add])) _ _ _ hw (lv_sub hl [0, 1, 2] rfl)
set_option maxHeartbeats 4000000 in
set_option maxRecDepth 100000 in
theorem c39_X12_tower (l : Launch) (D : va_G) (ct : Nat → ClassId) (a0 : Nat) (p0 : Int32) (a1 : Nat) (a2 : Nat) (a3 : Nat) (a4 : Nat) (a5 : Nat) (a6 : Nat) (a7 : Nat) (a8 : Nat) (a9 : Nat) (a10 : Nat) (a11 : Nat) (a12 : Nat) (a13 : Nat) (a14 : Nat) (a15 : Nat) (a16 : Nat) : CI l yX12_tower cX12_tower 3 (some .int) { frames := 2, cells := 0, slots := 0, locals := 42 } D ct [.ref a0, .int p0] [(a0, .inr (12, [.int 0, .ref a1, .ref a2, .ref a3, .ref a4, .int 0, .int 0, .int 0, .int 0, .int 0, .int 0, .int 0, .int 0, .int 0, .int (-1), .ref a5, .ref a6, .ref a7, .ref a8, .int 0, .ref a9, .ref a10, .int 0, .int 0, .int 0, .ref a11, .ref a12, .ref a13, .ref a14, .ref a15, .ref a16])), (a4, .inl (ct 0, 1770, .inl (fun _ => 0))), (a1, .inl (ct 0, 5310, .inl fx0))] (fun r => (((p0.toInt < 0) ∨ (p0.toInt ≥ 0 ∧ p0.toInt > 0))) ∧ r = (-3) ∨ (p0.toInt ≥ 0 ∧ p0.toInt ≤ 0 ∧ p0.toInt = 0) ∧ r = 0) (fun u => []) := by
  refine CI.of (by decide +kernel) (Nat.le_of_ble_eq_true rfl) ?_
  intro p e s m below meth c A ls hE
  obtain ⟨X, hr, hlk, hnm, hw, hl⟩ := hE
  have X : CX p m c cX12_tower 3 s [.ref a0, .int p0].toArray RX12 D ct := X
  have hl : lv_has ls 3 [(0, .ref a0), (1, .int p0)] := hl
  obtain ⟨⟨hx, hb, hml, hown, hts⟩, hK⟩ := id X
  refine lv_aload_n hx hb dX12_tower_0 rfl (lv_at hl 0 rfl) ?_
  refine lv_iconst (v := 0) hx hb dX12_tower_1 (by decide) ?_
  refine fp_1442 X hw 0 rfl rfl rfl (Nat.le_of_ble_eq_true rfl) dX12_tower_2 [(a0, .inr (12, [.int 0, .ref a1, .ref a2, .ref a3, .ref a4, .int 0, .int 0, .int 0, .int 0, .int 0, .int 0, .int 0, .int 0, .int 0, .int (-1), .ref a5, .ref a6, .ref a7, .ref a8, .int 0, .ref a9, .ref a10, .int 0, .int 0, .int 0, .ref a11, .ref a12, .ref a13, .ref a14, .ref a15, .ref a16])), (a4, .inl (ct 0, 1770, .inl (fun _ => 0))), (a1, .inl (ct 0, 5310, .inl fx0))] rfl (fun H locs hw => ?_)
  refine lv_iload_n hx hb dX12_tower_5 rfl (lv_at hl 1 rfl) ?_
  refine lv_i2l (v := p0.toInt64) hx hb dX12_tower_6 rfl ?_
  refine lv_lconst (v := 0) hx hb dX12_tower_7 (by decide) ?_
  refine lv_aload_n hx hb dX12_tower_8 rfl (lv_at hl 0 rfl) ?_
  refine fg_1447 X hw 0 rfl rfl dX12_tower_9 ?_
  refine lv_i2l (v := 0) hx hb dX12_tower_12 (by decide) ?_
  refine m_Si (As := [.long p0.toInt64, .long 0, .long 0]) (rest := []) (c35_X12_within l D ct (p0.toInt64)) X hl.1 kw_1545 kd_yX12_within hw [] [0, 1, 2] rfl rfl rfl rfl (by decide) ⟨by decide, by decide⟩ rfl rfl (Nat.le_of_ble_eq_true rfl) dX12_tower_13 ⟨by decide, by decide⟩ (fun r1 u2 H locs hr3 hw => ?_)
  replace hw : WD D A s.heap _ _ [(a0, .inr (12, [.int 0, .ref a1, .ref a2, .ref a3, .ref a4, .int 0, .int 0, .int 0, .int 0, .int 0, .int 0, .int 0, .int 0, .int 0, .int (-1), .ref a5, .ref a6, .ref a7, .ref a8, .int 0, .ref a9, .ref a10, .int 0, .int 0, .int 0, .ref a11, .ref a12, .ref a13, .ref a14, .ref a15, .ref a16])), (a4, .inl (ct 0, 1770, .inl (fun _ => 0))), (a1, .inl (ct 0, 5310, .inl fx0))] := hw
  rcases hr3 with ⟨h4, rfl⟩ | ⟨⟨h5, h6⟩, rfl⟩
  · skip
    simp only [i64i] at h4
    refine lv_if_ne (tgt := 22) hx hb dX12_tower_16 (by decide) (fun h => absurd rfl h) (fun _ => ?_)
    refine lv_bipush (v := (-3)) hx hb dX12_tower_19 (by decide) ?_
    exact r_i X hr hlk hw [] (fun _ => 0) rfl rfl (Or.inl (⟨h4, rfl⟩)) (by decide) (by decide) dX12_tower_21
  · skip
    rw [i64i] at h5
    rw [i64i] at h6
    have e7 : p0.toInt = 0 := by omega
    obtain rfl : p0 = 0 := i32_of e7
    refine lv_if_ne (tgt := 22) hx hb dX12_tower_16 (by decide) (fun _ => ?_) (fun h => absurd h (by decide))
    refine lv_aload_n hx hb dX12_tower_22 rfl (lv_at hl 0 rfl) ?_
    refine lv_iload_n hx hb dX12_tower_23 rfl (lv_at hl 1 rfl) ?_
    refine fp_1450 X hw 0 rfl rfl rfl (Nat.le_of_ble_eq_true rfl) dX12_tower_24 [(a0, .inr (12, [.int 0, .ref a1, .ref a2, .ref a3, .ref a4, .int 0, .int 0, .int 0, .int 0, .int 0, .int 0, .int 0, .int 0, .int 0, .int (-1), .ref a5, .ref a6, .ref a7, .ref a8, .int 0, .ref a9, .ref a10, .int 0, .int 0, .int 0, .ref a11, .ref a12, .ref a13, .ref a14, .ref a15, .ref a16])), (a4, .inl (ct 0, 1770, .inl (fun _ => 0))), (a1, .inl (ct 0, 5310, .inl fx0))] rfl (fun H locs hw => ?_)
    refine lv_aload_n hx hb dX12_tower_27 rfl (lv_at hl 0 rfl) ?_
    refine lv_iconst (v := 0) hx hb dX12_tower_28 (by decide) ?_
    refine fp_1447 X hw 0 rfl rfl rfl (Nat.le_of_ble_eq_true rfl) dX12_tower_29 [(a0, .inr (12, [.int 0, .ref a1, .ref a2, .ref a3, .ref a4, .int 0, .int 0, .int 0, .int 0, .int 0, .int 0, .int 0, .int 0, .int 0, .int (-1), .ref a5, .ref a6, .ref a7, .ref a8, .int 0, .ref a9, .ref a10, .int 0, .int 0, .int 0, .ref a11, .ref a12, .ref a13, .ref a14, .ref a15, .ref a16])), (a4, .inl (ct 0, 1770, .inl (fun _ => 0))), (a1, .inl (ct 0, 5310, .inl fx0))] rfl (fun H locs hw => ?_)
    refine lv_aload_n hx hb dX12_tower_32 rfl (lv_at hl 0 rfl) ?_
    refine lv_iconst (v := 0) hx hb dX12_tower_33 (by decide) ?_
    refine fp_1449 X hw 0 rfl rfl rfl (Nat.le_of_ble_eq_true rfl) dX12_tower_34 [(a0, .inr (12, [.int 0, .ref a1, .ref a2, .ref a3, .ref a4, .int 0, .int 0, .int 0, .int 0, .int 0, .int 0, .int 0, .int 0, .int 0, .int (-1), .ref a5, .ref a6, .ref a7, .ref a8, .int 0, .ref a9, .ref a10, .int 0, .int 0, .int 0, .ref a11, .ref a12, .ref a13, .ref a14, .ref a15, .ref a16])), (a4, .inl (ct 0, 1770, .inl (fun _ => 0))), (a1, .inl (ct 0, 5310, .inl fx0))] rfl (fun H locs hw => ?_)
    refine lv_aload_n hx hb dX12_tower_37 rfl (lv_at hl 0 rfl) ?_
    refine lv_iconst (v := 0) hx hb dX12_tower_38 (by decide) ?_
    refine fp_1453 X hw 0 rfl rfl rfl (Nat.le_of_ble_eq_true rfl) dX12_tower_39 [(a0, .inr (12, [.int 0, .ref a1, .ref a2, .ref a3, .ref a4, .int 0, .int 0, .int 0, .int 0, .int 0, .int 0, .int 0, .int 0, .int 0, .int (-1), .ref a5, .ref a6, .ref a7, .ref a8, .int 0, .ref a9, .ref a10, .int 0, .int 0, .int 0, .ref a11, .ref a12, .ref a13, .ref a14, .ref a15, .ref a16])), (a4, .inl (ct 0, 1770, .inl (fun _ => 0))), (a1, .inl (ct 0, 5310, .inl fx0))] rfl (fun H locs hw => ?_)
    refine lv_aload_n hx hb dX12_tower_42 rfl (lv_at hl 0 rfl) ?_
    refine fg_1446 X hw 0 rfl rfl dX12_tower_43 ?_
    refine m_Sv (As := [.ref a4]) (rest := []) (c36_X12_plain l D ct a4 (fun _ => 0)) X hl.1 kw_1439 kd_yX12_plain hw [1] [0, 2] rfl rfl rfl rfl (by decide) ⟨by decide, by decide⟩ rfl rfl (Nat.le_of_ble_eq_true rfl) dX12_tower_46 ⟨by decide, by decide⟩ (fun u9 H locs hr10 hw => ?_)
    replace hw : WD D A s.heap _ _ [(a0, .inr (12, [.int 0, .ref a1, .ref a2, .ref a3, .ref a4, .int 0, .int 0, .int 0, .int 0, .int 0, .int 0, .int 0, .int 0, .int 0, .int (-1), .ref a5, .ref a6, .ref a7, .ref a8, .int 0, .ref a9, .ref a10, .int 0, .int 0, .int 0, .ref a11, .ref a12, .ref a13, .ref a14, .ref a15, .ref a16])), (a1, .inl (ct 0, 5310, .inl fx0)), (a4, .inl (ct 0, 1770, .inl fx0))] := hw
    refine lv_aload_n hx hb dX12_tower_49 rfl (lv_at hl 0 rfl) ?_
    refine m_Vv (As := []) (rest := []) (c38_X12_next l D ct a0 a1 a2 a3 a4 a5 a6 a7 a8 a9 a10 a11 a12 a13 a14 a15 a16) X hl.1 kw_1548 kd_yX12_next hw [0] [1, 2] rfl rfl rfl rfl (by decide) 0 rfl rfl ⟨by decide, by decide⟩ rfl rfl (Nat.le_of_ble_eq_true rfl) dX12_tower_50 ⟨by decide, by decide⟩ (fun u12 H locs hr13 hw => ?_)
    replace hw : WD D A s.heap _ _ [(a1, .inl (ct 0, 5310, .inl fx0)), (a4, .inl (ct 0, 1770, .inl fx0)), (a0, .inr (12, [.int 0, .ref a1, .ref a2, .ref a3, .ref a4, .int 0, .int 0, .int 0, .int 0, .int 24, .int 0, .int 0, .int 0, .int 0, .int (-1), .ref a5, .ref a6, .ref a7, .ref a8, .int 0, .ref a9, .ref a10, .int 0, .int 0, .int 0, .ref a11, .ref a12, .ref a13, .ref a14, .ref a15, .ref a16]))] := hw
    refine lv_aload_n hx hb dX12_tower_53 rfl (lv_at hl 0 rfl) ?_
    refine fg_1453 X hw 2 rfl rfl dX12_tower_54 ?_
    refine lv_if_ne (tgt := 100) hx hb dX12_tower_57 (by decide) (fun h => absurd rfl h) (fun _ => ?_)
    refine lv_aload_n hx hb dX12_tower_60 rfl (lv_at hl 0 rfl) ?_
    refine fg_1451 X hw 2 rfl rfl dX12_tower_61 ?_
    refine lv_bipush (v := 24) hx hb dX12_tower_64 (by decide) ?_
    refine lv_icmp_eq (tgt := 100) hx hb dX12_tower_66 (by decide) (fun _ => ?_) (fun h => absurd (by decide) h)
    refine lv_aload_n hx hb dX12_tower_100 rfl (lv_at hl 0 rfl) ?_
    refine lv_aload_n hx hb dX12_tower_101 rfl (lv_at hl 0 rfl) ?_
    refine fg_1453 X hw 2 rfl rfl dX12_tower_102 ?_
    refine fp_1455 X hw 2 rfl rfl rfl (Nat.le_of_ble_eq_true rfl) dX12_tower_105 [(a1, .inl (ct 0, 5310, .inl fx0)), (a4, .inl (ct 0, 1770, .inl fx0)), (a0, .inr (12, [.int 0, .ref a1, .ref a2, .ref a3, .ref a4, .int 0, .int 0, .int 0, .int 0, .int 24, .int 0, .int 0, .int 0, .int 0, .int (-1), .ref a5, .ref a6, .ref a7, .ref a8, .int 0, .ref a9, .ref a10, .int 0, .int 0, .int 0, .ref a11, .ref a12, .ref a13, .ref a14, .ref a15, .ref a16]))] rfl (fun H locs hw => ?_)
    refine lv_aload_n hx hb dX12_tower_108 rfl (lv_at hl 0 rfl) ?_
    refine lv_aload_n hx hb dX12_tower_109 rfl (lv_at hl 0 rfl) ?_
    refine fg_1453 X hw 2 rfl rfl dX12_tower_110 ?_
    refine lv_if_ne (tgt := 120) hx hb dX12_tower_113 (by decide) (fun h => absurd rfl h) (fun _ => ?_)
    refine lv_iconst (v := (-1)) hx hb dX12_tower_116 (by decide) ?_
    refine lv_goto (tgt := 124) hx hb dX12_tower_117 (by decide) ?_
    refine fp_1456 X hw 2 rfl rfl rfl (Nat.le_of_ble_eq_true rfl) dX12_tower_124 [(a1, .inl (ct 0, 5310, .inl fx0)), (a4, .inl (ct 0, 1770, .inl fx0)), (a0, .inr (12, [.int 0, .ref a1, .ref a2, .ref a3, .ref a4, .int 0, .int 0, .int 0, .int 0, .int 24, .int 0, .int 0, .int 0, .int 0, .int (-1), .ref a5, .ref a6, .ref a7, .ref a8, .int 0, .ref a9, .ref a10, .int 0, .int 0, .int 0, .ref a11, .ref a12, .ref a13, .ref a14, .ref a15, .ref a16]))] rfl (fun H locs hw => ?_)
    refine lv_aload_n hx hb dX12_tower_127 rfl (lv_at hl 0 rfl) ?_
    refine fg_1453 X hw 2 rfl rfl dX12_tower_128 ?_
    refine lv_if_eq (tgt := 142) hx hb dX12_tower_131 (by decide) (fun _ => ?_) (fun h => absurd (by decide) h)
    refine lv_iconst (v := 0) hx hb dX12_tower_142 (by decide) ?_
    refine lv_istore_n (lv' := [(2, .int 0), (0, .ref a0), (1, .int 0)]) hx hb dX12_tower_143 rfl hl (by decide) rfl (fun ls hl => ?_)
    refine ylp8 X (fun g hg H locs ls hw hl => ?_) 1770 0 (by omega) _ (cpy_0 _ _ _ _) _ _ _ hw hl
    subst hg
    replace hw : WD D A s.heap _ _ [(a1, .inl (ct 0, 5310, .inl (va_cpy fx0 fx0 0 0 1770))), (a4, .inl (ct 0, 1770, .inl fx0)), (a0, .inr (12, [.int 0, .ref a1, .ref a2, .ref a3, .ref a4, .int 0, .int 0, .int 0, .int 0, .int 24, .int 0, .int 0, .int 0, .int 0, .int (-1), .ref a5, .ref a6, .ref a7, .ref a8, .int 0, .ref a9, .ref a10, .int 0, .int 0, .int 0, .ref a11, .ref a12, .ref a13, .ref a14, .ref a15, .ref a16]))] := hw
    replace hl : lv_has ls 3 [(2, .int 1770), (0, .ref a0), (1, .int 0)] := hl
    refine lv_aload_n hx hb dX12_tower_169 rfl (lv_at hl 1 rfl) ?_
    refine fg_1443 X hw 2 rfl rfl dX12_tower_170 ?_
    refine lv_iconst (v := 0) hx hb dX12_tower_173 (by decide) ?_
    refine j_iald (j := 0) (v := 0) X hw 0 rfl (by decide) (by decide) (by decide) rfl dX12_tower_174 ?_
    exact r_i X hr hlk hw [] (fun _ => 0) rfl rfl (Or.inr (⟨⟨h5, h6, e7⟩, rfl⟩)) (by decide) (by decide) dX12_tower_175
set_option maxHeartbeats 4000000 in
set_option maxRecDepth 100000 in
theorem c40_X11_fault (l : Launch) (D : va_G) (ct : Nat → ClassId) (a0 : Nat) (p0 : Int32) (a1 : Nat) (a2 : Nat) (a3 : Nat) (a4 : Nat) (a5 : Nat) (a6 : Nat) (a7 : Nat) (a8 : Nat) (a9 : Nat) (a10 : Nat) (a11 : Nat) (a12 : Nat) (a13 : Nat) (a14 : Nat) (a15 : Nat) (a16 : Nat) (a17 : Nat) : CI l yX11_fault cX11_fault 2 (some .int) { frames := 0, cells := 0, slots := 0, locals := 0 } D ct [.ref a0, .int p0] [(a0, .inr (11, [.ref a1, .int 0, .ref a2, .ref a3, .ref a4, .ref a5, .ref a6, .ref a7, .ref a8, .ref a9, .ref a10, .ref a11, .ref a12, .ref a13, .ref a14, .ref a15, .int (-1), .int (-1)])), (a3, .inr (7, [.ref a16, .int 0, .int (-1), .ref a17, .int 0, .int 0, .int 0, .int 0, .int 0]))] (fun r => (p0.toInt = 0) ∧ r = 0 ∨ ((p0.toInt ≠ 0 ∧ p0.toInt = 1) ∨ (p0.toInt ≠ 0 ∧ p0.toInt ≠ 1)) ∧ r = (-1)) (fun u => []) := by
  refine CI.of (by decide +kernel) (Nat.le_of_ble_eq_true rfl) ?_
  intro p e s m below meth c A ls hE
  obtain ⟨X, hr, hlk, hnm, hw, hl⟩ := hE
  have X : CX p m c cX11_fault 2 s [.ref a0, .int p0].toArray RX11 D ct := X
  have hl : lv_has ls 2 [(0, .ref a0), (1, .int p0)] := hl
  obtain ⟨⟨hx, hb, hml, hown, hts⟩, hK⟩ := id X
  refine lv_iload_n hx hb dX11_fault_0 rfl (lv_at hl 1 rfl) ?_
  by_cases e1 : p0.toInt = 0
  · obtain rfl : p0 = 0 := i32_of e1
    refine lv_lookup (off := 27) (tgt := 28) hx hb dX11_fault_1 (by decide) (by decide) (by decide) ?_
    refine lv_aload_n hx hb dX11_fault_28 rfl (lv_at hl 0 rfl) ?_
    refine fg_568 X hw 0 rfl rfl dX11_fault_29 ?_
    refine fg_297 X hw 1 rfl rfl dX11_fault_32 ?_
    exact r_i X hr hlk hw [] (fun _ => 0) rfl rfl (Or.inl (⟨e1, rfl⟩)) (by decide) (by decide) dX11_fault_35
  by_cases e2 : p0.toInt = 1
  · obtain rfl : p0 = 1 := i32_of e2
    refine lv_lookup (off := 35) (tgt := 36) hx hb dX11_fault_1 (by decide) (by decide) (by decide) ?_
    refine lv_aload_n hx hb dX11_fault_36 rfl (lv_at hl 0 rfl) ?_
    refine fg_568 X hw 0 rfl rfl dX11_fault_37 ?_
    refine fg_299 X hw 1 rfl rfl dX11_fault_40 ?_
    exact r_i X hr hlk hw [] (fun _ => 0) rfl rfl (Or.inr (⟨Or.inl (⟨e1, e2⟩), rfl⟩)) (by decide) (by decide) dX11_fault_43
  refine lv_lookup (off := 43) (tgt := 44) hx hb dX11_fault_1 (by decide) (by rw [lv_osw (k := 0) (fun q => e1 (by rw [q]; decide)) (by decide), lv_osw (k := 1) (fun q => e2 (by rw [q]; decide)) (by decide)]; rfl) (by decide) ?_
  refine lv_iconst (v := (-1)) hx hb dX11_fault_44 (by decide) ?_
  exact r_i X hr hlk hw [] (fun _ => 0) rfl rfl (Or.inr (⟨Or.inr (⟨e1, e2⟩), rfl⟩)) (by decide) (by decide) dX11_fault_45
set_option maxHeartbeats 4000000 in
set_option maxRecDepth 100000 in
theorem c41_X12_fault (l : Launch) (D : va_G) (ct : Nat → ClassId) (a0 : Nat) (p0 : Int32) (a1 : Nat) (a2 : Nat) (a3 : Nat) (a4 : Nat) (a5 : Nat) (a6 : Nat) (a7 : Nat) (a8 : Nat) (a9 : Nat) (a10 : Nat) (a11 : Nat) (a12 : Nat) (a13 : Nat) (a14 : Nat) (a15 : Nat) (a16 : Nat) : CI l yX12_fault cX12_fault 2 (some .int) { frames := 0, cells := 0, slots := 0, locals := 0 } D ct [.ref a0, .int p0] [(a0, .inr (12, [.int 0, .ref a1, .ref a2, .ref a3, .ref a4, .int 0, .int 0, .int 0, .int 0, .int 0, .int 0, .int 0, .int 0, .int 0, .int (-1), .ref a5, .ref a6, .ref a7, .ref a8, .int 0, .ref a9, .ref a10, .int 0, .int 0, .int 0, .ref a11, .ref a12, .ref a13, .ref a14, .ref a15, .ref a16]))] (fun r => ((p0.toInt ≠ 0 ∧ p0.toInt ≠ 1) ∨ (p0.toInt ≠ 0 ∧ p0.toInt = 1 ∧ p0.toInt = 1)) ∧ r = (-1) ∨ (p0.toInt = 0 ∧ p0.toInt = 0) ∧ r = 0) (fun u => []) := by
  refine CI.of (by decide +kernel) (Nat.le_of_ble_eq_true rfl) ?_
  intro p e s m below meth c A ls hE
  obtain ⟨X, hr, hlk, hnm, hw, hl⟩ := hE
  have X : CX p m c cX12_fault 2 s [.ref a0, .int p0].toArray RX12 D ct := X
  have hl : lv_has ls 2 [(0, .ref a0), (1, .int p0)] := hl
  obtain ⟨⟨hx, hb, hml, hown, hts⟩, hK⟩ := id X
  refine lv_aload_n hx hb dX12_fault_0 rfl (lv_at hl 0 rfl) ?_
  refine lv_iconst (v := 0) hx hb dX12_fault_1 (by decide) ?_
  refine fp_1442 X hw 0 rfl rfl rfl (Nat.le_of_ble_eq_true rfl) dX12_fault_2 [(a0, .inr (12, [.int 0, .ref a1, .ref a2, .ref a3, .ref a4, .int 0, .int 0, .int 0, .int 0, .int 0, .int 0, .int 0, .int 0, .int 0, .int (-1), .ref a5, .ref a6, .ref a7, .ref a8, .int 0, .ref a9, .ref a10, .int 0, .int 0, .int 0, .ref a11, .ref a12, .ref a13, .ref a14, .ref a15, .ref a16]))] rfl (fun H locs hw => ?_)
  refine lv_iload_n hx hb dX12_fault_5 rfl (lv_at hl 1 rfl) ?_
  refine lv_if_ne (tgt := 16) hx hb dX12_fault_6 (by decide) (fun h1 => ?_) (fun h1 => ?_)
  · have h1 : p0.toInt ≠ 0 := by have q := ci_neq (a := p0.toInt) (b := 0) rfl (by decide) h1; omega
    refine lv_iload_n hx hb dX12_fault_16 rfl (lv_at hl 1 rfl) ?_
    refine lv_iconst (v := 1) hx hb dX12_fault_17 (by decide) ?_
    refine lv_icmp_ne (tgt := 28) hx hb dX12_fault_18 (by decide) (fun h2 => ?_) (fun h2 => ?_)
    · have h2 : p0.toInt ≠ 1 := by have q := ci_neq (a := p0.toInt) (b := 1) rfl (by decide) h2; omega
      refine lv_iconst (v := (-1)) hx hb dX12_fault_28 (by decide) ?_
      exact r_i X hr hlk hw [] (fun _ => 0) rfl rfl (Or.inl (⟨Or.inl (⟨h1, h2⟩), rfl⟩)) (by decide) (by decide) dX12_fault_29
    · have h2 : p0.toInt = 1 := by have q := ci_eq (a := p0.toInt) (b := 1) rfl (by decide) h2; omega
      have e3 : p0.toInt = 1 := by omega
      obtain rfl : p0 = 1 := i32_of e3
      refine lv_aload_n hx hb dX12_fault_21 rfl (lv_at hl 0 rfl) ?_
      refine fg_1456 X hw 0 rfl rfl dX12_fault_22 ?_
      refine lv_goto (tgt := 29) hx hb dX12_fault_25 (by decide) ?_
      exact r_i X hr hlk hw [] (fun _ => 0) rfl rfl (Or.inl (⟨Or.inr (⟨h1, h2, e3⟩), rfl⟩)) (by decide) (by decide) dX12_fault_29
  · have h1 : p0.toInt = 0 := by have q := ci_eq (a := p0.toInt) (b := 0) rfl (by decide) h1; omega
    have e4 : p0.toInt = 0 := by omega
    obtain rfl : p0 = 0 := i32_of e4
    refine lv_aload_n hx hb dX12_fault_9 rfl (lv_at hl 0 rfl) ?_
    refine fg_1455 X hw 0 rfl rfl dX12_fault_10 ?_
    refine lv_goto (tgt := 29) hx hb dX12_fault_13 (by decide) ?_
    exact r_i X hr hlk hw [] (fun _ => 0) rfl rfl (Or.inr (⟨⟨h1, e4⟩, rfl⟩)) (by decide) (by decide) dX12_fault_29
set_option maxHeartbeats 4000000 in
set_option maxRecDepth 100000 in
theorem c42_X11_isFlat (l : Launch) (D : va_G) (ct : Nat → ClassId) (a0 : Nat) (p0 : Int32) (a1 : Nat) (a2 : Nat) (a3 : Nat) (a4 : Nat) (a5 : Nat) (a6 : Nat) (a7 : Nat) (a8 : Nat) (a9 : Nat) (a10 : Nat) (a11 : Nat) (a12 : Nat) (a13 : Nat) (a14 : Nat) (a15 : Nat) (a16 : Nat) (a17 : Nat) (a18 : Nat) (a19 : Nat) : CI l yX11_isFlat cX11_isFlat 2 (some .boolean) { frames := 0, cells := 0, slots := 0, locals := 0 } D ct [.ref a0, .int p0] [(a0, .inr (11, [.ref a1, .int 0, .ref a2, .ref a3, .ref a4, .ref a5, .ref a6, .ref a7, .ref a8, .ref a9, .ref a10, .ref a11, .ref a12, .ref a13, .ref a14, .ref a15, .int (-1), .int (-1)])), (a2, .inr (2, [.int 0, .int 0, .int 0, .ref a16, .ref a17, .ref a18, .int 0, .int 0, .int 0, .int 0, .int 0, .ref a19, .int 0]))] (fun r => r = 0) (fun u => [(a0, .inr (11, [.ref a1, .int 0, .ref a2, .ref a3, .ref a4, .ref a5, .ref a6, .ref a7, .ref a8, .ref a9, .ref a10, .ref a11, .ref a12, .ref a13, .ref a14, .ref a15, .int (-1), .int (-1)])), (a2, .inr (2, [.int 0, .int 0, .int 0, .ref a16, .ref a17, .ref a18, .int 0, .int 0, .int 0, .int 0, .int 0, .ref a19, .int 0]))]) := by
  refine CI.of (by decide +kernel) (Nat.le_of_ble_eq_true rfl) ?_
  intro p e s m below meth c A ls hE
  obtain ⟨X, hr, hlk, hnm, hw, hl⟩ := hE
  have X : CX p m c cX11_isFlat 2 s [.ref a0, .int p0].toArray RX11 D ct := X
  have hl : lv_has ls 2 [(0, .ref a0), (1, .int p0)] := hl
  obtain ⟨⟨hx, hb, hml, hown, hts⟩, hK⟩ := id X
  refine lv_iload_n hx hb dX11_isFlat_0 rfl (lv_at hl 1 rfl) ?_
  refine lv_if_lt (tgt := 19) hx hb dX11_isFlat_1 (by decide) (fun h1 => ?_) (fun h1 => ?_)
  · have h1 : p0.toInt < 0 := by have q := ci_lt (a := p0.toInt) (b := 0) rfl (by decide) h1; omega
    refine lv_iconst (v := 0) hx hb dX11_isFlat_19 (by decide) ?_
    exact r_z X hr hlk hw [0, 1] (fun _ => 0) rfl rfl rfl (by decide) (by decide) (by decide) dX11_isFlat_20
  · have h1 : p0.toInt ≥ 0 := by have q := ci_nlt (a := p0.toInt) (b := 0) rfl (by decide) h1; omega
    refine lv_iload_n hx hb dX11_isFlat_4 rfl (lv_at hl 1 rfl) ?_
    refine lv_aload_n hx hb dX11_isFlat_5 rfl (lv_at hl 0 rfl) ?_
    refine fg_567 X hw 0 rfl rfl dX11_isFlat_6 ?_
    refine fg_217 X hw 1 rfl rfl dX11_isFlat_9 ?_
    refine lv_icmp_ge (tgt := 19) hx hb dX11_isFlat_12 (by decide) (fun h2 => ?_) (fun h2 => absurd (ci_nle (a := 0) (b := p0.toInt) (by decide) rfl h2) (by omega))
    refine lv_iconst (v := 0) hx hb dX11_isFlat_19 (by decide) ?_
    exact r_z X hr hlk hw [0, 1] (fun _ => 0) rfl rfl rfl (by decide) (by decide) (by decide) dX11_isFlat_20
set_option maxHeartbeats 4000000 in
set_option maxRecDepth 100000 in
theorem c43_X11_flat (l : Launch) (D : va_G) (ct : Nat → ClassId) (a0 : Nat) (p0 : Int32) (p1 : Int32) (a1 : Nat) (a2 : Nat) (a3 : Nat) (a4 : Nat) (a5 : Nat) (a6 : Nat) (a7 : Nat) (a8 : Nat) (a9 : Nat) (a10 : Nat) (a11 : Nat) (a12 : Nat) (a13 : Nat) (a14 : Nat) (a15 : Nat) (a16 : Nat) (a17 : Nat) (a18 : Nat) (a19 : Nat) : CI l yX11_flat cX11_flat 3 (some .int) { frames := 1, cells := 0, slots := 0, locals := 21 } D ct [.ref a0, .int p0, .int p1] [(a0, .inr (11, [.ref a1, .int 0, .ref a2, .ref a3, .ref a4, .ref a5, .ref a6, .ref a7, .ref a8, .ref a9, .ref a10, .ref a11, .ref a12, .ref a13, .ref a14, .ref a15, .int (-1), .int (-1)])), (a2, .inr (2, [.int 0, .int 0, .int 0, .ref a16, .ref a17, .ref a18, .int 0, .int 0, .int 0, .int 0, .int 0, .ref a19, .int 0]))] (fun r => r = (-8)) (fun u => []) := by
  refine CI.of (by decide +kernel) (Nat.le_of_ble_eq_true rfl) ?_
  intro p e s m below meth c A ls hE
  obtain ⟨X, hr, hlk, hnm, hw, hl⟩ := hE
  have X : CX p m c cX11_flat 3 s [.ref a0, .int p0, .int p1].toArray RX11 D ct := X
  have hl : lv_has ls 3 [(0, .ref a0), (1, .int p0), (2, .int p1)] := hl
  obtain ⟨⟨hx, hb, hml, hown, hts⟩, hK⟩ := id X
  refine lv_aload_n hx hb dX11_flat_0 rfl (lv_at hl 0 rfl) ?_
  refine lv_iload_n hx hb dX11_flat_1 rfl (lv_at hl 1 rfl) ?_
  refine m_Vi (As := [.int p0]) (rest := []) (c42_X11_isFlat l D ct a0 p0 a1 a2 a3 a4 a5 a6 a7 a8 a9 a10 a11 a12 a13 a14 a15 a16 a17 a18 a19) X hl.1 kw_881 kd_yX11_isFlat hw [0, 1] [] rfl rfl rfl rfl (by decide) 0 rfl rfl ⟨by decide, by decide⟩ rfl rfl (Nat.le_of_ble_eq_true rfl) dX11_flat_2 ⟨by decide, by decide⟩ (fun r1 u2 H locs hr3 hw => ?_)
  replace hw : WD D A s.heap _ _ [(a0, .inr (11, [.ref a1, .int 0, .ref a2, .ref a3, .ref a4, .ref a5, .ref a6, .ref a7, .ref a8, .ref a9, .ref a10, .ref a11, .ref a12, .ref a13, .ref a14, .ref a15, .int (-1), .int (-1)])), (a2, .inr (2, [.int 0, .int 0, .int 0, .ref a16, .ref a17, .ref a18, .int 0, .int 0, .int 0, .int 0, .int 0, .ref a19, .int 0]))] := hw
  subst hr3
  refine lv_if_eq (tgt := 17) hx hb dX11_flat_5 (by decide) (fun _ => ?_) (fun h => absurd (by decide) h)
  refine lv_bipush (v := (-8)) hx hb dX11_flat_17 (by decide) ?_
  exact r_i X hr hlk hw [] (fun _ => 0) rfl rfl rfl (by decide) (by decide) dX11_flat_19
set_option maxHeartbeats 4000000 in
set_option maxRecDepth 100000 in
theorem c44_X12_within (l : Launch) (D : va_G) (ct : Nat → ClassId) (w0 : Int64) : CI l yX12_within cX12_within 6 (some .boolean) { frames := 0, cells := 0, slots := 0, locals := 0 } D ct [.long w0, .long 0, .long (-1)] [] (fun r => r = 0) (fun u => []) := by
  refine CI.of (by decide +kernel) (Nat.le_of_ble_eq_true rfl) ?_
  intro p e s m below meth c A ls hE
  obtain ⟨X, hr, hlk, hnm, hw, hl⟩ := hE
  have X : CX p m c cX12_within 6 s [.long w0, .long 0, .long (-1)].toArray RX12 D ct := X
  have hl : lv_has ls 6 [(0, .long w0), (2, .long 0), (4, .long (-1))] := hl
  obtain ⟨⟨hx, hb, hml, hown, hts⟩, hK⟩ := id X
  refine lv_lload_n hx hb dX12_within_0 rfl (lv_at hl 0 rfl) ?_
  refine lv_lload_n hx hb dX12_within_1 rfl (lv_at hl 1 rfl) ?_
  refine W.lcmp hx hb dX12_within_2 ?_
  refine lv_if_lt (tgt := 17) hx hb dX12_within_3 (by decide) (fun h1 => ?_) (fun h1 => ?_)
  · have h1 : w0.toInt < 0 := by have q := cl_lt (a := w0.toInt) (b := 0) rfl (by decide) h1; omega
    refine lv_iconst (v := 0) hx hb dX12_within_17 (by decide) ?_
    exact r_z X hr hlk hw [] (fun _ => 0) rfl rfl rfl (by decide) (by decide) (by decide) dX12_within_18
  · have h1 : w0.toInt ≥ 0 := by have q := cl_nlt (a := w0.toInt) (b := 0) rfl (by decide) h1; omega
    refine lv_lload_n hx hb dX12_within_6 rfl (lv_at hl 0 rfl) ?_
    refine lv_lload hx hb dX12_within_7 (lv_at hl 2 rfl) ?_
    refine W.lcmp hx hb dX12_within_9 ?_
    refine lv_if_gt (tgt := 17) hx hb dX12_within_10 (by decide) (fun h2 => ?_) (fun h2 => absurd (cl_ngt (a := w0.toInt) (b := -1) rfl (by decide) h2) (by omega))
    refine lv_iconst (v := 0) hx hb dX12_within_17 (by decide) ?_
    exact r_z X hr hlk hw [] (fun _ => 0) rfl rfl rfl (by decide) (by decide) (by decide) dX12_within_18
set_option maxHeartbeats 4000000 in
set_option maxRecDepth 100000 in
theorem c45_X12_isFlat (l : Launch) (D : va_G) (ct : Nat → ClassId) (a0 : Nat) (w0 : Int64) (a1 : Nat) (a2 : Nat) (a3 : Nat) (a4 : Nat) (a5 : Nat) (a6 : Nat) (a7 : Nat) (a8 : Nat) (a9 : Nat) (a10 : Nat) (a11 : Nat) (a12 : Nat) (a13 : Nat) (a14 : Nat) (a15 : Nat) (a16 : Nat) : CI l yX12_isFlat cX12_isFlat 3 (some .boolean) { frames := 1, cells := 0, slots := 0, locals := 25 } D ct [.ref a0, .long w0] [(a0, .inr (12, [.int 0, .ref a1, .ref a2, .ref a3, .ref a4, .int 0, .int 0, .int 0, .int 0, .int 0, .int 0, .int 0, .int 0, .int 0, .int (-1), .ref a5, .ref a6, .ref a7, .ref a8, .int 0, .ref a9, .ref a10, .int 0, .int 0, .int 0, .ref a11, .ref a12, .ref a13, .ref a14, .ref a15, .ref a16])), (a1, .inl (ct 0, 5310, .inl fx0))] (fun r => r = 0) (fun u => [(a0, .inr (12, [.int 0, .ref a1, .ref a2, .ref a3, .ref a4, .int 0, .int 0, .int 0, .int 0, .int 0, .int 0, .int 0, .int 0, .int 0, .int (-1), .ref a5, .ref a6, .ref a7, .ref a8, .int 0, .ref a9, .ref a10, .int 0, .int 0, .int 0, .ref a11, .ref a12, .ref a13, .ref a14, .ref a15, .ref a16])), (a1, .inl (ct 0, 5310, .inl fx0))]) := by
  refine CI.of (by decide +kernel) (Nat.le_of_ble_eq_true rfl) ?_
  intro p e s m below meth c A ls hE
  obtain ⟨X, hr, hlk, hnm, hw, hl⟩ := hE
  have X : CX p m c cX12_isFlat 3 s [.ref a0, .long w0].toArray RX12 D ct := X
  have hl : lv_has ls 3 [(0, .ref a0), (1, .long w0)] := hl
  obtain ⟨⟨hx, hb, hml, hown, hts⟩, hK⟩ := id X
  refine lv_lload_n hx hb dX12_isFlat_0 rfl (lv_at hl 1 rfl) ?_
  refine lv_lconst (v := 0) hx hb dX12_isFlat_1 (by decide) ?_
  refine lv_aload_n hx hb dX12_isFlat_2 rfl (lv_at hl 0 rfl) ?_
  refine fg_1443 X hw 0 rfl rfl dX12_isFlat_3 ?_
  refine lv_iconst (v := 1) hx hb dX12_isFlat_6 (by decide) ?_
  refine j_iald (j := 1) (v := 0) X hw 1 rfl (by decide) (by decide) (by decide) rfl dX12_isFlat_7 ?_
  refine lv_iconst (v := 1) hx hb dX12_isFlat_8 (by decide) ?_
  refine kv_isub (v := (-1)) hx hb (by decide) dX12_isFlat_9 ?_
  refine lv_i2l (v := (-1)) hx hb dX12_isFlat_10 (by decide) ?_
  refine m_Si (As := [.long w0, .long 0, .long (-1)]) (rest := []) (c44_X12_within l D ct w0) X hl.1 kw_1545 kd_yX12_within hw [] [0, 1] rfl rfl rfl rfl (by decide) ⟨by decide, by decide⟩ rfl rfl (Nat.le_of_ble_eq_true rfl) dX12_isFlat_11 ⟨by decide, by decide⟩ (fun r1 u2 H locs hr3 hw => ?_)
  replace hw : WD D A s.heap _ _ [(a0, .inr (12, [.int 0, .ref a1, .ref a2, .ref a3, .ref a4, .int 0, .int 0, .int 0, .int 0, .int 0, .int 0, .int 0, .int 0, .int 0, .int (-1), .ref a5, .ref a6, .ref a7, .ref a8, .int 0, .ref a9, .ref a10, .int 0, .int 0, .int 0, .ref a11, .ref a12, .ref a13, .ref a14, .ref a15, .ref a16])), (a1, .inl (ct 0, 5310, .inl fx0))] := hw
  subst hr3
  exact r_z X hr hlk hw [0, 1] (fun _ => 0) rfl rfl rfl (by decide) (by decide) (by decide) dX12_isFlat_14
set_option maxHeartbeats 4000000 in
set_option maxRecDepth 100000 in
theorem c46_X12_flat (l : Launch) (D : va_G) (ct : Nat → ClassId) (a0 : Nat) (p0 : Int32) (p1 : Int32) (a1 : Nat) (a2 : Nat) (a3 : Nat) (a4 : Nat) (a5 : Nat) (a6 : Nat) (a7 : Nat) (a8 : Nat) (a9 : Nat) (a10 : Nat) (a11 : Nat) (a12 : Nat) (a13 : Nat) (a14 : Nat) (a15 : Nat) (a16 : Nat) : CI l yX12_flat cX12_flat 3 (some .int) { frames := 2, cells := 0, slots := 0, locals := 47 } D ct [.ref a0, .int p0, .int p1] [(a0, .inr (12, [.int 0, .ref a1, .ref a2, .ref a3, .ref a4, .int 0, .int 0, .int 0, .int 0, .int 0, .int 0, .int 0, .int 0, .int 0, .int (-1), .ref a5, .ref a6, .ref a7, .ref a8, .int 0, .ref a9, .ref a10, .int 0, .int 0, .int 0, .ref a11, .ref a12, .ref a13, .ref a14, .ref a15, .ref a16])), (a1, .inl (ct 0, 5310, .inl fx0))] (fun r => r = (-8)) (fun u => []) := by
  refine CI.of (by decide +kernel) (Nat.le_of_ble_eq_true rfl) ?_
  intro p e s m below meth c A ls hE
  obtain ⟨X, hr, hlk, hnm, hw, hl⟩ := hE
  have X : CX p m c cX12_flat 3 s [.ref a0, .int p0, .int p1].toArray RX12 D ct := X
  have hl : lv_has ls 3 [(0, .ref a0), (1, .int p0), (2, .int p1)] := hl
  obtain ⟨⟨hx, hb, hml, hown, hts⟩, hK⟩ := id X
  refine lv_aload_n hx hb dX12_flat_0 rfl (lv_at hl 0 rfl) ?_
  refine lv_iconst (v := 0) hx hb dX12_flat_1 (by decide) ?_
  refine fp_1442 X hw 0 rfl rfl rfl (Nat.le_of_ble_eq_true rfl) dX12_flat_2 [(a0, .inr (12, [.int 0, .ref a1, .ref a2, .ref a3, .ref a4, .int 0, .int 0, .int 0, .int 0, .int 0, .int 0, .int 0, .int 0, .int 0, .int (-1), .ref a5, .ref a6, .ref a7, .ref a8, .int 0, .ref a9, .ref a10, .int 0, .int 0, .int 0, .ref a11, .ref a12, .ref a13, .ref a14, .ref a15, .ref a16])), (a1, .inl (ct 0, 5310, .inl fx0))] rfl (fun H locs hw => ?_)
  refine lv_aload_n hx hb dX12_flat_5 rfl (lv_at hl 0 rfl) ?_
  refine lv_iload_n hx hb dX12_flat_6 rfl (lv_at hl 1 rfl) ?_
  refine lv_i2l (v := p0.toInt64) hx hb dX12_flat_7 rfl ?_
  refine m_Vi (As := [.long p0.toInt64]) (rest := []) (c45_X12_isFlat l D ct a0 (p0.toInt64) a1 a2 a3 a4 a5 a6 a7 a8 a9 a10 a11 a12 a13 a14 a15 a16) X hl.1 kw_1654 kd_yX12_isFlat hw [0, 1] [] rfl rfl rfl rfl (by decide) 0 rfl rfl ⟨by decide, by decide⟩ rfl rfl (Nat.le_of_ble_eq_true rfl) dX12_flat_8 ⟨by decide, by decide⟩ (fun r1 u2 H locs hr3 hw => ?_)
  replace hw : WD D A s.heap _ _ [(a0, .inr (12, [.int 0, .ref a1, .ref a2, .ref a3, .ref a4, .int 0, .int 0, .int 0, .int 0, .int 0, .int 0, .int 0, .int 0, .int 0, .int (-1), .ref a5, .ref a6, .ref a7, .ref a8, .int 0, .ref a9, .ref a10, .int 0, .int 0, .int 0, .ref a11, .ref a12, .ref a13, .ref a14, .ref a15, .ref a16])), (a1, .inl (ct 0, 5310, .inl fx0))] := hw
  subst hr3
  refine lv_if_ne (tgt := 17) hx hb dX12_flat_11 (by decide) (fun h => absurd rfl h) (fun _ => ?_)
  refine lv_bipush (v := (-8)) hx hb dX12_flat_14 (by decide) ?_
  exact r_i X hr hlk hw [] (fun _ => 0) rfl rfl rfl (by decide) (by decide) dX12_flat_16
set_option maxHeartbeats 4000000 in
set_option maxRecDepth 100000 in
theorem c47_X11_isHousehold (l : Launch) (D : va_G) (ct : Nat → ClassId) (a0 : Nat) (p0 : Int32) (a1 : Nat) (a2 : Nat) (a3 : Nat) (a4 : Nat) (a5 : Nat) (a6 : Nat) (a7 : Nat) (a8 : Nat) (a9 : Nat) (a10 : Nat) (a11 : Nat) (a12 : Nat) (a13 : Nat) (a14 : Nat) (a15 : Nat) (a16 : Nat) (a17 : Nat) (a18 : Nat) (a19 : Nat) : CI l yX11_isHousehold cX11_isHousehold 2 (some .boolean) { frames := 0, cells := 0, slots := 0, locals := 0 } D ct [.ref a0, .int p0] [(a0, .inr (11, [.ref a1, .int 0, .ref a2, .ref a3, .ref a4, .ref a5, .ref a6, .ref a7, .ref a8, .ref a9, .ref a10, .ref a11, .ref a12, .ref a13, .ref a14, .ref a15, .int (-1), .int (-1)])), (a2, .inr (2, [.int 0, .int 0, .int 0, .ref a16, .ref a17, .ref a18, .int 0, .int 0, .int 0, .int 0, .int 0, .ref a19, .int 0]))] (fun r => r = 0) (fun u => [(a0, .inr (11, [.ref a1, .int 0, .ref a2, .ref a3, .ref a4, .ref a5, .ref a6, .ref a7, .ref a8, .ref a9, .ref a10, .ref a11, .ref a12, .ref a13, .ref a14, .ref a15, .int (-1), .int (-1)])), (a2, .inr (2, [.int 0, .int 0, .int 0, .ref a16, .ref a17, .ref a18, .int 0, .int 0, .int 0, .int 0, .int 0, .ref a19, .int 0]))]) := by
  refine CI.of (by decide +kernel) (Nat.le_of_ble_eq_true rfl) ?_
  intro p e s m below meth c A ls hE
  obtain ⟨X, hr, hlk, hnm, hw, hl⟩ := hE
  have X : CX p m c cX11_isHousehold 2 s [.ref a0, .int p0].toArray RX11 D ct := X
  have hl : lv_has ls 2 [(0, .ref a0), (1, .int p0)] := hl
  obtain ⟨⟨hx, hb, hml, hown, hts⟩, hK⟩ := id X
  refine lv_iload_n hx hb dX11_isHousehold_0 rfl (lv_at hl 1 rfl) ?_
  refine lv_if_lt (tgt := 19) hx hb dX11_isHousehold_1 (by decide) (fun h1 => ?_) (fun h1 => ?_)
  · have h1 : p0.toInt < 0 := by have q := ci_lt (a := p0.toInt) (b := 0) rfl (by decide) h1; omega
    refine lv_iconst (v := 0) hx hb dX11_isHousehold_19 (by decide) ?_
    exact r_z X hr hlk hw [0, 1] (fun _ => 0) rfl rfl rfl (by decide) (by decide) (by decide) dX11_isHousehold_20
  · have h1 : p0.toInt ≥ 0 := by have q := ci_nlt (a := p0.toInt) (b := 0) rfl (by decide) h1; omega
    refine lv_iload_n hx hb dX11_isHousehold_4 rfl (lv_at hl 1 rfl) ?_
    refine lv_aload_n hx hb dX11_isHousehold_5 rfl (lv_at hl 0 rfl) ?_
    refine fg_567 X hw 0 rfl rfl dX11_isHousehold_6 ?_
    refine fg_225 X hw 1 rfl rfl dX11_isHousehold_9 ?_
    refine lv_icmp_ge (tgt := 19) hx hb dX11_isHousehold_12 (by decide) (fun h2 => ?_) (fun h2 => absurd (ci_nle (a := 0) (b := p0.toInt) (by decide) rfl h2) (by omega))
    refine lv_iconst (v := 0) hx hb dX11_isHousehold_19 (by decide) ?_
    exact r_z X hr hlk hw [0, 1] (fun _ => 0) rfl rfl rfl (by decide) (by decide) (by decide) dX11_isHousehold_20
set_option maxHeartbeats 4000000 in
set_option maxRecDepth 100000 in
theorem c48_X11_household (l : Launch) (D : va_G) (ct : Nat → ClassId) (a0 : Nat) (p0 : Int32) (p1 : Int32) (a1 : Nat) (a2 : Nat) (a3 : Nat) (a4 : Nat) (a5 : Nat) (a6 : Nat) (a7 : Nat) (a8 : Nat) (a9 : Nat) (a10 : Nat) (a11 : Nat) (a12 : Nat) (a13 : Nat) (a14 : Nat) (a15 : Nat) (a16 : Nat) (a17 : Nat) (a18 : Nat) (a19 : Nat) : CI l yX11_household cX11_household 3 (some .int) { frames := 1, cells := 0, slots := 0, locals := 21 } D ct [.ref a0, .int p0, .int p1] [(a0, .inr (11, [.ref a1, .int 0, .ref a2, .ref a3, .ref a4, .ref a5, .ref a6, .ref a7, .ref a8, .ref a9, .ref a10, .ref a11, .ref a12, .ref a13, .ref a14, .ref a15, .int (-1), .int (-1)])), (a2, .inr (2, [.int 0, .int 0, .int 0, .ref a16, .ref a17, .ref a18, .int 0, .int 0, .int 0, .int 0, .int 0, .ref a19, .int 0]))] (fun r => r = (-8)) (fun u => []) := by
  refine CI.of (by decide +kernel) (Nat.le_of_ble_eq_true rfl) ?_
  intro p e s m below meth c A ls hE
  obtain ⟨X, hr, hlk, hnm, hw, hl⟩ := hE
  have X : CX p m c cX11_household 3 s [.ref a0, .int p0, .int p1].toArray RX11 D ct := X
  have hl : lv_has ls 3 [(0, .ref a0), (1, .int p0), (2, .int p1)] := hl
  obtain ⟨⟨hx, hb, hml, hown, hts⟩, hK⟩ := id X
  refine lv_aload_n hx hb dX11_household_0 rfl (lv_at hl 0 rfl) ?_
  refine lv_iload_n hx hb dX11_household_1 rfl (lv_at hl 1 rfl) ?_
  refine m_Vi (As := [.int p0]) (rest := []) (c47_X11_isHousehold l D ct a0 p0 a1 a2 a3 a4 a5 a6 a7 a8 a9 a10 a11 a12 a13 a14 a15 a16 a17 a18 a19) X hl.1 kw_891 kd_yX11_isHousehold hw [0, 1] [] rfl rfl rfl rfl (by decide) 0 rfl rfl ⟨by decide, by decide⟩ rfl rfl (Nat.le_of_ble_eq_true rfl) dX11_household_2 ⟨by decide, by decide⟩ (fun r1 u2 H locs hr3 hw => ?_)
  replace hw : WD D A s.heap _ _ [(a0, .inr (11, [.ref a1, .int 0, .ref a2, .ref a3, .ref a4, .ref a5, .ref a6, .ref a7, .ref a8, .ref a9, .ref a10, .ref a11, .ref a12, .ref a13, .ref a14, .ref a15, .int (-1), .int (-1)])), (a2, .inr (2, [.int 0, .int 0, .int 0, .ref a16, .ref a17, .ref a18, .int 0, .int 0, .int 0, .int 0, .int 0, .ref a19, .int 0]))] := hw
  subst hr3
  refine lv_if_eq (tgt := 17) hx hb dX11_household_5 (by decide) (fun _ => ?_) (fun h => absurd (by decide) h)
  refine lv_bipush (v := (-8)) hx hb dX11_household_17 (by decide) ?_
  exact r_i X hr hlk hw [] (fun _ => 0) rfl rfl rfl (by decide) (by decide) dX11_household_19
set_option maxHeartbeats 4000000 in
set_option maxRecDepth 100000 in
theorem c49_X12_isHousehold (l : Launch) (D : va_G) (ct : Nat → ClassId) (a0 : Nat) (w0 : Int64) (a1 : Nat) (a2 : Nat) (a3 : Nat) (a4 : Nat) (a5 : Nat) (a6 : Nat) (a7 : Nat) (a8 : Nat) (a9 : Nat) (a10 : Nat) (a11 : Nat) (a12 : Nat) (a13 : Nat) (a14 : Nat) (a15 : Nat) (a16 : Nat) : CI l yX12_isHousehold cX12_isHousehold 3 (some .boolean) { frames := 1, cells := 0, slots := 0, locals := 25 } D ct [.ref a0, .long w0] [(a0, .inr (12, [.int 0, .ref a1, .ref a2, .ref a3, .ref a4, .int 0, .int 0, .int 0, .int 0, .int 0, .int 0, .int 0, .int 0, .int 0, .int (-1), .ref a5, .ref a6, .ref a7, .ref a8, .int 0, .ref a9, .ref a10, .int 0, .int 0, .int 0, .ref a11, .ref a12, .ref a13, .ref a14, .ref a15, .ref a16])), (a1, .inl (ct 0, 5310, .inl fx0))] (fun r => r = 0) (fun u => [(a0, .inr (12, [.int 0, .ref a1, .ref a2, .ref a3, .ref a4, .int 0, .int 0, .int 0, .int 0, .int 0, .int 0, .int 0, .int 0, .int 0, .int (-1), .ref a5, .ref a6, .ref a7, .ref a8, .int 0, .ref a9, .ref a10, .int 0, .int 0, .int 0, .ref a11, .ref a12, .ref a13, .ref a14, .ref a15, .ref a16])), (a1, .inl (ct 0, 5310, .inl fx0))]) := by
  refine CI.of (by decide +kernel) (Nat.le_of_ble_eq_true rfl) ?_
  intro p e s m below meth c A ls hE
  obtain ⟨X, hr, hlk, hnm, hw, hl⟩ := hE
  have X : CX p m c cX12_isHousehold 3 s [.ref a0, .long w0].toArray RX12 D ct := X
  have hl : lv_has ls 3 [(0, .ref a0), (1, .long w0)] := hl
  obtain ⟨⟨hx, hb, hml, hown, hts⟩, hK⟩ := id X
  refine lv_lload_n hx hb dX12_isHousehold_0 rfl (lv_at hl 1 rfl) ?_
  refine lv_lconst (v := 0) hx hb dX12_isHousehold_1 (by decide) ?_
  refine lv_aload_n hx hb dX12_isHousehold_2 rfl (lv_at hl 0 rfl) ?_
  refine fg_1443 X hw 0 rfl rfl dX12_isHousehold_3 ?_
  refine lv_iconst (v := 2) hx hb dX12_isHousehold_6 (by decide) ?_
  refine j_iald (j := 2) (v := 0) X hw 1 rfl (by decide) (by decide) (by decide) rfl dX12_isHousehold_7 ?_
  refine lv_iconst (v := 1) hx hb dX12_isHousehold_8 (by decide) ?_
  refine kv_isub (v := (-1)) hx hb (by decide) dX12_isHousehold_9 ?_
  refine lv_i2l (v := (-1)) hx hb dX12_isHousehold_10 (by decide) ?_
  refine m_Si (As := [.long w0, .long 0, .long (-1)]) (rest := []) (c44_X12_within l D ct w0) X hl.1 kw_1545 kd_yX12_within hw [] [0, 1] rfl rfl rfl rfl (by decide) ⟨by decide, by decide⟩ rfl rfl (Nat.le_of_ble_eq_true rfl) dX12_isHousehold_11 ⟨by decide, by decide⟩ (fun r1 u2 H locs hr3 hw => ?_)
  replace hw : WD D A s.heap _ _ [(a0, .inr (12, [.int 0, .ref a1, .ref a2, .ref a3, .ref a4, .int 0, .int 0, .int 0, .int 0, .int 0, .int 0, .int 0, .int 0, .int 0, .int (-1), .ref a5, .ref a6, .ref a7, .ref a8, .int 0, .ref a9, .ref a10, .int 0, .int 0, .int 0, .ref a11, .ref a12, .ref a13, .ref a14, .ref a15, .ref a16])), (a1, .inl (ct 0, 5310, .inl fx0))] := hw
  subst hr3
  exact r_z X hr hlk hw [0, 1] (fun _ => 0) rfl rfl rfl (by decide) (by decide) (by decide) dX12_isHousehold_14
set_option maxHeartbeats 4000000 in
set_option maxRecDepth 100000 in
theorem c50_X12_household (l : Launch) (D : va_G) (ct : Nat → ClassId) (a0 : Nat) (p0 : Int32) (p1 : Int32) (a1 : Nat) (a2 : Nat) (a3 : Nat) (a4 : Nat) (a5 : Nat) (a6 : Nat) (a7 : Nat) (a8 : Nat) (a9 : Nat) (a10 : Nat) (a11 : Nat) (a12 : Nat) (a13 : Nat) (a14 : Nat) (a15 : Nat) (a16 : Nat) : CI l yX12_household cX12_household 3 (some .int) { frames := 2, cells := 0, slots := 0, locals := 47 } D ct [.ref a0, .int p0, .int p1] [(a0, .inr (12, [.int 0, .ref a1, .ref a2, .ref a3, .ref a4, .int 0, .int 0, .int 0, .int 0, .int 0, .int 0, .int 0, .int 0, .int 0, .int (-1), .ref a5, .ref a6, .ref a7, .ref a8, .int 0, .ref a9, .ref a10, .int 0, .int 0, .int 0, .ref a11, .ref a12, .ref a13, .ref a14, .ref a15, .ref a16])), (a1, .inl (ct 0, 5310, .inl fx0))] (fun r => r = (-8)) (fun u => []) := by
  refine CI.of (by decide +kernel) (Nat.le_of_ble_eq_true rfl) ?_
  intro p e s m below meth c A ls hE
  obtain ⟨X, hr, hlk, hnm, hw, hl⟩ := hE
  have X : CX p m c cX12_household 3 s [.ref a0, .int p0, .int p1].toArray RX12 D ct := X
  have hl : lv_has ls 3 [(0, .ref a0), (1, .int p0), (2, .int p1)] := hl
  obtain ⟨⟨hx, hb, hml, hown, hts⟩, hK⟩ := id X
  refine lv_aload_n hx hb dX12_household_0 rfl (lv_at hl 0 rfl) ?_
  refine lv_iconst (v := 0) hx hb dX12_household_1 (by decide) ?_
  refine fp_1442 X hw 0 rfl rfl rfl (Nat.le_of_ble_eq_true rfl) dX12_household_2 [(a0, .inr (12, [.int 0, .ref a1, .ref a2, .ref a3, .ref a4, .int 0, .int 0, .int 0, .int 0, .int 0, .int 0, .int 0, .int 0, .int 0, .int (-1), .ref a5, .ref a6, .ref a7, .ref a8, .int 0, .ref a9, .ref a10, .int 0, .int 0, .int 0, .ref a11, .ref a12, .ref a13, .ref a14, .ref a15, .ref a16])), (a1, .inl (ct 0, 5310, .inl fx0))] rfl (fun H locs hw => ?_)
  refine lv_aload_n hx hb dX12_household_5 rfl (lv_at hl 0 rfl) ?_
  refine lv_iload_n hx hb dX12_household_6 rfl (lv_at hl 1 rfl) ?_
  refine lv_i2l (v := p0.toInt64) hx hb dX12_household_7 rfl ?_
  refine m_Vi (As := [.long p0.toInt64]) (rest := []) (c49_X12_isHousehold l D ct a0 (p0.toInt64) a1 a2 a3 a4 a5 a6 a7 a8 a9 a10 a11 a12 a13 a14 a15 a16) X hl.1 kw_1667 kd_yX12_isHousehold hw [0, 1] [] rfl rfl rfl rfl (by decide) 0 rfl rfl ⟨by decide, by decide⟩ rfl rfl (Nat.le_of_ble_eq_true rfl) dX12_household_8 ⟨by decide, by decide⟩ (fun r1 u2 H locs hr3 hw => ?_)
  replace hw : WD D A s.heap _ _ [(a0, .inr (12, [.int 0, .ref a1, .ref a2, .ref a3, .ref a4, .int 0, .int 0, .int 0, .int 0, .int 0, .int 0, .int 0, .int 0, .int 0, .int (-1), .ref a5, .ref a6, .ref a7, .ref a8, .int 0, .ref a9, .ref a10, .int 0, .int 0, .int 0, .ref a11, .ref a12, .ref a13, .ref a14, .ref a15, .ref a16])), (a1, .inl (ct 0, 5310, .inl fx0))] := hw
  subst hr3
  refine lv_if_ne (tgt := 17) hx hb dX12_household_11 (by decide) (fun h => absurd rfl h) (fun _ => ?_)
  refine lv_bipush (v := (-8)) hx hb dX12_household_14 (by decide) ?_
  exact r_i X hr hlk hw [] (fun _ => 0) rfl rfl rfl (by decide) (by decide) dX12_household_16
set_option maxHeartbeats 4000000 in
set_option maxRecDepth 100000 in
theorem c51_X11_isPair (l : Launch) (D : va_G) (ct : Nat → ClassId) (a0 : Nat) (p0 : Int32) (p1 : Int32) (a1 : Nat) (a2 : Nat) (a3 : Nat) (a4 : Nat) (a5 : Nat) (a6 : Nat) (a7 : Nat) (a8 : Nat) (a9 : Nat) (a10 : Nat) (a11 : Nat) (a12 : Nat) (a13 : Nat) (a14 : Nat) (a15 : Nat) (a16 : Nat) (a17 : Nat) (a18 : Nat) (a19 : Nat) : CI l yX11_isPair cX11_isPair 3 (some .boolean) { frames := 1, cells := 0, slots := 0, locals := 21 } D ct [.ref a0, .int p0, .int p1] [(a0, .inr (11, [.ref a1, .int 0, .ref a2, .ref a3, .ref a4, .ref a5, .ref a6, .ref a7, .ref a8, .ref a9, .ref a10, .ref a11, .ref a12, .ref a13, .ref a14, .ref a15, .int (-1), .int (-1)])), (a2, .inr (2, [.int 0, .int 0, .int 0, .ref a16, .ref a17, .ref a18, .int 0, .int 0, .int 0, .int 0, .int 0, .ref a19, .int 0]))] (fun r => r = 0) (fun u => [(a0, .inr (11, [.ref a1, .int 0, .ref a2, .ref a3, .ref a4, .ref a5, .ref a6, .ref a7, .ref a8, .ref a9, .ref a10, .ref a11, .ref a12, .ref a13, .ref a14, .ref a15, .int (-1), .int (-1)])), (a2, .inr (2, [.int 0, .int 0, .int 0, .ref a16, .ref a17, .ref a18, .int 0, .int 0, .int 0, .int 0, .int 0, .ref a19, .int 0]))]) := by
  refine CI.of (by decide +kernel) (Nat.le_of_ble_eq_true rfl) ?_
  intro p e s m below meth c A ls hE
  obtain ⟨X, hr, hlk, hnm, hw, hl⟩ := hE
  have X : CX p m c cX11_isPair 3 s [.ref a0, .int p0, .int p1].toArray RX11 D ct := X
  have hl : lv_has ls 3 [(0, .ref a0), (1, .int p0), (2, .int p1)] := hl
  obtain ⟨⟨hx, hb, hml, hown, hts⟩, hK⟩ := id X
  refine lv_aload_n hx hb dX11_isPair_0 rfl (lv_at hl 0 rfl) ?_
  refine lv_iload_n hx hb dX11_isPair_1 rfl (lv_at hl 1 rfl) ?_
  refine m_Vi (As := [.int p0]) (rest := []) (c47_X11_isHousehold l D ct a0 p0 a1 a2 a3 a4 a5 a6 a7 a8 a9 a10 a11 a12 a13 a14 a15 a16 a17 a18 a19) X hl.1 kw_891 kd_yX11_isHousehold hw [0, 1] [] rfl rfl rfl rfl (by decide) 0 rfl rfl ⟨by decide, by decide⟩ rfl rfl (Nat.le_of_ble_eq_true rfl) dX11_isPair_2 ⟨by decide, by decide⟩ (fun r1 u2 H locs hr3 hw => ?_)
  replace hw : WD D A s.heap _ _ [(a0, .inr (11, [.ref a1, .int 0, .ref a2, .ref a3, .ref a4, .ref a5, .ref a6, .ref a7, .ref a8, .ref a9, .ref a10, .ref a11, .ref a12, .ref a13, .ref a14, .ref a15, .int (-1), .int (-1)])), (a2, .inr (2, [.int 0, .int 0, .int 0, .ref a16, .ref a17, .ref a18, .int 0, .int 0, .int 0, .int 0, .int 0, .ref a19, .int 0]))] := hw
  subst hr3
  refine lv_if_eq (tgt := 20) hx hb dX11_isPair_5 (by decide) (fun _ => ?_) (fun h => absurd (by decide) h)
  refine lv_iconst (v := 0) hx hb dX11_isPair_20 (by decide) ?_
  exact r_z X hr hlk hw [0, 1] (fun _ => 0) rfl rfl rfl (by decide) (by decide) (by decide) dX11_isPair_21
set_option maxHeartbeats 4000000 in
set_option maxRecDepth 100000 in
theorem c52_X11_times (l : Launch) (D : va_G) (ct : Nat → ClassId) (a0 : Nat) (p0 : Int32) (p1 : Int32) (a1 : Nat) (a2 : Nat) (a3 : Nat) (a4 : Nat) (a5 : Nat) (a6 : Nat) (a7 : Nat) (a8 : Nat) (a9 : Nat) (a10 : Nat) (a11 : Nat) (a12 : Nat) (a13 : Nat) (a14 : Nat) (a15 : Nat) (a16 : Nat) (a17 : Nat) (a18 : Nat) (a19 : Nat) : CI l yX11_times cX11_times 3 (some .int) { frames := 2, cells := 0, slots := 0, locals := 43 } D ct [.ref a0, .int p0, .int p1] [(a0, .inr (11, [.ref a1, .int 0, .ref a2, .ref a3, .ref a4, .ref a5, .ref a6, .ref a7, .ref a8, .ref a9, .ref a10, .ref a11, .ref a12, .ref a13, .ref a14, .ref a15, .int (-1), .int (-1)])), (a2, .inr (2, [.int 0, .int 0, .int 0, .ref a16, .ref a17, .ref a18, .int 0, .int 0, .int 0, .int 0, .int 0, .ref a19, .int 0]))] (fun r => r = (-2)) (fun u => []) := by
  refine CI.of (by decide +kernel) (Nat.le_of_ble_eq_true rfl) ?_
  intro p e s m below meth c A ls hE
  obtain ⟨X, hr, hlk, hnm, hw, hl⟩ := hE
  have X : CX p m c cX11_times 3 s [.ref a0, .int p0, .int p1].toArray RX11 D ct := X
  have hl : lv_has ls 3 [(0, .ref a0), (1, .int p0), (2, .int p1)] := hl
  obtain ⟨⟨hx, hb, hml, hown, hts⟩, hK⟩ := id X
  refine lv_aload_n hx hb dX11_times_0 rfl (lv_at hl 0 rfl) ?_
  refine lv_iload_n hx hb dX11_times_1 rfl (lv_at hl 1 rfl) ?_
  refine lv_iload_n hx hb dX11_times_2 rfl (lv_at hl 2 rfl) ?_
  refine m_Vi (As := [.int p0, .int p1]) (rest := []) (c51_X11_isPair l D ct a0 p0 p1 a1 a2 a3 a4 a5 a6 a7 a8 a9 a10 a11 a12 a13 a14 a15 a16 a17 a18 a19) X hl.1 kw_903 kd_yX11_isPair hw [0, 1] [] rfl rfl rfl rfl (by decide) 0 rfl rfl ⟨by decide, by decide⟩ rfl rfl (Nat.le_of_ble_eq_true rfl) dX11_times_3 ⟨by decide, by decide⟩ (fun r1 u2 H locs hr3 hw => ?_)
  replace hw : WD D A s.heap _ _ [(a0, .inr (11, [.ref a1, .int 0, .ref a2, .ref a3, .ref a4, .ref a5, .ref a6, .ref a7, .ref a8, .ref a9, .ref a10, .ref a11, .ref a12, .ref a13, .ref a14, .ref a15, .int (-1), .int (-1)])), (a2, .inr (2, [.int 0, .int 0, .int 0, .ref a16, .ref a17, .ref a18, .int 0, .int 0, .int 0, .int 0, .int 0, .ref a19, .int 0]))] := hw
  subst hr3
  refine lv_if_eq (tgt := 29) hx hb dX11_times_6 (by decide) (fun _ => ?_) (fun h => absurd (by decide) h)
  refine lv_bipush (v := (-2)) hx hb dX11_times_29 (by decide) ?_
  exact r_i X hr hlk hw [] (fun _ => 0) rfl rfl rfl (by decide) (by decide) dX11_times_31
set_option maxHeartbeats 4000000 in
set_option maxRecDepth 100000 in
theorem c53_X12_areBoth (l : Launch) (D : va_G) (ct : Nat → ClassId) (a0 : Nat) (p0 : Int32) (p1 : Int32) (a1 : Nat) (a2 : Nat) (a3 : Nat) (a4 : Nat) (a5 : Nat) (a6 : Nat) (a7 : Nat) (a8 : Nat) (a9 : Nat) (a10 : Nat) (a11 : Nat) (a12 : Nat) (a13 : Nat) (a14 : Nat) (a15 : Nat) (a16 : Nat) : CI l yX12_areBoth cX12_areBoth 3 (some .boolean) { frames := 2, cells := 0, slots := 0, locals := 47 } D ct [.ref a0, .int p0, .int p1] [(a0, .inr (12, [.int 0, .ref a1, .ref a2, .ref a3, .ref a4, .int 0, .int 0, .int 0, .int 0, .int 0, .int 0, .int 0, .int 0, .int 0, .int (-1), .ref a5, .ref a6, .ref a7, .ref a8, .int 0, .ref a9, .ref a10, .int 0, .int 0, .int 0, .ref a11, .ref a12, .ref a13, .ref a14, .ref a15, .ref a16])), (a1, .inl (ct 0, 5310, .inl fx0))] (fun r => r = 0) (fun u => [(a0, .inr (12, [.int 0, .ref a1, .ref a2, .ref a3, .ref a4, .int 0, .int 0, .int 0, .int 0, .int 0, .int 0, .int 0, .int 0, .int 0, .int (-1), .ref a5, .ref a6, .ref a7, .ref a8, .int 0, .ref a9, .ref a10, .int 0, .int 0, .int 0, .ref a11, .ref a12, .ref a13, .ref a14, .ref a15, .ref a16])), (a1, .inl (ct 0, 5310, .inl fx0))]) := by
  refine CI.of (by decide +kernel) (Nat.le_of_ble_eq_true rfl) ?_
  intro p e s m below meth c A ls hE
  obtain ⟨X, hr, hlk, hnm, hw, hl⟩ := hE
  have X : CX p m c cX12_areBoth 3 s [.ref a0, .int p0, .int p1].toArray RX12 D ct := X
  have hl : lv_has ls 3 [(0, .ref a0), (1, .int p0), (2, .int p1)] := hl
  obtain ⟨⟨hx, hb, hml, hown, hts⟩, hK⟩ := id X
  refine lv_aload_n hx hb dX12_areBoth_0 rfl (lv_at hl 0 rfl) ?_
  refine lv_iload_n hx hb dX12_areBoth_1 rfl (lv_at hl 1 rfl) ?_
  refine lv_i2l (v := p0.toInt64) hx hb dX12_areBoth_2 rfl ?_
  refine m_Vi (As := [.long p0.toInt64]) (rest := []) (c49_X12_isHousehold l D ct a0 (p0.toInt64) a1 a2 a3 a4 a5 a6 a7 a8 a9 a10 a11 a12 a13 a14 a15 a16) X hl.1 kw_1667 kd_yX12_isHousehold hw [0, 1] [] rfl rfl rfl rfl (by decide) 0 rfl rfl ⟨by decide, by decide⟩ rfl rfl (Nat.le_of_ble_eq_true rfl) dX12_areBoth_3 ⟨by decide, by decide⟩ (fun r1 u2 H locs hr3 hw => ?_)
  replace hw : WD D A s.heap _ _ [(a0, .inr (12, [.int 0, .ref a1, .ref a2, .ref a3, .ref a4, .int 0, .int 0, .int 0, .int 0, .int 0, .int 0, .int 0, .int 0, .int 0, .int (-1), .ref a5, .ref a6, .ref a7, .ref a8, .int 0, .ref a9, .ref a10, .int 0, .int 0, .int 0, .ref a11, .ref a12, .ref a13, .ref a14, .ref a15, .ref a16])), (a1, .inl (ct 0, 5310, .inl fx0))] := hw
  subst hr3
  refine lv_if_eq (tgt := 22) hx hb dX12_areBoth_6 (by decide) (fun _ => ?_) (fun h => absurd (by decide) h)
  refine lv_iconst (v := 0) hx hb dX12_areBoth_22 (by decide) ?_
  exact r_z X hr hlk hw [0, 1] (fun _ => 0) rfl rfl rfl (by decide) (by decide) (by decide) dX12_areBoth_23
set_option maxHeartbeats 4000000 in
set_option maxRecDepth 100000 in
theorem c54_X12_times (l : Launch) (D : va_G) (ct : Nat → ClassId) (a0 : Nat) (p0 : Int32) (p1 : Int32) (a1 : Nat) (a2 : Nat) (a3 : Nat) (a4 : Nat) (a5 : Nat) (a6 : Nat) (a7 : Nat) (a8 : Nat) (a9 : Nat) (a10 : Nat) (a11 : Nat) (a12 : Nat) (a13 : Nat) (a14 : Nat) (a15 : Nat) (a16 : Nat) : CI l yX12_times cX12_times 3 (some .int) { frames := 3, cells := 0, slots := 0, locals := 69 } D ct [.ref a0, .int p0, .int p1] [(a0, .inr (12, [.int 0, .ref a1, .ref a2, .ref a3, .ref a4, .int 0, .int 0, .int 0, .int 0, .int 0, .int 0, .int 0, .int 0, .int 0, .int (-1), .ref a5, .ref a6, .ref a7, .ref a8, .int 0, .ref a9, .ref a10, .int 0, .int 0, .int 0, .ref a11, .ref a12, .ref a13, .ref a14, .ref a15, .ref a16])), (a1, .inl (ct 0, 5310, .inl fx0))] (fun r => r = (-2)) (fun u => []) := by
  refine CI.of (by decide +kernel) (Nat.le_of_ble_eq_true rfl) ?_
  intro p e s m below meth c A ls hE
  obtain ⟨X, hr, hlk, hnm, hw, hl⟩ := hE
  have X : CX p m c cX12_times 3 s [.ref a0, .int p0, .int p1].toArray RX12 D ct := X
  have hl : lv_has ls 3 [(0, .ref a0), (1, .int p0), (2, .int p1)] := hl
  obtain ⟨⟨hx, hb, hml, hown, hts⟩, hK⟩ := id X
  refine lv_aload_n hx hb dX12_times_0 rfl (lv_at hl 0 rfl) ?_
  refine lv_iconst (v := 0) hx hb dX12_times_1 (by decide) ?_
  refine fp_1442 X hw 0 rfl rfl rfl (Nat.le_of_ble_eq_true rfl) dX12_times_2 [(a0, .inr (12, [.int 0, .ref a1, .ref a2, .ref a3, .ref a4, .int 0, .int 0, .int 0, .int 0, .int 0, .int 0, .int 0, .int 0, .int 0, .int (-1), .ref a5, .ref a6, .ref a7, .ref a8, .int 0, .ref a9, .ref a10, .int 0, .int 0, .int 0, .ref a11, .ref a12, .ref a13, .ref a14, .ref a15, .ref a16])), (a1, .inl (ct 0, 5310, .inl fx0))] rfl (fun H locs hw => ?_)
  refine lv_aload_n hx hb dX12_times_5 rfl (lv_at hl 0 rfl) ?_
  refine lv_iload_n hx hb dX12_times_6 rfl (lv_at hl 1 rfl) ?_
  refine lv_iload_n hx hb dX12_times_7 rfl (lv_at hl 2 rfl) ?_
  refine m_Vi (As := [.int p0, .int p1]) (rest := []) (c53_X12_areBoth l D ct a0 p0 p1 a1 a2 a3 a4 a5 a6 a7 a8 a9 a10 a11 a12 a13 a14 a15 a16) X hl.1 kw_1676 kd_yX12_areBoth hw [0, 1] [] rfl rfl rfl rfl (by decide) 0 rfl rfl ⟨by decide, by decide⟩ rfl rfl (Nat.le_of_ble_eq_true rfl) dX12_times_8 ⟨by decide, by decide⟩ (fun r1 u2 H locs hr3 hw => ?_)
  replace hw : WD D A s.heap _ _ [(a0, .inr (12, [.int 0, .ref a1, .ref a2, .ref a3, .ref a4, .int 0, .int 0, .int 0, .int 0, .int 0, .int 0, .int 0, .int 0, .int 0, .int (-1), .ref a5, .ref a6, .ref a7, .ref a8, .int 0, .ref a9, .ref a10, .int 0, .int 0, .int 0, .ref a11, .ref a12, .ref a13, .ref a14, .ref a15, .ref a16])), (a1, .inl (ct 0, 5310, .inl fx0))] := hw
  subst hr3
  refine lv_if_eq (tgt := 31) hx hb dX12_times_11 (by decide) (fun _ => ?_) (fun h => absurd (by decide) h)
  refine lv_bipush (v := (-2)) hx hb dX12_times_31 (by decide) ?_
  exact r_i X hr hlk hw [] (fun _ => 0) rfl rfl rfl (by decide) (by decide) dX12_times_33
set_option maxHeartbeats 4000000 in
set_option maxRecDepth 100000 in
theorem c55_X11_may (l : Launch) (D : va_G) (ct : Nat → ClassId) (a0 : Nat) (p0 : Int32) (p1 : Int32) (a1 : Nat) (a2 : Nat) (a3 : Nat) (a4 : Nat) (a5 : Nat) (a6 : Nat) (a7 : Nat) (a8 : Nat) (a9 : Nat) (a10 : Nat) (a11 : Nat) (a12 : Nat) (a13 : Nat) (a14 : Nat) (a15 : Nat) (a16 : Nat) (a17 : Nat) (a18 : Nat) (a19 : Nat) : CI l yX11_may cX11_may 3 (some .int) { frames := 2, cells := 0, slots := 0, locals := 43 } D ct [.ref a0, .int p0, .int p1] [(a0, .inr (11, [.ref a1, .int 0, .ref a2, .ref a3, .ref a4, .ref a5, .ref a6, .ref a7, .ref a8, .ref a9, .ref a10, .ref a11, .ref a12, .ref a13, .ref a14, .ref a15, .int (-1), .int (-1)])), (a2, .inr (2, [.int 0, .int 0, .int 0, .ref a16, .ref a17, .ref a18, .int 0, .int 0, .int 0, .int 0, .int 0, .ref a19, .int 0]))] (fun r => r = (-2)) (fun u => []) := by
  refine CI.of (by decide +kernel) (Nat.le_of_ble_eq_true rfl) ?_
  intro p e s m below meth c A ls hE
  obtain ⟨X, hr, hlk, hnm, hw, hl⟩ := hE
  have X : CX p m c cX11_may 3 s [.ref a0, .int p0, .int p1].toArray RX11 D ct := X
  have hl : lv_has ls 3 [(0, .ref a0), (1, .int p0), (2, .int p1)] := hl
  obtain ⟨⟨hx, hb, hml, hown, hts⟩, hK⟩ := id X
  refine lv_aload_n hx hb dX11_may_0 rfl (lv_at hl 0 rfl) ?_
  refine lv_iload_n hx hb dX11_may_1 rfl (lv_at hl 1 rfl) ?_
  refine lv_iload_n hx hb dX11_may_2 rfl (lv_at hl 2 rfl) ?_
  refine m_Vi (As := [.int p0, .int p1]) (rest := []) (c51_X11_isPair l D ct a0 p0 p1 a1 a2 a3 a4 a5 a6 a7 a8 a9 a10 a11 a12 a13 a14 a15 a16 a17 a18 a19) X hl.1 kw_903 kd_yX11_isPair hw [0, 1] [] rfl rfl rfl rfl (by decide) 0 rfl rfl ⟨by decide, by decide⟩ rfl rfl (Nat.le_of_ble_eq_true rfl) dX11_may_3 ⟨by decide, by decide⟩ (fun r1 u2 H locs hr3 hw => ?_)
  replace hw : WD D A s.heap _ _ [(a0, .inr (11, [.ref a1, .int 0, .ref a2, .ref a3, .ref a4, .ref a5, .ref a6, .ref a7, .ref a8, .ref a9, .ref a10, .ref a11, .ref a12, .ref a13, .ref a14, .ref a15, .int (-1), .int (-1)])), (a2, .inr (2, [.int 0, .int 0, .int 0, .ref a16, .ref a17, .ref a18, .int 0, .int 0, .int 0, .int 0, .int 0, .ref a19, .int 0]))] := hw
  subst hr3
  refine lv_if_ne (tgt := 12) hx hb dX11_may_6 (by decide) (fun h => absurd rfl h) (fun _ => ?_)
  refine lv_bipush (v := (-2)) hx hb dX11_may_9 (by decide) ?_
  exact r_i X hr hlk hw [] (fun _ => 0) rfl rfl rfl (by decide) (by decide) dX11_may_11
set_option maxHeartbeats 4000000 in
set_option maxRecDepth 100000 in
theorem c56_X12_may (l : Launch) (D : va_G) (ct : Nat → ClassId) (a0 : Nat) (p0 : Int32) (p1 : Int32) (a1 : Nat) (a2 : Nat) (a3 : Nat) (a4 : Nat) (a5 : Nat) (a6 : Nat) (a7 : Nat) (a8 : Nat) (a9 : Nat) (a10 : Nat) (a11 : Nat) (a12 : Nat) (a13 : Nat) (a14 : Nat) (a15 : Nat) (a16 : Nat) : CI l yX12_may cX12_may 3 (some .int) { frames := 3, cells := 0, slots := 0, locals := 69 } D ct [.ref a0, .int p0, .int p1] [(a0, .inr (12, [.int 0, .ref a1, .ref a2, .ref a3, .ref a4, .int 0, .int 0, .int 0, .int 0, .int 0, .int 0, .int 0, .int 0, .int 0, .int (-1), .ref a5, .ref a6, .ref a7, .ref a8, .int 0, .ref a9, .ref a10, .int 0, .int 0, .int 0, .ref a11, .ref a12, .ref a13, .ref a14, .ref a15, .ref a16])), (a1, .inl (ct 0, 5310, .inl fx0))] (fun r => r = (-2)) (fun u => []) := by
  refine CI.of (by decide +kernel) (Nat.le_of_ble_eq_true rfl) ?_
  intro p e s m below meth c A ls hE
  obtain ⟨X, hr, hlk, hnm, hw, hl⟩ := hE
  have X : CX p m c cX12_may 3 s [.ref a0, .int p0, .int p1].toArray RX12 D ct := X
  have hl : lv_has ls 3 [(0, .ref a0), (1, .int p0), (2, .int p1)] := hl
  obtain ⟨⟨hx, hb, hml, hown, hts⟩, hK⟩ := id X
  refine lv_aload_n hx hb dX12_may_0 rfl (lv_at hl 0 rfl) ?_
  refine lv_iconst (v := 0) hx hb dX12_may_1 (by decide) ?_
  refine fp_1442 X hw 0 rfl rfl rfl (Nat.le_of_ble_eq_true rfl) dX12_may_2 [(a0, .inr (12, [.int 0, .ref a1, .ref a2, .ref a3, .ref a4, .int 0, .int 0, .int 0, .int 0, .int 0, .int 0, .int 0, .int 0, .int 0, .int (-1), .ref a5, .ref a6, .ref a7, .ref a8, .int 0, .ref a9, .ref a10, .int 0, .int 0, .int 0, .ref a11, .ref a12, .ref a13, .ref a14, .ref a15, .ref a16])), (a1, .inl (ct 0, 5310, .inl fx0))] rfl (fun H locs hw => ?_)
  refine lv_aload_n hx hb dX12_may_5 rfl (lv_at hl 0 rfl) ?_
  refine lv_iload_n hx hb dX12_may_6 rfl (lv_at hl 1 rfl) ?_
  refine lv_iload_n hx hb dX12_may_7 rfl (lv_at hl 2 rfl) ?_
  refine m_Vi (As := [.int p0, .int p1]) (rest := []) (c53_X12_areBoth l D ct a0 p0 p1 a1 a2 a3 a4 a5 a6 a7 a8 a9 a10 a11 a12 a13 a14 a15 a16) X hl.1 kw_1676 kd_yX12_areBoth hw [0, 1] [] rfl rfl rfl rfl (by decide) 0 rfl rfl ⟨by decide, by decide⟩ rfl rfl (Nat.le_of_ble_eq_true rfl) dX12_may_8 ⟨by decide, by decide⟩ (fun r1 u2 H locs hr3 hw => ?_)
  replace hw : WD D A s.heap _ _ [(a0, .inr (12, [.int 0, .ref a1, .ref a2, .ref a3, .ref a4, .int 0, .int 0, .int 0, .int 0, .int 0, .int 0, .int 0, .int 0, .int 0, .int (-1), .ref a5, .ref a6, .ref a7, .ref a8, .int 0, .ref a9, .ref a10, .int 0, .int 0, .int 0, .ref a11, .ref a12, .ref a13, .ref a14, .ref a15, .ref a16])), (a1, .inl (ct 0, 5310, .inl fx0))] := hw
  subst hr3
  refine lv_if_ne (tgt := 19) hx hb dX12_may_11 (by decide) (fun h => absurd rfl h) (fun _ => ?_)
  refine lv_bipush (v := (-2)) hx hb dX12_may_14 (by decide) ?_
  refine lv_goto (tgt := 33) hx hb dX12_may_16 (by decide) ?_
  exact r_i X hr hlk hw [] (fun _ => 0) rfl rfl rfl (by decide) (by decide) dX12_may_33
set_option maxHeartbeats 4000000 in
set_option maxRecDepth 100000 in
theorem c57_X11_worth (l : Launch) (D : va_G) (ct : Nat → ClassId) (a0 : Nat) (p0 : Int32) (p1 : Int32) (a1 : Nat) (a2 : Nat) (a3 : Nat) (a4 : Nat) (a5 : Nat) (a6 : Nat) (a7 : Nat) (a8 : Nat) (a9 : Nat) (a10 : Nat) (a11 : Nat) (a12 : Nat) (a13 : Nat) (a14 : Nat) (a15 : Nat) (a16 : Nat) (a17 : Nat) (a18 : Nat) (a19 : Nat) : CI l yX11_worth cX11_worth 3 (some .int) { frames := 2, cells := 0, slots := 0, locals := 43 } D ct [.ref a0, .int p0, .int p1] [(a0, .inr (11, [.ref a1, .int 0, .ref a2, .ref a3, .ref a4, .ref a5, .ref a6, .ref a7, .ref a8, .ref a9, .ref a10, .ref a11, .ref a12, .ref a13, .ref a14, .ref a15, .int (-1), .int (-1)])), (a2, .inr (2, [.int 0, .int 0, .int 0, .ref a16, .ref a17, .ref a18, .int 0, .int 0, .int 0, .int 0, .int 0, .ref a19, .int 0]))] (fun r => r = (-2000000)) (fun u => []) := by
  refine CI.of (by decide +kernel) (Nat.le_of_ble_eq_true rfl) ?_
  intro p e s m below meth c A ls hE
  obtain ⟨X, hr, hlk, hnm, hw, hl⟩ := hE
  have X : CX p m c cX11_worth 3 s [.ref a0, .int p0, .int p1].toArray RX11 D ct := X
  have hl : lv_has ls 3 [(0, .ref a0), (1, .int p0), (2, .int p1)] := hl
  obtain ⟨⟨hx, hb, hml, hown, hts⟩, hK⟩ := id X
  refine lv_aload_n hx hb dX11_worth_0 rfl (lv_at hl 0 rfl) ?_
  refine lv_iload_n hx hb dX11_worth_1 rfl (lv_at hl 1 rfl) ?_
  refine lv_iload_n hx hb dX11_worth_2 rfl (lv_at hl 2 rfl) ?_
  refine m_Vi (As := [.int p0, .int p1]) (rest := []) (c51_X11_isPair l D ct a0 p0 p1 a1 a2 a3 a4 a5 a6 a7 a8 a9 a10 a11 a12 a13 a14 a15 a16 a17 a18 a19) X hl.1 kw_903 kd_yX11_isPair hw [0, 1] [] rfl rfl rfl rfl (by decide) 0 rfl rfl ⟨by decide, by decide⟩ rfl rfl (Nat.le_of_ble_eq_true rfl) dX11_worth_3 ⟨by decide, by decide⟩ (fun r1 u2 H locs hr3 hw => ?_)
  replace hw : WD D A s.heap _ _ [(a0, .inr (11, [.ref a1, .int 0, .ref a2, .ref a3, .ref a4, .ref a5, .ref a6, .ref a7, .ref a8, .ref a9, .ref a10, .ref a11, .ref a12, .ref a13, .ref a14, .ref a15, .int (-1), .int (-1)])), (a2, .inr (2, [.int 0, .int 0, .int 0, .ref a16, .ref a17, .ref a18, .int 0, .int 0, .int 0, .int 0, .int 0, .ref a19, .int 0]))] := hw
  subst hr3
  refine lv_if_ne (tgt := 12) hx hb dX11_worth_6 (by decide) (fun h => absurd rfl h) (fun _ => ?_)
  refine lv_ldc hx hb hown (hts _ wd_944) dX11_worth_9 ?_
  exact r_i X hr hlk hw [] (fun _ => 0) rfl rfl rfl (by decide) (by decide) dX11_worth_11
set_option maxHeartbeats 4000000 in
set_option maxRecDepth 100000 in
theorem c58_X12_worth (l : Launch) (D : va_G) (ct : Nat → ClassId) (a0 : Nat) (p0 : Int32) (p1 : Int32) (a1 : Nat) (a2 : Nat) (a3 : Nat) (a4 : Nat) (a5 : Nat) (a6 : Nat) (a7 : Nat) (a8 : Nat) (a9 : Nat) (a10 : Nat) (a11 : Nat) (a12 : Nat) (a13 : Nat) (a14 : Nat) (a15 : Nat) (a16 : Nat) : CI l yX12_worth cX12_worth 3 (some .int) { frames := 3, cells := 0, slots := 0, locals := 69 } D ct [.ref a0, .int p0, .int p1] [(a0, .inr (12, [.int 0, .ref a1, .ref a2, .ref a3, .ref a4, .int 0, .int 0, .int 0, .int 0, .int 0, .int 0, .int 0, .int 0, .int 0, .int (-1), .ref a5, .ref a6, .ref a7, .ref a8, .int 0, .ref a9, .ref a10, .int 0, .int 0, .int 0, .ref a11, .ref a12, .ref a13, .ref a14, .ref a15, .ref a16])), (a1, .inl (ct 0, 5310, .inl fx0))] (fun r => r = (-2000000)) (fun u => []) := by
  refine CI.of (by decide +kernel) (Nat.le_of_ble_eq_true rfl) ?_
  intro p e s m below meth c A ls hE
  obtain ⟨X, hr, hlk, hnm, hw, hl⟩ := hE
  have X : CX p m c cX12_worth 3 s [.ref a0, .int p0, .int p1].toArray RX12 D ct := X
  have hl : lv_has ls 3 [(0, .ref a0), (1, .int p0), (2, .int p1)] := hl
  obtain ⟨⟨hx, hb, hml, hown, hts⟩, hK⟩ := id X
  refine lv_aload_n hx hb dX12_worth_0 rfl (lv_at hl 0 rfl) ?_
  refine lv_iconst (v := 0) hx hb dX12_worth_1 (by decide) ?_
  refine fp_1442 X hw 0 rfl rfl rfl (Nat.le_of_ble_eq_true rfl) dX12_worth_2 [(a0, .inr (12, [.int 0, .ref a1, .ref a2, .ref a3, .ref a4, .int 0, .int 0, .int 0, .int 0, .int 0, .int 0, .int 0, .int 0, .int 0, .int (-1), .ref a5, .ref a6, .ref a7, .ref a8, .int 0, .ref a9, .ref a10, .int 0, .int 0, .int 0, .ref a11, .ref a12, .ref a13, .ref a14, .ref a15, .ref a16])), (a1, .inl (ct 0, 5310, .inl fx0))] rfl (fun H locs hw => ?_)
  refine lv_aload_n hx hb dX12_worth_5 rfl (lv_at hl 0 rfl) ?_
  refine lv_iload_n hx hb dX12_worth_6 rfl (lv_at hl 1 rfl) ?_
  refine lv_iload_n hx hb dX12_worth_7 rfl (lv_at hl 2 rfl) ?_
  refine m_Vi (As := [.int p0, .int p1]) (rest := []) (c53_X12_areBoth l D ct a0 p0 p1 a1 a2 a3 a4 a5 a6 a7 a8 a9 a10 a11 a12 a13 a14 a15 a16) X hl.1 kw_1676 kd_yX12_areBoth hw [0, 1] [] rfl rfl rfl rfl (by decide) 0 rfl rfl ⟨by decide, by decide⟩ rfl rfl (Nat.le_of_ble_eq_true rfl) dX12_worth_8 ⟨by decide, by decide⟩ (fun r1 u2 H locs hr3 hw => ?_)
  replace hw : WD D A s.heap _ _ [(a0, .inr (12, [.int 0, .ref a1, .ref a2, .ref a3, .ref a4, .int 0, .int 0, .int 0, .int 0, .int 0, .int 0, .int 0, .int 0, .int 0, .int (-1), .ref a5, .ref a6, .ref a7, .ref a8, .int 0, .ref a9, .ref a10, .int 0, .int 0, .int 0, .ref a11, .ref a12, .ref a13, .ref a14, .ref a15, .ref a16])), (a1, .inl (ct 0, 5310, .inl fx0))] := hw
  subst hr3
  refine lv_if_eq (tgt := 23) hx hb dX12_worth_11 (by decide) (fun _ => ?_) (fun h => absurd (by decide) h)
  refine lv_ldc hx hb hown (hts _ wd_1711) dX12_worth_23 ?_
  exact r_i X hr hlk hw [] (fun _ => 0) rfl rfl rfl (by decide) (by decide) dX12_worth_25
def fx9 : Nat → Int32 := (va_cpy (va_cpy (fun _ => (-1)) (fun _ => 0) 0 0 7) (va_cpy (fun _ => (-1)) (fun _ => 0) 0 0 7) 0 0 7)
set_option maxHeartbeats 4000000 in
set_option maxRecDepth 100000 in
theorem c59_X4_copyFrom (l : Launch) (D : va_G) (ct : Nat → ClassId) (a0 : Nat) (a1 : Nat) (a2 : Nat) (a3 : Nat) (a4 : Nat) (f0 : Nat → Int32) (f1 : Nat → Int32) (a5 : Nat) (a6 : Nat) (a7 : Nat) : CV l yX4_copyFrom cX4_copyFrom 2 none { frames := 1, cells := 0, slots := 0, locals := 60 } D ct [.ref a0, .ref a1] [(a1, .inr (4, [.ref a2, .ref a3, .ref a4, .int 0])), (a3, .inl (ct 0, 56, .inl f0)), (a4, .inl (ct 0, 8, .inl f0)), (a2, .inl (ct 0, 7, .inl f1)), (a0, .inr (4, [.ref a5, .ref a6, .ref a7, .int 0])), (a6, .inl (ct 0, 56, .inl f0)), (a7, .inl (ct 0, 8, .inl f0)), (a5, .inl (ct 0, 7, .inl f1))] True (fun u => [(a1, .inr (4, [.ref a2, .ref a3, .ref a4, .int 0])), (a3, .inl (ct 0, 56, .inl f0)), (a4, .inl (ct 0, 8, .inl f0)), (a2, .inl (ct 0, 7, .inl f1)), (a0, .inr (4, [.ref a5, .ref a6, .ref a7, .int 0])), (a6, .inl (ct 0, 56, .inl (va_cpy f0 f0 0 0 56))), (a7, .inl (ct 0, 8, .inl (va_cpy f0 f0 0 0 8))), (a5, .inl (ct 0, 7, .inl (va_cpy f1 f1 0 0 7)))]) := by
  refine CV.of (by decide +kernel) (Nat.le_of_ble_eq_true rfl) ?_
  intro p e s m below meth c A ls hE
  obtain ⟨X, hr, hlk, hnm, hw, hl⟩ := hE
  have X : CX p m c cX4_copyFrom 2 s [.ref a0, .ref a1].toArray RX4 D ct := X
  have hl : lv_has ls 2 [(0, .ref a0), (1, .ref a1)] := hl
  obtain ⟨⟨hx, hb, hml, hown, hts⟩, hK⟩ := id X
  refine lv_aload_n hx hb dX4_copyFrom_0 rfl (lv_at hl 1 rfl) ?_
  refine fg_174 X hw 0 rfl rfl dX4_copyFrom_1 ?_
  refine lv_iconst (v := 0) hx hb dX4_copyFrom_4 (by decide) ?_
  refine lv_aload_n hx hb dX4_copyFrom_5 rfl (lv_at hl 0 rfl) ?_
  refine fg_174 X hw 4 rfl rfl dX4_copyFrom_6 ?_
  refine lv_iconst (v := 0) hx hb dX4_copyFrom_9 (by decide) ?_
  refine lv_bipush (v := 7) hx hb dX4_copyFrom_10 (by decide) ?_
  refine k_copyi X hl.1 wd_868 wd_863 wd_862 wd_149 hw 3 7 rfl rfl (by decide) (by decide) (by decide) (by decide) (by decide) (by decide) (Nat.le_of_ble_eq_true rfl) dX4_copyFrom_12 [(a1, .inr (4, [.ref a2, .ref a3, .ref a4, .int 0])), (a3, .inl (ct 0, 56, .inl f0)), (a4, .inl (ct 0, 8, .inl f0)), (a2, .inl (ct 0, 7, .inl f1)), (a0, .inr (4, [.ref a5, .ref a6, .ref a7, .int 0])), (a6, .inl (ct 0, 56, .inl f0)), (a7, .inl (ct 0, 8, .inl f0)), (a5, .inl (ct 0, 7, .inl (va_cpy f1 f1 0 0 7)))] rfl (fun H locs hw => ?_)
  refine lv_aload_n hx hb dX4_copyFrom_15 rfl (lv_at hl 1 rfl) ?_
  refine fg_182 X hw 0 rfl rfl dX4_copyFrom_16 ?_
  refine lv_iconst (v := 0) hx hb dX4_copyFrom_19 (by decide) ?_
  refine lv_aload_n hx hb dX4_copyFrom_20 rfl (lv_at hl 0 rfl) ?_
  refine fg_182 X hw 4 rfl rfl dX4_copyFrom_21 ?_
  refine lv_iconst (v := 0) hx hb dX4_copyFrom_24 (by decide) ?_
  refine lv_bipush (v := 56) hx hb dX4_copyFrom_25 (by decide) ?_
  refine k_copyi X hl.1 wd_868 wd_863 wd_862 wd_149 hw 1 5 rfl rfl (by decide) (by decide) (by decide) (by decide) (by decide) (by decide) (Nat.le_of_ble_eq_true rfl) dX4_copyFrom_27 [(a1, .inr (4, [.ref a2, .ref a3, .ref a4, .int 0])), (a3, .inl (ct 0, 56, .inl f0)), (a4, .inl (ct 0, 8, .inl f0)), (a2, .inl (ct 0, 7, .inl f1)), (a0, .inr (4, [.ref a5, .ref a6, .ref a7, .int 0])), (a6, .inl (ct 0, 56, .inl (va_cpy f0 f0 0 0 56))), (a7, .inl (ct 0, 8, .inl f0)), (a5, .inl (ct 0, 7, .inl (va_cpy f1 f1 0 0 7)))] rfl (fun H locs hw => ?_)
  refine lv_aload_n hx hb dX4_copyFrom_30 rfl (lv_at hl 1 rfl) ?_
  refine fg_186 X hw 0 rfl rfl dX4_copyFrom_31 ?_
  refine lv_iconst (v := 0) hx hb dX4_copyFrom_34 (by decide) ?_
  refine lv_aload_n hx hb dX4_copyFrom_35 rfl (lv_at hl 0 rfl) ?_
  refine fg_186 X hw 4 rfl rfl dX4_copyFrom_36 ?_
  refine lv_iconst (v := 0) hx hb dX4_copyFrom_39 (by decide) ?_
  refine lv_bipush (v := 8) hx hb dX4_copyFrom_40 (by decide) ?_
  refine k_copyi X hl.1 wd_868 wd_863 wd_862 wd_149 hw 2 6 rfl rfl (by decide) (by decide) (by decide) (by decide) (by decide) (by decide) (Nat.le_of_ble_eq_true rfl) dX4_copyFrom_42 [(a1, .inr (4, [.ref a2, .ref a3, .ref a4, .int 0])), (a3, .inl (ct 0, 56, .inl f0)), (a4, .inl (ct 0, 8, .inl f0)), (a2, .inl (ct 0, 7, .inl f1)), (a0, .inr (4, [.ref a5, .ref a6, .ref a7, .int 0])), (a6, .inl (ct 0, 56, .inl (va_cpy f0 f0 0 0 56))), (a7, .inl (ct 0, 8, .inl (va_cpy f0 f0 0 0 8))), (a5, .inl (ct 0, 7, .inl (va_cpy f1 f1 0 0 7)))] rfl (fun H locs hw => ?_)
  refine lv_aload_n hx hb dX4_copyFrom_45 rfl (lv_at hl 0 rfl) ?_
  refine lv_aload_n hx hb dX4_copyFrom_46 rfl (lv_at hl 1 rfl) ?_
  refine fg_192 X hw 0 rfl rfl dX4_copyFrom_47 ?_
  refine fp_192 X hw 4 rfl rfl rfl (Nat.le_of_ble_eq_true rfl) dX4_copyFrom_50 [(a1, .inr (4, [.ref a2, .ref a3, .ref a4, .int 0])), (a3, .inl (ct 0, 56, .inl f0)), (a4, .inl (ct 0, 8, .inl f0)), (a2, .inl (ct 0, 7, .inl f1)), (a0, .inr (4, [.ref a5, .ref a6, .ref a7, .int 0])), (a6, .inl (ct 0, 56, .inl (va_cpy f0 f0 0 0 56))), (a7, .inl (ct 0, 8, .inl (va_cpy f0 f0 0 0 8))), (a5, .inl (ct 0, 7, .inl (va_cpy f1 f1 0 0 7)))] rfl (fun H locs hw => ?_)
  exact r_v X hr hlk hw [0, 1, 2, 3, 4, 5, 6, 7] (fun _ => 0) rfl rfl trivial (by decide) (by decide) dX4_copyFrom_53
set_option maxHeartbeats 4000000 in
set_option maxRecDepth 100000 in
theorem c60_X9_refresh (l : Launch) (D : va_G) (ct : Nat → ClassId) (a0 : Nat) (a1 : Nat) (a2 : Nat) (a3 : Nat) (a4 : Nat) (a5 : Nat) (a6 : Nat) (a7 : Nat) (a8 : Nat) (a9 : Nat) : CV l yX9_refresh cX9_refresh 4 none { frames := 0, cells := 0, slots := 0, locals := 0 } D ct [.ref a0] [(a1, .inr (2, [.int 0, .int 0, .int 0, .ref a2, .ref a3, .ref a4, .int 0, .int 0, .int 0, .int 0, .int 0, .ref a5, .int 0])), (a0, .inr (9, [.ref a6, .ref a7, .ref a1, .ref a8, .ref a9, .int (-1)]))] True (fun u => [(a1, .inr (2, [.int 0, .int 0, .int 0, .ref a2, .ref a3, .ref a4, .int 0, .int 0, .int 0, .int 0, .int 0, .ref a5, .int 0])), (a0, .inr (9, [.ref a6, .ref a7, .ref a1, .ref a8, .ref a9, .int 0]))]) := by
  refine CV.of (by decide +kernel) (Nat.le_of_ble_eq_true rfl) ?_
  intro p e s m below meth c A ls hE
  obtain ⟨X, hr, hlk, hnm, hw, hl⟩ := hE
  have X : CX p m c cX9_refresh 4 s [.ref a0].toArray RX9 D ct := X
  have hl : lv_has ls 4 [(0, .ref a0)] := hl
  obtain ⟨⟨hx, hb, hml, hown, hts⟩, hK⟩ := id X
  refine lv_aload_n hx hb dX9_refresh_0 rfl (lv_at hl 0 rfl) ?_
  refine fg_340 X hw 1 rfl rfl dX9_refresh_1 ?_
  refine lv_aload_n hx hb dX9_refresh_4 rfl (lv_at hl 0 rfl) ?_
  refine fg_337 X hw 1 rfl rfl dX9_refresh_5 ?_
  refine fg_255 X hw 0 rfl rfl dX9_refresh_8 ?_
  refine lv_icmp_ne (tgt := 15) hx hb dX9_refresh_11 (by decide) (fun _ => ?_) (fun h => absurd h (by decide))
  refine lv_iconst (v := 0) hx hb dX9_refresh_15 (by decide) ?_
  refine lv_istore_n (lv' := [(1, .int 0), (0, .ref a0)]) hx hb dX9_refresh_16 rfl hl (by decide) rfl (fun ls hl => ?_)
  refine lv_iload_n hx hb dX9_refresh_17 rfl (lv_at hl 0 rfl) ?_
  refine lv_aload_n hx hb dX9_refresh_18 rfl (lv_at hl 1 rfl) ?_
  refine fg_337 X hw 1 rfl rfl dX9_refresh_19 ?_
  refine fg_221 X hw 0 rfl rfl dX9_refresh_22 ?_
  refine lv_icmp_ge (tgt := 159) hx hb dX9_refresh_25 (by decide) (fun _ => ?_) (fun h => absurd (by decide) h)
  refine lv_aload_n hx hb dX9_refresh_159 rfl (lv_at hl 1 rfl) ?_
  refine lv_aload_n hx hb dX9_refresh_160 rfl (lv_at hl 1 rfl) ?_
  refine fg_337 X hw 1 rfl rfl dX9_refresh_161 ?_
  refine fg_255 X hw 0 rfl rfl dX9_refresh_164 ?_
  refine fp_340 X hw 1 rfl rfl rfl (Nat.le_of_ble_eq_true rfl) dX9_refresh_167 [(a1, .inr (2, [.int 0, .int 0, .int 0, .ref a2, .ref a3, .ref a4, .int 0, .int 0, .int 0, .int 0, .int 0, .ref a5, .int 0])), (a0, .inr (9, [.ref a6, .ref a7, .ref a1, .ref a8, .ref a9, .int 0]))] rfl (fun H locs hw => ?_)
  exact r_v X hr hlk hw [0, 1] (fun _ => 0) rfl rfl trivial (by decide) (by decide) dX9_refresh_170
set_option maxHeartbeats 4000000 in
set_option maxRecDepth 100000 in
theorem c61_J6_bitCount_0f7a4 (l : Launch) (D : va_G) (ct : Nat → ClassId)  : CI l yJ6_bitCount_0f7a4 cJ6_bitCount_0f7a4 1 (some .int) { frames := 0, cells := 0, slots := 0, locals := 0 } D ct [.int 0] [] (fun r => r = 0) (fun u => []) := by
  refine CI.of (by decide +kernel) (Nat.le_of_ble_eq_true rfl) ?_
  intro p e s m below meth c A ls hE
  obtain ⟨X, hr, hlk, hnm, hw, hl⟩ := hE
  have X : CX p m c cJ6_bitCount_0f7a4 1 s [.int 0].toArray RJ6 D ct := X
  have hl : lv_has ls 1 [(0, .int 0)] := hl
  obtain ⟨⟨hx, hb, hml, hown, hts⟩, hK⟩ := id X
  refine lv_iload_n hx hb dJ6_bitCount_0f7a4_0 rfl (lv_at hl 0 rfl) ?_
  refine lv_iload_n hx hb dJ6_bitCount_0f7a4_1 rfl (lv_at hl 0 rfl) ?_
  refine lv_iconst (v := 1) hx hb dJ6_bitCount_0f7a4_2 (by decide) ?_
  refine lv_iushr (v := 0) hx hb dJ6_bitCount_0f7a4_3 (by decide) ?_
  refine lv_ldcw hx hb hown (hts _ wd_969) dJ6_bitCount_0f7a4_4 ?_
  refine kv_iand (v := 0) hx hb (by decide) dJ6_bitCount_0f7a4_7 ?_
  refine kv_isub (v := 0) hx hb (by decide) dJ6_bitCount_0f7a4_8 ?_
  refine lv_istore_n (lv' := [(0, .int 0)]) hx hb dJ6_bitCount_0f7a4_9 rfl hl (by decide) rfl (fun ls hl => ?_)
  refine lv_iload_n hx hb dJ6_bitCount_0f7a4_10 rfl (lv_at hl 0 rfl) ?_
  refine lv_ldcw hx hb hown (hts _ wd_970) dJ6_bitCount_0f7a4_11 ?_
  refine kv_iand (v := 0) hx hb (by decide) dJ6_bitCount_0f7a4_14 ?_
  refine lv_iload_n hx hb dJ6_bitCount_0f7a4_15 rfl (lv_at hl 0 rfl) ?_
  refine lv_iconst (v := 2) hx hb dJ6_bitCount_0f7a4_16 (by decide) ?_
  refine lv_iushr (v := 0) hx hb dJ6_bitCount_0f7a4_17 (by decide) ?_
  refine lv_ldcw hx hb hown (hts _ wd_970) dJ6_bitCount_0f7a4_18 ?_
  refine kv_iand (v := 0) hx hb (by decide) dJ6_bitCount_0f7a4_21 ?_
  refine kv_iadd (v := 0) hx hb (by decide) dJ6_bitCount_0f7a4_22 ?_
  refine lv_istore_n (lv' := [(0, .int 0)]) hx hb dJ6_bitCount_0f7a4_23 rfl hl (by decide) rfl (fun ls hl => ?_)
  refine lv_iload_n hx hb dJ6_bitCount_0f7a4_24 rfl (lv_at hl 0 rfl) ?_
  refine lv_iload_n hx hb dJ6_bitCount_0f7a4_25 rfl (lv_at hl 0 rfl) ?_
  refine lv_iconst (v := 4) hx hb dJ6_bitCount_0f7a4_26 (by decide) ?_
  refine lv_iushr (v := 0) hx hb dJ6_bitCount_0f7a4_27 (by decide) ?_
  refine kv_iadd (v := 0) hx hb (by decide) dJ6_bitCount_0f7a4_28 ?_
  refine lv_ldcw hx hb hown (hts _ wd_971) dJ6_bitCount_0f7a4_29 ?_
  refine kv_iand (v := 0) hx hb (by decide) dJ6_bitCount_0f7a4_32 ?_
  refine lv_istore_n (lv' := [(0, .int 0)]) hx hb dJ6_bitCount_0f7a4_33 rfl hl (by decide) rfl (fun ls hl => ?_)
  refine lv_iload_n hx hb dJ6_bitCount_0f7a4_34 rfl (lv_at hl 0 rfl) ?_
  refine lv_iload_n hx hb dJ6_bitCount_0f7a4_35 rfl (lv_at hl 0 rfl) ?_
  refine lv_bipush (v := 8) hx hb dJ6_bitCount_0f7a4_36 (by decide) ?_
  refine lv_iushr (v := 0) hx hb dJ6_bitCount_0f7a4_38 (by decide) ?_
  refine kv_iadd (v := 0) hx hb (by decide) dJ6_bitCount_0f7a4_39 ?_
  refine lv_istore_n (lv' := [(0, .int 0)]) hx hb dJ6_bitCount_0f7a4_40 rfl hl (by decide) rfl (fun ls hl => ?_)
  refine lv_iload_n hx hb dJ6_bitCount_0f7a4_41 rfl (lv_at hl 0 rfl) ?_
  refine lv_iload_n hx hb dJ6_bitCount_0f7a4_42 rfl (lv_at hl 0 rfl) ?_
  refine lv_bipush (v := 16) hx hb dJ6_bitCount_0f7a4_43 (by decide) ?_
  refine lv_iushr (v := 0) hx hb dJ6_bitCount_0f7a4_45 (by decide) ?_
  refine kv_iadd (v := 0) hx hb (by decide) dJ6_bitCount_0f7a4_46 ?_
  refine lv_istore_n (lv' := [(0, .int 0)]) hx hb dJ6_bitCount_0f7a4_47 rfl hl (by decide) rfl (fun ls hl => ?_)
  refine lv_iload_n hx hb dJ6_bitCount_0f7a4_48 rfl (lv_at hl 0 rfl) ?_
  refine lv_bipush (v := 63) hx hb dJ6_bitCount_0f7a4_49 (by decide) ?_
  refine kv_iand (v := 0) hx hb (by decide) dJ6_bitCount_0f7a4_51 ?_
  exact r_i X hr hlk hw [] (fun _ => 0) rfl rfl rfl (by decide) (by decide) dJ6_bitCount_0f7a4_52
set_option maxHeartbeats 4000000 in
set_option maxRecDepth 100000 in
theorem c62_X5_waysFrom (l : Launch) (D : va_G) (ct : Nat → ClassId) (a0 : Nat) (a1 : Nat) (a2 : Nat) (a3 : Nat) (a4 : Nat) (a5 : Nat) : CI l yX5_waysFrom cX5_waysFrom 6 (some .int) { frames := 1, cells := 0, slots := 0, locals := 20 } D ct [.ref a0, .int 0] [(a0, .inr (5, [.ref a1, .ref a2, .ref a3, .ref a4, .ref a5, .int 0, .int 0]))] (fun r => r = 1) (fun u => [(a0, .inr (5, [.ref a1, .ref a2, .ref a3, .ref a4, .ref a5, .int 0, .int 0]))]) := by
  refine CI.of (by decide +kernel) (Nat.le_of_ble_eq_true rfl) ?_
  intro p e s m below meth c A ls hE
  obtain ⟨X, hr, hlk, hnm, hw, hl⟩ := hE
  have X : CX p m c cX5_waysFrom 6 s [.ref a0, .int 0].toArray RX5 D ct := X
  have hl : lv_has ls 6 [(0, .ref a0), (1, .int 0)] := hl
  obtain ⟨⟨hx, hb, hml, hown, hts⟩, hK⟩ := id X
  refine lv_iload_n hx hb dX5_waysFrom_0 rfl (lv_at hl 1 rfl) ?_
  refine m_Si (As := [.int 0]) (rest := []) (c61_J6_bitCount_0f7a4 l D ct) X hl.1 kw_966 kd_yJ6_bitCount_0f7a4 hw [] [0] rfl rfl rfl rfl (by decide) ⟨by decide, by decide⟩ rfl rfl (Nat.le_of_ble_eq_true rfl) dX5_waysFrom_1 ⟨by decide, by decide⟩ (fun r1 u2 H locs hr3 hw => ?_)
  replace hw : WD D A s.heap _ _ [(a0, .inr (5, [.ref a1, .ref a2, .ref a3, .ref a4, .ref a5, .int 0, .int 0]))] := hw
  subst hr3
  refine lv_istore_n (lv' := [(2, .int 0), (0, .ref a0), (1, .int 0)]) hx hb dX5_waysFrom_4 rfl hl (by decide) rfl (fun ls hl => ?_)
  refine lv_iload_n hx hb dX5_waysFrom_5 rfl (lv_at hl 0 rfl) ?_
  refine lv_aload_n hx hb dX5_waysFrom_6 rfl (lv_at hl 1 rfl) ?_
  refine fg_366 X hw 0 rfl rfl dX5_waysFrom_7 ?_
  refine lv_icmp_lt (tgt := 27) hx hb dX5_waysFrom_10 (by decide) (fun h => absurd h (by decide)) (fun _ => ?_)
  refine lv_iload_n hx hb dX5_waysFrom_13 rfl (lv_at hl 0 rfl) ?_
  refine lv_aload_n hx hb dX5_waysFrom_14 rfl (lv_at hl 1 rfl) ?_
  refine fg_366 X hw 0 rfl rfl dX5_waysFrom_15 ?_
  refine lv_icmp_ne (tgt := 25) hx hb dX5_waysFrom_18 (by decide) (fun h => absurd rfl h) (fun _ => ?_)
  refine lv_iconst (v := 1) hx hb dX5_waysFrom_21 (by decide) ?_
  refine lv_goto (tgt := 26) hx hb dX5_waysFrom_22 (by decide) ?_
  exact r_i X hr hlk hw [0] (fun _ => 0) rfl rfl rfl (by decide) (by decide) dX5_waysFrom_26
set_option maxHeartbeats 4000000 in
set_option maxRecDepth 100000 in
theorem c63_X5_tally (l : Launch) (D : va_G) (ct : Nat → ClassId) (a0 : Nat) (a1 : Nat) (f0 : Nat → Int32) (a2 : Nat) (a3 : Nat) (a4 : Nat) (a5 : Nat) (a6 : Nat) : CI l yX5_tally cX5_tally 5 (some .int) { frames := 2, cells := 0, slots := 0, locals := 60 } D ct [.ref a0, .ref a1, .int 0, .int 0] [(a1, .inl (ct 0, 7, .inl f0)), (a0, .inr (5, [.ref a2, .ref a3, .ref a4, .ref a5, .ref a6, .int 0, .int 0])), (a3, .inl (ct 0, 256, .inl (fun _ => 0))), (a6, .inl (ct 0, 7, .inl f0))] (fun r => r = 1) (fun u => [(a1, .inl (ct 0, 7, .inl f0)), (a3, .inl (ct 0, 256, .inl (upd (fun _ => 0) 0 1))), (a6, .inl (ct 0, 7, .inl (va_cpy f0 f0 0 0 0))), (a0, .inr (5, [.ref a2, .ref a3, .ref a4, .ref a5, .ref a6, .int 0, .int 0]))]) := by
  refine CI.of (by decide +kernel) (Nat.le_of_ble_eq_true rfl) ?_
  intro p e s m below meth c A ls hE
  obtain ⟨X, hr, hlk, hnm, hw, hl⟩ := hE
  have X : CX p m c cX5_tally 5 s [.ref a0, .ref a1, .int 0, .int 0].toArray RX5 D ct := X
  have hl : lv_has ls 5 [(0, .ref a0), (1, .ref a1), (2, .int 0), (3, .int 0)] := hl
  obtain ⟨⟨hx, hb, hml, hown, hts⟩, hK⟩ := id X
  refine lv_aload_n hx hb dX5_tally_0 rfl (lv_at hl 0 rfl) ?_
  refine lv_iconst (v := 0) hx hb dX5_tally_1 (by decide) ?_
  refine lv_iload_n hx hb dX5_tally_2 rfl (lv_at hl 2 rfl) ?_
  refine lv_bipush (v := 7) hx hb dX5_tally_3 (by decide) ?_
  refine k_min (v := 0) X hl.1 wd_959 wd_637 wd_143 wd_638 (by decide) (Nat.le_of_ble_eq_true rfl) (by decide) (by decide) (by decide) dX5_tally_5 ?_
  refine k_max (v := 0) X hl.1 wd_960 wd_728 wd_143 wd_729 (by decide) (Nat.le_of_ble_eq_true rfl) (by decide) (by decide) (by decide) dX5_tally_8 ?_
  refine fp_366 X hw 1 rfl rfl rfl (Nat.le_of_ble_eq_true rfl) dX5_tally_11 [(a1, .inl (ct 0, 7, .inl f0)), (a0, .inr (5, [.ref a2, .ref a3, .ref a4, .ref a5, .ref a6, .int 0, .int 0])), (a3, .inl (ct 0, 256, .inl (fun _ => 0))), (a6, .inl (ct 0, 7, .inl f0))] rfl (fun H locs hw => ?_)
  refine lv_aload_n hx hb dX5_tally_14 rfl (lv_at hl 0 rfl) ?_
  refine lv_iconst (v := 0) hx hb dX5_tally_15 (by decide) ?_
  refine lv_iload_n hx hb dX5_tally_16 rfl (lv_at hl 3 rfl) ?_
  refine lv_bipush (v := 8) hx hb dX5_tally_17 (by decide) ?_
  refine k_min (v := 0) X hl.1 wd_959 wd_637 wd_143 wd_638 (by decide) (Nat.le_of_ble_eq_true rfl) (by decide) (by decide) (by decide) dX5_tally_19 ?_
  refine k_max (v := 0) X hl.1 wd_960 wd_728 wd_143 wd_729 (by decide) (Nat.le_of_ble_eq_true rfl) (by decide) (by decide) (by decide) dX5_tally_22 ?_
  refine fp_367 X hw 1 rfl rfl rfl (Nat.le_of_ble_eq_true rfl) dX5_tally_25 [(a1, .inl (ct 0, 7, .inl f0)), (a0, .inr (5, [.ref a2, .ref a3, .ref a4, .ref a5, .ref a6, .int 0, .int 0])), (a3, .inl (ct 0, 256, .inl (fun _ => 0))), (a6, .inl (ct 0, 7, .inl f0))] rfl (fun H locs hw => ?_)
  refine lv_aload_n hx hb dX5_tally_28 rfl (lv_at hl 1 rfl) ?_
  refine lv_iconst (v := 0) hx hb dX5_tally_29 (by decide) ?_
  refine lv_aload_n hx hb dX5_tally_30 rfl (lv_at hl 0 rfl) ?_
  refine fg_365 X hw 1 rfl rfl dX5_tally_31 ?_
  refine lv_iconst (v := 0) hx hb dX5_tally_34 (by decide) ?_
  refine lv_aload_n hx hb dX5_tally_35 rfl (lv_at hl 0 rfl) ?_
  refine fg_366 X hw 1 rfl rfl dX5_tally_36 ?_
  refine k_copyi X hl.1 wd_961 wd_863 wd_862 wd_149 hw 0 3 rfl rfl (by decide) (by decide) (by decide) (by decide) (by decide) (by decide) (Nat.le_of_ble_eq_true rfl) dX5_tally_39 [(a1, .inl (ct 0, 7, .inl f0)), (a0, .inr (5, [.ref a2, .ref a3, .ref a4, .ref a5, .ref a6, .int 0, .int 0])), (a3, .inl (ct 0, 256, .inl (fun _ => 0))), (a6, .inl (ct 0, 7, .inl (va_cpy f0 f0 0 0 0)))] rfl (fun H locs hw => ?_)
  refine lv_iconst (v := 1) hx hb dX5_tally_42 (by decide) ?_
  refine lv_aload_n hx hb dX5_tally_43 rfl (lv_at hl 0 rfl) ?_
  refine fg_367 X hw 1 rfl rfl dX5_tally_44 ?_
  refine kv_ishl (v := 1) hx hb (by decide) dX5_tally_47 ?_
  refine lv_iconst (v := 1) hx hb dX5_tally_48 (by decide) ?_
  refine kv_isub (v := 0) hx hb (by decide) dX5_tally_49 ?_
  refine lv_istore (lv' := [(4, .int 0), (0, .ref a0), (1, .ref a1), (2, .int 0), (3, .int 0)]) hx hb dX5_tally_50 hl (by decide) rfl (fun ls hl => ?_)
  refine lv_iload hx hb dX5_tally_52 (lv_at hl 0 rfl) ?_
  refine lv_if_lt (tgt := 76) hx hb dX5_tally_54 (by decide) (fun h => absurd h (by decide)) (fun _ => ?_)
  refine lv_aload_n hx hb dX5_tally_57 rfl (lv_at hl 1 rfl) ?_
  refine fg_362 X hw 1 rfl rfl dX5_tally_58 ?_
  refine lv_iload hx hb dX5_tally_61 (lv_at hl 0 rfl) ?_
  refine lv_aload_n hx hb dX5_tally_63 rfl (lv_at hl 1 rfl) ?_
  refine lv_iload hx hb dX5_tally_64 (lv_at hl 0 rfl) ?_
  refine m_Vi (As := [.int 0]) (rest := [.int 0, .ref a3]) (c62_X5_waysFrom l D ct a0 a2 a3 a4 a5 a6) X hl.1 kw_962 kd_yX5_waysFrom hw [1] [0, 2, 3] rfl rfl rfl rfl (by decide) 0 rfl rfl ⟨by decide, by decide⟩ rfl rfl (Nat.le_of_ble_eq_true rfl) dX5_tally_66 ⟨by decide, by decide⟩ (fun r1 u2 H locs hr3 hw => ?_)
  replace hw : WD D A s.heap _ _ [(a1, .inl (ct 0, 7, .inl f0)), (a3, .inl (ct 0, 256, .inl (fun _ => 0))), (a6, .inl (ct 0, 7, .inl (va_cpy f0 f0 0 0 0))), (a0, .inr (5, [.ref a2, .ref a3, .ref a4, .ref a5, .ref a6, .int 0, .int 0]))] := hw
  subst hr3
  refine j_iast (j := 0) X hw 1 rfl (by decide) (by decide) (by decide) dX5_tally_69 [(a1, .inl (ct 0, 7, .inl f0)), (a3, .inl (ct 0, 256, .inl (upd (fun _ => 0) 0 1))), (a6, .inl (ct 0, 7, .inl (va_cpy f0 f0 0 0 0))), (a0, .inr (5, [.ref a2, .ref a3, .ref a4, .ref a5, .ref a6, .int 0, .int 0]))] rfl (fun H locs hw => ?_)
  refine lv_iinc (v := (-1)) (lv' := [(4, .int (-1)), (0, .ref a0), (1, .ref a1), (2, .int 0), (3, .int 0)]) hx hb dX5_tally_70 hl (k := 0) rfl (by decide) (by decide) rfl (fun ls hl => ?_)
  refine lv_goto (tgt := 52) hx hb dX5_tally_73 (by decide) ?_
  refine lv_iload hx hb dX5_tally_52 (lv_at hl 0 rfl) ?_
  refine lv_if_lt (tgt := 76) hx hb dX5_tally_54 (by decide) (fun _ => ?_) (fun h => absurd (by decide) h)
  refine lv_aload_n hx hb dX5_tally_76 rfl (lv_at hl 1 rfl) ?_
  refine fg_362 X hw 3 rfl rfl dX5_tally_77 ?_
  refine lv_iconst (v := 0) hx hb dX5_tally_80 (by decide) ?_
  refine j_iald (j := 0) (v := 1) X hw 1 rfl (by decide) (by decide) (by decide) rfl dX5_tally_81 ?_
  exact r_i X hr hlk hw [0, 1, 2, 3] (fun _ => 0) rfl rfl rfl (by decide) (by decide) dX5_tally_82
set_option maxHeartbeats 4000000 in
set_option maxRecDepth 100000 in
theorem c64_X5_find (l : Launch) (D : va_G) (ct : Nat → ClassId) (a0 : Nat) (p0 : Int32) (a1 : Nat) (a2 : Nat) (a3 : Nat) (a4 : Nat) (a5 : Nat) (a6 : Nat) : CV l yX5_find cX5_find 7 none { frames := 0, cells := 0, slots := 0, locals := 0 } D ct [.ref a0, .int p0, .ref a1] [(a0, .inr (5, [.ref a2, .ref a3, .ref a4, .ref a5, .ref a6, .int 0, .int 0]))] True (fun u => [(a0, .inr (5, [.ref a2, .ref a3, .ref a4, .ref a5, .ref a6, .int 0, .int 0]))]) := by
  refine CV.of (by decide +kernel) (Nat.le_of_ble_eq_true rfl) ?_
  intro p e s m below meth c A ls hE
  obtain ⟨X, hr, hlk, hnm, hw, hl⟩ := hE
  have X : CX p m c cX5_find 7 s [.ref a0, .int p0, .ref a1].toArray RX5 D ct := X
  have hl : lv_has ls 7 [(0, .ref a0), (1, .int p0), (2, .ref a1)] := hl
  obtain ⟨⟨hx, hb, hml, hown, hts⟩, hK⟩ := id X
  refine lv_iload_n hx hb dX5_find_0 rfl (lv_at hl 1 rfl) ?_
  refine lv_istore_n (lv' := [(3, .int p0), (0, .ref a0), (1, .int p0), (2, .ref a1)]) hx hb dX5_find_1 rfl hl (by decide) rfl (fun ls hl => ?_)
  refine lv_iconst (v := 0) hx hb dX5_find_2 (by decide) ?_
  refine lv_istore (lv' := [(4, .int 0), (3, .int p0), (0, .ref a0), (1, .int p0), (2, .ref a1)]) hx hb dX5_find_3 hl (by decide) rfl (fun ls hl => ?_)
  refine lv_iconst (v := 0) hx hb dX5_find_5 (by decide) ?_
  refine lv_istore (lv' := [(5, .int 0), (4, .int 0), (3, .int p0), (0, .ref a0), (1, .int p0), (2, .ref a1)]) hx hb dX5_find_6 hl (by decide) rfl (fun ls hl => ?_)
  refine lv_iload hx hb dX5_find_8 (lv_at hl 0 rfl) ?_
  refine lv_aload_n hx hb dX5_find_10 rfl (lv_at hl 3 rfl) ?_
  refine fg_366 X hw 0 rfl rfl dX5_find_11 ?_
  refine lv_icmp_ge (tgt := 119) hx hb dX5_find_14 (by decide) (fun _ => ?_) (fun h => absurd (by decide) h)
  exact r_v X hr hlk hw [0] (fun _ => 0) rfl rfl trivial (by decide) (by decide) dX5_find_119
set_option maxHeartbeats 4000000 in
set_option maxRecDepth 100000 in
theorem c65_X0_draw (l : Launch) (D : va_G) (ct : Nat → ClassId) (a0 : Nat) (w0 : Int64) (a1 : Nat) (a2 : Nat) (a3 : Nat) (a4 : Nat) (a5 : Nat) (a6 : Nat) (a7 : Nat) (a8 : Nat) (a9 : Nat) (a10 : Nat) (f0 : Nat → Int32) (a11 : Nat) (a12 : Nat) (a13 : Nat) (a14 : Nat) (a15 : Nat) (a16 : Nat) (a17 : Nat) (a18 : Nat) (a19 : Nat) (a20 : Nat) (a21 : Nat) : CI l yX0_draw cX0_draw 5 (some .int) { frames := 3, cells := 0, slots := 0, locals := 84 } D ct [.ref a0, .long w0] [(a1, .inr (2, [.int 0, .int 0, .int 0, .ref a2, .ref a3, .ref a4, .int 0, .int 0, .int 0, .int 0, .int 0, .ref a5, .int 0])), (a6, .inr (9, [.ref a7, .ref a8, .ref a1, .ref a9, .ref a10, .int (-1)])), (a7, .inl (ct 0, 7, .inl f0)), (a11, .inr (5, [.ref a12, .ref a13, .ref a14, .ref a15, .ref a16, .int 0, .int 0])), (a13, .inl (ct 0, 256, .inl (fun _ => 0))), (a16, .inl (ct 0, 7, .inl f0)), (a0, .inr (0, [.int 0, .int 0, .int (-1), .ref a1, .ref a6, .ref a11, .ref a17, .ref a18, .int 0])), (a5, .inr (4, [.ref a19, .ref a20, .ref a21, .int 0]))] (fun r => r = 0) (fun u => [(a0, .inr (0, [.int 0, .int 0, .int (w0 - w0 / 1 * 1).toInt32, .ref a1, .ref a6, .ref a11, .ref a17, .ref a18, .int 0])), (a5, .inr (4, [.ref a19, .ref a20, .ref a21, .int 1])), (a1, .inr (2, [.int 0, .int 0, .int 0, .ref a2, .ref a3, .ref a4, .int 0, .int 0, .int 0, .int 0, .int 0, .ref a5, .int 1])), (a6, .inr (9, [.ref a7, .ref a8, .ref a1, .ref a9, .ref a10, .int 0])), (a7, .inl (ct 0, 7, .inl f0)), (a13, .inl (ct 0, 256, .inl (upd (fun _ => 0) 0 1))), (a16, .inl (ct 0, 7, .inl (va_cpy f0 f0 0 0 0))), (a11, .inr (5, [.ref a12, .ref a13, .ref a14, .ref a15, .ref a16, .int 0, .int 0]))]) := by
  refine CI.of (by decide +kernel) (Nat.le_of_ble_eq_true rfl) ?_
  intro p e s m below meth c A ls hE
  obtain ⟨X, hr, hlk, hnm, hw, hl⟩ := hE
  have X : CX p m c cX0_draw 5 s [.ref a0, .long w0].toArray RX0 D ct := X
  have hl : lv_has ls 5 [(0, .ref a0), (1, .long w0)] := hl
  obtain ⟨⟨hx, hb, hml, hown, hts⟩, hK⟩ := id X
  refine lv_aload_n hx hb dX0_draw_0 rfl (lv_at hl 0 rfl) ?_
  refine fg_496 X hw 6 rfl rfl dX0_draw_1 ?_
  refine m_Vv (As := []) (rest := []) (c60_X9_refresh l D ct a6 a1 a2 a3 a4 a5 a7 a8 a9 a10) X hl.1 kw_954 kd_yX9_refresh hw [0, 1] [2, 3, 4, 5, 6, 7] rfl rfl rfl rfl (by decide) 1 rfl rfl ⟨by decide, by decide⟩ rfl rfl (Nat.le_of_ble_eq_true rfl) dX0_draw_4 ⟨by decide, by decide⟩ (fun u2 H locs hr3 hw => ?_)
  replace hw : WD D A s.heap _ _ [(a7, .inl (ct 0, 7, .inl f0)), (a11, .inr (5, [.ref a12, .ref a13, .ref a14, .ref a15, .ref a16, .int 0, .int 0])), (a13, .inl (ct 0, 256, .inl (fun _ => 0))), (a16, .inl (ct 0, 7, .inl f0)), (a0, .inr (0, [.int 0, .int 0, .int (-1), .ref a1, .ref a6, .ref a11, .ref a17, .ref a18, .int 0])), (a5, .inr (4, [.ref a19, .ref a20, .ref a21, .int 0])), (a1, .inr (2, [.int 0, .int 0, .int 0, .ref a2, .ref a3, .ref a4, .int 0, .int 0, .int 0, .int 0, .int 0, .ref a5, .int 0])), (a6, .inr (9, [.ref a7, .ref a8, .ref a1, .ref a9, .ref a10, .int 0]))] := hw
  refine lv_aload_n hx hb dX0_draw_7 rfl (lv_at hl 0 rfl) ?_
  refine fg_497 X hw 4 rfl rfl dX0_draw_8 ?_
  refine lv_aload_n hx hb dX0_draw_11 rfl (lv_at hl 0 rfl) ?_
  refine fg_496 X hw 4 rfl rfl dX0_draw_12 ?_
  refine fg_332 X hw 7 rfl rfl dX0_draw_15 ?_
  refine lv_aload_n hx hb dX0_draw_18 rfl (lv_at hl 0 rfl) ?_
  refine fg_495 X hw 4 rfl rfl dX0_draw_19 ?_
  refine fg_219 X hw 6 rfl rfl dX0_draw_22 ?_
  refine lv_aload_n hx hb dX0_draw_25 rfl (lv_at hl 0 rfl) ?_
  refine fg_495 X hw 4 rfl rfl dX0_draw_26 ?_
  refine fg_213 X hw 6 rfl rfl dX0_draw_29 ?_
  refine m_Vi (As := [.ref a7, .int 0, .int 0]) (rest := []) (c63_X5_tally l D ct a11 a7 f0 a12 a13 a14 a15 a16) X hl.1 kw_955 kd_yX5_tally hw [0, 1, 2, 3] [4, 5, 6, 7] rfl rfl rfl rfl (by decide) 1 rfl rfl ⟨by decide, by decide⟩ rfl rfl (Nat.le_of_ble_eq_true rfl) dX0_draw_32 ⟨by decide, by decide⟩ (fun r4 u5 H locs hr6 hw => ?_)
  replace hw : WD D A s.heap _ _ [(a0, .inr (0, [.int 0, .int 0, .int (-1), .ref a1, .ref a6, .ref a11, .ref a17, .ref a18, .int 0])), (a5, .inr (4, [.ref a19, .ref a20, .ref a21, .int 0])), (a1, .inr (2, [.int 0, .int 0, .int 0, .ref a2, .ref a3, .ref a4, .int 0, .int 0, .int 0, .int 0, .int 0, .ref a5, .int 0])), (a6, .inr (9, [.ref a7, .ref a8, .ref a1, .ref a9, .ref a10, .int 0])), (a7, .inl (ct 0, 7, .inl f0)), (a13, .inl (ct 0, 256, .inl (upd (fun _ => 0) 0 1))), (a16, .inl (ct 0, 7, .inl (va_cpy f0 f0 0 0 0))), (a11, .inr (5, [.ref a12, .ref a13, .ref a14, .ref a15, .ref a16, .int 0, .int 0]))] := hw
  subst hr6
  refine lv_istore_n (lv' := [(3, .int 1), (0, .ref a0), (1, .long w0)]) hx hb dX0_draw_35 rfl hl (by decide) rfl (fun ls hl => ?_)
  refine lv_iload_n hx hb dX0_draw_36 rfl (lv_at hl 0 rfl) ?_
  refine lv_if_ne (tgt := 42) hx hb dX0_draw_37 (by decide) (fun _ => ?_) (fun h => absurd h (by decide))
  refine lv_aload_n hx hb dX0_draw_42 rfl (lv_at hl 1 rfl) ?_
  refine lv_lload_n hx hb dX0_draw_43 rfl (lv_at hl 2 rfl) ?_
  refine lv_iload_n hx hb dX0_draw_44 rfl (lv_at hl 0 rfl) ?_
  refine lv_i2l (v := 1) hx hb dX0_draw_45 (by decide) ?_
  refine kv_lrem (v := (w0 - w0 / 1 * 1)) hx hb rfl (by decide) dX0_draw_46 ?_
  refine lv_l2i (v := (w0 - w0 / 1 * 1).toInt32) hx hb dX0_draw_47 rfl ?_
  refine fp_493 X hw 0 rfl rfl rfl (Nat.le_of_ble_eq_true rfl) dX0_draw_48 [(a0, .inr (0, [.int 0, .int 0, .int (w0 - w0 / 1 * 1).toInt32, .ref a1, .ref a6, .ref a11, .ref a17, .ref a18, .int 0])), (a5, .inr (4, [.ref a19, .ref a20, .ref a21, .int 0])), (a1, .inr (2, [.int 0, .int 0, .int 0, .ref a2, .ref a3, .ref a4, .int 0, .int 0, .int 0, .int 0, .int 0, .ref a5, .int 0])), (a6, .inr (9, [.ref a7, .ref a8, .ref a1, .ref a9, .ref a10, .int 0])), (a7, .inl (ct 0, 7, .inl f0)), (a13, .inl (ct 0, 256, .inl (upd (fun _ => 0) 0 1))), (a16, .inl (ct 0, 7, .inl (va_cpy f0 f0 0 0 0))), (a11, .inr (5, [.ref a12, .ref a13, .ref a14, .ref a15, .ref a16, .int 0, .int 0]))] rfl (fun H locs hw => ?_)
  refine lv_aload_n hx hb dX0_draw_51 rfl (lv_at hl 1 rfl) ?_
  refine fg_497 X hw 0 rfl rfl dX0_draw_52 ?_
  refine lv_aload_n hx hb dX0_draw_55 rfl (lv_at hl 1 rfl) ?_
  refine fg_493 X hw 0 rfl rfl dX0_draw_56 ?_
  refine lv_aload_n hx hb dX0_draw_59 rfl (lv_at hl 1 rfl) ?_
  refine fg_499 X hw 0 rfl rfl dX0_draw_60 ?_
  refine m_Vv (As := [.int (w0 - w0 / 1 * 1).toInt32, .ref a18]) (rest := []) (c64_X5_find l D ct a11 ((w0 - w0 / 1 * 1).toInt32) a18 a12 a13 a14 a15 a16) X hl.1 kw_972 kd_yX5_find hw [7] [0, 1, 2, 3, 4, 5, 6] rfl rfl rfl rfl (by decide) 0 rfl rfl ⟨by decide, by decide⟩ rfl rfl (Nat.le_of_ble_eq_true rfl) dX0_draw_63 ⟨by decide, by decide⟩ (fun u8 H locs hr9 hw => ?_)
  replace hw : WD D A s.heap _ _ [(a0, .inr (0, [.int 0, .int 0, .int (w0 - w0 / 1 * 1).toInt32, .ref a1, .ref a6, .ref a11, .ref a17, .ref a18, .int 0])), (a5, .inr (4, [.ref a19, .ref a20, .ref a21, .int 0])), (a1, .inr (2, [.int 0, .int 0, .int 0, .ref a2, .ref a3, .ref a4, .int 0, .int 0, .int 0, .int 0, .int 0, .ref a5, .int 0])), (a6, .inr (9, [.ref a7, .ref a8, .ref a1, .ref a9, .ref a10, .int 0])), (a7, .inl (ct 0, 7, .inl f0)), (a13, .inl (ct 0, 256, .inl (upd (fun _ => 0) 0 1))), (a16, .inl (ct 0, 7, .inl (va_cpy f0 f0 0 0 0))), (a11, .inr (5, [.ref a12, .ref a13, .ref a14, .ref a15, .ref a16, .int 0, .int 0]))] := hw
  refine lv_iconst (v := 0) hx hb dX0_draw_66 (by decide) ?_
  refine lv_istore (lv' := [(4, .int 0), (3, .int 1), (0, .ref a0), (1, .long w0)]) hx hb dX0_draw_67 hl (by decide) rfl (fun ls hl => ?_)
  refine lv_iload hx hb dX0_draw_69 (lv_at hl 0 rfl) ?_
  refine lv_aload_n hx hb dX0_draw_71 rfl (lv_at hl 2 rfl) ?_
  refine fg_495 X hw 0 rfl rfl dX0_draw_72 ?_
  refine fg_219 X hw 2 rfl rfl dX0_draw_75 ?_
  refine lv_icmp_ge (tgt := 131) hx hb dX0_draw_78 (by decide) (fun _ => ?_) (fun h => absurd (by decide) h)
  refine lv_aload_n hx hb dX0_draw_131 rfl (lv_at hl 2 rfl) ?_
  refine fg_495 X hw 0 rfl rfl dX0_draw_132 ?_
  refine fg_249 X hw 2 rfl rfl dX0_draw_135 ?_
  refine lv_dup hx hb dX0_draw_138 rfl ?_
  refine fg_194 X hw 1 rfl rfl dX0_draw_139 ?_
  refine lv_iconst (v := 1) hx hb dX0_draw_142 (by decide) ?_
  refine kv_iadd (v := 1) hx hb (by decide) dX0_draw_143 ?_
  refine fp_194 X hw 1 rfl rfl rfl (Nat.le_of_ble_eq_true rfl) dX0_draw_144 [(a0, .inr (0, [.int 0, .int 0, .int (w0 - w0 / 1 * 1).toInt32, .ref a1, .ref a6, .ref a11, .ref a17, .ref a18, .int 0])), (a5, .inr (4, [.ref a19, .ref a20, .ref a21, .int 1])), (a1, .inr (2, [.int 0, .int 0, .int 0, .ref a2, .ref a3, .ref a4, .int 0, .int 0, .int 0, .int 0, .int 0, .ref a5, .int 0])), (a6, .inr (9, [.ref a7, .ref a8, .ref a1, .ref a9, .ref a10, .int 0])), (a7, .inl (ct 0, 7, .inl f0)), (a13, .inl (ct 0, 256, .inl (upd (fun _ => 0) 0 1))), (a16, .inl (ct 0, 7, .inl (va_cpy f0 f0 0 0 0))), (a11, .inr (5, [.ref a12, .ref a13, .ref a14, .ref a15, .ref a16, .int 0, .int 0]))] rfl (fun H locs hw => ?_)
  refine lv_aload_n hx hb dX0_draw_147 rfl (lv_at hl 2 rfl) ?_
  refine fg_495 X hw 0 rfl rfl dX0_draw_148 ?_
  refine lv_dup hx hb dX0_draw_151 rfl ?_
  refine fg_257 X hw 2 rfl rfl dX0_draw_152 ?_
  refine lv_iconst (v := 1) hx hb dX0_draw_155 (by decide) ?_
  refine kv_iadd (v := 1) hx hb (by decide) dX0_draw_156 ?_
  refine fp_257 X hw 2 rfl rfl rfl (Nat.le_of_ble_eq_true rfl) dX0_draw_157 [(a0, .inr (0, [.int 0, .int 0, .int (w0 - w0 / 1 * 1).toInt32, .ref a1, .ref a6, .ref a11, .ref a17, .ref a18, .int 0])), (a5, .inr (4, [.ref a19, .ref a20, .ref a21, .int 1])), (a1, .inr (2, [.int 0, .int 0, .int 0, .ref a2, .ref a3, .ref a4, .int 0, .int 0, .int 0, .int 0, .int 0, .ref a5, .int 1])), (a6, .inr (9, [.ref a7, .ref a8, .ref a1, .ref a9, .ref a10, .int 0])), (a7, .inl (ct 0, 7, .inl f0)), (a13, .inl (ct 0, 256, .inl (upd (fun _ => 0) 0 1))), (a16, .inl (ct 0, 7, .inl (va_cpy f0 f0 0 0 0))), (a11, .inr (5, [.ref a12, .ref a13, .ref a14, .ref a15, .ref a16, .int 0, .int 0]))] rfl (fun H locs hw => ?_)
  refine lv_iconst (v := 0) hx hb dX0_draw_160 (by decide) ?_
  exact r_i X hr hlk hw [0, 1, 2, 3, 4, 5, 6, 7] (fun _ => 0) rfl rfl rfl (by decide) (by decide) dX0_draw_161
def fx10 : Nat → Int32 := (va_cpy fx9 (va_cpy (fun _ => (-1)) (fun _ => 0) 0 0 7) 0 0 7)
set_option maxHeartbeats 4000000 in
set_option maxRecDepth 100000 in
theorem c66_X4_copyFrom (l : Launch) (D : va_G) (ct : Nat → ClassId) (a0 : Nat) (a1 : Nat) (a2 : Nat) (a3 : Nat) (a4 : Nat) (f0 : Nat → Int32) (f1 : Nat → Int32) (a5 : Nat) (a6 : Nat) (a7 : Nat) (f2 : Nat → Int32) (f3 : Nat → Int32) (f4 : Nat → Int32) : CV l yX4_copyFrom cX4_copyFrom 2 none { frames := 1, cells := 0, slots := 0, locals := 60 } D ct [.ref a0, .ref a1] [(a0, .inr (4, [.ref a2, .ref a3, .ref a4, .int 0])), (a3, .inl (ct 0, 56, .inl f0)), (a4, .inl (ct 0, 8, .inl f0)), (a2, .inl (ct 0, 7, .inl f1)), (a1, .inr (4, [.ref a5, .ref a6, .ref a7, .int 0])), (a6, .inl (ct 0, 56, .inl f2)), (a7, .inl (ct 0, 8, .inl f3)), (a5, .inl (ct 0, 7, .inl f4))] True (fun u => [(a0, .inr (4, [.ref a2, .ref a3, .ref a4, .int 0])), (a3, .inl (ct 0, 56, .inl (va_cpy f2 f0 0 0 56))), (a4, .inl (ct 0, 8, .inl (va_cpy f3 f0 0 0 8))), (a2, .inl (ct 0, 7, .inl (va_cpy f4 f1 0 0 7))), (a1, .inr (4, [.ref a5, .ref a6, .ref a7, .int 0])), (a6, .inl (ct 0, 56, .inl f2)), (a7, .inl (ct 0, 8, .inl f3)), (a5, .inl (ct 0, 7, .inl f4))]) := by
  refine CV.of (by decide +kernel) (Nat.le_of_ble_eq_true rfl) ?_
  intro p e s m below meth c A ls hE
  obtain ⟨X, hr, hlk, hnm, hw, hl⟩ := hE
  have X : CX p m c cX4_copyFrom 2 s [.ref a0, .ref a1].toArray RX4 D ct := X
  have hl : lv_has ls 2 [(0, .ref a0), (1, .ref a1)] := hl
  obtain ⟨⟨hx, hb, hml, hown, hts⟩, hK⟩ := id X
  refine lv_aload_n hx hb dX4_copyFrom_0 rfl (lv_at hl 1 rfl) ?_
  refine fg_174 X hw 4 rfl rfl dX4_copyFrom_1 ?_
  refine lv_iconst (v := 0) hx hb dX4_copyFrom_4 (by decide) ?_
  refine lv_aload_n hx hb dX4_copyFrom_5 rfl (lv_at hl 0 rfl) ?_
  refine fg_174 X hw 0 rfl rfl dX4_copyFrom_6 ?_
  refine lv_iconst (v := 0) hx hb dX4_copyFrom_9 (by decide) ?_
  refine lv_bipush (v := 7) hx hb dX4_copyFrom_10 (by decide) ?_
  refine k_copyi X hl.1 wd_868 wd_863 wd_862 wd_149 hw 7 3 rfl rfl (by decide) (by decide) (by decide) (by decide) (by decide) (by decide) (Nat.le_of_ble_eq_true rfl) dX4_copyFrom_12 [(a0, .inr (4, [.ref a2, .ref a3, .ref a4, .int 0])), (a3, .inl (ct 0, 56, .inl f0)), (a4, .inl (ct 0, 8, .inl f0)), (a2, .inl (ct 0, 7, .inl (va_cpy f4 f1 0 0 7))), (a1, .inr (4, [.ref a5, .ref a6, .ref a7, .int 0])), (a6, .inl (ct 0, 56, .inl f2)), (a7, .inl (ct 0, 8, .inl f3)), (a5, .inl (ct 0, 7, .inl f4))] rfl (fun H locs hw => ?_)
  refine lv_aload_n hx hb dX4_copyFrom_15 rfl (lv_at hl 1 rfl) ?_
  refine fg_182 X hw 4 rfl rfl dX4_copyFrom_16 ?_
  refine lv_iconst (v := 0) hx hb dX4_copyFrom_19 (by decide) ?_
  refine lv_aload_n hx hb dX4_copyFrom_20 rfl (lv_at hl 0 rfl) ?_
  refine fg_182 X hw 0 rfl rfl dX4_copyFrom_21 ?_
  refine lv_iconst (v := 0) hx hb dX4_copyFrom_24 (by decide) ?_
  refine lv_bipush (v := 56) hx hb dX4_copyFrom_25 (by decide) ?_
  refine k_copyi X hl.1 wd_868 wd_863 wd_862 wd_149 hw 5 1 rfl rfl (by decide) (by decide) (by decide) (by decide) (by decide) (by decide) (Nat.le_of_ble_eq_true rfl) dX4_copyFrom_27 [(a0, .inr (4, [.ref a2, .ref a3, .ref a4, .int 0])), (a3, .inl (ct 0, 56, .inl (va_cpy f2 f0 0 0 56))), (a4, .inl (ct 0, 8, .inl f0)), (a2, .inl (ct 0, 7, .inl (va_cpy f4 f1 0 0 7))), (a1, .inr (4, [.ref a5, .ref a6, .ref a7, .int 0])), (a6, .inl (ct 0, 56, .inl f2)), (a7, .inl (ct 0, 8, .inl f3)), (a5, .inl (ct 0, 7, .inl f4))] rfl (fun H locs hw => ?_)
  refine lv_aload_n hx hb dX4_copyFrom_30 rfl (lv_at hl 1 rfl) ?_
  refine fg_186 X hw 4 rfl rfl dX4_copyFrom_31 ?_
  refine lv_iconst (v := 0) hx hb dX4_copyFrom_34 (by decide) ?_
  refine lv_aload_n hx hb dX4_copyFrom_35 rfl (lv_at hl 0 rfl) ?_
  refine fg_186 X hw 0 rfl rfl dX4_copyFrom_36 ?_
  refine lv_iconst (v := 0) hx hb dX4_copyFrom_39 (by decide) ?_
  refine lv_bipush (v := 8) hx hb dX4_copyFrom_40 (by decide) ?_
  refine k_copyi X hl.1 wd_868 wd_863 wd_862 wd_149 hw 6 2 rfl rfl (by decide) (by decide) (by decide) (by decide) (by decide) (by decide) (Nat.le_of_ble_eq_true rfl) dX4_copyFrom_42 [(a0, .inr (4, [.ref a2, .ref a3, .ref a4, .int 0])), (a3, .inl (ct 0, 56, .inl (va_cpy f2 f0 0 0 56))), (a4, .inl (ct 0, 8, .inl (va_cpy f3 f0 0 0 8))), (a2, .inl (ct 0, 7, .inl (va_cpy f4 f1 0 0 7))), (a1, .inr (4, [.ref a5, .ref a6, .ref a7, .int 0])), (a6, .inl (ct 0, 56, .inl f2)), (a7, .inl (ct 0, 8, .inl f3)), (a5, .inl (ct 0, 7, .inl f4))] rfl (fun H locs hw => ?_)
  refine lv_aload_n hx hb dX4_copyFrom_45 rfl (lv_at hl 0 rfl) ?_
  refine lv_aload_n hx hb dX4_copyFrom_46 rfl (lv_at hl 1 rfl) ?_
  refine fg_192 X hw 4 rfl rfl dX4_copyFrom_47 ?_
  refine fp_192 X hw 0 rfl rfl rfl (Nat.le_of_ble_eq_true rfl) dX4_copyFrom_50 [(a0, .inr (4, [.ref a2, .ref a3, .ref a4, .int 0])), (a3, .inl (ct 0, 56, .inl (va_cpy f2 f0 0 0 56))), (a4, .inl (ct 0, 8, .inl (va_cpy f3 f0 0 0 8))), (a2, .inl (ct 0, 7, .inl (va_cpy f4 f1 0 0 7))), (a1, .inr (4, [.ref a5, .ref a6, .ref a7, .int 0])), (a6, .inl (ct 0, 56, .inl f2)), (a7, .inl (ct 0, 8, .inl f3)), (a5, .inl (ct 0, 7, .inl f4))] rfl (fun H locs hw => ?_)
  exact r_v X hr hlk hw [0, 1, 2, 3, 4, 5, 6, 7] (fun _ => 0) rfl rfl trivial (by decide) (by decide) dX4_copyFrom_53
set_option maxHeartbeats 4000000 in
set_option maxRecDepth 100000 in
theorem c67_X1_keep (l : Launch) (D : va_G) (ct : Nat → ClassId) (a0 : Nat) (a1 : Nat) (a2 : Nat) (a3 : Nat) (a4 : Nat) (a5 : Nat) (a6 : Nat) (a7 : Nat) (a8 : Nat) (a9 : Nat) (a10 : Nat) (a11 : Nat) (a12 : Nat) (a13 : Nat) (a14 : Nat) (a15 : Nat) (f0 : Nat → Int32) (f1 : Nat → Int32) (a16 : Nat) (a17 : Nat) (a18 : Nat) (f2 : Nat → Int32) (f3 : Nat → Int32) (f4 : Nat → Int32) : CV l yX1_keep cX1_keep 2 none { frames := 2, cells := 0, slots := 0, locals := 81 } D ct [.ref a0, .ref a1] [(a0, .inr (1, [.int 0, .int 0, .ref a2])), (a2, .inl (ct 4, 10, .inr (.inr (.inr (.inr (va_up (va_up (va_up (va_up (va_up (va_up (va_up (va_up (va_up (va_up (fun _ => none) 0 (some a3)) 1 (some a4)) 2 (some a5)) 3 (some a6)) 4 (some a7)) 5 (some a8)) 6 (some a9)) 7 (some a10)) 8 (some a11)) 9 (some a12))))))), (a3, .inr (4, [.ref a13, .ref a14, .ref a15, .int 0])), (a14, .inl (ct 0, 56, .inl f0)), (a15, .inl (ct 0, 8, .inl f0)), (a13, .inl (ct 0, 7, .inl f1)), (a1, .inr (4, [.ref a16, .ref a17, .ref a18, .int 0])), (a17, .inl (ct 0, 56, .inl f2)), (a18, .inl (ct 0, 8, .inl f3)), (a16, .inl (ct 0, 7, .inl f4))] True (fun u => [(a0, .inr (1, [.int 1, .int 0, .ref a2])), (a2, .inl (ct 4, 10, .inr (.inr (.inr (.inr (va_up (va_up (va_up (va_up (va_up (va_up (va_up (va_up (va_up (va_up (fun _ => none) 0 (some a3)) 1 (some a4)) 2 (some a5)) 3 (some a6)) 4 (some a7)) 5 (some a8)) 6 (some a9)) 7 (some a10)) 8 (some a11)) 9 (some a12))))))), (a3, .inr (4, [.ref a13, .ref a14, .ref a15, .int 0])), (a14, .inl (ct 0, 56, .inl (va_cpy f2 f0 0 0 56))), (a15, .inl (ct 0, 8, .inl (va_cpy f3 f0 0 0 8))), (a13, .inl (ct 0, 7, .inl (va_cpy f4 f1 0 0 7))), (a1, .inr (4, [.ref a16, .ref a17, .ref a18, .int 0])), (a17, .inl (ct 0, 56, .inl f2)), (a18, .inl (ct 0, 8, .inl f3)), (a16, .inl (ct 0, 7, .inl f4))]) := by
  refine CV.of (by decide +kernel) (Nat.le_of_ble_eq_true rfl) ?_
  intro p e s m below meth c A ls hE
  obtain ⟨X, hr, hlk, hnm, hw, hl⟩ := hE
  have X : CX p m c cX1_keep 2 s [.ref a0, .ref a1].toArray RX1 D ct := X
  have hl : lv_has ls 2 [(0, .ref a0), (1, .ref a1)] := hl
  obtain ⟨⟨hx, hb, hml, hown, hts⟩, hK⟩ := id X
  refine lv_aload_n hx hb dX1_keep_0 rfl (lv_at hl 0 rfl) ?_
  refine fg_529 X hw 0 rfl rfl dX1_keep_1 ?_
  refine lv_bipush (v := 10) hx hb dX1_keep_4 (by decide) ?_
  refine lv_icmp_ne (tgt := 32) hx hb dX1_keep_6 (by decide) (fun _ => ?_) (fun h => absurd h (by decide))
  refine lv_aload_n hx hb dX1_keep_32 rfl (lv_at hl 0 rfl) ?_
  refine fg_532 X hw 0 rfl rfl dX1_keep_33 ?_
  refine lv_aload_n hx hb dX1_keep_36 rfl (lv_at hl 0 rfl) ?_
  refine fg_531 X hw 0 rfl rfl dX1_keep_37 ?_
  refine lv_aload_n hx hb dX1_keep_40 rfl (lv_at hl 0 rfl) ?_
  refine fg_529 X hw 0 rfl rfl dX1_keep_41 ?_
  refine kv_iadd (v := 0) hx hb (by decide) dX1_keep_44 ?_
  refine lv_bipush (v := 10) hx hb dX1_keep_45 (by decide) ?_
  refine kv_irem (v := 0) hx hb (by decide) (by decide) dX1_keep_47 ?_
  refine j_aldq (j := 0) (v := .ref a3) X hw 1 4 rfl rfl (by decide) (by decide) (by decide) rfl dX1_keep_48 ?_
  refine lv_aload_n hx hb dX1_keep_49 rfl (lv_at hl 1 rfl) ?_
  refine m_Vv (As := [.ref a1]) (rest := []) (c66_X4_copyFrom l D ct a3 a1 a13 a14 a15 f0 f1 a16 a17 a18 f2 f3 f4) X hl.1 kw_988 kd_yX4_copyFrom hw [2, 3, 4, 5, 6, 7, 8, 9] [0, 1] rfl rfl rfl rfl (by decide) 0 rfl rfl ⟨by decide, by decide⟩ rfl rfl (Nat.le_of_ble_eq_true rfl) dX1_keep_50 ⟨by decide, by decide⟩ (fun u2 H locs hr3 hw => ?_)
  replace hw : WD D A s.heap _ _ [(a0, .inr (1, [.int 0, .int 0, .ref a2])), (a2, .inl (ct 4, 10, .inr (.inr (.inr (.inr (va_up (va_up (va_up (va_up (va_up (va_up (va_up (va_up (va_up (va_up (fun _ => none) 0 (some a3)) 1 (some a4)) 2 (some a5)) 3 (some a6)) 4 (some a7)) 5 (some a8)) 6 (some a9)) 7 (some a10)) 8 (some a11)) 9 (some a12))))))), (a3, .inr (4, [.ref a13, .ref a14, .ref a15, .int 0])), (a14, .inl (ct 0, 56, .inl (va_cpy f2 f0 0 0 56))), (a15, .inl (ct 0, 8, .inl (va_cpy f3 f0 0 0 8))), (a13, .inl (ct 0, 7, .inl (va_cpy f4 f1 0 0 7))), (a1, .inr (4, [.ref a16, .ref a17, .ref a18, .int 0])), (a17, .inl (ct 0, 56, .inl f2)), (a18, .inl (ct 0, 8, .inl f3)), (a16, .inl (ct 0, 7, .inl f4))] := hw
  refine lv_aload_n hx hb dX1_keep_53 rfl (lv_at hl 0 rfl) ?_
  refine lv_dup hx hb dX1_keep_54 rfl ?_
  refine fg_529 X hw 0 rfl rfl dX1_keep_55 ?_
  refine lv_iconst (v := 1) hx hb dX1_keep_58 (by decide) ?_
  refine kv_iadd (v := 1) hx hb (by decide) dX1_keep_59 ?_
  refine fp_529 X hw 0 rfl rfl rfl (Nat.le_of_ble_eq_true rfl) dX1_keep_60 [(a0, .inr (1, [.int 1, .int 0, .ref a2])), (a2, .inl (ct 4, 10, .inr (.inr (.inr (.inr (va_up (va_up (va_up (va_up (va_up (va_up (va_up (va_up (va_up (va_up (fun _ => none) 0 (some a3)) 1 (some a4)) 2 (some a5)) 3 (some a6)) 4 (some a7)) 5 (some a8)) 6 (some a9)) 7 (some a10)) 8 (some a11)) 9 (some a12))))))), (a3, .inr (4, [.ref a13, .ref a14, .ref a15, .int 0])), (a14, .inl (ct 0, 56, .inl (va_cpy f2 f0 0 0 56))), (a15, .inl (ct 0, 8, .inl (va_cpy f3 f0 0 0 8))), (a13, .inl (ct 0, 7, .inl (va_cpy f4 f1 0 0 7))), (a1, .inr (4, [.ref a16, .ref a17, .ref a18, .int 0])), (a17, .inl (ct 0, 56, .inl f2)), (a18, .inl (ct 0, 8, .inl f3)), (a16, .inl (ct 0, 7, .inl f4))] rfl (fun H locs hw => ?_)
  exact r_v X hr hlk hw [0, 1, 2, 3, 4, 5, 6, 7, 8, 9] (fun _ => 0) rfl rfl trivial (by decide) (by decide) dX1_keep_63
set_option maxHeartbeats 4000000 in
set_option maxRecDepth 100000 in
theorem c68_X11_draws (l : Launch) (D : va_G) (ct : Nat → ClassId) (a0 : Nat) (p0 : Int32) (a1 : Nat) (a2 : Nat) (a3 : Nat) (a4 : Nat) (a5 : Nat) (a6 : Nat) (a7 : Nat) (a8 : Nat) (a9 : Nat) (a10 : Nat) (a11 : Nat) (a12 : Nat) (a13 : Nat) (a14 : Nat) (a15 : Nat) (a16 : Nat) (a17 : Nat) (a18 : Nat) (a19 : Nat) (a20 : Nat) (a21 : Nat) (a22 : Nat) (f0 : Nat → Int32) (f1 : Nat → Int32) (a23 : Nat) (a24 : Nat) (a25 : Nat) (a26 : Nat) (a27 : Nat) (a28 : Nat) (a29 : Nat) (a30 : Nat) (a31 : Nat) (a32 : Nat) (a33 : Nat) (a34 : Nat) (a35 : Nat) (a36 : Nat) (a37 : Nat) (a38 : Nat) (a39 : Nat) (a40 : Nat) (a41 : Nat) (a42 : Nat) (a43 : Nat) (a44 : Nat) (a45 : Nat) (a46 : Nat) (a47 : Nat) (a48 : Nat) (a49 : Nat) : CI l yX11_draws cX11_draws 2 (some .int) { frames := 4, cells := 0, slots := 0, locals := 108 } D ct [.ref a0, .int p0] [(a0, .inr (11, [.ref a1, .int 0, .ref a2, .ref a3, .ref a4, .ref a5, .ref a6, .ref a7, .ref a8, .ref a9, .ref a10, .ref a11, .ref a12, .ref a13, .ref a14, .ref a15, .int (-1), .int (-1)])), (a2, .inr (2, [.int 0, .int 0, .int 0, .ref a16, .ref a17, .ref a18, .int 0, .int 0, .int 0, .int 0, .int 0, .ref a19, .int 0])), (a19, .inr (4, [.ref a20, .ref a21, .ref a22, .int 0])), (a21, .inl (ct 0, 56, .inl f0)), (a22, .inl (ct 0, 8, .inl f0)), (a20, .inl (ct 0, 7, .inl f1)), (a4, .inr (9, [.ref a23, .ref a24, .ref a2, .ref a25, .ref a26, .int (-1)])), (a23, .inl (ct 0, 7, .inl f0)), (a5, .inr (5, [.ref a27, .ref a28, .ref a29, .ref a30, .ref a31, .int 0, .int 0])), (a28, .inl (ct 0, 256, .inl (fun _ => 0))), (a31, .inl (ct 0, 7, .inl f0)), (a9, .inr (0, [.int 0, .int 0, .int (-1), .ref a2, .ref a4, .ref a5, .ref a6, .ref a32, .int 0])), (a10, .inr (1, [.int 0, .int 0, .ref a33])), (a33, .inl (ct 4, 10, .inr (.inr (.inr (.inr (va_up (va_up (va_up (va_up (va_up (va_up (va_up (va_up (va_up (va_up (fun _ => none) 0 (some a34)) 1 (some a35)) 2 (some a36)) 3 (some a37)) 4 (some a38)) 5 (some a39)) 6 (some a40)) 7 (some a41)) 8 (some a42)) 9 (some a43))))))), (a34, .inr (4, [.ref a44, .ref a45, .ref a46, .int 0])), (a45, .inl (ct 0, 56, .inl f0)), (a46, .inl (ct 0, 8, .inl f0)), (a44, .inl (ct 0, 7, .inl f1)), (a11, .inr (4, [.ref a47, .ref a48, .ref a49, .int 0])), (a48, .inl (ct 0, 56, .inl f0)), (a49, .inl (ct 0, 8, .inl f0)), (a47, .inl (ct 0, 7, .inl f1))] (fun r => (p0.toInt ≥ 0) ∧ r = ((p0.toInt64) - (p0.toInt64) / 1 * 1).toInt32 ∨ (p0.toInt < 0) ∧ r = (-3)) (fun u => []) := by
  refine CI.of (by decide +kernel) (Nat.le_of_ble_eq_true rfl) ?_
  intro p e s m below meth c A ls hE
  obtain ⟨X, hr, hlk, hnm, hw, hl⟩ := hE
  have X : CX p m c cX11_draws 2 s [.ref a0, .int p0].toArray RX11 D ct := X
  have hl : lv_has ls 2 [(0, .ref a0), (1, .int p0)] := hl
  obtain ⟨⟨hx, hb, hml, hown, hts⟩, hK⟩ := id X
  refine lv_iload_n hx hb dX11_draws_0 rfl (lv_at hl 1 rfl) ?_
  refine lv_if_ge (tgt := 7) hx hb dX11_draws_1 (by decide) (fun h1 => ?_) (fun h1 => ?_)
  · have h1 : p0.toInt ≥ 0 := by have q := ci_le (a := 0) (b := p0.toInt) (by decide) rfl h1; omega
    refine lv_aload_n hx hb dX11_draws_7 rfl (lv_at hl 0 rfl) ?_
    refine fg_576 X hw 0 rfl rfl dX11_draws_8 ?_
    refine lv_aload_n hx hb dX11_draws_11 rfl (lv_at hl 0 rfl) ?_
    refine fg_567 X hw 0 rfl rfl dX11_draws_12 ?_
    refine fg_253 X hw 1 rfl rfl dX11_draws_15 ?_
    refine m_Vv (As := [.ref a19]) (rest := []) (c59_X4_copyFrom l D ct a11 a19 a20 a21 a22 f0 f1 a47 a48 a49) X hl.1 kw_949 kd_yX4_copyFrom hw [2, 3, 4, 5, 18, 19, 20, 21] [0, 1, 6, 7, 8, 9, 10, 11, 12, 13, 14, 15, 16, 17] rfl rfl rfl rfl (by decide) 4 rfl rfl ⟨by decide, by decide⟩ rfl rfl (Nat.le_of_ble_eq_true rfl) dX11_draws_18 ⟨by decide, by decide⟩ (fun u3 H locs hr4 hw => ?_)
    replace hw : WD D A s.heap _ _ [(a0, .inr (11, [.ref a1, .int 0, .ref a2, .ref a3, .ref a4, .ref a5, .ref a6, .ref a7, .ref a8, .ref a9, .ref a10, .ref a11, .ref a12, .ref a13, .ref a14, .ref a15, .int (-1), .int (-1)])), (a2, .inr (2, [.int 0, .int 0, .int 0, .ref a16, .ref a17, .ref a18, .int 0, .int 0, .int 0, .int 0, .int 0, .ref a19, .int 0])), (a4, .inr (9, [.ref a23, .ref a24, .ref a2, .ref a25, .ref a26, .int (-1)])), (a23, .inl (ct 0, 7, .inl f0)), (a5, .inr (5, [.ref a27, .ref a28, .ref a29, .ref a30, .ref a31, .int 0, .int 0])), (a28, .inl (ct 0, 256, .inl (fun _ => 0))), (a31, .inl (ct 0, 7, .inl f0)), (a9, .inr (0, [.int 0, .int 0, .int (-1), .ref a2, .ref a4, .ref a5, .ref a6, .ref a32, .int 0])), (a10, .inr (1, [.int 0, .int 0, .ref a33])), (a33, .inl (ct 4, 10, .inr (.inr (.inr (.inr (va_up (va_up (va_up (va_up (va_up (va_up (va_up (va_up (va_up (va_up (fun _ => none) 0 (some a34)) 1 (some a35)) 2 (some a36)) 3 (some a37)) 4 (some a38)) 5 (some a39)) 6 (some a40)) 7 (some a41)) 8 (some a42)) 9 (some a43))))))), (a34, .inr (4, [.ref a44, .ref a45, .ref a46, .int 0])), (a45, .inl (ct 0, 56, .inl f0)), (a46, .inl (ct 0, 8, .inl f0)), (a44, .inl (ct 0, 7, .inl f1)), (a19, .inr (4, [.ref a20, .ref a21, .ref a22, .int 0])), (a21, .inl (ct 0, 56, .inl f0)), (a22, .inl (ct 0, 8, .inl f0)), (a20, .inl (ct 0, 7, .inl f1)), (a11, .inr (4, [.ref a47, .ref a48, .ref a49, .int 0])), (a48, .inl (ct 0, 56, .inl (va_cpy f0 f0 0 0 56))), (a49, .inl (ct 0, 8, .inl (va_cpy f0 f0 0 0 8))), (a47, .inl (ct 0, 7, .inl (va_cpy f1 f1 0 0 7)))] := hw
    refine lv_aload_n hx hb dX11_draws_21 rfl (lv_at hl 0 rfl) ?_
    refine fg_574 X hw 0 rfl rfl dX11_draws_22 ?_
    refine lv_iload_n hx hb dX11_draws_25 rfl (lv_at hl 1 rfl) ?_
    refine lv_i2l (v := p0.toInt64) hx hb dX11_draws_26 rfl ?_
    refine m_Vi (As := [.long p0.toInt64]) (rest := []) (c65_X0_draw l D ct a9 (p0.toInt64) a2 a16 a17 a18 a19 a4 a23 a24 a25 a26 f0 a5 a27 a28 a29 a30 a31 a6 a32 a20 a21 a22) X hl.1 kw_950 kd_yX0_draw hw [1, 2, 3, 4, 5, 6, 7, 14] [0, 8, 9, 10, 11, 12, 13, 15, 16, 17, 18, 19, 20, 21] rfl rfl rfl rfl (by decide) 6 rfl rfl ⟨by decide, by decide⟩ rfl rfl (Nat.le_of_ble_eq_true rfl) dX11_draws_27 ⟨by decide, by decide⟩ (fun r5 u6 H locs hr7 hw => ?_)
    replace hw : WD D A s.heap _ _ [(a0, .inr (11, [.ref a1, .int 0, .ref a2, .ref a3, .ref a4, .ref a5, .ref a6, .ref a7, .ref a8, .ref a9, .ref a10, .ref a11, .ref a12, .ref a13, .ref a14, .ref a15, .int (-1), .int (-1)])), (a10, .inr (1, [.int 0, .int 0, .ref a33])), (a33, .inl (ct 4, 10, .inr (.inr (.inr (.inr (va_up (va_up (va_up (va_up (va_up (va_up (va_up (va_up (va_up (va_up (fun _ => none) 0 (some a34)) 1 (some a35)) 2 (some a36)) 3 (some a37)) 4 (some a38)) 5 (some a39)) 6 (some a40)) 7 (some a41)) 8 (some a42)) 9 (some a43))))))), (a34, .inr (4, [.ref a44, .ref a45, .ref a46, .int 0])), (a45, .inl (ct 0, 56, .inl f0)), (a46, .inl (ct 0, 8, .inl f0)), (a44, .inl (ct 0, 7, .inl f1)), (a21, .inl (ct 0, 56, .inl f0)), (a22, .inl (ct 0, 8, .inl f0)), (a20, .inl (ct 0, 7, .inl f1)), (a11, .inr (4, [.ref a47, .ref a48, .ref a49, .int 0])), (a48, .inl (ct 0, 56, .inl (va_cpy f0 f0 0 0 56))), (a49, .inl (ct 0, 8, .inl (va_cpy f0 f0 0 0 8))), (a47, .inl (ct 0, 7, .inl (va_cpy f1 f1 0 0 7))), (a9, .inr (0, [.int 0, .int 0, .int ((p0.toInt64) - (p0.toInt64) / 1 * 1).toInt32, .ref a2, .ref a4, .ref a5, .ref a6, .ref a32, .int 0])), (a19, .inr (4, [.ref a20, .ref a21, .ref a22, .int 1])), (a2, .inr (2, [.int 0, .int 0, .int 0, .ref a16, .ref a17, .ref a18, .int 0, .int 0, .int 0, .int 0, .int 0, .ref a19, .int 1])), (a4, .inr (9, [.ref a23, .ref a24, .ref a2, .ref a25, .ref a26, .int 0])), (a23, .inl (ct 0, 7, .inl f0)), (a28, .inl (ct 0, 256, .inl (upd (fun _ => 0) 0 1))), (a31, .inl (ct 0, 7, .inl (va_cpy f0 f0 0 0 0))), (a5, .inr (5, [.ref a27, .ref a28, .ref a29, .ref a30, .ref a31, .int 0, .int 0]))] := hw
    subst hr7
    refine lv_if_eq (tgt := 36) hx hb dX11_draws_30 (by decide) (fun _ => ?_) (fun h => absurd (by decide) h)
    refine lv_aload_n hx hb dX11_draws_36 rfl (lv_at hl 0 rfl) ?_
    refine fg_575 X hw 0 rfl rfl dX11_draws_37 ?_
    refine lv_aload_n hx hb dX11_draws_40 rfl (lv_at hl 0 rfl) ?_
    refine fg_576 X hw 0 rfl rfl dX11_draws_41 ?_
    refine m_Vv (As := [.ref a11]) (rest := []) (c67_X1_keep l D ct a10 a11 a33 a34 a35 a36 a37 a38 a39 a40 a41 a42 a43 a44 a45 a46 f0 f1 a47 a48 a49 (va_cpy f0 f0 0 0 56) (va_cpy f0 f0 0 0 8) (va_cpy f1 f1 0 0 7)) X hl.1 kw_984 kd_yX1_keep hw [1, 2, 3, 4, 5, 6, 10, 11, 12, 13] [0, 7, 8, 9, 14, 15, 16, 17, 18, 19, 20, 21] rfl rfl rfl rfl (by decide) 0 rfl rfl ⟨by decide, by decide⟩ rfl rfl (Nat.le_of_ble_eq_true rfl) dX11_draws_44 ⟨by decide, by decide⟩ (fun u9 H locs hr10 hw => ?_)
    replace hw : WD D A s.heap _ _ [(a0, .inr (11, [.ref a1, .int 0, .ref a2, .ref a3, .ref a4, .ref a5, .ref a6, .ref a7, .ref a8, .ref a9, .ref a10, .ref a11, .ref a12, .ref a13, .ref a14, .ref a15, .int (-1), .int (-1)])), (a21, .inl (ct 0, 56, .inl f0)), (a22, .inl (ct 0, 8, .inl f0)), (a20, .inl (ct 0, 7, .inl f1)), (a9, .inr (0, [.int 0, .int 0, .int ((p0.toInt64) - (p0.toInt64) / 1 * 1).toInt32, .ref a2, .ref a4, .ref a5, .ref a6, .ref a32, .int 0])), (a19, .inr (4, [.ref a20, .ref a21, .ref a22, .int 1])), (a2, .inr (2, [.int 0, .int 0, .int 0, .ref a16, .ref a17, .ref a18, .int 0, .int 0, .int 0, .int 0, .int 0, .ref a19, .int 1])), (a4, .inr (9, [.ref a23, .ref a24, .ref a2, .ref a25, .ref a26, .int 0])), (a23, .inl (ct 0, 7, .inl f0)), (a28, .inl (ct 0, 256, .inl (upd (fun _ => 0) 0 1))), (a31, .inl (ct 0, 7, .inl (va_cpy f0 f0 0 0 0))), (a5, .inr (5, [.ref a27, .ref a28, .ref a29, .ref a30, .ref a31, .int 0, .int 0])), (a10, .inr (1, [.int 1, .int 0, .ref a33])), (a33, .inl (ct 4, 10, .inr (.inr (.inr (.inr (va_up (va_up (va_up (va_up (va_up (va_up (va_up (va_up (va_up (va_up (fun _ => none) 0 (some a34)) 1 (some a35)) 2 (some a36)) 3 (some a37)) 4 (some a38)) 5 (some a39)) 6 (some a40)) 7 (some a41)) 8 (some a42)) 9 (some a43))))))), (a34, .inr (4, [.ref a44, .ref a45, .ref a46, .int 0])), (a45, .inl (ct 0, 56, .inl (va_cpy (va_cpy f0 f0 0 0 56) f0 0 0 56))), (a46, .inl (ct 0, 8, .inl (va_cpy (va_cpy f0 f0 0 0 8) f0 0 0 8))), (a44, .inl (ct 0, 7, .inl (va_cpy (va_cpy f1 f1 0 0 7) f1 0 0 7))), (a11, .inr (4, [.ref a47, .ref a48, .ref a49, .int 0])), (a48, .inl (ct 0, 56, .inl (va_cpy f0 f0 0 0 56))), (a49, .inl (ct 0, 8, .inl (va_cpy f0 f0 0 0 8))), (a47, .inl (ct 0, 7, .inl (va_cpy f1 f1 0 0 7)))] := hw
    refine lv_aload_n hx hb dX11_draws_47 rfl (lv_at hl 0 rfl) ?_
    refine fg_574 X hw 0 rfl rfl dX11_draws_48 ?_
    refine fg_494 X hw 4 rfl rfl dX11_draws_51 ?_
    exact r_i X hr hlk hw [] (fun _ => 0) rfl rfl (Or.inl (⟨h1, rfl⟩)) (by decide) (by decide) dX11_draws_54
  · have h1 : p0.toInt < 0 := by have q := ci_nle (a := 0) (b := p0.toInt) (by decide) rfl h1; omega
    refine lv_bipush (v := (-3)) hx hb dX11_draws_4 (by decide) ?_
    exact r_i X hr hlk hw [] (fun _ => 0) rfl rfl (Or.inr (⟨h1, rfl⟩)) (by decide) (by decide) dX11_draws_6
set_option maxHeartbeats 4000000 in
set_option maxRecDepth 100000 in
theorem c69_X12_laysLaws (l : Launch) (D : va_G) (ct : Nat → ClassId) (a0 : Nat) (a1 : Nat) (a2 : Nat) (a3 : Nat) (a4 : Nat) (a5 : Nat) (a6 : Nat) (a7 : Nat) (a8 : Nat) (a9 : Nat) (a10 : Nat) (a11 : Nat) (a12 : Nat) (a13 : Nat) (a14 : Nat) (a15 : Nat) (a16 : Nat) : CV l yX12_laysLaws cX12_laysLaws 3 none { frames := 0, cells := 0, slots := 0, locals := 0 } D ct [.ref a0] [(a0, .inr (12, [.int 0, .ref a1, .ref a2, .ref a3, .ref a4, .int 0, .int 0, .int 0, .int 0, .int 0, .int 0, .int 0, .int 0, .int 0, .int (-1), .ref a5, .ref a6, .ref a7, .ref a8, .int 0, .ref a9, .ref a10, .int 0, .int 0, .int 0, .ref a11, .ref a12, .ref a13, .ref a14, .ref a15, .ref a16])), (a1, .inl (ct 0, 5310, .inl fx0))] True (fun u => [(a0, .inr (12, [.int 0, .ref a1, .ref a2, .ref a3, .ref a4, .int 0, .int 0, .int 0, .int 0, .int 0, .int 0, .int 0, .int 0, .int 0, .int (-1), .ref a5, .ref a6, .ref a7, .ref a8, .int 0, .ref a9, .ref a10, .int 0, .int 0, .int 0, .ref a11, .ref a12, .ref a13, .ref a14, .ref a15, .ref a16])), (a1, .inl (ct 0, 5310, .inl fx0))]) := by
  refine CV.of (by decide +kernel) (Nat.le_of_ble_eq_true rfl) ?_
  intro p e s m below meth c A ls hE
  obtain ⟨X, hr, hlk, hnm, hw, hl⟩ := hE
  have X : CX p m c cX12_laysLaws 3 s [.ref a0].toArray RX12 D ct := X
  have hl : lv_has ls 3 [(0, .ref a0)] := hl
  obtain ⟨⟨hx, hb, hml, hown, hts⟩, hK⟩ := id X
  refine lv_iconst (v := 0) hx hb dX12_laysLaws_0 (by decide) ?_
  refine lv_istore_n (lv' := [(1, .int 0), (0, .ref a0)]) hx hb dX12_laysLaws_1 rfl hl (by decide) rfl (fun ls hl => ?_)
  refine lv_iload_n hx hb dX12_laysLaws_2 rfl (lv_at hl 0 rfl) ?_
  refine lv_aload_n hx hb dX12_laysLaws_3 rfl (lv_at hl 1 rfl) ?_
  refine fg_1443 X hw 0 rfl rfl dX12_laysLaws_4 ?_
  refine lv_iconst (v := 2) hx hb dX12_laysLaws_7 (by decide) ?_
  refine j_iald (j := 2) (v := 0) X hw 1 rfl (by decide) (by decide) (by decide) rfl dX12_laysLaws_8 ?_
  refine lv_icmp_ge (tgt := 81) hx hb dX12_laysLaws_9 (by decide) (fun _ => ?_) (fun h => absurd (by decide) h)
  exact r_v X hr hlk hw [0, 1] (fun _ => 0) rfl rfl trivial (by decide) (by decide) dX12_laysLaws_81
set_option maxHeartbeats 4000000 in
set_option maxRecDepth 100000 in
theorem c70_X12_goesMaps (l : Launch) (D : va_G) (ct : Nat → ClassId) (a0 : Nat) (f0 : Nat → Int32) (a1 : Nat) (a2 : Nat) (a3 : Nat) (a4 : Nat) (a5 : Nat) (a6 : Nat) (a7 : Nat) (a8 : Nat) (a9 : Nat) (a10 : Nat) (a11 : Nat) (a12 : Nat) (a13 : Nat) (a14 : Nat) (a15 : Nat) (a16 : Nat) : CV l yX12_goesMaps cX12_goesMaps 6 none { frames := 0, cells := 0, slots := 0, locals := 0 } D ct [.ref a0, .int 0, .int 0, .int 0, .int (-1)] [(a1, .inl (ct 0, 40320, .inl f0)), (a0, .inr (12, [.int 0, .ref a2, .ref a3, .ref a4, .ref a5, .int 0, .int 0, .int 0, .int 0, .int 0, .int 0, .int 0, .int 0, .int 0, .int (-1), .ref a6, .ref a7, .ref a8, .ref a1, .int 0, .ref a9, .ref a10, .int 0, .int 0, .int 0, .ref a11, .ref a12, .ref a13, .ref a14, .ref a15, .ref a16])), (a2, .inl (ct 0, 5310, .inl fx0))] True (fun u => [(a1, .inl (ct 0, 40320, .inl (upd f0 0 0))), (a0, .inr (12, [.int 0, .ref a2, .ref a3, .ref a4, .ref a5, .int 0, .int 0, .int 0, .int 0, .int 0, .int 0, .int 0, .int 0, .int 0, .int (-1), .ref a6, .ref a7, .ref a8, .ref a1, .int 1, .ref a9, .ref a10, .int 0, .int 0, .int 0, .ref a11, .ref a12, .ref a13, .ref a14, .ref a15, .ref a16])), (a2, .inl (ct 0, 5310, .inl fx0))]) := by
  refine CV.of (by decide +kernel) (Nat.le_of_ble_eq_true rfl) ?_
  intro p e s m below meth c A ls hE
  obtain ⟨X, hr, hlk, hnm, hw, hl⟩ := hE
  have X : CX p m c cX12_goesMaps 6 s [.ref a0, .int 0, .int 0, .int 0, .int (-1)].toArray RX12 D ct := X
  have hl : lv_has ls 6 [(0, .ref a0), (1, .int 0), (2, .int 0), (3, .int 0), (4, .int (-1))] := hl
  obtain ⟨⟨hx, hb, hml, hown, hts⟩, hK⟩ := id X
  refine lv_iload_n hx hb dX12_goesMaps_0 rfl (lv_at hl 1 rfl) ?_
  refine lv_aload_n hx hb dX12_goesMaps_1 rfl (lv_at hl 0 rfl) ?_
  refine fg_1443 X hw 1 rfl rfl dX12_goesMaps_2 ?_
  refine lv_iconst (v := 2) hx hb dX12_goesMaps_5 (by decide) ?_
  refine j_iald (j := 2) (v := 0) X hw 2 rfl (by decide) (by decide) (by decide) rfl dX12_goesMaps_6 ?_
  refine lv_icmp_ne (tgt := 31) hx hb dX12_goesMaps_7 (by decide) (fun h => absurd rfl h) (fun _ => ?_)
  refine lv_aload_n hx hb dX12_goesMaps_10 rfl (lv_at hl 0 rfl) ?_
  refine fg_1460 X hw 1 rfl rfl dX12_goesMaps_11 ?_
  refine lv_aload_n hx hb dX12_goesMaps_14 rfl (lv_at hl 0 rfl) ?_
  refine fg_1461 X hw 1 rfl rfl dX12_goesMaps_15 ?_
  refine lv_iload_n hx hb dX12_goesMaps_18 rfl (lv_at hl 3 rfl) ?_
  refine j_iast (j := 0) X hw 0 rfl (by decide) (by decide) (by decide) dX12_goesMaps_19 [(a1, .inl (ct 0, 40320, .inl (upd f0 0 0))), (a0, .inr (12, [.int 0, .ref a2, .ref a3, .ref a4, .ref a5, .int 0, .int 0, .int 0, .int 0, .int 0, .int 0, .int 0, .int 0, .int 0, .int (-1), .ref a6, .ref a7, .ref a8, .ref a1, .int 0, .ref a9, .ref a10, .int 0, .int 0, .int 0, .ref a11, .ref a12, .ref a13, .ref a14, .ref a15, .ref a16])), (a2, .inl (ct 0, 5310, .inl fx0))] rfl (fun H locs hw => ?_)
  refine lv_aload_n hx hb dX12_goesMaps_20 rfl (lv_at hl 0 rfl) ?_
  refine lv_dup hx hb dX12_goesMaps_21 rfl ?_
  refine fg_1461 X hw 1 rfl rfl dX12_goesMaps_22 ?_
  refine lv_iconst (v := 1) hx hb dX12_goesMaps_25 (by decide) ?_
  refine kv_iadd (v := 1) hx hb (by decide) dX12_goesMaps_26 ?_
  refine fp_1461 X hw 1 rfl rfl rfl (Nat.le_of_ble_eq_true rfl) dX12_goesMaps_27 [(a1, .inl (ct 0, 40320, .inl (upd f0 0 0))), (a0, .inr (12, [.int 0, .ref a2, .ref a3, .ref a4, .ref a5, .int 0, .int 0, .int 0, .int 0, .int 0, .int 0, .int 0, .int 0, .int 0, .int (-1), .ref a6, .ref a7, .ref a8, .ref a1, .int 1, .ref a9, .ref a10, .int 0, .int 0, .int 0, .ref a11, .ref a12, .ref a13, .ref a14, .ref a15, .ref a16])), (a2, .inl (ct 0, 5310, .inl fx0))] rfl (fun H locs hw => ?_)
  exact r_v X hr hlk hw [0, 1, 2] (fun _ => 0) rfl rfl trivial (by decide) (by decide) dX12_goesMaps_30
set_option maxHeartbeats 4000000 in
set_option maxRecDepth 100000 in
theorem c71_X12_laysMaps (l : Launch) (D : va_G) (ct : Nat → ClassId) (a0 : Nat) (a1 : Nat) (a2 : Nat) (a3 : Nat) (a4 : Nat) (a5 : Nat) (a6 : Nat) (a7 : Nat) (a8 : Nat) (a9 : Nat) (a10 : Nat) (a11 : Nat) (a12 : Nat) (a13 : Nat) (a14 : Nat) (a15 : Nat) (a16 : Nat) (f0 : Nat → Int32) : CV l yX12_laysMaps cX12_laysMaps 2 none { frames := 1, cells := 0, slots := 0, locals := 25 } D ct [.ref a0, .int (-1)] [(a0, .inr (12, [.int 0, .ref a1, .ref a2, .ref a3, .ref a4, .int 0, .int 0, .int 0, .int 0, .int 0, .int 0, .int 0, .int 0, .int 0, .int (-1), .ref a5, .ref a6, .ref a7, .ref a8, .int 0, .ref a9, .ref a10, .int 0, .int 0, .int 0, .ref a11, .ref a12, .ref a13, .ref a14, .ref a15, .ref a16])), (a8, .inl (ct 0, 40320, .inl f0)), (a1, .inl (ct 0, 5310, .inl fx0))] True (fun u => [(a8, .inl (ct 0, 40320, .inl (upd f0 0 0))), (a0, .inr (12, [.int 0, .ref a1, .ref a2, .ref a3, .ref a4, .int 0, .int 0, .int 0, .int 0, .int 0, .int 0, .int 0, .int 0, .int 0, .int (-1), .ref a5, .ref a6, .ref a7, .ref a8, .int 1, .ref a9, .ref a10, .int 0, .int 0, .int 0, .ref a11, .ref a12, .ref a13, .ref a14, .ref a15, .ref a16])), (a1, .inl (ct 0, 5310, .inl fx0))]) := by
  refine CV.of (by decide +kernel) (Nat.le_of_ble_eq_true rfl) ?_
  intro p e s m below meth c A ls hE
  obtain ⟨X, hr, hlk, hnm, hw, hl⟩ := hE
  have X : CX p m c cX12_laysMaps 2 s [.ref a0, .int (-1)].toArray RX12 D ct := X
  have hl : lv_has ls 2 [(0, .ref a0), (1, .int (-1))] := hl
  obtain ⟨⟨hx, hb, hml, hown, hts⟩, hK⟩ := id X
  refine lv_aload_n hx hb dX12_laysMaps_0 rfl (lv_at hl 0 rfl) ?_
  refine m_Vv (As := []) (rest := []) (c69_X12_laysLaws l D ct a0 a1 a2 a3 a4 a5 a6 a7 a8 a9 a10 a11 a12 a13 a14 a15 a16) X hl.1 kw_1720 kd_yX12_laysLaws hw [0, 2] [1] rfl rfl rfl rfl (by decide) 0 rfl rfl ⟨by decide, by decide⟩ rfl rfl (Nat.le_of_ble_eq_true rfl) dX12_laysMaps_1 ⟨by decide, by decide⟩ (fun u2 H locs hr3 hw => ?_)
  replace hw : WD D A s.heap _ _ [(a8, .inl (ct 0, 40320, .inl f0)), (a0, .inr (12, [.int 0, .ref a1, .ref a2, .ref a3, .ref a4, .int 0, .int 0, .int 0, .int 0, .int 0, .int 0, .int 0, .int 0, .int 0, .int (-1), .ref a5, .ref a6, .ref a7, .ref a8, .int 0, .ref a9, .ref a10, .int 0, .int 0, .int 0, .ref a11, .ref a12, .ref a13, .ref a14, .ref a15, .ref a16])), (a1, .inl (ct 0, 5310, .inl fx0))] := hw
  refine lv_aload_n hx hb dX12_laysMaps_4 rfl (lv_at hl 0 rfl) ?_
  refine lv_iconst (v := 0) hx hb dX12_laysMaps_5 (by decide) ?_
  refine fp_1461 X hw 1 rfl rfl rfl (Nat.le_of_ble_eq_true rfl) dX12_laysMaps_6 [(a8, .inl (ct 0, 40320, .inl f0)), (a0, .inr (12, [.int 0, .ref a1, .ref a2, .ref a3, .ref a4, .int 0, .int 0, .int 0, .int 0, .int 0, .int 0, .int 0, .int 0, .int 0, .int (-1), .ref a5, .ref a6, .ref a7, .ref a8, .int 0, .ref a9, .ref a10, .int 0, .int 0, .int 0, .ref a11, .ref a12, .ref a13, .ref a14, .ref a15, .ref a16])), (a1, .inl (ct 0, 5310, .inl fx0))] rfl (fun H locs hw => ?_)
  refine lv_aload_n hx hb dX12_laysMaps_9 rfl (lv_at hl 0 rfl) ?_
  refine lv_iconst (v := 0) hx hb dX12_laysMaps_10 (by decide) ?_
  refine lv_iconst (v := 0) hx hb dX12_laysMaps_11 (by decide) ?_
  refine lv_iconst (v := 0) hx hb dX12_laysMaps_12 (by decide) ?_
  refine lv_iload_n hx hb dX12_laysMaps_13 rfl (lv_at hl 1 rfl) ?_
  refine m_Vv (As := [.int 0, .int 0, .int 0, .int (-1)]) (rest := []) (c70_X12_goesMaps l D ct a0 f0 a8 a1 a2 a3 a4 a5 a6 a7 a9 a10 a11 a12 a13 a14 a15 a16) X hl.1 kw_1724 kd_yX12_goesMaps hw [0, 1, 2] [] rfl rfl rfl rfl (by decide) 1 rfl rfl ⟨by decide, by decide⟩ rfl rfl (Nat.le_of_ble_eq_true rfl) dX12_laysMaps_14 ⟨by decide, by decide⟩ (fun u5 H locs hr6 hw => ?_)
  replace hw : WD D A s.heap _ _ [(a8, .inl (ct 0, 40320, .inl (upd f0 0 0))), (a0, .inr (12, [.int 0, .ref a1, .ref a2, .ref a3, .ref a4, .int 0, .int 0, .int 0, .int 0, .int 0, .int 0, .int 0, .int 0, .int 0, .int (-1), .ref a5, .ref a6, .ref a7, .ref a8, .int 1, .ref a9, .ref a10, .int 0, .int 0, .int 0, .ref a11, .ref a12, .ref a13, .ref a14, .ref a15, .ref a16])), (a1, .inl (ct 0, 5310, .inl fx0))] := hw
  exact r_v X hr hlk hw [0, 1, 2] (fun _ => 0) rfl rfl trivial (by decide) (by decide) dX12_laysMaps_17
