set_option maxHeartbeats 4000000 in
set_option maxRecDepth 100000 in
theorem c113_X12_year (l : Launch) (D : va_G) (ct : Nat → ClassId) (a0 : Nat) (p0 : Int32) (p1 : Int32) (a1 : Nat) (a2 : Nat) (a3 : Nat) (a4 : Nat) (a5 : Nat) (a6 : Nat) (a7 : Nat) (a8 : Nat) (a9 : Nat) (a10 : Nat) (a11 : Nat) (a12 : Nat) (a13 : Nat) (a14 : Nat) (a15 : Nat) (a16 : Nat) : CI l yX12_year cX12_year 7 (some .int) { frames := 1, cells := 0, slots := 0, locals := 25 } D ct [.ref a0, .int p0, .int p1] [(a0, .inr (12, [.int 0, .ref a1, .ref a2, .ref a3, .ref a4, .int 0, .int 0, .int 0, .int 0, .int 0, .int 0, .int 0, .int 0, .int 0, .int (-1), .ref a5, .ref a6, .ref a7, .ref a8, .int 0, .ref a9, .ref a10, .int 0, .int 0, .int 0, .ref a11, .ref a12, .ref a13, .ref a14, .ref a15, .ref a16])), (a1, .inl (ct 0, 5310, .inl fx0))] (fun r => (((p1.toInt < 1) ∨ (p1.toInt ≥ 1 ∧ p1.toInt > 30))) ∧ r = (-3) ∨ (p1.toInt ≥ 1 ∧ p1.toInt ≤ 30) ∧ r = (-5)) (fun u => []) := by
  refine CI.of (by decide +kernel) (Nat.le_of_ble_eq_true rfl) ?_
  intro p e s m below meth c A ls hE
  obtain ⟨X, hr, hlk, hnm, hw, hl⟩ := hE
  have X : CX p m c cX12_year 7 s [.ref a0, .int p0, .int p1].toArray RX12 D ct := X
  have hl : lv_has ls 7 [(0, .ref a0), (1, .int p0), (2, .int p1)] := hl
  obtain ⟨⟨hx, hb, hml, hown, hts⟩, hK⟩ := id X
  refine lv_aload_n hx hb dX12_year_0 rfl (lv_at hl 0 rfl) ?_
  refine lv_iconst (v := 0) hx hb dX12_year_1 (by decide) ?_
  refine fp_1442 X hw 0 rfl rfl rfl (Nat.le_of_ble_eq_true rfl) dX12_year_2 [(a0, .inr (12, [.int 0, .ref a1, .ref a2, .ref a3, .ref a4, .int 0, .int 0, .int 0, .int 0, .int 0, .int 0, .int 0, .int 0, .int 0, .int (-1), .ref a5, .ref a6, .ref a7, .ref a8, .int 0, .ref a9, .ref a10, .int 0, .int 0, .int 0, .ref a11, .ref a12, .ref a13, .ref a14, .ref a15, .ref a16])), (a1, .inl (ct 0, 5310, .inl fx0))] rfl (fun H locs hw => ?_)
  refine lv_iload_n hx hb dX12_year_5 rfl (lv_at hl 2 rfl) ?_
  refine lv_i2l (v := p1.toInt64) hx hb dX12_year_6 rfl ?_
  refine lv_lconst (v := 1) hx hb dX12_year_7 (by decide) ?_
  refine lv_ldc2 hx hb hown (hts _ wd_1848) dX12_year_8 ?_
  refine m_Si (As := [.long p1.toInt64, .long 1, .long 30]) (rest := []) (c112_X12_within l D ct (p1.toInt64)) X hl.1 kw_1545 kd_yX12_within hw [] [0, 1] rfl rfl rfl rfl (by decide) ⟨by decide, by decide⟩ rfl rfl (Nat.le_of_ble_eq_true rfl) dX12_year_11 ⟨by decide, by decide⟩ (fun r1 u2 H locs hr3 hw => ?_)
  replace hw : WD D A s.heap _ _ [(a0, .inr (12, [.int 0, .ref a1, .ref a2, .ref a3, .ref a4, .int 0, .int 0, .int 0, .int 0, .int 0, .int 0, .int 0, .int 0, .int 0, .int (-1), .ref a5, .ref a6, .ref a7, .ref a8, .int 0, .ref a9, .ref a10, .int 0, .int 0, .int 0, .ref a11, .ref a12, .ref a13, .ref a14, .ref a15, .ref a16])), (a1, .inl (ct 0, 5310, .inl fx0))] := hw
  rcases hr3 with ⟨h4, rfl⟩ | ⟨⟨h5, h6⟩, rfl⟩
  · skip
    simp only [i64i] at h4
    refine lv_if_ne (tgt := 20) hx hb dX12_year_14 (by decide) (fun h => absurd rfl h) (fun _ => ?_)
    refine lv_bipush (v := (-3)) hx hb dX12_year_17 (by decide) ?_
    exact r_i X hr hlk hw [] (fun _ => 0) rfl rfl (Or.inl (⟨h4, rfl⟩)) (by decide) (by decide) dX12_year_19
  · skip
    rw [i64i] at h5
    rw [i64i] at h6
    refine lv_if_ne (tgt := 20) hx hb dX12_year_14 (by decide) (fun _ => ?_) (fun h => absurd h (by decide))
    refine lv_aload_n hx hb dX12_year_20 rfl (lv_at hl 0 rfl) ?_
    refine fg_1443 X hw 0 rfl rfl dX12_year_21 ?_
    refine lv_iconst (v := 1) hx hb dX12_year_24 (by decide) ?_
    refine j_iald (j := 1) (v := 0) X hw 1 rfl (by decide) (by decide) (by decide) rfl dX12_year_25 ?_
    refine lv_if_eq (tgt := 38) hx hb dX12_year_26 (by decide) (fun _ => ?_) (fun h => absurd (by decide) h)
    refine lv_bipush (v := (-5)) hx hb dX12_year_38 (by decide) ?_
    exact r_i X hr hlk hw [] (fun _ => 0) rfl rfl (Or.inr (⟨⟨h5, h6⟩, rfl⟩)) (by decide) (by decide) dX12_year_40
set_option maxHeartbeats 4000000 in
set_option maxRecDepth 100000 in
theorem c114_X11_tallyAll (l : Launch) (D : va_G) (ct : Nat → ClassId) (a0 : Nat) (a1 : Nat) (a2 : Nat) (a3 : Nat) (a4 : Nat) (a5 : Nat) (a6 : Nat) (a7 : Nat) (a8 : Nat) (a9 : Nat) (a10 : Nat) (a11 : Nat) (a12 : Nat) (a13 : Nat) (a14 : Nat) (a15 : Nat) (a16 : Nat) (a17 : Nat) (a18 : Nat) (a19 : Nat) (a20 : Nat) (a21 : Nat) (a22 : Nat) (a23 : Nat) (f0 : Nat → Int32) (a24 : Nat) (a25 : Nat) (a26 : Nat) (a27 : Nat) (a28 : Nat) : CI l yX11_tallyAll cX11_tallyAll 1 (some .int) { frames := 3, cells := 0, slots := 0, locals := 84 } D ct [.ref a0] [(a0, .inr (11, [.ref a1, .int 0, .ref a2, .ref a3, .ref a4, .ref a5, .ref a6, .ref a7, .ref a8, .ref a9, .ref a10, .ref a11, .ref a12, .ref a13, .ref a14, .ref a15, .int (-1), .int (-1)])), (a2, .inr (2, [.int 0, .int 0, .int 0, .ref a16, .ref a17, .ref a18, .int 0, .int 0, .int 0, .int 0, .int 0, .ref a19, .int 0])), (a4, .inr (9, [.ref a20, .ref a21, .ref a2, .ref a22, .ref a23, .int (-1)])), (a20, .inl (ct 0, 7, .inl f0)), (a5, .inr (5, [.ref a24, .ref a25, .ref a26, .ref a27, .ref a28, .int 0, .int 0])), (a25, .inl (ct 0, 256, .inl (fun _ => 0))), (a28, .inl (ct 0, 7, .inl f0))] (fun r => r = 1) (fun u => [(a0, .inr (11, [.ref a1, .int 0, .ref a2, .ref a3, .ref a4, .ref a5, .ref a6, .ref a7, .ref a8, .ref a9, .ref a10, .ref a11, .ref a12, .ref a13, .ref a14, .ref a15, .int (-1), .int (-1)])), (a2, .inr (2, [.int 0, .int 0, .int 0, .ref a16, .ref a17, .ref a18, .int 0, .int 0, .int 0, .int 0, .int 0, .ref a19, .int 0])), (a4, .inr (9, [.ref a20, .ref a21, .ref a2, .ref a22, .ref a23, .int 0])), (a20, .inl (ct 0, 7, .inl f0)), (a25, .inl (ct 0, 256, .inl (upd (fun _ => 0) 0 1))), (a28, .inl (ct 0, 7, .inl (va_cpy f0 f0 0 0 0))), (a5, .inr (5, [.ref a24, .ref a25, .ref a26, .ref a27, .ref a28, .int 0, .int 0]))]) := by
  refine CI.of (by decide +kernel) (Nat.le_of_ble_eq_true rfl) ?_
  intro p e s m below meth c A ls hE
  obtain ⟨X, hr, hlk, hnm, hw, hl⟩ := hE
  have X : CX p m c cX11_tallyAll 1 s [.ref a0].toArray RX11 D ct := X
  have hl : lv_has ls 1 [(0, .ref a0)] := hl
  obtain ⟨⟨hx, hb, hml, hown, hts⟩, hK⟩ := id X
  refine lv_aload_n hx hb dX11_tallyAll_0 rfl (lv_at hl 0 rfl) ?_
  refine fg_569 X hw 0 rfl rfl dX11_tallyAll_1 ?_
  refine m_Vv (As := []) (rest := []) (c60_X9_refresh l D ct a4 a2 a16 a17 a18 a19 a20 a21 a22 a23) X hl.1 kw_911 kd_yX9_refresh hw [1, 2] [0, 3, 4, 5, 6] rfl rfl rfl rfl (by decide) 1 rfl rfl ⟨by decide, by decide⟩ rfl rfl (Nat.le_of_ble_eq_true rfl) dX11_tallyAll_4 ⟨by decide, by decide⟩ (fun u2 H locs hr3 hw => ?_)
  replace hw : WD D A s.heap _ _ [(a0, .inr (11, [.ref a1, .int 0, .ref a2, .ref a3, .ref a4, .ref a5, .ref a6, .ref a7, .ref a8, .ref a9, .ref a10, .ref a11, .ref a12, .ref a13, .ref a14, .ref a15, .int (-1), .int (-1)])), (a20, .inl (ct 0, 7, .inl f0)), (a5, .inr (5, [.ref a24, .ref a25, .ref a26, .ref a27, .ref a28, .int 0, .int 0])), (a25, .inl (ct 0, 256, .inl (fun _ => 0))), (a28, .inl (ct 0, 7, .inl f0)), (a2, .inr (2, [.int 0, .int 0, .int 0, .ref a16, .ref a17, .ref a18, .int 0, .int 0, .int 0, .int 0, .int 0, .ref a19, .int 0])), (a4, .inr (9, [.ref a20, .ref a21, .ref a2, .ref a22, .ref a23, .int 0]))] := hw
  refine lv_aload_n hx hb dX11_tallyAll_7 rfl (lv_at hl 0 rfl) ?_
  refine fg_570 X hw 0 rfl rfl dX11_tallyAll_8 ?_
  refine lv_aload_n hx hb dX11_tallyAll_11 rfl (lv_at hl 0 rfl) ?_
  refine fg_569 X hw 0 rfl rfl dX11_tallyAll_12 ?_
  refine fg_333 X hw 6 rfl rfl dX11_tallyAll_15 ?_
  refine lv_aload_n hx hb dX11_tallyAll_18 rfl (lv_at hl 0 rfl) ?_
  refine fg_567 X hw 0 rfl rfl dX11_tallyAll_19 ?_
  refine fg_225 X hw 5 rfl rfl dX11_tallyAll_22 ?_
  refine lv_aload_n hx hb dX11_tallyAll_25 rfl (lv_at hl 0 rfl) ?_
  refine fg_567 X hw 0 rfl rfl dX11_tallyAll_26 ?_
  refine fg_217 X hw 5 rfl rfl dX11_tallyAll_29 ?_
  refine m_Vi (As := [.ref a20, .int 0, .int 0]) (rest := []) (c63_X5_tally l D ct a5 a20 f0 a24 a25 a26 a27 a28) X hl.1 kw_1144 kd_yX5_tally hw [1, 2, 3, 4] [0, 5, 6] rfl rfl rfl rfl (by decide) 1 rfl rfl ⟨by decide, by decide⟩ rfl rfl (Nat.le_of_ble_eq_true rfl) dX11_tallyAll_32 ⟨by decide, by decide⟩ (fun r4 u5 H locs hr6 hw => ?_)
  replace hw : WD D A s.heap _ _ [(a0, .inr (11, [.ref a1, .int 0, .ref a2, .ref a3, .ref a4, .ref a5, .ref a6, .ref a7, .ref a8, .ref a9, .ref a10, .ref a11, .ref a12, .ref a13, .ref a14, .ref a15, .int (-1), .int (-1)])), (a2, .inr (2, [.int 0, .int 0, .int 0, .ref a16, .ref a17, .ref a18, .int 0, .int 0, .int 0, .int 0, .int 0, .ref a19, .int 0])), (a4, .inr (9, [.ref a20, .ref a21, .ref a2, .ref a22, .ref a23, .int 0])), (a20, .inl (ct 0, 7, .inl f0)), (a25, .inl (ct 0, 256, .inl (upd (fun _ => 0) 0 1))), (a28, .inl (ct 0, 7, .inl (va_cpy f0 f0 0 0 0))), (a5, .inr (5, [.ref a24, .ref a25, .ref a26, .ref a27, .ref a28, .int 0, .int 0]))] := hw
  subst hr6
  exact r_i X hr hlk hw [0, 1, 2, 3, 4, 5, 6] (fun _ => 0) rfl rfl rfl (by decide) (by decide) dX11_tallyAll_35
set_option maxHeartbeats 4000000 in
set_option maxRecDepth 100000 in
theorem c115_X11_maps (l : Launch) (D : va_G) (ct : Nat → ClassId) (a0 : Nat) (a1 : Nat) (a2 : Nat) (a3 : Nat) (a4 : Nat) (a5 : Nat) (a6 : Nat) (a7 : Nat) (a8 : Nat) (a9 : Nat) (a10 : Nat) (a11 : Nat) (a12 : Nat) (a13 : Nat) (a14 : Nat) (a15 : Nat) (a16 : Nat) (a17 : Nat) (a18 : Nat) (a19 : Nat) (a20 : Nat) (a21 : Nat) (a22 : Nat) (a23 : Nat) (f0 : Nat → Int32) (a24 : Nat) (a25 : Nat) (a26 : Nat) (a27 : Nat) (a28 : Nat) : CI l yX11_maps cX11_maps 1 (some .int) { frames := 4, cells := 0, slots := 0, locals := 104 } D ct [.ref a0] [(a0, .inr (11, [.ref a1, .int 0, .ref a2, .ref a3, .ref a4, .ref a5, .ref a6, .ref a7, .ref a8, .ref a9, .ref a10, .ref a11, .ref a12, .ref a13, .ref a14, .ref a15, .int (-1), .int (-1)])), (a2, .inr (2, [.int 0, .int 0, .int 0, .ref a16, .ref a17, .ref a18, .int 0, .int 0, .int 0, .int 0, .int 0, .ref a19, .int 0])), (a4, .inr (9, [.ref a20, .ref a21, .ref a2, .ref a22, .ref a23, .int (-1)])), (a20, .inl (ct 0, 7, .inl f0)), (a5, .inr (5, [.ref a24, .ref a25, .ref a26, .ref a27, .ref a28, .int 0, .int 0])), (a25, .inl (ct 0, 256, .inl (fun _ => 0))), (a28, .inl (ct 0, 7, .inl f0))] (fun r => r = 1) (fun u => []) := by
  refine CI.of (by decide +kernel) (Nat.le_of_ble_eq_true rfl) ?_
  intro p e s m below meth c A ls hE
  obtain ⟨X, hr, hlk, hnm, hw, hl⟩ := hE
  have X : CX p m c cX11_maps 1 s [.ref a0].toArray RX11 D ct := X
  have hl : lv_has ls 1 [(0, .ref a0)] := hl
  obtain ⟨⟨hx, hb, hml, hown, hts⟩, hK⟩ := id X
  refine lv_aload_n hx hb dX11_maps_0 rfl (lv_at hl 0 rfl) ?_
  refine m_Vi (As := []) (rest := []) (c114_X11_tallyAll l D ct a0 a1 a2 a3 a4 a5 a6 a7 a8 a9 a10 a11 a12 a13 a14 a15 a16 a17 a18 a19 a20 a21 a22 a23 f0 a24 a25 a26 a27 a28) X hl.1 kw_1140 kd_yX11_tallyAll hw [0, 1, 2, 3, 4, 5, 6] [] rfl rfl rfl rfl (by decide) 0 rfl rfl ⟨by decide, by decide⟩ rfl rfl (Nat.le_of_ble_eq_true rfl) dX11_maps_1 ⟨by decide, by decide⟩ (fun r1 u2 H locs hr3 hw => ?_)
  replace hw : WD D A s.heap _ _ [(a0, .inr (11, [.ref a1, .int 0, .ref a2, .ref a3, .ref a4, .ref a5, .ref a6, .ref a7, .ref a8, .ref a9, .ref a10, .ref a11, .ref a12, .ref a13, .ref a14, .ref a15, .int (-1), .int (-1)])), (a2, .inr (2, [.int 0, .int 0, .int 0, .ref a16, .ref a17, .ref a18, .int 0, .int 0, .int 0, .int 0, .int 0, .ref a19, .int 0])), (a4, .inr (9, [.ref a20, .ref a21, .ref a2, .ref a22, .ref a23, .int 0])), (a20, .inl (ct 0, 7, .inl f0)), (a25, .inl (ct 0, 256, .inl (upd (fun _ => 0) 0 1))), (a28, .inl (ct 0, 7, .inl (va_cpy f0 f0 0 0 0))), (a5, .inr (5, [.ref a24, .ref a25, .ref a26, .ref a27, .ref a28, .int 0, .int 0]))] := hw
  subst hr3
  exact r_i X hr hlk hw [] (fun _ => 0) rfl rfl rfl (by decide) (by decide) dX11_maps_4
set_option maxHeartbeats 4000000 in
set_option maxRecDepth 100000 in
theorem c116_X12_maps (l : Launch) (D : va_G) (ct : Nat → ClassId) (a0 : Nat) (a1 : Nat) (a2 : Nat) (a3 : Nat) (a4 : Nat) (a5 : Nat) (a6 : Nat) (a7 : Nat) (a8 : Nat) (a9 : Nat) (a10 : Nat) (a11 : Nat) (a12 : Nat) (a13 : Nat) (a14 : Nat) (a15 : Nat) (a16 : Nat) (f0 : Nat → Int32) : CI l yX12_maps cX12_maps 1 (some .int) { frames := 2, cells := 0, slots := 0, locals := 46 } D ct [.ref a0] [(a0, .inr (12, [.int 0, .ref a1, .ref a2, .ref a3, .ref a4, .int 0, .int 0, .int 0, .int 0, .int 0, .int 0, .int 0, .int 0, .int 0, .int (-1), .ref a5, .ref a6, .ref a7, .ref a8, .int 0, .ref a9, .ref a10, .int 0, .int 0, .int 0, .ref a11, .ref a12, .ref a13, .ref a14, .ref a15, .ref a16])), (a8, .inl (ct 0, 40320, .inl f0)), (a1, .inl (ct 0, 5310, .inl fx0))] (fun r => r = 1) (fun u => []) := by
  refine CI.of (by decide +kernel) (Nat.le_of_ble_eq_true rfl) ?_
  intro p e s m below meth c A ls hE
  obtain ⟨X, hr, hlk, hnm, hw, hl⟩ := hE
  have X : CX p m c cX12_maps 1 s [.ref a0].toArray RX12 D ct := X
  have hl : lv_has ls 1 [(0, .ref a0)] := hl
  obtain ⟨⟨hx, hb, hml, hown, hts⟩, hK⟩ := id X
  refine lv_aload_n hx hb dX12_maps_0 rfl (lv_at hl 0 rfl) ?_
  refine lv_iconst (v := 0) hx hb dX12_maps_1 (by decide) ?_
  refine fp_1442 X hw 0 rfl rfl rfl (Nat.le_of_ble_eq_true rfl) dX12_maps_2 [(a0, .inr (12, [.int 0, .ref a1, .ref a2, .ref a3, .ref a4, .int 0, .int 0, .int 0, .int 0, .int 0, .int 0, .int 0, .int 0, .int 0, .int (-1), .ref a5, .ref a6, .ref a7, .ref a8, .int 0, .ref a9, .ref a10, .int 0, .int 0, .int 0, .ref a11, .ref a12, .ref a13, .ref a14, .ref a15, .ref a16])), (a8, .inl (ct 0, 40320, .inl f0)), (a1, .inl (ct 0, 5310, .inl fx0))] rfl (fun H locs hw => ?_)
  refine lv_aload_n hx hb dX12_maps_5 rfl (lv_at hl 0 rfl) ?_
  refine lv_iconst (v := (-1)) hx hb dX12_maps_6 (by decide) ?_
  refine m_Vv (As := [.int (-1)]) (rest := []) (c71_X12_laysMaps l D ct a0 a1 a2 a3 a4 a5 a6 a7 a8 a9 a10 a11 a12 a13 a14 a15 a16 f0) X hl.1 kw_1716 kd_yX12_laysMaps hw [0, 1, 2] [] rfl rfl rfl rfl (by decide) 0 rfl rfl ⟨by decide, by decide⟩ rfl rfl (Nat.le_of_ble_eq_true rfl) dX12_maps_7 ⟨by decide, by decide⟩ (fun u2 H locs hr3 hw => ?_)
  replace hw : WD D A s.heap _ _ [(a8, .inl (ct 0, 40320, .inl (upd f0 0 0))), (a0, .inr (12, [.int 0, .ref a1, .ref a2, .ref a3, .ref a4, .int 0, .int 0, .int 0, .int 0, .int 0, .int 0, .int 0, .int 0, .int 0, .int (-1), .ref a5, .ref a6, .ref a7, .ref a8, .int 1, .ref a9, .ref a10, .int 0, .int 0, .int 0, .ref a11, .ref a12, .ref a13, .ref a14, .ref a15, .ref a16])), (a1, .inl (ct 0, 5310, .inl fx0))] := hw
  refine lv_aload_n hx hb dX12_maps_10 rfl (lv_at hl 0 rfl) ?_
  refine fg_1461 X hw 1 rfl rfl dX12_maps_11 ?_
  exact r_i X hr hlk hw [] (fun _ => 0) rfl rfl rfl (by decide) (by decide) dX12_maps_14
set_option maxHeartbeats 4000000 in
set_option maxRecDepth 100000 in
theorem c117_X11_inMap (l : Launch) (D : va_G) (ct : Nat → ClassId) (a0 : Nat) (p0 : Int32) (p1 : Int32) (a1 : Nat) (a2 : Nat) (a3 : Nat) (a4 : Nat) (a5 : Nat) (a6 : Nat) (a7 : Nat) (a8 : Nat) (a9 : Nat) (a10 : Nat) (a11 : Nat) (a12 : Nat) (a13 : Nat) (a14 : Nat) (a15 : Nat) (a16 : Nat) (a17 : Nat) (a18 : Nat) (a19 : Nat) : CI l yX11_inMap cX11_inMap 3 (some .int) { frames := 1, cells := 0, slots := 0, locals := 21 } D ct [.ref a0, .int p0, .int p1] [(a0, .inr (11, [.ref a1, .int 0, .ref a2, .ref a3, .ref a4, .ref a5, .ref a6, .ref a7, .ref a8, .ref a9, .ref a10, .ref a11, .ref a12, .ref a13, .ref a14, .ref a15, .int (-1), .int (-1)])), (a2, .inr (2, [.int 0, .int 0, .int 0, .ref a16, .ref a17, .ref a18, .int 0, .int 0, .int 0, .int 0, .int 0, .ref a19, .int 0]))] (fun r => r = (-2)) (fun u => []) := by
  refine CI.of (by decide +kernel) (Nat.le_of_ble_eq_true rfl) ?_
  intro p e s m below meth c A ls hE
  obtain ⟨X, hr, hlk, hnm, hw, hl⟩ := hE
  have X : CX p m c cX11_inMap 3 s [.ref a0, .int p0, .int p1].toArray RX11 D ct := X
  have hl : lv_has ls 3 [(0, .ref a0), (1, .int p0), (2, .int p1)] := hl
  obtain ⟨⟨hx, hb, hml, hown, hts⟩, hK⟩ := id X
  refine lv_aload_n hx hb dX11_inMap_0 rfl (lv_at hl 0 rfl) ?_
  refine lv_iload_n hx hb dX11_inMap_1 rfl (lv_at hl 2 rfl) ?_
  refine m_Vi (As := [.int p1]) (rest := []) (c47_X11_isHousehold l D ct a0 p1 a1 a2 a3 a4 a5 a6 a7 a8 a9 a10 a11 a12 a13 a14 a15 a16 a17 a18 a19) X hl.1 kw_891 kd_yX11_isHousehold hw [0, 1] [] rfl rfl rfl rfl (by decide) 0 rfl rfl ⟨by decide, by decide⟩ rfl rfl (Nat.le_of_ble_eq_true rfl) dX11_inMap_2 ⟨by decide, by decide⟩ (fun r1 u2 H locs hr3 hw => ?_)
  replace hw : WD D A s.heap _ _ [(a0, .inr (11, [.ref a1, .int 0, .ref a2, .ref a3, .ref a4, .ref a5, .ref a6, .ref a7, .ref a8, .ref a9, .ref a10, .ref a11, .ref a12, .ref a13, .ref a14, .ref a15, .int (-1), .int (-1)])), (a2, .inr (2, [.int 0, .int 0, .int 0, .ref a16, .ref a17, .ref a18, .int 0, .int 0, .int 0, .int 0, .int 0, .ref a19, .int 0]))] := hw
  subst hr3
  refine lv_if_ne (tgt := 11) hx hb dX11_inMap_5 (by decide) (fun h => absurd rfl h) (fun _ => ?_)
  refine lv_bipush (v := (-2)) hx hb dX11_inMap_8 (by decide) ?_
  exact r_i X hr hlk hw [] (fun _ => 0) rfl rfl rfl (by decide) (by decide) dX11_inMap_10
set_option maxHeartbeats 4000000 in
set_option maxRecDepth 100000 in
theorem c118_X12_inMap (l : Launch) (D : va_G) (ct : Nat → ClassId) (a0 : Nat) (p0 : Int32) (p1 : Int32) (a1 : Nat) (a2 : Nat) (a3 : Nat) (a4 : Nat) (a5 : Nat) (a6 : Nat) (a7 : Nat) (a8 : Nat) (a9 : Nat) (a10 : Nat) (a11 : Nat) (a12 : Nat) (a13 : Nat) (a14 : Nat) (a15 : Nat) (a16 : Nat) : CI l yX12_inMap cX12_inMap 3 (some .int) { frames := 2, cells := 0, slots := 0, locals := 47 } D ct [.ref a0, .int p0, .int p1] [(a0, .inr (12, [.int 0, .ref a1, .ref a2, .ref a3, .ref a4, .int 0, .int 0, .int 0, .int 0, .int 0, .int 0, .int 0, .int 0, .int 0, .int (-1), .ref a5, .ref a6, .ref a7, .ref a8, .int 0, .ref a9, .ref a10, .int 0, .int 0, .int 0, .ref a11, .ref a12, .ref a13, .ref a14, .ref a15, .ref a16])), (a1, .inl (ct 0, 5310, .inl fx0))] (fun r => r = (-2)) (fun u => []) := by
  refine CI.of (by decide +kernel) (Nat.le_of_ble_eq_true rfl) ?_
  intro p e s m below meth c A ls hE
  obtain ⟨X, hr, hlk, hnm, hw, hl⟩ := hE
  have X : CX p m c cX12_inMap 3 s [.ref a0, .int p0, .int p1].toArray RX12 D ct := X
  have hl : lv_has ls 3 [(0, .ref a0), (1, .int p0), (2, .int p1)] := hl
  obtain ⟨⟨hx, hb, hml, hown, hts⟩, hK⟩ := id X
  refine lv_aload_n hx hb dX12_inMap_0 rfl (lv_at hl 0 rfl) ?_
  refine lv_iconst (v := 0) hx hb dX12_inMap_1 (by decide) ?_
  refine fp_1442 X hw 0 rfl rfl rfl (Nat.le_of_ble_eq_true rfl) dX12_inMap_2 [(a0, .inr (12, [.int 0, .ref a1, .ref a2, .ref a3, .ref a4, .int 0, .int 0, .int 0, .int 0, .int 0, .int 0, .int 0, .int 0, .int 0, .int (-1), .ref a5, .ref a6, .ref a7, .ref a8, .int 0, .ref a9, .ref a10, .int 0, .int 0, .int 0, .ref a11, .ref a12, .ref a13, .ref a14, .ref a15, .ref a16])), (a1, .inl (ct 0, 5310, .inl fx0))] rfl (fun H locs hw => ?_)
  refine lv_aload_n hx hb dX12_inMap_5 rfl (lv_at hl 0 rfl) ?_
  refine lv_iload_n hx hb dX12_inMap_6 rfl (lv_at hl 2 rfl) ?_
  refine lv_i2l (v := p1.toInt64) hx hb dX12_inMap_7 rfl ?_
  refine m_Vi (As := [.long p1.toInt64]) (rest := []) (c49_X12_isHousehold l D ct a0 (p1.toInt64) a1 a2 a3 a4 a5 a6 a7 a8 a9 a10 a11 a12 a13 a14 a15 a16) X hl.1 kw_1667 kd_yX12_isHousehold hw [0, 1] [] rfl rfl rfl rfl (by decide) 0 rfl rfl ⟨by decide, by decide⟩ rfl rfl (Nat.le_of_ble_eq_true rfl) dX12_inMap_8 ⟨by decide, by decide⟩ (fun r1 u2 H locs hr3 hw => ?_)
  replace hw : WD D A s.heap _ _ [(a0, .inr (12, [.int 0, .ref a1, .ref a2, .ref a3, .ref a4, .int 0, .int 0, .int 0, .int 0, .int 0, .int 0, .int 0, .int 0, .int 0, .int (-1), .ref a5, .ref a6, .ref a7, .ref a8, .int 0, .ref a9, .ref a10, .int 0, .int 0, .int 0, .ref a11, .ref a12, .ref a13, .ref a14, .ref a15, .ref a16])), (a1, .inl (ct 0, 5310, .inl fx0))] := hw
  subst hr3
  refine lv_if_ne (tgt := 17) hx hb dX12_inMap_11 (by decide) (fun h => absurd rfl h) (fun _ => ?_)
  refine lv_bipush (v := (-2)) hx hb dX12_inMap_14 (by decide) ?_
  exact r_i X hr hlk hw [] (fun _ => 0) rfl rfl rfl (by decide) (by decide) dX12_inMap_16
set_option maxHeartbeats 4000000 in
set_option maxRecDepth 100000 in
theorem c119_X11_with (l : Launch) (D : va_G) (ct : Nat → ClassId) (a0 : Nat) (p0 : Int32) (p1 : Int32) (a1 : Nat) (a2 : Nat) (a3 : Nat) (a4 : Nat) (a5 : Nat) (a6 : Nat) (a7 : Nat) (a8 : Nat) (a9 : Nat) (a10 : Nat) (a11 : Nat) (a12 : Nat) (a13 : Nat) (a14 : Nat) (a15 : Nat) (a16 : Nat) (a17 : Nat) (a18 : Nat) (a19 : Nat) : CI l yX11_with cX11_with 3 (some .int) { frames := 2, cells := 0, slots := 0, locals := 43 } D ct [.ref a0, .int p0, .int p1] [(a0, .inr (11, [.ref a1, .int 0, .ref a2, .ref a3, .ref a4, .ref a5, .ref a6, .ref a7, .ref a8, .ref a9, .ref a10, .ref a11, .ref a12, .ref a13, .ref a14, .ref a15, .int (-1), .int (-1)])), (a2, .inr (2, [.int 0, .int 0, .int 0, .ref a16, .ref a17, .ref a18, .int 0, .int 0, .int 0, .int 0, .int 0, .ref a19, .int 0]))] (fun r => r = (-2)) (fun u => []) := by
  refine CI.of (by decide +kernel) (Nat.le_of_ble_eq_true rfl) ?_
  intro p e s m below meth c A ls hE
  obtain ⟨X, hr, hlk, hnm, hw, hl⟩ := hE
  have X : CX p m c cX11_with 3 s [.ref a0, .int p0, .int p1].toArray RX11 D ct := X
  have hl : lv_has ls 3 [(0, .ref a0), (1, .int p0), (2, .int p1)] := hl
  obtain ⟨⟨hx, hb, hml, hown, hts⟩, hK⟩ := id X
  refine lv_aload_n hx hb dX11_with_0 rfl (lv_at hl 0 rfl) ?_
  refine lv_iload_n hx hb dX11_with_1 rfl (lv_at hl 1 rfl) ?_
  refine lv_iload_n hx hb dX11_with_2 rfl (lv_at hl 2 rfl) ?_
  refine m_Vi (As := [.int p0, .int p1]) (rest := []) (c51_X11_isPair l D ct a0 p0 p1 a1 a2 a3 a4 a5 a6 a7 a8 a9 a10 a11 a12 a13 a14 a15 a16 a17 a18 a19) X hl.1 kw_903 kd_yX11_isPair hw [0, 1] [] rfl rfl rfl rfl (by decide) 0 rfl rfl ⟨by decide, by decide⟩ rfl rfl (Nat.le_of_ble_eq_true rfl) dX11_with_3 ⟨by decide, by decide⟩ (fun r1 u2 H locs hr3 hw => ?_)
  replace hw : WD D A s.heap _ _ [(a0, .inr (11, [.ref a1, .int 0, .ref a2, .ref a3, .ref a4, .ref a5, .ref a6, .ref a7, .ref a8, .ref a9, .ref a10, .ref a11, .ref a12, .ref a13, .ref a14, .ref a15, .int (-1), .int (-1)])), (a2, .inr (2, [.int 0, .int 0, .int 0, .ref a16, .ref a17, .ref a18, .int 0, .int 0, .int 0, .int 0, .int 0, .ref a19, .int 0]))] := hw
  subst hr3
  refine lv_if_ne (tgt := 12) hx hb dX11_with_6 (by decide) (fun h => absurd rfl h) (fun _ => ?_)
  refine lv_bipush (v := (-2)) hx hb dX11_with_9 (by decide) ?_
  exact r_i X hr hlk hw [] (fun _ => 0) rfl rfl rfl (by decide) (by decide) dX11_with_11
set_option maxHeartbeats 4000000 in
set_option maxRecDepth 100000 in
theorem c120_X12_with (l : Launch) (D : va_G) (ct : Nat → ClassId) (a0 : Nat) (p0 : Int32) (p1 : Int32) (a1 : Nat) (a2 : Nat) (a3 : Nat) (a4 : Nat) (a5 : Nat) (a6 : Nat) (a7 : Nat) (a8 : Nat) (a9 : Nat) (a10 : Nat) (a11 : Nat) (a12 : Nat) (a13 : Nat) (a14 : Nat) (a15 : Nat) (a16 : Nat) : CI l yX12_with cX12_with 3 (some .int) { frames := 3, cells := 0, slots := 0, locals := 69 } D ct [.ref a0, .int p0, .int p1] [(a0, .inr (12, [.int 0, .ref a1, .ref a2, .ref a3, .ref a4, .int 0, .int 0, .int 0, .int 0, .int 0, .int 0, .int 0, .int 0, .int 0, .int (-1), .ref a5, .ref a6, .ref a7, .ref a8, .int 0, .ref a9, .ref a10, .int 0, .int 0, .int 0, .ref a11, .ref a12, .ref a13, .ref a14, .ref a15, .ref a16])), (a1, .inl (ct 0, 5310, .inl fx0))] (fun r => r = (-2)) (fun u => []) := by
  refine CI.of (by decide +kernel) (Nat.le_of_ble_eq_true rfl) ?_
  intro p e s m below meth c A ls hE
  obtain ⟨X, hr, hlk, hnm, hw, hl⟩ := hE
  have X : CX p m c cX12_with 3 s [.ref a0, .int p0, .int p1].toArray RX12 D ct := X
  have hl : lv_has ls 3 [(0, .ref a0), (1, .int p0), (2, .int p1)] := hl
  obtain ⟨⟨hx, hb, hml, hown, hts⟩, hK⟩ := id X
  refine lv_aload_n hx hb dX12_with_0 rfl (lv_at hl 0 rfl) ?_
  refine lv_iconst (v := 0) hx hb dX12_with_1 (by decide) ?_
  refine fp_1442 X hw 0 rfl rfl rfl (Nat.le_of_ble_eq_true rfl) dX12_with_2 [(a0, .inr (12, [.int 0, .ref a1, .ref a2, .ref a3, .ref a4, .int 0, .int 0, .int 0, .int 0, .int 0, .int 0, .int 0, .int 0, .int 0, .int (-1), .ref a5, .ref a6, .ref a7, .ref a8, .int 0, .ref a9, .ref a10, .int 0, .int 0, .int 0, .ref a11, .ref a12, .ref a13, .ref a14, .ref a15, .ref a16])), (a1, .inl (ct 0, 5310, .inl fx0))] rfl (fun H locs hw => ?_)
  refine lv_aload_n hx hb dX12_with_5 rfl (lv_at hl 0 rfl) ?_
  refine lv_iload_n hx hb dX12_with_6 rfl (lv_at hl 1 rfl) ?_
  refine lv_iload_n hx hb dX12_with_7 rfl (lv_at hl 2 rfl) ?_
  refine m_Vi (As := [.int p0, .int p1]) (rest := []) (c53_X12_areBoth l D ct a0 p0 p1 a1 a2 a3 a4 a5 a6 a7 a8 a9 a10 a11 a12 a13 a14 a15 a16) X hl.1 kw_1676 kd_yX12_areBoth hw [0, 1] [] rfl rfl rfl rfl (by decide) 0 rfl rfl ⟨by decide, by decide⟩ rfl rfl (Nat.le_of_ble_eq_true rfl) dX12_with_8 ⟨by decide, by decide⟩ (fun r1 u2 H locs hr3 hw => ?_)
  replace hw : WD D A s.heap _ _ [(a0, .inr (12, [.int 0, .ref a1, .ref a2, .ref a3, .ref a4, .int 0, .int 0, .int 0, .int 0, .int 0, .int 0, .int 0, .int 0, .int 0, .int (-1), .ref a5, .ref a6, .ref a7, .ref a8, .int 0, .ref a9, .ref a10, .int 0, .int 0, .int 0, .ref a11, .ref a12, .ref a13, .ref a14, .ref a15, .ref a16])), (a1, .inl (ct 0, 5310, .inl fx0))] := hw
  subst hr3
  refine lv_if_ne (tgt := 17) hx hb dX12_with_11 (by decide) (fun h => absurd rfl h) (fun _ => ?_)
  refine lv_bipush (v := (-2)) hx hb dX12_with_14 (by decide) ?_
  exact r_i X hr hlk hw [] (fun _ => 0) rfl rfl rfl (by decide) (by decide) dX12_with_16
set_option maxHeartbeats 4000000 in
set_option maxRecDepth 100000 in
theorem c121_X11_near (l : Launch) (D : va_G) (ct : Nat → ClassId) (a0 : Nat) (p0 : Int32) (p1 : Int32) (a1 : Nat) (a2 : Nat) (a3 : Nat) (a4 : Nat) (a5 : Nat) (a6 : Nat) (a7 : Nat) (a8 : Nat) (a9 : Nat) (a10 : Nat) (a11 : Nat) (a12 : Nat) (a13 : Nat) (a14 : Nat) (a15 : Nat) (a16 : Nat) (a17 : Nat) (a18 : Nat) (a19 : Nat) : CI l yX11_near cX11_near 6 (some .int) { frames := 1, cells := 0, slots := 0, locals := 21 } D ct [.ref a0, .int p0, .int p1] [(a0, .inr (11, [.ref a1, .int 0, .ref a2, .ref a3, .ref a4, .ref a5, .ref a6, .ref a7, .ref a8, .ref a9, .ref a10, .ref a11, .ref a12, .ref a13, .ref a14, .ref a15, .int (-1), .int (-1)])), (a2, .inr (2, [.int 0, .int 0, .int 0, .ref a16, .ref a17, .ref a18, .int 0, .int 0, .int 0, .int 0, .int 0, .ref a19, .int 0]))] (fun r => r = (-2)) (fun u => []) := by
  refine CI.of (by decide +kernel) (Nat.le_of_ble_eq_true rfl) ?_
  intro p e s m below meth c A ls hE
  obtain ⟨X, hr, hlk, hnm, hw, hl⟩ := hE
  have X : CX p m c cX11_near 6 s [.ref a0, .int p0, .int p1].toArray RX11 D ct := X
  have hl : lv_has ls 6 [(0, .ref a0), (1, .int p0), (2, .int p1)] := hl
  obtain ⟨⟨hx, hb, hml, hown, hts⟩, hK⟩ := id X
  refine lv_aload_n hx hb dX11_near_0 rfl (lv_at hl 0 rfl) ?_
  refine lv_iload_n hx hb dX11_near_1 rfl (lv_at hl 1 rfl) ?_
  refine m_Vi (As := [.int p0]) (rest := []) (c47_X11_isHousehold l D ct a0 p0 a1 a2 a3 a4 a5 a6 a7 a8 a9 a10 a11 a12 a13 a14 a15 a16 a17 a18 a19) X hl.1 kw_891 kd_yX11_isHousehold hw [0, 1] [] rfl rfl rfl rfl (by decide) 0 rfl rfl ⟨by decide, by decide⟩ rfl rfl (Nat.le_of_ble_eq_true rfl) dX11_near_2 ⟨by decide, by decide⟩ (fun r1 u2 H locs hr3 hw => ?_)
  replace hw : WD D A s.heap _ _ [(a0, .inr (11, [.ref a1, .int 0, .ref a2, .ref a3, .ref a4, .ref a5, .ref a6, .ref a7, .ref a8, .ref a9, .ref a10, .ref a11, .ref a12, .ref a13, .ref a14, .ref a15, .int (-1), .int (-1)])), (a2, .inr (2, [.int 0, .int 0, .int 0, .ref a16, .ref a17, .ref a18, .int 0, .int 0, .int 0, .int 0, .int 0, .ref a19, .int 0]))] := hw
  subst hr3
  refine lv_if_eq (tgt := 21) hx hb dX11_near_5 (by decide) (fun _ => ?_) (fun h => absurd (by decide) h)
  refine lv_bipush (v := (-2)) hx hb dX11_near_21 (by decide) ?_
  exact r_i X hr hlk hw [] (fun _ => 0) rfl rfl rfl (by decide) (by decide) dX11_near_23
set_option maxHeartbeats 4000000 in
set_option maxRecDepth 100000 in
theorem c122_X12_near (l : Launch) (D : va_G) (ct : Nat → ClassId) (a0 : Nat) (p0 : Int32) (p1 : Int32) (a1 : Nat) (a2 : Nat) (a3 : Nat) (a4 : Nat) (a5 : Nat) (a6 : Nat) (a7 : Nat) (a8 : Nat) (a9 : Nat) (a10 : Nat) (a11 : Nat) (a12 : Nat) (a13 : Nat) (a14 : Nat) (a15 : Nat) (a16 : Nat) : CI l yX12_near cX12_near 7 (some .int) { frames := 2, cells := 0, slots := 0, locals := 47 } D ct [.ref a0, .int p0, .int p1] [(a0, .inr (12, [.int 0, .ref a1, .ref a2, .ref a3, .ref a4, .int 0, .int 0, .int 0, .int 0, .int 0, .int 0, .int 0, .int 0, .int 0, .int (-1), .ref a5, .ref a6, .ref a7, .ref a8, .int 0, .ref a9, .ref a10, .int 0, .int 0, .int 0, .ref a11, .ref a12, .ref a13, .ref a14, .ref a15, .ref a16])), (a1, .inl (ct 0, 5310, .inl fx0))] (fun r => r = (-2)) (fun u => []) := by
  refine CI.of (by decide +kernel) (Nat.le_of_ble_eq_true rfl) ?_
  intro p e s m below meth c A ls hE
  obtain ⟨X, hr, hlk, hnm, hw, hl⟩ := hE
  have X : CX p m c cX12_near 7 s [.ref a0, .int p0, .int p1].toArray RX12 D ct := X
  have hl : lv_has ls 7 [(0, .ref a0), (1, .int p0), (2, .int p1)] := hl
  obtain ⟨⟨hx, hb, hml, hown, hts⟩, hK⟩ := id X
  refine lv_aload_n hx hb dX12_near_0 rfl (lv_at hl 0 rfl) ?_
  refine lv_iconst (v := 0) hx hb dX12_near_1 (by decide) ?_
  refine fp_1442 X hw 0 rfl rfl rfl (Nat.le_of_ble_eq_true rfl) dX12_near_2 [(a0, .inr (12, [.int 0, .ref a1, .ref a2, .ref a3, .ref a4, .int 0, .int 0, .int 0, .int 0, .int 0, .int 0, .int 0, .int 0, .int 0, .int (-1), .ref a5, .ref a6, .ref a7, .ref a8, .int 0, .ref a9, .ref a10, .int 0, .int 0, .int 0, .ref a11, .ref a12, .ref a13, .ref a14, .ref a15, .ref a16])), (a1, .inl (ct 0, 5310, .inl fx0))] rfl (fun H locs hw => ?_)
  refine lv_aload_n hx hb dX12_near_5 rfl (lv_at hl 0 rfl) ?_
  refine lv_iload_n hx hb dX12_near_6 rfl (lv_at hl 1 rfl) ?_
  refine lv_i2l (v := p0.toInt64) hx hb dX12_near_7 rfl ?_
  refine m_Vi (As := [.long p0.toInt64]) (rest := []) (c49_X12_isHousehold l D ct a0 (p0.toInt64) a1 a2 a3 a4 a5 a6 a7 a8 a9 a10 a11 a12 a13 a14 a15 a16) X hl.1 kw_1667 kd_yX12_isHousehold hw [0, 1] [] rfl rfl rfl rfl (by decide) 0 rfl rfl ⟨by decide, by decide⟩ rfl rfl (Nat.le_of_ble_eq_true rfl) dX12_near_8 ⟨by decide, by decide⟩ (fun r1 u2 H locs hr3 hw => ?_)
  replace hw : WD D A s.heap _ _ [(a0, .inr (12, [.int 0, .ref a1, .ref a2, .ref a3, .ref a4, .int 0, .int 0, .int 0, .int 0, .int 0, .int 0, .int 0, .int 0, .int 0, .int (-1), .ref a5, .ref a6, .ref a7, .ref a8, .int 0, .ref a9, .ref a10, .int 0, .int 0, .int 0, .ref a11, .ref a12, .ref a13, .ref a14, .ref a15, .ref a16])), (a1, .inl (ct 0, 5310, .inl fx0))] := hw
  subst hr3
  refine lv_if_eq (tgt := 28) hx hb dX12_near_11 (by decide) (fun _ => ?_) (fun h => absurd (by decide) h)
  refine lv_bipush (v := (-2)) hx hb dX12_near_28 (by decide) ?_
  exact r_i X hr hlk hw [] (fun _ => 0) rfl rfl rfl (by decide) (by decide) dX12_near_30
set_option maxHeartbeats 4000000 in
set_option maxRecDepth 100000 in
theorem c123_X11_copyRows (l : Launch) (D : va_G) (ct : Nat → ClassId) (a0 : Nat) (a1 : Nat) (a2 : Nat) (a3 : Nat) (a4 : Nat) (a5 : Nat) (a6 : Nat) (a7 : Nat) (a8 : Nat) (a9 : Nat) (a10 : Nat) (a11 : Nat) (a12 : Nat) (a13 : Nat) (a14 : Nat) (a15 : Nat) (a16 : Nat) (a17 : Nat) (a18 : Nat) (a19 : Nat) (a20 : Nat) (a21 : Nat) (a22 : Nat) (a23 : Nat) (f0 : Nat → Int32) : CV l yX11_copyRows cX11_copyRows 1 none { frames := 1, cells := 0, slots := 0, locals := 60 } D ct [.ref a0] [(a0, .inr (11, [.ref a1, .int 0, .ref a2, .ref a3, .ref a4, .ref a5, .ref a6, .ref a7, .ref a8, .ref a9, .ref a10, .ref a11, .ref a12, .ref a13, .ref a14, .ref a15, .int (-1), .int (-1)])), (a2, .inr (2, [.int 0, .int 0, .int 0, .ref a16, .ref a17, .ref a18, .int 0, .int 0, .int 0, .int 0, .int 0, .ref a19, .int 0])), (a4, .inr (9, [.ref a20, .ref a21, .ref a2, .ref a22, .ref a23, .int (-1)])), (a20, .inl (ct 0, 7, .inl f0)), (a14, .inl (ct 0, 7, .inl f0))] True (fun u => [(a0, .inr (11, [.ref a1, .int 0, .ref a2, .ref a3, .ref a4, .ref a5, .ref a6, .ref a7, .ref a8, .ref a9, .ref a10, .ref a11, .ref a12, .ref a13, .ref a14, .ref a15, .int (-1), .int (-1)])), (a20, .inl (ct 0, 7, .inl f0)), (a14, .inl (ct 0, 7, .inl (va_cpy f0 f0 0 0 7))), (a2, .inr (2, [.int 0, .int 0, .int 0, .ref a16, .ref a17, .ref a18, .int 0, .int 0, .int 0, .int 0, .int 0, .ref a19, .int 0])), (a4, .inr (9, [.ref a20, .ref a21, .ref a2, .ref a22, .ref a23, .int 0]))]) := by
  refine CV.of (by decide +kernel) (Nat.le_of_ble_eq_true rfl) ?_
  intro p e s m below meth c A ls hE
  obtain ⟨X, hr, hlk, hnm, hw, hl⟩ := hE
  have X : CX p m c cX11_copyRows 1 s [.ref a0].toArray RX11 D ct := X
  have hl : lv_has ls 1 [(0, .ref a0)] := hl
  obtain ⟨⟨hx, hb, hml, hown, hts⟩, hK⟩ := id X
  refine lv_aload_n hx hb dX11_copyRows_0 rfl (lv_at hl 0 rfl) ?_
  refine fg_569 X hw 0 rfl rfl dX11_copyRows_1 ?_
  refine m_Vv (As := []) (rest := []) (c60_X9_refresh l D ct a4 a2 a16 a17 a18 a19 a20 a21 a22 a23) X hl.1 kw_911 kd_yX9_refresh hw [1, 2] [0, 3, 4] rfl rfl rfl rfl (by decide) 1 rfl rfl ⟨by decide, by decide⟩ rfl rfl (Nat.le_of_ble_eq_true rfl) dX11_copyRows_4 ⟨by decide, by decide⟩ (fun u2 H locs hr3 hw => ?_)
  replace hw : WD D A s.heap _ _ [(a0, .inr (11, [.ref a1, .int 0, .ref a2, .ref a3, .ref a4, .ref a5, .ref a6, .ref a7, .ref a8, .ref a9, .ref a10, .ref a11, .ref a12, .ref a13, .ref a14, .ref a15, .int (-1), .int (-1)])), (a20, .inl (ct 0, 7, .inl f0)), (a14, .inl (ct 0, 7, .inl f0)), (a2, .inr (2, [.int 0, .int 0, .int 0, .ref a16, .ref a17, .ref a18, .int 0, .int 0, .int 0, .int 0, .int 0, .ref a19, .int 0])), (a4, .inr (9, [.ref a20, .ref a21, .ref a2, .ref a22, .ref a23, .int 0]))] := hw
  refine lv_aload_n hx hb dX11_copyRows_7 rfl (lv_at hl 0 rfl) ?_
  refine fg_569 X hw 0 rfl rfl dX11_copyRows_8 ?_
  refine fg_333 X hw 4 rfl rfl dX11_copyRows_11 ?_
  refine lv_iconst (v := 0) hx hb dX11_copyRows_14 (by decide) ?_
  refine lv_aload_n hx hb dX11_copyRows_15 rfl (lv_at hl 0 rfl) ?_
  refine fg_579 X hw 0 rfl rfl dX11_copyRows_16 ?_
  refine lv_iconst (v := 0) hx hb dX11_copyRows_19 (by decide) ?_
  refine lv_bipush (v := 7) hx hb dX11_copyRows_20 (by decide) ?_
  refine k_copyi X hl.1 wd_1158 wd_863 wd_862 wd_149 hw 1 2 rfl rfl (by decide) (by decide) (by decide) (by decide) (by decide) (by decide) (Nat.le_of_ble_eq_true rfl) dX11_copyRows_22 [(a0, .inr (11, [.ref a1, .int 0, .ref a2, .ref a3, .ref a4, .ref a5, .ref a6, .ref a7, .ref a8, .ref a9, .ref a10, .ref a11, .ref a12, .ref a13, .ref a14, .ref a15, .int (-1), .int (-1)])), (a20, .inl (ct 0, 7, .inl f0)), (a14, .inl (ct 0, 7, .inl (va_cpy f0 f0 0 0 7))), (a2, .inr (2, [.int 0, .int 0, .int 0, .ref a16, .ref a17, .ref a18, .int 0, .int 0, .int 0, .int 0, .int 0, .ref a19, .int 0])), (a4, .inr (9, [.ref a20, .ref a21, .ref a2, .ref a22, .ref a23, .int 0]))] rfl (fun H locs hw => ?_)
  exact r_v X hr hlk hw [0, 1, 2, 3, 4] (fun _ => 0) rfl rfl trivial (by decide) (by decide) dX11_copyRows_25
def fx12 : Nat → Int32 := (va_cpy (va_cpy (fun _ => 0) (fun _ => 0) 0 0 7) (fun _ => 0) 0 0 0)
set_option maxHeartbeats 4000000 in
set_option maxRecDepth 100000 in
theorem c124_X5_tally (l : Launch) (D : va_G) (ct : Nat → ClassId) (a0 : Nat) (a1 : Nat) (a2 : Nat) (a3 : Nat) (a4 : Nat) (a5 : Nat) (a6 : Nat) (f0 : Nat → Int32) (f1 : Nat → Int32) : CI l yX5_tally cX5_tally 5 (some .int) { frames := 2, cells := 0, slots := 0, locals := 60 } D ct [.ref a0, .ref a1, .int 0, .int 0] [(a0, .inr (5, [.ref a2, .ref a3, .ref a4, .ref a5, .ref a6, .int 0, .int 0])), (a3, .inl (ct 0, 256, .inl (fun _ => 0))), (a6, .inl (ct 0, 7, .inl f0)), (a1, .inl (ct 0, 7, .inl f1))] (fun r => r = 1) (fun u => [(a3, .inl (ct 0, 256, .inl (upd (fun _ => 0) 0 1))), (a6, .inl (ct 0, 7, .inl (va_cpy f1 f0 0 0 0))), (a1, .inl (ct 0, 7, .inl f1)), (a0, .inr (5, [.ref a2, .ref a3, .ref a4, .ref a5, .ref a6, .int 0, .int 0]))]) := by
  refine CI.of (by decide +kernel) (Nat.le_of_ble_eq_true rfl) ?_
  intro p e s m below meth c A ls hE
  obtain ⟨X, hr, hlk, hnm, hw, hl⟩ := hE
  have X : CX p m c cX5_tally 5 s [.ref a0, .ref a1, .int 0, .int 0].toArray RX5 D ct := X
  have hl : lv_has ls 5 [(0, .ref a0), (1, .ref a1), (2, .int 0), (3, .int 0)] := hl
  obtain ⟨⟨hx, hb, hml, hown, hts⟩, hK⟩ := id X
  refine lv_aload_n hx hb dX5_tally_0 rfl (lv_at hl 0 rfl) ?_
  refine lv_iconst (v := 0) hx hb dX5_tally_1 (by decide) ?_
  refine lv_iload_n hx hb dX5_tally_2 rfl (lv_at hl 2 rfl) ?_
  refine lv_bipush (v := 7) hx hb dX5_tally_3 (by decide) ?_
  refine k_min (v := 0) X hl.1 wd_959 wd_637 wd_143 wd_638 (by decide) (Nat.le_of_ble_eq_true rfl) (by decide) (by decide) (by decide) dX5_tally_5 ?_
  refine k_max (v := 0) X hl.1 wd_960 wd_728 wd_143 wd_729 (by decide) (Nat.le_of_ble_eq_true rfl) (by decide) (by decide) (by decide) dX5_tally_8 ?_
  refine fp_366 X hw 0 rfl rfl rfl (Nat.le_of_ble_eq_true rfl) dX5_tally_11 [(a0, .inr (5, [.ref a2, .ref a3, .ref a4, .ref a5, .ref a6, .int 0, .int 0])), (a3, .inl (ct 0, 256, .inl (fun _ => 0))), (a6, .inl (ct 0, 7, .inl f0)), (a1, .inl (ct 0, 7, .inl f1))] rfl (fun H locs hw => ?_)
  refine lv_aload_n hx hb dX5_tally_14 rfl (lv_at hl 0 rfl) ?_
  refine lv_iconst (v := 0) hx hb dX5_tally_15 (by decide) ?_
  refine lv_iload_n hx hb dX5_tally_16 rfl (lv_at hl 3 rfl) ?_
  refine lv_bipush (v := 8) hx hb dX5_tally_17 (by decide) ?_
  refine k_min (v := 0) X hl.1 wd_959 wd_637 wd_143 wd_638 (by decide) (Nat.le_of_ble_eq_true rfl) (by decide) (by decide) (by decide) dX5_tally_19 ?_
  refine k_max (v := 0) X hl.1 wd_960 wd_728 wd_143 wd_729 (by decide) (Nat.le_of_ble_eq_true rfl) (by decide) (by decide) (by decide) dX5_tally_22 ?_
  refine fp_367 X hw 0 rfl rfl rfl (Nat.le_of_ble_eq_true rfl) dX5_tally_25 [(a0, .inr (5, [.ref a2, .ref a3, .ref a4, .ref a5, .ref a6, .int 0, .int 0])), (a3, .inl (ct 0, 256, .inl (fun _ => 0))), (a6, .inl (ct 0, 7, .inl f0)), (a1, .inl (ct 0, 7, .inl f1))] rfl (fun H locs hw => ?_)
  refine lv_aload_n hx hb dX5_tally_28 rfl (lv_at hl 1 rfl) ?_
  refine lv_iconst (v := 0) hx hb dX5_tally_29 (by decide) ?_
  refine lv_aload_n hx hb dX5_tally_30 rfl (lv_at hl 0 rfl) ?_
  refine fg_365 X hw 0 rfl rfl dX5_tally_31 ?_
  refine lv_iconst (v := 0) hx hb dX5_tally_34 (by decide) ?_
  refine lv_aload_n hx hb dX5_tally_35 rfl (lv_at hl 0 rfl) ?_
  refine fg_366 X hw 0 rfl rfl dX5_tally_36 ?_
  refine k_copyi X hl.1 wd_961 wd_863 wd_862 wd_149 hw 3 2 rfl rfl (by decide) (by decide) (by decide) (by decide) (by decide) (by decide) (Nat.le_of_ble_eq_true rfl) dX5_tally_39 [(a0, .inr (5, [.ref a2, .ref a3, .ref a4, .ref a5, .ref a6, .int 0, .int 0])), (a3, .inl (ct 0, 256, .inl (fun _ => 0))), (a6, .inl (ct 0, 7, .inl (va_cpy f1 f0 0 0 0))), (a1, .inl (ct 0, 7, .inl f1))] rfl (fun H locs hw => ?_)
  refine lv_iconst (v := 1) hx hb dX5_tally_42 (by decide) ?_
  refine lv_aload_n hx hb dX5_tally_43 rfl (lv_at hl 0 rfl) ?_
  refine fg_367 X hw 0 rfl rfl dX5_tally_44 ?_
  refine kv_ishl (v := 1) hx hb (by decide) dX5_tally_47 ?_
  refine lv_iconst (v := 1) hx hb dX5_tally_48 (by decide) ?_
  refine kv_isub (v := 0) hx hb (by decide) dX5_tally_49 ?_
  refine lv_istore (lv' := [(4, .int 0), (0, .ref a0), (1, .ref a1), (2, .int 0), (3, .int 0)]) hx hb dX5_tally_50 hl (by decide) rfl (fun ls hl => ?_)
  refine lv_iload hx hb dX5_tally_52 (lv_at hl 0 rfl) ?_
  refine lv_if_lt (tgt := 76) hx hb dX5_tally_54 (by decide) (fun h => absurd h (by decide)) (fun _ => ?_)
  refine lv_aload_n hx hb dX5_tally_57 rfl (lv_at hl 1 rfl) ?_
  refine fg_362 X hw 0 rfl rfl dX5_tally_58 ?_
  refine lv_iload hx hb dX5_tally_61 (lv_at hl 0 rfl) ?_
  refine lv_aload_n hx hb dX5_tally_63 rfl (lv_at hl 1 rfl) ?_
  refine lv_iload hx hb dX5_tally_64 (lv_at hl 0 rfl) ?_
  refine m_Vi (As := [.int 0]) (rest := [.int 0, .ref a3]) (c62_X5_waysFrom l D ct a0 a2 a3 a4 a5 a6) X hl.1 kw_962 kd_yX5_waysFrom hw [0] [1, 2, 3] rfl rfl rfl rfl (by decide) 0 rfl rfl ⟨by decide, by decide⟩ rfl rfl (Nat.le_of_ble_eq_true rfl) dX5_tally_66 ⟨by decide, by decide⟩ (fun r1 u2 H locs hr3 hw => ?_)
  replace hw : WD D A s.heap _ _ [(a3, .inl (ct 0, 256, .inl (fun _ => 0))), (a6, .inl (ct 0, 7, .inl (va_cpy f1 f0 0 0 0))), (a1, .inl (ct 0, 7, .inl f1)), (a0, .inr (5, [.ref a2, .ref a3, .ref a4, .ref a5, .ref a6, .int 0, .int 0]))] := hw
  subst hr3
  refine j_iast (j := 0) X hw 0 rfl (by decide) (by decide) (by decide) dX5_tally_69 [(a3, .inl (ct 0, 256, .inl (upd (fun _ => 0) 0 1))), (a6, .inl (ct 0, 7, .inl (va_cpy f1 f0 0 0 0))), (a1, .inl (ct 0, 7, .inl f1)), (a0, .inr (5, [.ref a2, .ref a3, .ref a4, .ref a5, .ref a6, .int 0, .int 0]))] rfl (fun H locs hw => ?_)
  refine lv_iinc (v := (-1)) (lv' := [(4, .int (-1)), (0, .ref a0), (1, .ref a1), (2, .int 0), (3, .int 0)]) hx hb dX5_tally_70 hl (k := 0) rfl (by decide) (by decide) rfl (fun ls hl => ?_)
  refine lv_goto (tgt := 52) hx hb dX5_tally_73 (by decide) ?_
  refine lv_iload hx hb dX5_tally_52 (lv_at hl 0 rfl) ?_
  refine lv_if_lt (tgt := 76) hx hb dX5_tally_54 (by decide) (fun _ => ?_) (fun h => absurd (by decide) h)
  refine lv_aload_n hx hb dX5_tally_76 rfl (lv_at hl 1 rfl) ?_
  refine fg_362 X hw 3 rfl rfl dX5_tally_77 ?_
  refine lv_iconst (v := 0) hx hb dX5_tally_80 (by decide) ?_
  refine j_iald (j := 0) (v := 1) X hw 0 rfl (by decide) (by decide) (by decide) rfl dX5_tally_81 ?_
  exact r_i X hr hlk hw [0, 1, 2, 3] (fun _ => 0) rfl rfl rfl (by decide) (by decide) dX5_tally_82
set_option maxHeartbeats 4000000 in
set_option maxRecDepth 100000 in
theorem c125_X11_tallyRows (l : Launch) (D : va_G) (ct : Nat → ClassId) (a0 : Nat) (a1 : Nat) (a2 : Nat) (a3 : Nat) (a4 : Nat) (a5 : Nat) (a6 : Nat) (f0 : Nat → Int32) (a7 : Nat) (a8 : Nat) (a9 : Nat) (a10 : Nat) (a11 : Nat) (a12 : Nat) (a13 : Nat) (a14 : Nat) (a15 : Nat) (a16 : Nat) (a17 : Nat) (a18 : Nat) (a19 : Nat) (a20 : Nat) (f1 : Nat → Int32) (a21 : Nat) (a22 : Nat) (a23 : Nat) (a24 : Nat) : CI l yX11_tallyRows cX11_tallyRows 1 (some .int) { frames := 3, cells := 0, slots := 0, locals := 84 } D ct [.ref a0] [(a1, .inr (5, [.ref a2, .ref a3, .ref a4, .ref a5, .ref a6, .int 0, .int 0])), (a3, .inl (ct 0, 256, .inl (fun _ => 0))), (a6, .inl (ct 0, 7, .inl f0)), (a0, .inr (11, [.ref a7, .int 0, .ref a8, .ref a9, .ref a10, .ref a1, .ref a11, .ref a12, .ref a13, .ref a14, .ref a15, .ref a16, .ref a17, .ref a18, .ref a19, .ref a20, .int (-1), .int (-1)])), (a19, .inl (ct 0, 7, .inl f1)), (a8, .inr (2, [.int 0, .int 0, .int 0, .ref a21, .ref a22, .ref a23, .int 0, .int 0, .int 0, .int 0, .int 0, .ref a24, .int 0]))] (fun r => r = 1) (fun u => [(a0, .inr (11, [.ref a7, .int 0, .ref a8, .ref a9, .ref a10, .ref a1, .ref a11, .ref a12, .ref a13, .ref a14, .ref a15, .ref a16, .ref a17, .ref a18, .ref a19, .ref a20, .int (-1), .int (-1)])), (a8, .inr (2, [.int 0, .int 0, .int 0, .ref a21, .ref a22, .ref a23, .int 0, .int 0, .int 0, .int 0, .int 0, .ref a24, .int 0])), (a3, .inl (ct 0, 256, .inl (upd (fun _ => 0) 0 1))), (a6, .inl (ct 0, 7, .inl (va_cpy f1 f0 0 0 0))), (a19, .inl (ct 0, 7, .inl f1)), (a1, .inr (5, [.ref a2, .ref a3, .ref a4, .ref a5, .ref a6, .int 0, .int 0]))]) := by
  refine CI.of (by decide +kernel) (Nat.le_of_ble_eq_true rfl) ?_
  intro p e s m below meth c A ls hE
  obtain ⟨X, hr, hlk, hnm, hw, hl⟩ := hE
  have X : CX p m c cX11_tallyRows 1 s [.ref a0].toArray RX11 D ct := X
  have hl : lv_has ls 1 [(0, .ref a0)] := hl
  obtain ⟨⟨hx, hb, hml, hown, hts⟩, hK⟩ := id X
  refine lv_aload_n hx hb dX11_tallyRows_0 rfl (lv_at hl 0 rfl) ?_
  refine fg_570 X hw 3 rfl rfl dX11_tallyRows_1 ?_
  refine lv_aload_n hx hb dX11_tallyRows_4 rfl (lv_at hl 0 rfl) ?_
  refine fg_579 X hw 3 rfl rfl dX11_tallyRows_5 ?_
  refine lv_aload_n hx hb dX11_tallyRows_8 rfl (lv_at hl 0 rfl) ?_
  refine fg_567 X hw 3 rfl rfl dX11_tallyRows_9 ?_
  refine fg_225 X hw 5 rfl rfl dX11_tallyRows_12 ?_
  refine lv_aload_n hx hb dX11_tallyRows_15 rfl (lv_at hl 0 rfl) ?_
  refine fg_567 X hw 3 rfl rfl dX11_tallyRows_16 ?_
  refine fg_217 X hw 5 rfl rfl dX11_tallyRows_19 ?_
  refine m_Vi (As := [.ref a19, .int 0, .int 0]) (rest := []) (c124_X5_tally l D ct a1 a19 a2 a3 a4 a5 a6 f0 f1) X hl.1 kw_1144 kd_yX5_tally hw [0, 1, 2, 4] [3, 5] rfl rfl rfl rfl (by decide) 0 rfl rfl ⟨by decide, by decide⟩ rfl rfl (Nat.le_of_ble_eq_true rfl) dX11_tallyRows_22 ⟨by decide, by decide⟩ (fun r1 u2 H locs hr3 hw => ?_)
  replace hw : WD D A s.heap _ _ [(a0, .inr (11, [.ref a7, .int 0, .ref a8, .ref a9, .ref a10, .ref a1, .ref a11, .ref a12, .ref a13, .ref a14, .ref a15, .ref a16, .ref a17, .ref a18, .ref a19, .ref a20, .int (-1), .int (-1)])), (a8, .inr (2, [.int 0, .int 0, .int 0, .ref a21, .ref a22, .ref a23, .int 0, .int 0, .int 0, .int 0, .int 0, .ref a24, .int 0])), (a3, .inl (ct 0, 256, .inl (upd (fun _ => 0) 0 1))), (a6, .inl (ct 0, 7, .inl (va_cpy f1 f0 0 0 0))), (a19, .inl (ct 0, 7, .inl f1)), (a1, .inr (5, [.ref a2, .ref a3, .ref a4, .ref a5, .ref a6, .int 0, .int 0]))] := hw
  subst hr3
  exact r_i X hr hlk hw [0, 1, 2, 3, 4, 5] (fun _ => 0) rfl rfl rfl (by decide) (by decide) dX11_tallyRows_25
set_option maxHeartbeats 4000000 in
set_option maxRecDepth 100000 in
theorem c126_X11_allElse (l : Launch) (D : va_G) (ct : Nat → ClassId) (a0 : Nat) (a1 : Nat) (a2 : Nat) (a3 : Nat) (a4 : Nat) (a5 : Nat) (a6 : Nat) (a7 : Nat) (a8 : Nat) (a9 : Nat) (a10 : Nat) (a11 : Nat) (a12 : Nat) (a13 : Nat) (a14 : Nat) (a15 : Nat) (a16 : Nat) (a17 : Nat) (a18 : Nat) (a19 : Nat) (a20 : Nat) (a21 : Nat) (a22 : Nat) (a23 : Nat) (f0 : Nat → Int32) (a24 : Nat) (a25 : Nat) (a26 : Nat) (a27 : Nat) (a28 : Nat) : CI l yX11_allElse cX11_allElse 3 (some .int) { frames := 4, cells := 0, slots := 0, locals := 104 } D ct [.ref a0] [(a0, .inr (11, [.ref a1, .int 0, .ref a2, .ref a3, .ref a4, .ref a5, .ref a6, .ref a7, .ref a8, .ref a9, .ref a10, .ref a11, .ref a12, .ref a13, .ref a14, .ref a15, .int (-1), .int (-1)])), (a2, .inr (2, [.int 0, .int 0, .int 0, .ref a16, .ref a17, .ref a18, .int 0, .int 0, .int 0, .int 0, .int 0, .ref a19, .int 0])), (a4, .inr (9, [.ref a20, .ref a21, .ref a2, .ref a22, .ref a23, .int (-1)])), (a20, .inl (ct 0, 7, .inl f0)), (a5, .inr (5, [.ref a24, .ref a25, .ref a26, .ref a27, .ref a28, .int 0, .int 0])), (a25, .inl (ct 0, 256, .inl (fun _ => 0))), (a28, .inl (ct 0, 7, .inl f0)), (a14, .inl (ct 0, 7, .inl f0))] (fun r => r = 1) (fun u => []) := by
  refine CI.of (by decide +kernel) (Nat.le_of_ble_eq_true rfl) ?_
  intro p e s m below meth c A ls hE
  obtain ⟨X, hr, hlk, hnm, hw, hl⟩ := hE
  have X : CX p m c cX11_allElse 3 s [.ref a0].toArray RX11 D ct := X
  have hl : lv_has ls 3 [(0, .ref a0)] := hl
  obtain ⟨⟨hx, hb, hml, hown, hts⟩, hK⟩ := id X
  refine lv_aload_n hx hb dX11_allElse_0 rfl (lv_at hl 0 rfl) ?_
  refine m_Vv (As := []) (rest := []) (c123_X11_copyRows l D ct a0 a1 a2 a3 a4 a5 a6 a7 a8 a9 a10 a11 a12 a13 a14 a15 a16 a17 a18 a19 a20 a21 a22 a23 f0) X hl.1 kw_1154 kd_yX11_copyRows hw [0, 1, 2, 3, 7] [4, 5, 6] rfl rfl rfl rfl (by decide) 0 rfl rfl ⟨by decide, by decide⟩ rfl rfl (Nat.le_of_ble_eq_true rfl) dX11_allElse_1 ⟨by decide, by decide⟩ (fun u2 H locs hr3 hw => ?_)
  replace hw : WD D A s.heap _ _ [(a5, .inr (5, [.ref a24, .ref a25, .ref a26, .ref a27, .ref a28, .int 0, .int 0])), (a25, .inl (ct 0, 256, .inl (fun _ => 0))), (a28, .inl (ct 0, 7, .inl f0)), (a0, .inr (11, [.ref a1, .int 0, .ref a2, .ref a3, .ref a4, .ref a5, .ref a6, .ref a7, .ref a8, .ref a9, .ref a10, .ref a11, .ref a12, .ref a13, .ref a14, .ref a15, .int (-1), .int (-1)])), (a20, .inl (ct 0, 7, .inl f0)), (a14, .inl (ct 0, 7, .inl (va_cpy f0 f0 0 0 7))), (a2, .inr (2, [.int 0, .int 0, .int 0, .ref a16, .ref a17, .ref a18, .int 0, .int 0, .int 0, .int 0, .int 0, .ref a19, .int 0])), (a4, .inr (9, [.ref a20, .ref a21, .ref a2, .ref a22, .ref a23, .int 0]))] := hw
  refine lv_iconst (v := 0) hx hb dX11_allElse_4 (by decide) ?_
  refine lv_istore_n (lv' := [(1, .int 0), (0, .ref a0)]) hx hb dX11_allElse_5 rfl hl (by decide) rfl (fun ls hl => ?_)
  refine lv_iload_n hx hb dX11_allElse_6 rfl (lv_at hl 0 rfl) ?_
  refine lv_aload_n hx hb dX11_allElse_7 rfl (lv_at hl 1 rfl) ?_
  refine fg_567 X hw 3 rfl rfl dX11_allElse_8 ?_
  refine fg_225 X hw 6 rfl rfl dX11_allElse_11 ?_
  refine lv_icmp_ge (tgt := 55) hx hb dX11_allElse_14 (by decide) (fun _ => ?_) (fun h => absurd (by decide) h)
  refine lv_aload_n hx hb dX11_allElse_55 rfl (lv_at hl 1 rfl) ?_
  refine m_Vi (As := []) (rest := []) (c125_X11_tallyRows l D ct a0 a5 a24 a25 a26 a27 a28 f0 a1 a2 a3 a4 a6 a7 a8 a9 a10 a11 a12 a13 a14 a15 (va_cpy f0 f0 0 0 7) a16 a17 a18 a19) X hl.1 kw_1159 kd_yX11_tallyRows hw [0, 1, 2, 3, 5, 6] [4, 7] rfl rfl rfl rfl (by decide) 3 rfl rfl ⟨by decide, by decide⟩ rfl rfl (Nat.le_of_ble_eq_true rfl) dX11_allElse_56 ⟨by decide, by decide⟩ (fun r4 u5 H locs hr6 hw => ?_)
  replace hw : WD D A s.heap _ _ [(a20, .inl (ct 0, 7, .inl f0)), (a4, .inr (9, [.ref a20, .ref a21, .ref a2, .ref a22, .ref a23, .int 0])), (a0, .inr (11, [.ref a1, .int 0, .ref a2, .ref a3, .ref a4, .ref a5, .ref a6, .ref a7, .ref a8, .ref a9, .ref a10, .ref a11, .ref a12, .ref a13, .ref a14, .ref a15, .int (-1), .int (-1)])), (a2, .inr (2, [.int 0, .int 0, .int 0, .ref a16, .ref a17, .ref a18, .int 0, .int 0, .int 0, .int 0, .int 0, .ref a19, .int 0])), (a25, .inl (ct 0, 256, .inl (upd (fun _ => 0) 0 1))), (a28, .inl (ct 0, 7, .inl (va_cpy (va_cpy f0 f0 0 0 7) f0 0 0 0))), (a14, .inl (ct 0, 7, .inl (va_cpy f0 f0 0 0 7))), (a5, .inr (5, [.ref a24, .ref a25, .ref a26, .ref a27, .ref a28, .int 0, .int 0]))] := hw
  subst hr6
  exact r_i X hr hlk hw [] (fun _ => 0) rfl rfl rfl (by decide) (by decide) dX11_allElse_59
set_option maxHeartbeats 4000000 in
set_option maxRecDepth 100000 in
theorem c127_X12_allElse (l : Launch) (D : va_G) (ct : Nat → ClassId) (a0 : Nat) (a1 : Nat) (a2 : Nat) (a3 : Nat) (a4 : Nat) (a5 : Nat) (a6 : Nat) (a7 : Nat) (a8 : Nat) (a9 : Nat) (a10 : Nat) (a11 : Nat) (a12 : Nat) (a13 : Nat) (a14 : Nat) (a15 : Nat) (a16 : Nat) (f0 : Nat → Int32) : CI l yX12_allElse cX12_allElse 5 (some .int) { frames := 2, cells := 0, slots := 0, locals := 46 } D ct [.ref a0] [(a0, .inr (12, [.int 0, .ref a1, .ref a2, .ref a3, .ref a4, .int 0, .int 0, .int 0, .int 0, .int 0, .int 0, .int 0, .int 0, .int 0, .int (-1), .ref a5, .ref a6, .ref a7, .ref a8, .int 0, .ref a9, .ref a10, .int 0, .int 0, .int 0, .ref a11, .ref a12, .ref a13, .ref a14, .ref a15, .ref a16])), (a8, .inl (ct 0, 40320, .inl f0)), (a1, .inl (ct 0, 5310, .inl fx0))] (fun r => r = 1) (fun u => []) := by
  refine CI.of (by decide +kernel) (Nat.le_of_ble_eq_true rfl) ?_
  intro p e s m below meth c A ls hE
  obtain ⟨X, hr, hlk, hnm, hw, hl⟩ := hE
  have X : CX p m c cX12_allElse 5 s [.ref a0].toArray RX12 D ct := X
  have hl : lv_has ls 5 [(0, .ref a0)] := hl
  obtain ⟨⟨hx, hb, hml, hown, hts⟩, hK⟩ := id X
  refine lv_aload_n hx hb dX12_allElse_0 rfl (lv_at hl 0 rfl) ?_
  refine lv_iconst (v := 0) hx hb dX12_allElse_1 (by decide) ?_
  refine fp_1442 X hw 0 rfl rfl rfl (Nat.le_of_ble_eq_true rfl) dX12_allElse_2 [(a0, .inr (12, [.int 0, .ref a1, .ref a2, .ref a3, .ref a4, .int 0, .int 0, .int 0, .int 0, .int 0, .int 0, .int 0, .int 0, .int 0, .int (-1), .ref a5, .ref a6, .ref a7, .ref a8, .int 0, .ref a9, .ref a10, .int 0, .int 0, .int 0, .ref a11, .ref a12, .ref a13, .ref a14, .ref a15, .ref a16])), (a8, .inl (ct 0, 40320, .inl f0)), (a1, .inl (ct 0, 5310, .inl fx0))] rfl (fun H locs hw => ?_)
  refine lv_aload_n hx hb dX12_allElse_5 rfl (lv_at hl 0 rfl) ?_
  refine lv_iconst (v := (-1)) hx hb dX12_allElse_6 (by decide) ?_
  refine m_Vv (As := [.int (-1)]) (rest := []) (c71_X12_laysMaps l D ct a0 a1 a2 a3 a4 a5 a6 a7 a8 a9 a10 a11 a12 a13 a14 a15 a16 f0) X hl.1 kw_1716 kd_yX12_laysMaps hw [0, 1, 2] [] rfl rfl rfl rfl (by decide) 0 rfl rfl ⟨by decide, by decide⟩ rfl rfl (Nat.le_of_ble_eq_true rfl) dX12_allElse_7 ⟨by decide, by decide⟩ (fun u2 H locs hr3 hw => ?_)
  replace hw : WD D A s.heap _ _ [(a8, .inl (ct 0, 40320, .inl (upd f0 0 0))), (a0, .inr (12, [.int 0, .ref a1, .ref a2, .ref a3, .ref a4, .int 0, .int 0, .int 0, .int 0, .int 0, .int 0, .int 0, .int 0, .int 0, .int (-1), .ref a5, .ref a6, .ref a7, .ref a8, .int 1, .ref a9, .ref a10, .int 0, .int 0, .int 0, .ref a11, .ref a12, .ref a13, .ref a14, .ref a15, .ref a16])), (a1, .inl (ct 0, 5310, .inl fx0))] := hw
  refine lv_iconst (v := 0) hx hb dX12_allElse_10 (by decide) ?_
  refine lv_istore_n (lv' := [(1, .int 0), (0, .ref a0)]) hx hb dX12_allElse_11 rfl hl (by decide) rfl (fun ls hl => ?_)
  refine lv_iconst (v := 0) hx hb dX12_allElse_12 (by decide) ?_
  refine lv_istore_n (lv' := [(2, .int 0), (1, .int 0), (0, .ref a0)]) hx hb dX12_allElse_13 rfl hl (by decide) rfl (fun ls hl => ?_)
  refine lv_iload_n hx hb dX12_allElse_14 rfl (lv_at hl 0 rfl) ?_
  refine lv_aload_n hx hb dX12_allElse_15 rfl (lv_at hl 2 rfl) ?_
  refine fg_1461 X hw 1 rfl rfl dX12_allElse_16 ?_
  refine lv_icmp_ge (tgt := 94) hx hb dX12_allElse_19 (by decide) (fun h => absurd h (by decide)) (fun _ => ?_)
  refine lv_iconst (v := 1) hx hb dX12_allElse_22 (by decide) ?_
  refine lv_istore_n (lv' := [(3, .int 1), (2, .int 0), (1, .int 0), (0, .ref a0)]) hx hb dX12_allElse_23 rfl hl (by decide) rfl (fun ls hl => ?_)
  refine lv_iconst (v := 0) hx hb dX12_allElse_24 (by decide) ?_
  refine lv_istore (lv' := [(4, .int 0), (3, .int 1), (2, .int 0), (1, .int 0), (0, .ref a0)]) hx hb dX12_allElse_25 hl (by decide) rfl (fun ls hl => ?_)
  refine lv_iload hx hb dX12_allElse_27 (lv_at hl 0 rfl) ?_
  refine lv_aload_n hx hb dX12_allElse_29 rfl (lv_at hl 4 rfl) ?_
  refine fg_1443 X hw 1 rfl rfl dX12_allElse_30 ?_
  refine lv_iconst (v := 2) hx hb dX12_allElse_33 (by decide) ?_
  refine j_iald (j := 2) (v := 0) X hw 2 rfl (by decide) (by decide) (by decide) rfl dX12_allElse_34 ?_
  refine lv_icmp_ge (tgt := 76) hx hb dX12_allElse_35 (by decide) (fun _ => ?_) (fun h => absurd (by decide) h)
  refine lv_iload_n hx hb dX12_allElse_76 rfl (lv_at hl 3 rfl) ?_
  refine lv_iload_n hx hb dX12_allElse_77 rfl (lv_at hl 1 rfl) ?_
  refine lv_if_eq (tgt := 85) hx hb dX12_allElse_78 (by decide) (fun h => absurd h (by decide)) (fun _ => ?_)
  refine lv_iconst (v := 1) hx hb dX12_allElse_81 (by decide) ?_
  refine lv_goto (tgt := 86) hx hb dX12_allElse_82 (by decide) ?_
  refine kv_iadd (v := 1) hx hb (by decide) dX12_allElse_86 ?_
  refine lv_istore_n (lv' := [(1, .int 1), (4, .int 0), (3, .int 1), (2, .int 0), (0, .ref a0)]) hx hb dX12_allElse_87 rfl hl (by decide) rfl (fun ls hl => ?_)
  refine lv_iinc (v := 1) (lv' := [(2, .int 1), (1, .int 1), (4, .int 0), (3, .int 1), (0, .ref a0)]) hx hb dX12_allElse_88 hl (k := 3) rfl (by decide) (by decide) rfl (fun ls hl => ?_)
  refine lv_goto (tgt := 14) hx hb dX12_allElse_91 (by decide) ?_
  refine lv_iload_n hx hb dX12_allElse_14 rfl (lv_at hl 0 rfl) ?_
  refine lv_aload_n hx hb dX12_allElse_15 rfl (lv_at hl 4 rfl) ?_
  refine fg_1461 X hw 1 rfl rfl dX12_allElse_16 ?_
  refine lv_icmp_ge (tgt := 94) hx hb dX12_allElse_19 (by decide) (fun _ => ?_) (fun h => absurd (by decide) h)
  refine lv_iload_n hx hb dX12_allElse_94 rfl (lv_at hl 1 rfl) ?_
  exact r_i X hr hlk hw [] (fun _ => 0) rfl rfl rfl (by decide) (by decide) dX12_allElse_95
set_option maxHeartbeats 4000000 in
set_option maxRecDepth 100000 in
theorem c128_X11_likeliest (l : Launch) (D : va_G) (ct : Nat → ClassId) (a0 : Nat) (p0 : Int32) (a1 : Nat) (a2 : Nat) (a3 : Nat) (a4 : Nat) (a5 : Nat) (a6 : Nat) (a7 : Nat) (a8 : Nat) (a9 : Nat) (a10 : Nat) (a11 : Nat) (a12 : Nat) (a13 : Nat) (a14 : Nat) (a15 : Nat) (a16 : Nat) (a17 : Nat) (a18 : Nat) (a19 : Nat) : CI l yX11_likeliest cX11_likeliest 6 (some .int) { frames := 1, cells := 0, slots := 0, locals := 21 } D ct [.ref a0, .int p0] [(a0, .inr (11, [.ref a1, .int 0, .ref a2, .ref a3, .ref a4, .ref a5, .ref a6, .ref a7, .ref a8, .ref a9, .ref a10, .ref a11, .ref a12, .ref a13, .ref a14, .ref a15, .int (-1), .int (-1)])), (a2, .inr (2, [.int 0, .int 0, .int 0, .ref a16, .ref a17, .ref a18, .int 0, .int 0, .int 0, .int 0, .int 0, .ref a19, .int 0]))] (fun r => r = (-2)) (fun u => []) := by
  refine CI.of (by decide +kernel) (Nat.le_of_ble_eq_true rfl) ?_
  intro p e s m below meth c A ls hE
  obtain ⟨X, hr, hlk, hnm, hw, hl⟩ := hE
  have X : CX p m c cX11_likeliest 6 s [.ref a0, .int p0].toArray RX11 D ct := X
  have hl : lv_has ls 6 [(0, .ref a0), (1, .int p0)] := hl
  obtain ⟨⟨hx, hb, hml, hown, hts⟩, hK⟩ := id X
  refine lv_aload_n hx hb dX11_likeliest_0 rfl (lv_at hl 0 rfl) ?_
  refine lv_iload_n hx hb dX11_likeliest_1 rfl (lv_at hl 1 rfl) ?_
  refine m_Vi (As := [.int p0]) (rest := []) (c47_X11_isHousehold l D ct a0 p0 a1 a2 a3 a4 a5 a6 a7 a8 a9 a10 a11 a12 a13 a14 a15 a16 a17 a18 a19) X hl.1 kw_891 kd_yX11_isHousehold hw [0, 1] [] rfl rfl rfl rfl (by decide) 0 rfl rfl ⟨by decide, by decide⟩ rfl rfl (Nat.le_of_ble_eq_true rfl) dX11_likeliest_2 ⟨by decide, by decide⟩ (fun r1 u2 H locs hr3 hw => ?_)
  replace hw : WD D A s.heap _ _ [(a0, .inr (11, [.ref a1, .int 0, .ref a2, .ref a3, .ref a4, .ref a5, .ref a6, .ref a7, .ref a8, .ref a9, .ref a10, .ref a11, .ref a12, .ref a13, .ref a14, .ref a15, .int (-1), .int (-1)])), (a2, .inr (2, [.int 0, .int 0, .int 0, .ref a16, .ref a17, .ref a18, .int 0, .int 0, .int 0, .int 0, .int 0, .ref a19, .int 0]))] := hw
  subst hr3
  refine lv_if_ne (tgt := 11) hx hb dX11_likeliest_5 (by decide) (fun h => absurd rfl h) (fun _ => ?_)
  refine lv_bipush (v := (-2)) hx hb dX11_likeliest_8 (by decide) ?_
  exact r_i X hr hlk hw [] (fun _ => 0) rfl rfl rfl (by decide) (by decide) dX11_likeliest_10
set_option maxHeartbeats 4000000 in
set_option maxRecDepth 100000 in
theorem c129_X12_likeliest (l : Launch) (D : va_G) (ct : Nat → ClassId) (a0 : Nat) (p0 : Int32) (a1 : Nat) (a2 : Nat) (a3 : Nat) (a4 : Nat) (a5 : Nat) (a6 : Nat) (a7 : Nat) (a8 : Nat) (a9 : Nat) (a10 : Nat) (a11 : Nat) (a12 : Nat) (a13 : Nat) (a14 : Nat) (a15 : Nat) (a16 : Nat) : CI l yX12_likeliest cX12_likeliest 6 (some .int) { frames := 2, cells := 0, slots := 0, locals := 47 } D ct [.ref a0, .int p0] [(a0, .inr (12, [.int 0, .ref a1, .ref a2, .ref a3, .ref a4, .int 0, .int 0, .int 0, .int 0, .int 0, .int 0, .int 0, .int 0, .int 0, .int (-1), .ref a5, .ref a6, .ref a7, .ref a8, .int 0, .ref a9, .ref a10, .int 0, .int 0, .int 0, .ref a11, .ref a12, .ref a13, .ref a14, .ref a15, .ref a16])), (a1, .inl (ct 0, 5310, .inl fx0))] (fun r => r = (-2)) (fun u => []) := by
  refine CI.of (by decide +kernel) (Nat.le_of_ble_eq_true rfl) ?_
  intro p e s m below meth c A ls hE
  obtain ⟨X, hr, hlk, hnm, hw, hl⟩ := hE
  have X : CX p m c cX12_likeliest 6 s [.ref a0, .int p0].toArray RX12 D ct := X
  have hl : lv_has ls 6 [(0, .ref a0), (1, .int p0)] := hl
  obtain ⟨⟨hx, hb, hml, hown, hts⟩, hK⟩ := id X
  refine lv_aload_n hx hb dX12_likeliest_0 rfl (lv_at hl 0 rfl) ?_
  refine lv_iconst (v := 0) hx hb dX12_likeliest_1 (by decide) ?_
  refine fp_1442 X hw 0 rfl rfl rfl (Nat.le_of_ble_eq_true rfl) dX12_likeliest_2 [(a0, .inr (12, [.int 0, .ref a1, .ref a2, .ref a3, .ref a4, .int 0, .int 0, .int 0, .int 0, .int 0, .int 0, .int 0, .int 0, .int 0, .int (-1), .ref a5, .ref a6, .ref a7, .ref a8, .int 0, .ref a9, .ref a10, .int 0, .int 0, .int 0, .ref a11, .ref a12, .ref a13, .ref a14, .ref a15, .ref a16])), (a1, .inl (ct 0, 5310, .inl fx0))] rfl (fun H locs hw => ?_)
  refine lv_aload_n hx hb dX12_likeliest_5 rfl (lv_at hl 0 rfl) ?_
  refine lv_iload_n hx hb dX12_likeliest_6 rfl (lv_at hl 1 rfl) ?_
  refine lv_i2l (v := p0.toInt64) hx hb dX12_likeliest_7 rfl ?_
  refine m_Vi (As := [.long p0.toInt64]) (rest := []) (c49_X12_isHousehold l D ct a0 (p0.toInt64) a1 a2 a3 a4 a5 a6 a7 a8 a9 a10 a11 a12 a13 a14 a15 a16) X hl.1 kw_1667 kd_yX12_isHousehold hw [0, 1] [] rfl rfl rfl rfl (by decide) 0 rfl rfl ⟨by decide, by decide⟩ rfl rfl (Nat.le_of_ble_eq_true rfl) dX12_likeliest_8 ⟨by decide, by decide⟩ (fun r1 u2 H locs hr3 hw => ?_)
  replace hw : WD D A s.heap _ _ [(a0, .inr (12, [.int 0, .ref a1, .ref a2, .ref a3, .ref a4, .int 0, .int 0, .int 0, .int 0, .int 0, .int 0, .int 0, .int 0, .int 0, .int (-1), .ref a5, .ref a6, .ref a7, .ref a8, .int 0, .ref a9, .ref a10, .int 0, .int 0, .int 0, .ref a11, .ref a12, .ref a13, .ref a14, .ref a15, .ref a16])), (a1, .inl (ct 0, 5310, .inl fx0))] := hw
  subst hr3
  refine lv_if_ne (tgt := 17) hx hb dX12_likeliest_11 (by decide) (fun h => absurd rfl h) (fun _ => ?_)
  refine lv_bipush (v := (-2)) hx hb dX12_likeliest_14 (by decide) ?_
  exact r_i X hr hlk hw [] (fun _ => 0) rfl rfl rfl (by decide) (by decide) dX12_likeliest_16
set_option maxHeartbeats 4000000 in
set_option maxRecDepth 100000 in
theorem c130_X11_sure (l : Launch) (D : va_G) (ct : Nat → ClassId) (a0 : Nat) (p0 : Int32) (p1 : Int32) (a1 : Nat) (a2 : Nat) (a3 : Nat) (a4 : Nat) (a5 : Nat) (a6 : Nat) (a7 : Nat) (a8 : Nat) (a9 : Nat) (a10 : Nat) (a11 : Nat) (a12 : Nat) (a13 : Nat) (a14 : Nat) (a15 : Nat) (a16 : Nat) (a17 : Nat) (a18 : Nat) (a19 : Nat) : CI l yX11_sure cX11_sure 8 (some .int) { frames := 1, cells := 0, slots := 0, locals := 21 } D ct [.ref a0, .int p0, .int p1] [(a0, .inr (11, [.ref a1, .int 0, .ref a2, .ref a3, .ref a4, .ref a5, .ref a6, .ref a7, .ref a8, .ref a9, .ref a10, .ref a11, .ref a12, .ref a13, .ref a14, .ref a15, .int (-1), .int (-1)])), (a2, .inr (2, [.int 0, .int 0, .int 0, .ref a16, .ref a17, .ref a18, .int 0, .int 0, .int 0, .int 0, .int 0, .ref a19, .int 0]))] (fun r => r = (-2)) (fun u => []) := by
  refine CI.of (by decide +kernel) (Nat.le_of_ble_eq_true rfl) ?_
  intro p e s m below meth c A ls hE
  obtain ⟨X, hr, hlk, hnm, hw, hl⟩ := hE
  have X : CX p m c cX11_sure 8 s [.ref a0, .int p0, .int p1].toArray RX11 D ct := X
  have hl : lv_has ls 8 [(0, .ref a0), (1, .int p0), (2, .int p1)] := hl
  obtain ⟨⟨hx, hb, hml, hown, hts⟩, hK⟩ := id X
  refine lv_aload_n hx hb dX11_sure_0 rfl (lv_at hl 0 rfl) ?_
  refine lv_iload_n hx hb dX11_sure_1 rfl (lv_at hl 1 rfl) ?_
  refine m_Vi (As := [.int p0]) (rest := []) (c47_X11_isHousehold l D ct a0 p0 a1 a2 a3 a4 a5 a6 a7 a8 a9 a10 a11 a12 a13 a14 a15 a16 a17 a18 a19) X hl.1 kw_891 kd_yX11_isHousehold hw [0, 1] [] rfl rfl rfl rfl (by decide) 0 rfl rfl ⟨by decide, by decide⟩ rfl rfl (Nat.le_of_ble_eq_true rfl) dX11_sure_2 ⟨by decide, by decide⟩ (fun r1 u2 H locs hr3 hw => ?_)
  replace hw : WD D A s.heap _ _ [(a0, .inr (11, [.ref a1, .int 0, .ref a2, .ref a3, .ref a4, .ref a5, .ref a6, .ref a7, .ref a8, .ref a9, .ref a10, .ref a11, .ref a12, .ref a13, .ref a14, .ref a15, .int (-1), .int (-1)])), (a2, .inr (2, [.int 0, .int 0, .int 0, .ref a16, .ref a17, .ref a18, .int 0, .int 0, .int 0, .int 0, .int 0, .ref a19, .int 0]))] := hw
  subst hr3
  refine lv_if_eq (tgt := 17) hx hb dX11_sure_5 (by decide) (fun _ => ?_) (fun h => absurd (by decide) h)
  refine lv_bipush (v := (-2)) hx hb dX11_sure_17 (by decide) ?_
  exact r_i X hr hlk hw [] (fun _ => 0) rfl rfl rfl (by decide) (by decide) dX11_sure_19
set_option maxHeartbeats 4000000 in
set_option maxRecDepth 100000 in
theorem c131_X12_sure (l : Launch) (D : va_G) (ct : Nat → ClassId) (a0 : Nat) (p0 : Int32) (p1 : Int32) (a1 : Nat) (a2 : Nat) (a3 : Nat) (a4 : Nat) (a5 : Nat) (a6 : Nat) (a7 : Nat) (a8 : Nat) (a9 : Nat) (a10 : Nat) (a11 : Nat) (a12 : Nat) (a13 : Nat) (a14 : Nat) (a15 : Nat) (a16 : Nat) : CI l yX12_sure cX12_sure 6 (some .int) { frames := 2, cells := 0, slots := 0, locals := 47 } D ct [.ref a0, .int p0, .int p1] [(a0, .inr (12, [.int 0, .ref a1, .ref a2, .ref a3, .ref a4, .int 0, .int 0, .int 0, .int 0, .int 0, .int 0, .int 0, .int 0, .int 0, .int (-1), .ref a5, .ref a6, .ref a7, .ref a8, .int 0, .ref a9, .ref a10, .int 0, .int 0, .int 0, .ref a11, .ref a12, .ref a13, .ref a14, .ref a15, .ref a16])), (a1, .inl (ct 0, 5310, .inl fx0))] (fun r => r = (-2)) (fun u => []) := by
  refine CI.of (by decide +kernel) (Nat.le_of_ble_eq_true rfl) ?_
  intro p e s m below meth c A ls hE
  obtain ⟨X, hr, hlk, hnm, hw, hl⟩ := hE
  have X : CX p m c cX12_sure 6 s [.ref a0, .int p0, .int p1].toArray RX12 D ct := X
  have hl : lv_has ls 6 [(0, .ref a0), (1, .int p0), (2, .int p1)] := hl
  obtain ⟨⟨hx, hb, hml, hown, hts⟩, hK⟩ := id X
  refine lv_aload_n hx hb dX12_sure_0 rfl (lv_at hl 0 rfl) ?_
  refine lv_iconst (v := 0) hx hb dX12_sure_1 (by decide) ?_
  refine fp_1442 X hw 0 rfl rfl rfl (Nat.le_of_ble_eq_true rfl) dX12_sure_2 [(a0, .inr (12, [.int 0, .ref a1, .ref a2, .ref a3, .ref a4, .int 0, .int 0, .int 0, .int 0, .int 0, .int 0, .int 0, .int 0, .int 0, .int (-1), .ref a5, .ref a6, .ref a7, .ref a8, .int 0, .ref a9, .ref a10, .int 0, .int 0, .int 0, .ref a11, .ref a12, .ref a13, .ref a14, .ref a15, .ref a16])), (a1, .inl (ct 0, 5310, .inl fx0))] rfl (fun H locs hw => ?_)
  refine lv_aload_n hx hb dX12_sure_5 rfl (lv_at hl 0 rfl) ?_
  refine lv_iload_n hx hb dX12_sure_6 rfl (lv_at hl 1 rfl) ?_
  refine lv_i2l (v := p0.toInt64) hx hb dX12_sure_7 rfl ?_
  refine m_Vi (As := [.long p0.toInt64]) (rest := []) (c49_X12_isHousehold l D ct a0 (p0.toInt64) a1 a2 a3 a4 a5 a6 a7 a8 a9 a10 a11 a12 a13 a14 a15 a16) X hl.1 kw_1667 kd_yX12_isHousehold hw [0, 1] [] rfl rfl rfl rfl (by decide) 0 rfl rfl ⟨by decide, by decide⟩ rfl rfl (Nat.le_of_ble_eq_true rfl) dX12_sure_8 ⟨by decide, by decide⟩ (fun r1 u2 H locs hr3 hw => ?_)
  replace hw : WD D A s.heap _ _ [(a0, .inr (12, [.int 0, .ref a1, .ref a2, .ref a3, .ref a4, .int 0, .int 0, .int 0, .int 0, .int 0, .int 0, .int 0, .int 0, .int 0, .int (-1), .ref a5, .ref a6, .ref a7, .ref a8, .int 0, .ref a9, .ref a10, .int 0, .int 0, .int 0, .ref a11, .ref a12, .ref a13, .ref a14, .ref a15, .ref a16])), (a1, .inl (ct 0, 5310, .inl fx0))] := hw
  subst hr3
  refine lv_if_eq (tgt := 26) hx hb dX12_sure_11 (by decide) (fun _ => ?_) (fun h => absurd (by decide) h)
  refine lv_bipush (v := (-2)) hx hb dX12_sure_26 (by decide) ?_
  exact r_i X hr hlk hw [] (fun _ => 0) rfl rfl rfl (by decide) (by decide) dX12_sure_28
set_option maxHeartbeats 4000000 in
set_option maxRecDepth 100000 in
theorem c132_X11_tooMany (l : Launch) (D : va_G) (ct : Nat → ClassId) (a0 : Nat) (a1 : Nat) (a2 : Nat) (a3 : Nat) (a4 : Nat) (a5 : Nat) (a6 : Nat) (a7 : Nat) (a8 : Nat) (a9 : Nat) (a10 : Nat) (a11 : Nat) (a12 : Nat) (a13 : Nat) (a14 : Nat) (a15 : Nat) (a16 : Nat) (a17 : Nat) (a18 : Nat) (a19 : Nat) (a20 : Nat) (a21 : Nat) (a22 : Nat) (a23 : Nat) (f0 : Nat → Int32) (a24 : Nat) (a25 : Nat) (a26 : Nat) (a27 : Nat) (a28 : Nat) : CI l yX11_tooMany cX11_tooMany 4 (some .int) { frames := 4, cells := 0, slots := 0, locals := 104 } D ct [.ref a0] [(a0, .inr (11, [.ref a1, .int 0, .ref a2, .ref a3, .ref a4, .ref a5, .ref a6, .ref a7, .ref a8, .ref a9, .ref a10, .ref a11, .ref a12, .ref a13, .ref a14, .ref a15, .int (-1), .int (-1)])), (a2, .inr (2, [.int 0, .int 0, .int 0, .ref a16, .ref a17, .ref a18, .int 0, .int 0, .int 0, .int 0, .int 0, .ref a19, .int 0])), (a4, .inr (9, [.ref a20, .ref a21, .ref a2, .ref a22, .ref a23, .int (-1)])), (a20, .inl (ct 0, 7, .inl f0)), (a5, .inr (5, [.ref a24, .ref a25, .ref a26, .ref a27, .ref a28, .int 0, .int 0])), (a25, .inl (ct 0, 256, .inl (fun _ => 0))), (a28, .inl (ct 0, 7, .inl f0))] (fun r => r = 0) (fun u => []) := by
  refine CI.of (by decide +kernel) (Nat.le_of_ble_eq_true rfl) ?_
  intro p e s m below meth c A ls hE
  obtain ⟨X, hr, hlk, hnm, hw, hl⟩ := hE
  have X : CX p m c cX11_tooMany 4 s [.ref a0].toArray RX11 D ct := X
  have hl : lv_has ls 4 [(0, .ref a0)] := hl
  obtain ⟨⟨hx, hb, hml, hown, hts⟩, hK⟩ := id X
  refine lv_aload_n hx hb dX11_tooMany_0 rfl (lv_at hl 0 rfl) ?_
  refine m_Vi (As := []) (rest := []) (c114_X11_tallyAll l D ct a0 a1 a2 a3 a4 a5 a6 a7 a8 a9 a10 a11 a12 a13 a14 a15 a16 a17 a18 a19 a20 a21 a22 a23 f0 a24 a25 a26 a27 a28) X hl.1 kw_1140 kd_yX11_tallyAll hw [0, 1, 2, 3, 4, 5, 6] [] rfl rfl rfl rfl (by decide) 0 rfl rfl ⟨by decide, by decide⟩ rfl rfl (Nat.le_of_ble_eq_true rfl) dX11_tooMany_1 ⟨by decide, by decide⟩ (fun r1 u2 H locs hr3 hw => ?_)
  replace hw : WD D A s.heap _ _ [(a0, .inr (11, [.ref a1, .int 0, .ref a2, .ref a3, .ref a4, .ref a5, .ref a6, .ref a7, .ref a8, .ref a9, .ref a10, .ref a11, .ref a12, .ref a13, .ref a14, .ref a15, .int (-1), .int (-1)])), (a2, .inr (2, [.int 0, .int 0, .int 0, .ref a16, .ref a17, .ref a18, .int 0, .int 0, .int 0, .int 0, .int 0, .ref a19, .int 0])), (a4, .inr (9, [.ref a20, .ref a21, .ref a2, .ref a22, .ref a23, .int 0])), (a20, .inl (ct 0, 7, .inl f0)), (a25, .inl (ct 0, 256, .inl (upd (fun _ => 0) 0 1))), (a28, .inl (ct 0, 7, .inl (va_cpy f0 f0 0 0 0))), (a5, .inr (5, [.ref a24, .ref a25, .ref a26, .ref a27, .ref a28, .int 0, .int 0]))] := hw
  subst hr3
  refine lv_if_le (tgt := 9) hx hb dX11_tooMany_4 (by decide) (fun h => absurd h (by decide)) (fun _ => ?_)
  refine lv_iconst (v := 0) hx hb dX11_tooMany_7 (by decide) ?_
  exact r_i X hr hlk hw [] (fun _ => 0) rfl rfl rfl (by decide) (by decide) dX11_tooMany_8
set_option maxHeartbeats 4000000 in
set_option maxRecDepth 100000 in
theorem c133_X12_tooMany (l : Launch) (D : va_G) (ct : Nat → ClassId) (a0 : Nat) (a1 : Nat) (a2 : Nat) (a3 : Nat) (a4 : Nat) (a5 : Nat) (a6 : Nat) (a7 : Nat) (a8 : Nat) (a9 : Nat) (a10 : Nat) (a11 : Nat) (a12 : Nat) (a13 : Nat) (a14 : Nat) (a15 : Nat) (a16 : Nat) (f0 : Nat → Int32) : CI l yX12_tooMany cX12_tooMany 3 (some .int) { frames := 2, cells := 0, slots := 0, locals := 46 } D ct [.ref a0] [(a0, .inr (12, [.int 0, .ref a1, .ref a2, .ref a3, .ref a4, .int 0, .int 0, .int 0, .int 0, .int 0, .int 0, .int 0, .int 0, .int 0, .int (-1), .ref a5, .ref a6, .ref a7, .ref a8, .int 0, .ref a9, .ref a10, .int 0, .int 0, .int 0, .ref a11, .ref a12, .ref a13, .ref a14, .ref a15, .ref a16])), (a8, .inl (ct 0, 40320, .inl f0)), (a1, .inl (ct 0, 5310, .inl fx0))] (fun r => r = 0) (fun u => []) := by
  refine CI.of (by decide +kernel) (Nat.le_of_ble_eq_true rfl) ?_
  intro p e s m below meth c A ls hE
  obtain ⟨X, hr, hlk, hnm, hw, hl⟩ := hE
  have X : CX p m c cX12_tooMany 3 s [.ref a0].toArray RX12 D ct := X
  have hl : lv_has ls 3 [(0, .ref a0)] := hl
  obtain ⟨⟨hx, hb, hml, hown, hts⟩, hK⟩ := id X
  refine lv_aload_n hx hb dX12_tooMany_0 rfl (lv_at hl 0 rfl) ?_
  refine lv_iconst (v := 0) hx hb dX12_tooMany_1 (by decide) ?_
  refine fp_1442 X hw 0 rfl rfl rfl (Nat.le_of_ble_eq_true rfl) dX12_tooMany_2 [(a0, .inr (12, [.int 0, .ref a1, .ref a2, .ref a3, .ref a4, .int 0, .int 0, .int 0, .int 0, .int 0, .int 0, .int 0, .int 0, .int 0, .int (-1), .ref a5, .ref a6, .ref a7, .ref a8, .int 0, .ref a9, .ref a10, .int 0, .int 0, .int 0, .ref a11, .ref a12, .ref a13, .ref a14, .ref a15, .ref a16])), (a8, .inl (ct 0, 40320, .inl f0)), (a1, .inl (ct 0, 5310, .inl fx0))] rfl (fun H locs hw => ?_)
  refine lv_aload_n hx hb dX12_tooMany_5 rfl (lv_at hl 0 rfl) ?_
  refine lv_iconst (v := (-1)) hx hb dX12_tooMany_6 (by decide) ?_
  refine m_Vv (As := [.int (-1)]) (rest := []) (c71_X12_laysMaps l D ct a0 a1 a2 a3 a4 a5 a6 a7 a8 a9 a10 a11 a12 a13 a14 a15 a16 f0) X hl.1 kw_1716 kd_yX12_laysMaps hw [0, 1, 2] [] rfl rfl rfl rfl (by decide) 0 rfl rfl ⟨by decide, by decide⟩ rfl rfl (Nat.le_of_ble_eq_true rfl) dX12_tooMany_7 ⟨by decide, by decide⟩ (fun u2 H locs hr3 hw => ?_)
  replace hw : WD D A s.heap _ _ [(a8, .inl (ct 0, 40320, .inl (upd f0 0 0))), (a0, .inr (12, [.int 0, .ref a1, .ref a2, .ref a3, .ref a4, .int 0, .int 0, .int 0, .int 0, .int 0, .int 0, .int 0, .int 0, .int 0, .int (-1), .ref a5, .ref a6, .ref a7, .ref a8, .int 1, .ref a9, .ref a10, .int 0, .int 0, .int 0, .ref a11, .ref a12, .ref a13, .ref a14, .ref a15, .ref a16])), (a1, .inl (ct 0, 5310, .inl fx0))] := hw
  refine lv_aload_n hx hb dX12_tooMany_10 rfl (lv_at hl 0 rfl) ?_
  refine fg_1461 X hw 1 rfl rfl dX12_tooMany_11 ?_
  refine lv_if_le (tgt := 19) hx hb dX12_tooMany_14 (by decide) (fun h => absurd h (by decide)) (fun _ => ?_)
  refine lv_iconst (v := 0) hx hb dX12_tooMany_17 (by decide) ?_
  exact r_i X hr hlk hw [] (fun _ => 0) rfl rfl rfl (by decide) (by decide) dX12_tooMany_18
set_option maxHeartbeats 4000000 in
set_option maxRecDepth 100000 in
theorem c134_X11_asksOfMap (l : Launch) (D : va_G) (ct : Nat → ClassId) (p0 : Int32) : CI l yX11_asksOfMap cX11_asksOfMap 1 (some .boolean) { frames := 0, cells := 0, slots := 0, locals := 0 } D ct [.int p0] [] (fun r => ((p0.toInt = 0 ∧ p0.toInt = 0) ∨ (p0.toInt ≠ 0 ∧ p0.toInt ≥ 10 ∧ p0.toInt < 17)) ∧ r = 1 ∨ ((p0.toInt ≠ 0 ∧ p0.toInt < 10) ∨ (p0.toInt ≠ 0 ∧ p0.toInt ≥ 10 ∧ p0.toInt ≥ 17)) ∧ r = 0) (fun u => []) := by
  refine CI.of (by decide +kernel) (Nat.le_of_ble_eq_true rfl) ?_
  intro p e s m below meth c A ls hE
  obtain ⟨X, hr, hlk, hnm, hw, hl⟩ := hE
  have X : CX p m c cX11_asksOfMap 1 s [.int p0].toArray RX11 D ct := X
  have hl : lv_has ls 1 [(0, .int p0)] := hl
  obtain ⟨⟨hx, hb, hml, hown, hts⟩, hK⟩ := id X
  refine lv_iload_n hx hb dX11_asksOfMap_0 rfl (lv_at hl 0 rfl) ?_
  refine lv_if_eq (tgt := 16) hx hb dX11_asksOfMap_1 (by decide) (fun h1 => ?_) (fun h1 => ?_)
  · have h1 : p0.toInt = 0 := by have q := ci_eq (a := p0.toInt) (b := 0) rfl (by decide) h1; omega
    have e2 : p0.toInt = 0 := by omega
    obtain rfl : p0 = 0 := i32_of e2
    refine lv_iconst (v := 1) hx hb dX11_asksOfMap_16 (by decide) ?_
    refine lv_goto (tgt := 21) hx hb dX11_asksOfMap_17 (by decide) ?_
    exact r_z X hr hlk hw [] (fun _ => 0) rfl rfl (Or.inl (⟨Or.inl (⟨h1, e2⟩), rfl⟩)) (by decide) (by decide) (by decide) dX11_asksOfMap_21
  · have h1 : p0.toInt ≠ 0 := by have q := ci_neq (a := p0.toInt) (b := 0) rfl (by decide) h1; omega
    refine lv_iload_n hx hb dX11_asksOfMap_4 rfl (lv_at hl 0 rfl) ?_
    refine lv_bipush (v := 10) hx hb dX11_asksOfMap_5 (by decide) ?_
    refine lv_icmp_lt (tgt := 20) hx hb dX11_asksOfMap_7 (by decide) (fun h3 => ?_) (fun h3 => ?_)
    · have h3 : p0.toInt < 10 := by have q := ci_lt (a := p0.toInt) (b := 10) rfl (by decide) h3; omega
      refine lv_iconst (v := 0) hx hb dX11_asksOfMap_20 (by decide) ?_
      exact r_z X hr hlk hw [] (fun _ => 0) rfl rfl (Or.inr (⟨Or.inl (⟨h1, h3⟩), rfl⟩)) (by decide) (by decide) (by decide) dX11_asksOfMap_21
    · have h3 : p0.toInt ≥ 10 := by have q := ci_nlt (a := p0.toInt) (b := 10) rfl (by decide) h3; omega
      refine lv_iload_n hx hb dX11_asksOfMap_10 rfl (lv_at hl 0 rfl) ?_
      refine lv_bipush (v := 17) hx hb dX11_asksOfMap_11 (by decide) ?_
      refine lv_icmp_ge (tgt := 20) hx hb dX11_asksOfMap_13 (by decide) (fun h4 => ?_) (fun h4 => ?_)
      · have h4 : p0.toInt ≥ 17 := by have q := ci_le (a := 17) (b := p0.toInt) (by decide) rfl h4; omega
        refine lv_iconst (v := 0) hx hb dX11_asksOfMap_20 (by decide) ?_
        exact r_z X hr hlk hw [] (fun _ => 0) rfl rfl (Or.inr (⟨Or.inr (⟨h1, h3, h4⟩), rfl⟩)) (by decide) (by decide) (by decide) dX11_asksOfMap_21
      · have h4 : p0.toInt < 17 := by have q := ci_nle (a := 17) (b := p0.toInt) (by decide) rfl h4; omega
        refine lv_iconst (v := 1) hx hb dX11_asksOfMap_16 (by decide) ?_
        refine lv_goto (tgt := 21) hx hb dX11_asksOfMap_17 (by decide) ?_
        exact r_z X hr hlk hw [] (fun _ => 0) rfl rfl (Or.inl (⟨Or.inr (⟨h1, h3, h4⟩), rfl⟩)) (by decide) (by decide) (by decide) dX11_asksOfMap_21
set_option maxHeartbeats 4000000 in
set_option maxRecDepth 100000 in
theorem c135_X5_mostInSum (l : Launch) (D : va_G) (ct : Nat → ClassId) (a0 : Nat) (a1 : Nat) (a2 : Nat) (a3 : Nat) (a4 : Nat) (a5 : Nat) (a6 : Nat) : CI l yX5_mostInSum cX5_mostInSum 5 (some .int) { frames := 1, cells := 0, slots := 0, locals := 20 } D ct [.ref a0, .ref a1] [(a2, .inl (ct 0, 256, .inl (fun _ => 0))), (a0, .inr (5, [.ref a3, .ref a4, .ref a5, .ref a2, .ref a6, .int 0, .int 0]))] (fun r => r = 0) (fun u => [(a2, .inl (ct 0, 256, .inl (upd (fun _ => 0) 0 0))), (a0, .inr (5, [.ref a3, .ref a4, .ref a5, .ref a2, .ref a6, .int 0, .int 0]))]) := by
  refine CI.of (by decide +kernel) (Nat.le_of_ble_eq_true rfl) ?_
  intro p e s m below meth c A ls hE
  obtain ⟨X, hr, hlk, hnm, hw, hl⟩ := hE
  have X : CX p m c cX5_mostInSum 5 s [.ref a0, .ref a1].toArray RX5 D ct := X
  have hl : lv_has ls 5 [(0, .ref a0), (1, .ref a1)] := hl
  obtain ⟨⟨hx, hb, hml, hown, hts⟩, hK⟩ := id X
  refine lv_iconst (v := 1) hx hb dX5_mostInSum_0 (by decide) ?_
  refine lv_aload_n hx hb dX5_mostInSum_1 rfl (lv_at hl 0 rfl) ?_
  refine fg_367 X hw 1 rfl rfl dX5_mostInSum_2 ?_
  refine kv_ishl (v := 1) hx hb (by decide) dX5_mostInSum_5 ?_
  refine lv_iconst (v := 1) hx hb dX5_mostInSum_6 (by decide) ?_
  refine kv_isub (v := 0) hx hb (by decide) dX5_mostInSum_7 ?_
  refine lv_istore_n (lv' := [(2, .int 0), (0, .ref a0), (1, .ref a1)]) hx hb dX5_mostInSum_8 rfl hl (by decide) rfl (fun ls hl => ?_)
  refine lv_iload_n hx hb dX5_mostInSum_9 rfl (lv_at hl 0 rfl) ?_
  refine lv_if_lt (tgt := 117) hx hb dX5_mostInSum_10 (by decide) (fun h => absurd h (by decide)) (fun _ => ?_)
  refine lv_iload_n hx hb dX5_mostInSum_13 rfl (lv_at hl 0 rfl) ?_
  refine m_Si (As := [.int 0]) (rest := []) (c61_J6_bitCount_0f7a4 l D ct) X hl.1 kw_966 kd_yJ6_bitCount_0f7a4 hw [] [0, 1] rfl rfl rfl rfl (by decide) ⟨by decide, by decide⟩ rfl rfl (Nat.le_of_ble_eq_true rfl) dX5_mostInSum_14 ⟨by decide, by decide⟩ (fun r1 u2 H locs hr3 hw => ?_)
  replace hw : WD D A s.heap _ _ [(a2, .inl (ct 0, 256, .inl (fun _ => 0))), (a0, .inr (5, [.ref a3, .ref a4, .ref a5, .ref a2, .ref a6, .int 0, .int 0]))] := hw
  subst hr3
  refine lv_istore_n (lv' := [(3, .int 0), (2, .int 0), (0, .ref a0), (1, .ref a1)]) hx hb dX5_mostInSum_17 rfl hl (by decide) rfl (fun ls hl => ?_)
  refine lv_aload_n hx hb dX5_mostInSum_18 rfl (lv_at hl 2 rfl) ?_
  refine fg_364 X hw 1 rfl rfl dX5_mostInSum_19 ?_
  refine lv_iload_n hx hb dX5_mostInSum_22 rfl (lv_at hl 1 rfl) ?_
  refine lv_iload_n hx hb dX5_mostInSum_23 rfl (lv_at hl 0 rfl) ?_
  refine lv_aload_n hx hb dX5_mostInSum_24 rfl (lv_at hl 2 rfl) ?_
  refine fg_366 X hw 1 rfl rfl dX5_mostInSum_25 ?_
  refine lv_icmp_lt (tgt := 35) hx hb dX5_mostInSum_28 (by decide) (fun h => absurd h (by decide)) (fun _ => ?_)
  refine lv_iconst (v := 0) hx hb dX5_mostInSum_31 (by decide) ?_
  refine lv_goto (tgt := 37) hx hb dX5_mostInSum_32 (by decide) ?_
  refine j_iast (j := 0) X hw 0 rfl (by decide) (by decide) (by decide) dX5_mostInSum_37 [(a2, .inl (ct 0, 256, .inl (upd (fun _ => 0) 0 0))), (a0, .inr (5, [.ref a3, .ref a4, .ref a5, .ref a2, .ref a6, .int 0, .int 0]))] rfl (fun H locs hw => ?_)
  refine lv_iconst (v := 0) hx hb dX5_mostInSum_38 (by decide) ?_
  refine lv_istore (lv' := [(4, .int 0), (3, .int 0), (2, .int 0), (0, .ref a0), (1, .ref a1)]) hx hb dX5_mostInSum_39 hl (by decide) rfl (fun ls hl => ?_)
  refine lv_iload hx hb dX5_mostInSum_41 (lv_at hl 0 rfl) ?_
  refine lv_aload_n hx hb dX5_mostInSum_43 rfl (lv_at hl 3 rfl) ?_
  refine fg_367 X hw 1 rfl rfl dX5_mostInSum_44 ?_
  refine lv_icmp_ge (tgt := 111) hx hb dX5_mostInSum_47 (by decide) (fun _ => ?_) (fun h => absurd (by decide) h)
  refine lv_iinc (v := (-1)) (lv' := [(2, .int (-1)), (4, .int 0), (3, .int 0), (0, .ref a0), (1, .ref a1)]) hx hb dX5_mostInSum_111 hl (k := 2) rfl (by decide) (by decide) rfl (fun ls hl => ?_)
  refine lv_goto (tgt := 9) hx hb dX5_mostInSum_114 (by decide) ?_
  refine lv_iload_n hx hb dX5_mostInSum_9 rfl (lv_at hl 0 rfl) ?_
  refine lv_if_lt (tgt := 117) hx hb dX5_mostInSum_10 (by decide) (fun _ => ?_) (fun h => absurd (by decide) h)
  refine lv_aload_n hx hb dX5_mostInSum_117 rfl (lv_at hl 3 rfl) ?_
  refine fg_364 X hw 1 rfl rfl dX5_mostInSum_118 ?_
  refine lv_iconst (v := 0) hx hb dX5_mostInSum_121 (by decide) ?_
  refine j_iald (j := 0) (v := 0) X hw 0 rfl (by decide) (by decide) (by decide) rfl dX5_mostInSum_122 ?_
  exact r_i X hr hlk hw [0, 1] (fun _ => 0) rfl rfl rfl (by decide) (by decide) dX5_mostInSum_123
set_option maxHeartbeats 4000000 in
set_option maxRecDepth 100000 in
theorem c136_X5_pickMostInSum (l : Launch) (D : va_G) (ct : Nat → ClassId) (a0 : Nat) (a1 : Nat) (a2 : Nat) (a3 : Nat) (a4 : Nat) (a5 : Nat) (a6 : Nat) (a7 : Nat) : CV l yX5_pickMostInSum cX5_pickMostInSum 6 none { frames := 0, cells := 0, slots := 0, locals := 0 } D ct [.ref a0, .ref a1, .ref a2] [(a0, .inr (5, [.ref a3, .ref a4, .ref a5, .ref a6, .ref a7, .int 0, .int 0]))] True (fun u => [(a0, .inr (5, [.ref a3, .ref a4, .ref a5, .ref a6, .ref a7, .int 0, .int 0]))]) := by
  refine CV.of (by decide +kernel) (Nat.le_of_ble_eq_true rfl) ?_
  intro p e s m below meth c A ls hE
  obtain ⟨X, hr, hlk, hnm, hw, hl⟩ := hE
  have X : CX p m c cX5_pickMostInSum 6 s [.ref a0, .ref a1, .ref a2].toArray RX5 D ct := X
  have hl : lv_has ls 6 [(0, .ref a0), (1, .ref a1), (2, .ref a2)] := hl
  obtain ⟨⟨hx, hb, hml, hown, hts⟩, hK⟩ := id X
  refine lv_iconst (v := 0) hx hb dX5_pickMostInSum_0 (by decide) ?_
  refine lv_istore_n (lv' := [(3, .int 0), (0, .ref a0), (1, .ref a1), (2, .ref a2)]) hx hb dX5_pickMostInSum_1 rfl hl (by decide) rfl (fun ls hl => ?_)
  refine lv_iconst (v := 0) hx hb dX5_pickMostInSum_2 (by decide) ?_
  refine lv_istore (lv' := [(4, .int 0), (3, .int 0), (0, .ref a0), (1, .ref a1), (2, .ref a2)]) hx hb dX5_pickMostInSum_3 hl (by decide) rfl (fun ls hl => ?_)
  refine lv_iload hx hb dX5_pickMostInSum_5 (lv_at hl 0 rfl) ?_
  refine lv_aload_n hx hb dX5_pickMostInSum_7 rfl (lv_at hl 2 rfl) ?_
  refine fg_366 X hw 0 rfl rfl dX5_pickMostInSum_8 ?_
  refine lv_icmp_ge (tgt := 66) hx hb dX5_pickMostInSum_11 (by decide) (fun _ => ?_) (fun h => absurd (by decide) h)
  exact r_v X hr hlk hw [0] (fun _ => 0) rfl rfl trivial (by decide) (by decide) dX5_pickMostInSum_66
set_option maxHeartbeats 4000000 in
set_option maxRecDepth 100000 in
theorem c137_X11_pickedFlat (l : Launch) (D : va_G) (ct : Nat → ClassId) (a0 : Nat) (p0 : Int32) (a1 : Nat) (a2 : Nat) (a3 : Nat) (a4 : Nat) (a5 : Nat) (a6 : Nat) (a7 : Nat) (a8 : Nat) (a9 : Nat) (a10 : Nat) (a11 : Nat) (a12 : Nat) (a13 : Nat) (a14 : Nat) (a15 : Nat) (a16 : Nat) (a17 : Nat) (a18 : Nat) (a19 : Nat) : CI l yX11_pickedFlat cX11_pickedFlat 3 (some .int) { frames := 1, cells := 0, slots := 0, locals := 21 } D ct [.ref a0, .int p0] [(a0, .inr (11, [.ref a1, .int 0, .ref a2, .ref a3, .ref a4, .ref a5, .ref a6, .ref a7, .ref a8, .ref a9, .ref a10, .ref a11, .ref a12, .ref a13, .ref a14, .ref a15, .int (-1), .int (-1)])), (a2, .inr (2, [.int 0, .int 0, .int 0, .ref a16, .ref a17, .ref a18, .int 0, .int 0, .int 0, .int 0, .int 0, .ref a19, .int 0]))] (fun r => r = (-1)) (fun u => [(a0, .inr (11, [.ref a1, .int 0, .ref a2, .ref a3, .ref a4, .ref a5, .ref a6, .ref a7, .ref a8, .ref a9, .ref a10, .ref a11, .ref a12, .ref a13, .ref a14, .ref a15, .int (-1), .int (-1)])), (a2, .inr (2, [.int 0, .int 0, .int 0, .ref a16, .ref a17, .ref a18, .int 0, .int 0, .int 0, .int 0, .int 0, .ref a19, .int 0]))]) := by
  refine CI.of (by decide +kernel) (Nat.le_of_ble_eq_true rfl) ?_
  intro p e s m below meth c A ls hE
  obtain ⟨X, hr, hlk, hnm, hw, hl⟩ := hE
  have X : CX p m c cX11_pickedFlat 3 s [.ref a0, .int p0].toArray RX11 D ct := X
  have hl : lv_has ls 3 [(0, .ref a0), (1, .int p0)] := hl
  obtain ⟨⟨hx, hb, hml, hown, hts⟩, hK⟩ := id X
  refine lv_iload_n hx hb dX11_pickedFlat_0 rfl (lv_at hl 1 rfl) ?_
  refine lv_bipush (v := 10) hx hb dX11_pickedFlat_1 (by decide) ?_
  refine kv_isub (v := (p0 - 10)) hx hb rfl dX11_pickedFlat_3 ?_
  refine lv_istore_n (lv' := [(2, .int (p0 - 10)), (0, .ref a0), (1, .int p0)]) hx hb dX11_pickedFlat_4 rfl hl (by decide) rfl (fun ls hl => ?_)
  refine lv_aload_n hx hb dX11_pickedFlat_5 rfl (lv_at hl 1 rfl) ?_
  refine lv_iload_n hx hb dX11_pickedFlat_6 rfl (lv_at hl 0 rfl) ?_
  refine m_Vi (As := [.int (p0 - 10)]) (rest := []) (c47_X11_isHousehold l D ct a0 ((p0 - 10)) a1 a2 a3 a4 a5 a6 a7 a8 a9 a10 a11 a12 a13 a14 a15 a16 a17 a18 a19) X hl.1 kw_891 kd_yX11_isHousehold hw [0, 1] [] rfl rfl rfl rfl (by decide) 0 rfl rfl ⟨by decide, by decide⟩ rfl rfl (Nat.le_of_ble_eq_true rfl) dX11_pickedFlat_7 ⟨by decide, by decide⟩ (fun r1 u2 H locs hr3 hw => ?_)
  replace hw : WD D A s.heap _ _ [(a0, .inr (11, [.ref a1, .int 0, .ref a2, .ref a3, .ref a4, .ref a5, .ref a6, .ref a7, .ref a8, .ref a9, .ref a10, .ref a11, .ref a12, .ref a13, .ref a14, .ref a15, .int (-1), .int (-1)])), (a2, .inr (2, [.int 0, .int 0, .int 0, .ref a16, .ref a17, .ref a18, .int 0, .int 0, .int 0, .int 0, .int 0, .ref a19, .int 0]))] := hw
  subst hr3
  refine lv_if_eq (tgt := 22) hx hb dX11_pickedFlat_10 (by decide) (fun _ => ?_) (fun h => absurd (by decide) h)
  refine lv_iconst (v := (-1)) hx hb dX11_pickedFlat_22 (by decide) ?_
  exact r_i X hr hlk hw [0, 1] (fun _ => 0) rfl rfl rfl (by decide) (by decide) dX11_pickedFlat_23
set_option maxHeartbeats 4000000 in
set_option maxRecDepth 100000 in
theorem c138_X11_best (l : Launch) (D : va_G) (ct : Nat → ClassId) (a0 : Nat) (p0 : Int32) (a1 : Nat) (a2 : Nat) (a3 : Nat) (a4 : Nat) (a5 : Nat) (a6 : Nat) (a7 : Nat) (a8 : Nat) (a9 : Nat) (a10 : Nat) (a11 : Nat) (a12 : Nat) (a13 : Nat) (a14 : Nat) (a15 : Nat) (a16 : Nat) (a17 : Nat) (a18 : Nat) (a19 : Nat) (a20 : Nat) (a21 : Nat) (a22 : Nat) (a23 : Nat) (f0 : Nat → Int32) (a24 : Nat) (a25 : Nat) (a26 : Nat) (a27 : Nat) (a28 : Nat) : CI l yX11_best cX11_best 3 (some .int) { frames := 4, cells := 0, slots := 0, locals := 104 } D ct [.ref a0, .int p0] [(a0, .inr (11, [.ref a1, .int 0, .ref a2, .ref a3, .ref a4, .ref a5, .ref a6, .ref a7, .ref a8, .ref a9, .ref a10, .ref a11, .ref a12, .ref a13, .ref a14, .ref a15, .int (-1), .int (-1)])), (a2, .inr (2, [.int 0, .int 0, .int 0, .ref a16, .ref a17, .ref a18, .int 0, .int 0, .int 0, .int 0, .int 0, .ref a19, .int 0])), (a4, .inr (9, [.ref a20, .ref a21, .ref a2, .ref a22, .ref a23, .int (-1)])), (a20, .inl (ct 0, 7, .inl f0)), (a5, .inr (5, [.ref a24, .ref a25, .ref a26, .ref a27, .ref a28, .int 0, .int 0])), (a25, .inl (ct 0, 256, .inl (fun _ => 0))), (a27, .inl (ct 0, 256, .inl (fun _ => 0))), (a28, .inl (ct 0, 7, .inl f0))] (fun r => (((p0.toInt = 0 ∧ p0.toInt = 0) ∨ (p0.toInt ≠ 0 ∧ p0.toInt ≥ 10 ∧ p0.toInt < 17)) ∧ p0.toInt ≠ 0) ∧ r = (-1) ∨ (((p0.toInt = 0 ∧ p0.toInt = 0) ∨ (p0.toInt ≠ 0 ∧ p0.toInt ≥ 10 ∧ p0.toInt < 17)) ∧ p0.toInt = 0 ∧ p0.toInt = 0) ∧ r = 0 ∨ (((p0.toInt ≠ 0 ∧ p0.toInt < 10) ∨ (p0.toInt ≠ 0 ∧ p0.toInt ≥ 10 ∧ p0.toInt ≥ 17))) ∧ r = (-2)) (fun u => []) := by
  refine CI.of (by decide +kernel) (Nat.le_of_ble_eq_true rfl) ?_
  intro p e s m below meth c A ls hE
  obtain ⟨X, hr, hlk, hnm, hw, hl⟩ := hE
  have X : CX p m c cX11_best 3 s [.ref a0, .int p0].toArray RX11 D ct := X
  have hl : lv_has ls 3 [(0, .ref a0), (1, .int p0)] := hl
  obtain ⟨⟨hx, hb, hml, hown, hts⟩, hK⟩ := id X
  refine lv_iload_n hx hb dX11_best_0 rfl (lv_at hl 1 rfl) ?_
  refine m_Si (As := [.int p0]) (rest := []) (c134_X11_asksOfMap l D ct p0) X hl.1 kw_1205 kd_yX11_asksOfMap hw [] [0, 1, 2, 3, 4, 5, 6, 7] rfl rfl rfl rfl (by decide) ⟨by decide, by decide⟩ rfl rfl (Nat.le_of_ble_eq_true rfl) dX11_best_1 ⟨by decide, by decide⟩ (fun r1 u2 H locs hr3 hw => ?_)
  replace hw : WD D A s.heap _ _ [(a0, .inr (11, [.ref a1, .int 0, .ref a2, .ref a3, .ref a4, .ref a5, .ref a6, .ref a7, .ref a8, .ref a9, .ref a10, .ref a11, .ref a12, .ref a13, .ref a14, .ref a15, .int (-1), .int (-1)])), (a2, .inr (2, [.int 0, .int 0, .int 0, .ref a16, .ref a17, .ref a18, .int 0, .int 0, .int 0, .int 0, .int 0, .ref a19, .int 0])), (a4, .inr (9, [.ref a20, .ref a21, .ref a2, .ref a22, .ref a23, .int (-1)])), (a20, .inl (ct 0, 7, .inl f0)), (a5, .inr (5, [.ref a24, .ref a25, .ref a26, .ref a27, .ref a28, .int 0, .int 0])), (a25, .inl (ct 0, 256, .inl (fun _ => 0))), (a27, .inl (ct 0, 256, .inl (fun _ => 0))), (a28, .inl (ct 0, 7, .inl f0))] := hw
  rcases hr3 with ⟨h4, rfl⟩ | ⟨h5, rfl⟩
  · skip
    refine lv_if_ne (tgt := 10) hx hb dX11_best_4 (by decide) (fun _ => ?_) (fun h => absurd h (by decide))
    refine lv_aload_n hx hb dX11_best_10 rfl (lv_at hl 0 rfl) ?_
    refine m_Vi (As := []) (rest := []) (c114_X11_tallyAll l D ct a0 a1 a2 a3 a4 a5 a6 a7 a8 a9 a10 a11 a12 a13 a14 a15 a16 a17 a18 a19 a20 a21 a22 a23 f0 a24 a25 a26 a27 a28) X hl.1 kw_1140 kd_yX11_tallyAll hw [0, 1, 2, 3, 4, 5, 7] [6] rfl rfl rfl rfl (by decide) 0 rfl rfl ⟨by decide, by decide⟩ rfl rfl (Nat.le_of_ble_eq_true rfl) dX11_best_11 ⟨by decide, by decide⟩ (fun r6 u7 H locs hr8 hw => ?_)
    replace hw : WD D A s.heap _ _ [(a27, .inl (ct 0, 256, .inl (fun _ => 0))), (a0, .inr (11, [.ref a1, .int 0, .ref a2, .ref a3, .ref a4, .ref a5, .ref a6, .ref a7, .ref a8, .ref a9, .ref a10, .ref a11, .ref a12, .ref a13, .ref a14, .ref a15, .int (-1), .int (-1)])), (a2, .inr (2, [.int 0, .int 0, .int 0, .ref a16, .ref a17, .ref a18, .int 0, .int 0, .int 0, .int 0, .int 0, .ref a19, .int 0])), (a4, .inr (9, [.ref a20, .ref a21, .ref a2, .ref a22, .ref a23, .int 0])), (a20, .inl (ct 0, 7, .inl f0)), (a25, .inl (ct 0, 256, .inl (upd (fun _ => 0) 0 1))), (a28, .inl (ct 0, 7, .inl (va_cpy f0 f0 0 0 0))), (a5, .inr (5, [.ref a24, .ref a25, .ref a26, .ref a27, .ref a28, .int 0, .int 0]))] := hw
    subst hr8
    refine lv_if_ne (tgt := 28) hx hb dX11_best_14 (by decide) (fun _ => ?_) (fun h => absurd h (by decide))
    refine lv_aload_n hx hb dX11_best_28 rfl (lv_at hl 0 rfl) ?_
    refine fg_570 X hw 1 rfl rfl dX11_best_29 ?_
    refine lv_aload_n hx hb dX11_best_32 rfl (lv_at hl 0 rfl) ?_
    refine fg_569 X hw 1 rfl rfl dX11_best_33 ?_
    refine fg_336 X hw 3 rfl rfl dX11_best_36 ?_
    refine m_Vi (As := [.ref a21]) (rest := []) (c135_X5_mostInSum l D ct a5 a21 a27 a24 a25 a26 a28) X hl.1 kw_1208 kd_yX5_mostInSum hw [0, 7] [1, 2, 3, 4, 5, 6] rfl rfl rfl rfl (by decide) 1 rfl rfl ⟨by decide, by decide⟩ rfl rfl (Nat.le_of_ble_eq_true rfl) dX11_best_39 ⟨by decide, by decide⟩ (fun r9 u10 H locs hr11 hw => ?_)
    replace hw : WD D A s.heap _ _ [(a0, .inr (11, [.ref a1, .int 0, .ref a2, .ref a3, .ref a4, .ref a5, .ref a6, .ref a7, .ref a8, .ref a9, .ref a10, .ref a11, .ref a12, .ref a13, .ref a14, .ref a15, .int (-1), .int (-1)])), (a2, .inr (2, [.int 0, .int 0, .int 0, .ref a16, .ref a17, .ref a18, .int 0, .int 0, .int 0, .int 0, .int 0, .ref a19, .int 0])), (a4, .inr (9, [.ref a20, .ref a21, .ref a2, .ref a22, .ref a23, .int 0])), (a20, .inl (ct 0, 7, .inl f0)), (a25, .inl (ct 0, 256, .inl (upd (fun _ => 0) 0 1))), (a28, .inl (ct 0, 7, .inl (va_cpy f0 f0 0 0 0))), (a27, .inl (ct 0, 256, .inl (upd (fun _ => 0) 0 0))), (a5, .inr (5, [.ref a24, .ref a25, .ref a26, .ref a27, .ref a28, .int 0, .int 0]))] := hw
    subst hr11
    refine lv_istore_n (lv' := [(2, .int 0), (0, .ref a0), (1, .int p0)]) hx hb dX11_best_42 rfl hl (by decide) rfl (fun ls hl => ?_)
    refine lv_iload_n hx hb dX11_best_43 rfl (lv_at hl 2 rfl) ?_
    refine lv_if_ne (tgt := 49) hx hb dX11_best_44 (by decide) (fun h12 => ?_) (fun h12 => ?_)
    · have h12 : p0.toInt ≠ 0 := by have q := ci_neq (a := p0.toInt) (b := 0) rfl (by decide) h12; omega
      refine lv_aload_n hx hb dX11_best_49 rfl (lv_at hl 1 rfl) ?_
      refine fg_570 X hw 0 rfl rfl dX11_best_50 ?_
      refine lv_aload_n hx hb dX11_best_53 rfl (lv_at hl 1 rfl) ?_
      refine fg_569 X hw 0 rfl rfl dX11_best_54 ?_
      refine fg_336 X hw 2 rfl rfl dX11_best_57 ?_
      refine lv_aload_n hx hb dX11_best_60 rfl (lv_at hl 1 rfl) ?_
      refine fg_580 X hw 0 rfl rfl dX11_best_61 ?_
      refine m_Vv (As := [.ref a21, .ref a15]) (rest := []) (c136_X5_pickMostInSum l D ct a5 a21 a15 a24 a25 a26 a27 a28) X hl.1 kw_1213 kd_yX5_pickMostInSum hw [7] [0, 1, 2, 3, 4, 5, 6] rfl rfl rfl rfl (by decide) 0 rfl rfl ⟨by decide, by decide⟩ rfl rfl (Nat.le_of_ble_eq_true rfl) dX11_best_64 ⟨by decide, by decide⟩ (fun u14 H locs hr15 hw => ?_)
      replace hw : WD D A s.heap _ _ [(a0, .inr (11, [.ref a1, .int 0, .ref a2, .ref a3, .ref a4, .ref a5, .ref a6, .ref a7, .ref a8, .ref a9, .ref a10, .ref a11, .ref a12, .ref a13, .ref a14, .ref a15, .int (-1), .int (-1)])), (a2, .inr (2, [.int 0, .int 0, .int 0, .ref a16, .ref a17, .ref a18, .int 0, .int 0, .int 0, .int 0, .int 0, .ref a19, .int 0])), (a4, .inr (9, [.ref a20, .ref a21, .ref a2, .ref a22, .ref a23, .int 0])), (a20, .inl (ct 0, 7, .inl f0)), (a25, .inl (ct 0, 256, .inl (upd (fun _ => 0) 0 1))), (a28, .inl (ct 0, 7, .inl (va_cpy f0 f0 0 0 0))), (a27, .inl (ct 0, 256, .inl (upd (fun _ => 0) 0 0))), (a5, .inr (5, [.ref a24, .ref a25, .ref a26, .ref a27, .ref a28, .int 0, .int 0]))] := hw
      refine lv_aload_n hx hb dX11_best_67 rfl (lv_at hl 1 rfl) ?_
      refine lv_iload_n hx hb dX11_best_68 rfl (lv_at hl 2 rfl) ?_
      refine m_Vi (As := [.int p0]) (rest := []) (c137_X11_pickedFlat l D ct a0 p0 a1 a2 a3 a4 a5 a6 a7 a8 a9 a10 a11 a12 a13 a14 a15 a16 a17 a18 a19) X hl.1 kw_1221 kd_yX11_pickedFlat hw [0, 1] [2, 3, 4, 5, 6, 7] rfl rfl rfl rfl (by decide) 0 rfl rfl ⟨by decide, by decide⟩ rfl rfl (Nat.le_of_ble_eq_true rfl) dX11_best_69 ⟨by decide, by decide⟩ (fun r16 u17 H locs hr18 hw => ?_)
      replace hw : WD D A s.heap _ _ [(a4, .inr (9, [.ref a20, .ref a21, .ref a2, .ref a22, .ref a23, .int 0])), (a20, .inl (ct 0, 7, .inl f0)), (a25, .inl (ct 0, 256, .inl (upd (fun _ => 0) 0 1))), (a28, .inl (ct 0, 7, .inl (va_cpy f0 f0 0 0 0))), (a27, .inl (ct 0, 256, .inl (upd (fun _ => 0) 0 0))), (a5, .inr (5, [.ref a24, .ref a25, .ref a26, .ref a27, .ref a28, .int 0, .int 0])), (a0, .inr (11, [.ref a1, .int 0, .ref a2, .ref a3, .ref a4, .ref a5, .ref a6, .ref a7, .ref a8, .ref a9, .ref a10, .ref a11, .ref a12, .ref a13, .ref a14, .ref a15, .int (-1), .int (-1)])), (a2, .inr (2, [.int 0, .int 0, .int 0, .ref a16, .ref a17, .ref a18, .int 0, .int 0, .int 0, .int 0, .int 0, .ref a19, .int 0]))] := hw
      subst hr18
      exact r_i X hr hlk hw [] (fun _ => 0) rfl rfl (Or.inl (⟨⟨h4, h12⟩, rfl⟩)) (by decide) (by decide) dX11_best_72
    · have h12 : p0.toInt = 0 := by have q := ci_eq (a := p0.toInt) (b := 0) rfl (by decide) h12; omega
      have e19 : p0.toInt = 0 := by omega
      obtain rfl : p0 = 0 := i32_of e19
      refine lv_iload_n hx hb dX11_best_47 rfl (lv_at hl 0 rfl) ?_
      exact r_i X hr hlk hw [] (fun _ => 0) rfl rfl (Or.inr (Or.inl (⟨⟨h4, h12, e19⟩, rfl⟩))) (by decide) (by decide) dX11_best_48
  · skip
    refine lv_if_ne (tgt := 10) hx hb dX11_best_4 (by decide) (fun h => absurd rfl h) (fun _ => ?_)
    refine lv_bipush (v := (-2)) hx hb dX11_best_7 (by decide) ?_
    exact r_i X hr hlk hw [] (fun _ => 0) rfl rfl (Or.inr (Or.inr (⟨h5, rfl⟩))) (by decide) (by decide) dX11_best_9
set_option maxHeartbeats 4000000 in
set_option maxRecDepth 100000 in
theorem c139_X12_worthIn (l : Launch) (D : va_G) (ct : Nat → ClassId) (a0 : Nat) (a1 : Nat) (a2 : Nat) (a3 : Nat) (a4 : Nat) (a5 : Nat) (a6 : Nat) (a7 : Nat) (a8 : Nat) (a9 : Nat) (a10 : Nat) (a11 : Nat) (a12 : Nat) (a13 : Nat) (a14 : Nat) (a15 : Nat) (a16 : Nat) : CI l yX12_worthIn cX12_worthIn 4 (some .int) { frames := 0, cells := 0, slots := 0, locals := 0 } D ct [.ref a0, .int 0] [(a0, .inr (12, [.int 0, .ref a1, .ref a2, .ref a3, .ref a4, .int 0, .int 0, .int 0, .int 0, .int 0, .int 0, .int 0, .int 0, .int 0, .int (-1), .ref a5, .ref a6, .ref a7, .ref a8, .int 1, .ref a9, .ref a10, .int 0, .int 0, .int 0, .ref a11, .ref a12, .ref a13, .ref a14, .ref a15, .ref a16])), (a1, .inl (ct 0, 5310, .inl fx0))] (fun r => r = 0) (fun u => [(a0, .inr (12, [.int 0, .ref a1, .ref a2, .ref a3, .ref a4, .int 0, .int 0, .int 0, .int 0, .int 0, .int 0, .int 0, .int 0, .int 0, .int (-1), .ref a5, .ref a6, .ref a7, .ref a8, .int 1, .ref a9, .ref a10, .int 0, .int 0, .int 0, .ref a11, .ref a12, .ref a13, .ref a14, .ref a15, .ref a16])), (a1, .inl (ct 0, 5310, .inl fx0))]) := by
  refine CI.of (by decide +kernel) (Nat.le_of_ble_eq_true rfl) ?_
  intro p e s m below meth c A ls hE
  obtain ⟨X, hr, hlk, hnm, hw, hl⟩ := hE
  have X : CX p m c cX12_worthIn 4 s [.ref a0, .int 0].toArray RX12 D ct := X
  have hl : lv_has ls 4 [(0, .ref a0), (1, .int 0)] := hl
  obtain ⟨⟨hx, hb, hml, hown, hts⟩, hK⟩ := id X
  refine lv_iconst (v := 0) hx hb dX12_worthIn_0 (by decide) ?_
  refine lv_istore_n (lv' := [(2, .int 0), (0, .ref a0), (1, .int 0)]) hx hb dX12_worthIn_1 rfl hl (by decide) rfl (fun ls hl => ?_)
  refine lv_iconst (v := 0) hx hb dX12_worthIn_2 (by decide) ?_
  refine lv_istore_n (lv' := [(3, .int 0), (2, .int 0), (0, .ref a0), (1, .int 0)]) hx hb dX12_worthIn_3 rfl hl (by decide) rfl (fun ls hl => ?_)
  refine lv_iload_n hx hb dX12_worthIn_4 rfl (lv_at hl 0 rfl) ?_
  refine lv_aload_n hx hb dX12_worthIn_5 rfl (lv_at hl 2 rfl) ?_
  refine fg_1443 X hw 0 rfl rfl dX12_worthIn_6 ?_
  refine lv_iconst (v := 2) hx hb dX12_worthIn_9 (by decide) ?_
  refine j_iald (j := 2) (v := 0) X hw 1 rfl (by decide) (by decide) (by decide) rfl dX12_worthIn_10 ?_
  refine lv_icmp_ge (tgt := 38) hx hb dX12_worthIn_11 (by decide) (fun _ => ?_) (fun h => absurd (by decide) h)
  refine lv_iload_n hx hb dX12_worthIn_38 rfl (lv_at hl 1 rfl) ?_
  exact r_i X hr hlk hw [0, 1] (fun _ => 0) rfl rfl rfl (by decide) (by decide) dX12_worthIn_39
set_option maxHeartbeats 4000000 in
set_option maxRecDepth 100000 in
theorem c140_X12_valueIn (l : Launch) (D : va_G) (ct : Nat → ClassId) (a0 : Nat) (a1 : Nat) (a2 : Nat) (a3 : Nat) (a4 : Nat) (a5 : Nat) (a6 : Nat) (a7 : Nat) (a8 : Nat) (a9 : Nat) (a10 : Nat) (a11 : Nat) (a12 : Nat) (a13 : Nat) (a14 : Nat) (a15 : Nat) (a16 : Nat) : CI l yX12_valueIn cX12_valueIn 3 (some .int) { frames := 1, cells := 0, slots := 0, locals := 23 } D ct [.ref a0, .int 0, .int 0] [(a0, .inr (12, [.int 0, .ref a1, .ref a2, .ref a3, .ref a4, .int 0, .int 0, .int 0, .int 0, .int 0, .int 0, .int 0, .int 0, .int 0, .int (-1), .ref a5, .ref a6, .ref a7, .ref a8, .int 1, .ref a9, .ref a10, .int 0, .int 0, .int 0, .ref a11, .ref a12, .ref a13, .ref a14, .ref a15, .ref a16])), (a1, .inl (ct 0, 5310, .inl fx0))] (fun r => r = 0) (fun u => [(a0, .inr (12, [.int 0, .ref a1, .ref a2, .ref a3, .ref a4, .int 0, .int 0, .int 0, .int 0, .int 0, .int 0, .int 0, .int 0, .int 0, .int (-1), .ref a5, .ref a6, .ref a7, .ref a8, .int 1, .ref a9, .ref a10, .int 0, .int 0, .int 0, .ref a11, .ref a12, .ref a13, .ref a14, .ref a15, .ref a16])), (a1, .inl (ct 0, 5310, .inl fx0))]) := by
  refine CI.of (by decide +kernel) (Nat.le_of_ble_eq_true rfl) ?_
  intro p e s m below meth c A ls hE
  obtain ⟨X, hr, hlk, hnm, hw, hl⟩ := hE
  have X : CX p m c cX12_valueIn 3 s [.ref a0, .int 0, .int 0].toArray RX12 D ct := X
  have hl : lv_has ls 3 [(0, .ref a0), (1, .int 0), (2, .int 0)] := hl
  obtain ⟨⟨hx, hb, hml, hown, hts⟩, hK⟩ := id X
  refine lv_iload_n hx hb dX12_valueIn_0 rfl (lv_at hl 2 rfl) ?_
  refine lv_if_ne (tgt := 12) hx hb dX12_valueIn_1 (by decide) (fun h => absurd rfl h) (fun _ => ?_)
  refine lv_aload_n hx hb dX12_valueIn_4 rfl (lv_at hl 0 rfl) ?_
  refine lv_iload_n hx hb dX12_valueIn_5 rfl (lv_at hl 1 rfl) ?_
  refine m_Vi (As := [.int 0]) (rest := []) (c139_X12_worthIn l D ct a0 a1 a2 a3 a4 a5 a6 a7 a8 a9 a10 a11 a12 a13 a14 a15 a16) X hl.1 kw_1916 kd_yX12_worthIn hw [0, 1] [] rfl rfl rfl rfl (by decide) 0 rfl rfl ⟨by decide, by decide⟩ rfl rfl (Nat.le_of_ble_eq_true rfl) dX12_valueIn_6 ⟨by decide, by decide⟩ (fun r1 u2 H locs hr3 hw => ?_)
  replace hw : WD D A s.heap _ _ [(a0, .inr (12, [.int 0, .ref a1, .ref a2, .ref a3, .ref a4, .int 0, .int 0, .int 0, .int 0, .int 0, .int 0, .int 0, .int 0, .int 0, .int (-1), .ref a5, .ref a6, .ref a7, .ref a8, .int 1, .ref a9, .ref a10, .int 0, .int 0, .int 0, .ref a11, .ref a12, .ref a13, .ref a14, .ref a15, .ref a16])), (a1, .inl (ct 0, 5310, .inl fx0))] := hw
  subst hr3
  refine lv_goto (tgt := 31) hx hb dX12_valueIn_9 (by decide) ?_
  exact r_i X hr hlk hw [0, 1] (fun _ => 0) rfl rfl rfl (by decide) (by decide) dX12_valueIn_31
set_option maxHeartbeats 4000000 in
set_option maxRecDepth 100000 in
theorem c141_X12_bestMap (l : Launch) (D : va_G) (ct : Nat → ClassId) (a0 : Nat) (a1 : Nat) (a2 : Nat) (a3 : Nat) (a4 : Nat) (a5 : Nat) (a6 : Nat) (a7 : Nat) (a8 : Nat) (a9 : Nat) (a10 : Nat) (a11 : Nat) (a12 : Nat) (a13 : Nat) (a14 : Nat) (a15 : Nat) (a16 : Nat) : CI l yX12_bestMap cX12_bestMap 6 (some .int) { frames := 2, cells := 0, slots := 0, locals := 46 } D ct [.ref a0, .int 0] [(a0, .inr (12, [.int 0, .ref a1, .ref a2, .ref a3, .ref a4, .int 0, .int 0, .int 0, .int 0, .int 0, .int 0, .int 0, .int 0, .int 0, .int (-1), .ref a5, .ref a6, .ref a7, .ref a8, .int 0, .ref a9, .ref a10, .int 0, .int 0, .int 0, .ref a11, .ref a12, .ref a13, .ref a14, .ref a15, .ref a16])), (a8, .inl (ct 0, 40320, .inl (fun _ => 0))), (a1, .inl (ct 0, 5310, .inl fx0))] (fun r => r = 0) (fun u => [(a8, .inl (ct 0, 40320, .inl (upd (fun _ => 0) 0 0))), (a0, .inr (12, [.int 0, .ref a1, .ref a2, .ref a3, .ref a4, .int 0, .int 0, .int 0, .int 0, .int 0, .int 0, .int 0, .int 0, .int 0, .int (-1), .ref a5, .ref a6, .ref a7, .ref a8, .int 1, .ref a9, .ref a10, .int 0, .int 0, .int 0, .ref a11, .ref a12, .ref a13, .ref a14, .ref a15, .ref a16])), (a1, .inl (ct 0, 5310, .inl fx0))]) := by
  refine CI.of (by decide +kernel) (Nat.le_of_ble_eq_true rfl) ?_
  intro p e s m below meth c A ls hE
  obtain ⟨X, hr, hlk, hnm, hw, hl⟩ := hE
  have X : CX p m c cX12_bestMap 6 s [.ref a0, .int 0].toArray RX12 D ct := X
  have hl : lv_has ls 6 [(0, .ref a0), (1, .int 0)] := hl
  obtain ⟨⟨hx, hb, hml, hown, hts⟩, hK⟩ := id X
  refine lv_aload_n hx hb dX12_bestMap_0 rfl (lv_at hl 0 rfl) ?_
  refine lv_iconst (v := (-1)) hx hb dX12_bestMap_1 (by decide) ?_
  refine m_Vv (As := [.int (-1)]) (rest := []) (c71_X12_laysMaps l D ct a0 a1 a2 a3 a4 a5 a6 a7 a8 a9 a10 a11 a12 a13 a14 a15 a16 (fun _ => 0)) X hl.1 kw_1716 kd_yX12_laysMaps hw [0, 1, 2] [] rfl rfl rfl rfl (by decide) 0 rfl rfl ⟨by decide, by decide⟩ rfl rfl (Nat.le_of_ble_eq_true rfl) dX12_bestMap_2 ⟨by decide, by decide⟩ (fun u2 H locs hr3 hw => ?_)
  replace hw : WD D A s.heap _ _ [(a8, .inl (ct 0, 40320, .inl (upd (fun _ => 0) 0 0))), (a0, .inr (12, [.int 0, .ref a1, .ref a2, .ref a3, .ref a4, .int 0, .int 0, .int 0, .int 0, .int 0, .int 0, .int 0, .int 0, .int 0, .int (-1), .ref a5, .ref a6, .ref a7, .ref a8, .int 1, .ref a9, .ref a10, .int 0, .int 0, .int 0, .ref a11, .ref a12, .ref a13, .ref a14, .ref a15, .ref a16])), (a1, .inl (ct 0, 5310, .inl fx0))] := hw
  refine lv_iconst (v := (-1)) hx hb dX12_bestMap_5 (by decide) ?_
  refine lv_istore_n (lv' := [(2, .int (-1)), (0, .ref a0), (1, .int 0)]) hx hb dX12_bestMap_6 rfl hl (by decide) rfl (fun ls hl => ?_)
  refine lv_iconst (v := 0) hx hb dX12_bestMap_7 (by decide) ?_
  refine lv_istore_n (lv' := [(3, .int 0), (2, .int (-1)), (0, .ref a0), (1, .int 0)]) hx hb dX12_bestMap_8 rfl hl (by decide) rfl (fun ls hl => ?_)
  refine lv_iconst (v := 0) hx hb dX12_bestMap_9 (by decide) ?_
  refine lv_istore (lv' := [(4, .int 0), (3, .int 0), (2, .int (-1)), (0, .ref a0), (1, .int 0)]) hx hb dX12_bestMap_10 hl (by decide) rfl (fun ls hl => ?_)
  refine lv_iload hx hb dX12_bestMap_12 (lv_at hl 0 rfl) ?_
  refine lv_aload_n hx hb dX12_bestMap_14 rfl (lv_at hl 3 rfl) ?_
  refine fg_1461 X hw 1 rfl rfl dX12_bestMap_15 ?_
  refine lv_icmp_ge (tgt := 61) hx hb dX12_bestMap_18 (by decide) (fun h => absurd h (by decide)) (fun _ => ?_)
  refine lv_aload_n hx hb dX12_bestMap_21 rfl (lv_at hl 3 rfl) ?_
  refine lv_aload_n hx hb dX12_bestMap_22 rfl (lv_at hl 3 rfl) ?_
  refine fg_1460 X hw 1 rfl rfl dX12_bestMap_23 ?_
  refine lv_iload hx hb dX12_bestMap_26 (lv_at hl 0 rfl) ?_
  refine j_iald (j := 0) (v := 0) X hw 0 rfl (by decide) (by decide) (by decide) rfl dX12_bestMap_28 ?_
  refine lv_iload_n hx hb dX12_bestMap_29 rfl (lv_at hl 4 rfl) ?_
  refine m_Vi (As := [.int 0, .int 0]) (rest := []) (c140_X12_valueIn l D ct a0 a1 a2 a3 a4 a5 a6 a7 a8 a9 a10 a11 a12 a13 a14 a15 a16) X hl.1 kw_1912 kd_yX12_valueIn hw [1, 2] [0] rfl rfl rfl rfl (by decide) 0 rfl rfl ⟨by decide, by decide⟩ rfl rfl (Nat.le_of_ble_eq_true rfl) dX12_bestMap_30 ⟨by decide, by decide⟩ (fun r4 u5 H locs hr6 hw => ?_)
  replace hw : WD D A s.heap _ _ [(a8, .inl (ct 0, 40320, .inl (upd (fun _ => 0) 0 0))), (a0, .inr (12, [.int 0, .ref a1, .ref a2, .ref a3, .ref a4, .int 0, .int 0, .int 0, .int 0, .int 0, .int 0, .int 0, .int 0, .int 0, .int (-1), .ref a5, .ref a6, .ref a7, .ref a8, .int 1, .ref a9, .ref a10, .int 0, .int 0, .int 0, .ref a11, .ref a12, .ref a13, .ref a14, .ref a15, .ref a16])), (a1, .inl (ct 0, 5310, .inl fx0))] := hw
  subst hr6
  refine lv_istore (lv' := [(5, .int 0), (4, .int 0), (3, .int 0), (2, .int (-1)), (0, .ref a0), (1, .int 0)]) hx hb dX12_bestMap_33 hl (by decide) rfl (fun ls hl => ?_)
  refine lv_iload_n hx hb dX12_bestMap_35 rfl (lv_at hl 3 rfl) ?_
  refine lv_iconst (v := (-1)) hx hb dX12_bestMap_36 (by decide) ?_
  refine lv_icmp_eq (tgt := 49) hx hb dX12_bestMap_37 (by decide) (fun _ => ?_) (fun h => absurd (by decide) h)
  refine lv_iload hx hb dX12_bestMap_49 (lv_at hl 1 rfl) ?_
  refine lv_istore_n (lv' := [(2, .int 0), (5, .int 0), (4, .int 0), (3, .int 0), (0, .ref a0), (1, .int 0)]) hx hb dX12_bestMap_51 rfl hl (by decide) rfl (fun ls hl => ?_)
  refine lv_iload hx hb dX12_bestMap_52 (lv_at hl 1 rfl) ?_
  refine lv_istore_n (lv' := [(3, .int 0), (2, .int 0), (5, .int 0), (4, .int 0), (0, .ref a0), (1, .int 0)]) hx hb dX12_bestMap_54 rfl hl (by decide) rfl (fun ls hl => ?_)
  refine lv_iinc (v := 1) (lv' := [(4, .int 1), (3, .int 0), (2, .int 0), (5, .int 0), (0, .ref a0), (1, .int 0)]) hx hb dX12_bestMap_55 hl (k := 3) rfl (by decide) (by decide) rfl (fun ls hl => ?_)
  refine lv_goto (tgt := 12) hx hb dX12_bestMap_58 (by decide) ?_
  refine lv_iload hx hb dX12_bestMap_12 (lv_at hl 0 rfl) ?_
  refine lv_aload_n hx hb dX12_bestMap_14 rfl (lv_at hl 4 rfl) ?_
  refine fg_1461 X hw 1 rfl rfl dX12_bestMap_15 ?_
  refine lv_icmp_ge (tgt := 61) hx hb dX12_bestMap_18 (by decide) (fun _ => ?_) (fun h => absurd (by decide) h)
  refine lv_iload_n hx hb dX12_bestMap_61 rfl (lv_at hl 2 rfl) ?_
  exact r_i X hr hlk hw [0, 1, 2] (fun _ => 0) rfl rfl rfl (by decide) (by decide) dX12_bestMap_62
set_option maxHeartbeats 4000000 in
set_option maxRecDepth 100000 in
theorem c142_X12_within (l : Launch) (D : va_G) (ct : Nat → ClassId) (w0 : Int64) : CI l yX12_within cX12_within 6 (some .boolean) { frames := 0, cells := 0, slots := 0, locals := 0 } D ct [.long w0, .long 10, .long 16] [] (fun r => ((w0.toInt < 10) ∨ (w0.toInt ≥ 10 ∧ w0.toInt > 16)) ∧ r = 0 ∨ (w0.toInt ≥ 10 ∧ w0.toInt ≤ 16) ∧ r = 1) (fun u => []) := by
  refine CI.of (by decide +kernel) (Nat.le_of_ble_eq_true rfl) ?_
  intro p e s m below meth c A ls hE
  obtain ⟨X, hr, hlk, hnm, hw, hl⟩ := hE
  have X : CX p m c cX12_within 6 s [.long w0, .long 10, .long 16].toArray RX12 D ct := X
  have hl : lv_has ls 6 [(0, .long w0), (2, .long 10), (4, .long 16)] := hl
  obtain ⟨⟨hx, hb, hml, hown, hts⟩, hK⟩ := id X
  refine lv_lload_n hx hb dX12_within_0 rfl (lv_at hl 0 rfl) ?_
  refine lv_lload_n hx hb dX12_within_1 rfl (lv_at hl 1 rfl) ?_
  refine W.lcmp hx hb dX12_within_2 ?_
  refine lv_if_lt (tgt := 17) hx hb dX12_within_3 (by decide) (fun h1 => ?_) (fun h1 => ?_)
  · have h1 : w0.toInt < 10 := by have q := cl_lt (a := w0.toInt) (b := 10) rfl (by decide) h1; omega
    refine lv_iconst (v := 0) hx hb dX12_within_17 (by decide) ?_
    exact r_z X hr hlk hw [] (fun _ => 0) rfl rfl (Or.inl (⟨Or.inl (h1), rfl⟩)) (by decide) (by decide) (by decide) dX12_within_18
  · have h1 : w0.toInt ≥ 10 := by have q := cl_nlt (a := w0.toInt) (b := 10) rfl (by decide) h1; omega
    refine lv_lload_n hx hb dX12_within_6 rfl (lv_at hl 0 rfl) ?_
    refine lv_lload hx hb dX12_within_7 (lv_at hl 2 rfl) ?_
    refine W.lcmp hx hb dX12_within_9 ?_
    refine lv_if_gt (tgt := 17) hx hb dX12_within_10 (by decide) (fun h2 => ?_) (fun h2 => ?_)
    · have h2 : w0.toInt > 16 := by have q := cl_gt (a := w0.toInt) (b := 16) rfl (by decide) h2; omega
      refine lv_iconst (v := 0) hx hb dX12_within_17 (by decide) ?_
      exact r_z X hr hlk hw [] (fun _ => 0) rfl rfl (Or.inl (⟨Or.inr (⟨h1, h2⟩), rfl⟩)) (by decide) (by decide) (by decide) dX12_within_18
    · have h2 : w0.toInt ≤ 16 := by have q := cl_ngt (a := w0.toInt) (b := 16) rfl (by decide) h2; omega
      refine lv_iconst (v := 1) hx hb dX12_within_13 (by decide) ?_
      refine lv_goto (tgt := 18) hx hb dX12_within_14 (by decide) ?_
      exact r_z X hr hlk hw [] (fun _ => 0) rfl rfl (Or.inr (⟨⟨h1, h2⟩, rfl⟩)) (by decide) (by decide) (by decide) dX12_within_18
set_option maxHeartbeats 4000000 in
set_option maxRecDepth 100000 in
theorem c143_X12_asked (l : Launch) (D : va_G) (ct : Nat → ClassId) (a0 : Nat) (p0 : Int32) (a1 : Nat) (a2 : Nat) (a3 : Nat) (a4 : Nat) (a5 : Nat) (a6 : Nat) (a7 : Nat) (a8 : Nat) (a9 : Nat) (a10 : Nat) (a11 : Nat) (a12 : Nat) (a13 : Nat) (a14 : Nat) (a15 : Nat) (a16 : Nat) : CI l yX12_asked cX12_asked 5 (some .int) { frames := 3, cells := 0, slots := 0, locals := 71 } D ct [.ref a0, .int 0, .int p0, .int (-2000000)] [(a0, .inr (12, [.int 0, .ref a1, .ref a2, .ref a3, .ref a4, .int 0, .int 0, .int 0, .int 0, .int 0, .int 0, .int 0, .int 0, .int 0, .int (-1), .ref a5, .ref a6, .ref a7, .ref a8, .int 0, .ref a9, .ref a10, .int 0, .int 0, .int 0, .ref a11, .ref a12, .ref a13, .ref a14, .ref a15, .ref a16])), (a8, .inl (ct 0, 40320, .inl (fun _ => 0))), (a1, .inl (ct 0, 5310, .inl fx0))] (fun r => (p0.toInt = 0 ∧ p0.toInt = 0) ∧ r = 0 ∨ (p0.toInt ≠ 0 ∧ ((p0.toInt < 10) ∨ (p0.toInt ≥ 10 ∧ p0.toInt > 16))) ∧ r = (-2) ∨ ((p0.toInt ≠ 0 ∧ p0.toInt ≥ 10 ∧ p0.toInt ≤ 16 ∧ p0.toInt = 10) ∨ (p0.toInt ≠ 0 ∧ p0.toInt ≥ 10 ∧ p0.toInt ≤ 16 ∧ p0.toInt = 11) ∨ (p0.toInt ≠ 0 ∧ p0.toInt ≥ 10 ∧ p0.toInt ≤ 16 ∧ p0.toInt = 12) ∨ (p0.toInt ≠ 0 ∧ p0.toInt ≥ 10 ∧ p0.toInt ≤ 16 ∧ p0.toInt = 13) ∨ (p0.toInt ≠ 0 ∧ p0.toInt ≥ 10 ∧ p0.toInt ≤ 16 ∧ p0.toInt = 14) ∨ (p0.toInt ≠ 0 ∧ p0.toInt ≥ 10 ∧ p0.toInt ≤ 16 ∧ p0.toInt = 15) ∨ (p0.toInt ≠ 0 ∧ p0.toInt ≥ 10 ∧ p0.toInt ≤ 16 ∧ p0.toInt = 16)) ∧ r = (-1)) (fun u => []) := by
  refine CI.of (by decide +kernel) (Nat.le_of_ble_eq_true rfl) ?_
  intro p e s m below meth c A ls hE
  obtain ⟨X, hr, hlk, hnm, hw, hl⟩ := hE
  have X : CX p m c cX12_asked 5 s [.ref a0, .int 0, .int p0, .int (-2000000)].toArray RX12 D ct := X
  have hl : lv_has ls 5 [(0, .ref a0), (1, .int 0), (2, .int p0), (3, .int (-2000000))] := hl
  obtain ⟨⟨hx, hb, hml, hown, hts⟩, hK⟩ := id X
  refine lv_iload_n hx hb dX12_asked_0 rfl (lv_at hl 2 rfl) ?_
  refine lv_if_eq (tgt := 21) hx hb dX12_asked_1 (by decide) (fun h1 => ?_) (fun h1 => ?_)
  · have h1 : p0.toInt = 0 := by have q := ci_eq (a := p0.toInt) (b := 0) rfl (by decide) h1; omega
    have e2 : p0.toInt = 0 := by omega
    obtain rfl : p0 = 0 := i32_of e2
    refine lv_aload_n hx hb dX12_asked_21 rfl (lv_at hl 0 rfl) ?_
    refine lv_iload_n hx hb dX12_asked_22 rfl (lv_at hl 1 rfl) ?_
    refine m_Vi (As := [.int 0]) (rest := []) (c141_X12_bestMap l D ct a0 a1 a2 a3 a4 a5 a6 a7 a8 a9 a10 a11 a12 a13 a14 a15 a16) X hl.1 kw_1908 kd_yX12_bestMap hw [0, 1, 2] [] rfl rfl rfl rfl (by decide) 0 rfl rfl ⟨by decide, by decide⟩ rfl rfl (Nat.le_of_ble_eq_true rfl) dX12_asked_23 ⟨by decide, by decide⟩ (fun r3 u4 H locs hr5 hw => ?_)
    replace hw : WD D A s.heap _ _ [(a8, .inl (ct 0, 40320, .inl (upd (fun _ => 0) 0 0))), (a0, .inr (12, [.int 0, .ref a1, .ref a2, .ref a3, .ref a4, .int 0, .int 0, .int 0, .int 0, .int 0, .int 0, .int 0, .int 0, .int 0, .int (-1), .ref a5, .ref a6, .ref a7, .ref a8, .int 1, .ref a9, .ref a10, .int 0, .int 0, .int 0, .ref a11, .ref a12, .ref a13, .ref a14, .ref a15, .ref a16])), (a1, .inl (ct 0, 5310, .inl fx0))] := hw
    subst hr5
    refine lv_istore (lv' := [(4, .int 0), (0, .ref a0), (1, .int 0), (2, .int 0), (3, .int (-2000000))]) hx hb dX12_asked_26 hl (by decide) rfl (fun ls hl => ?_)
    refine lv_iload hx hb dX12_asked_28 (lv_at hl 0 rfl) ?_
    refine lv_iconst (v := (-1)) hx hb dX12_asked_30 (by decide) ?_
    refine lv_icmp_ne (tgt := 44) hx hb dX12_asked_31 (by decide) (fun _ => ?_) (fun h => absurd h (by decide))
    refine lv_iload_n hx hb dX12_asked_44 rfl (lv_at hl 3 rfl) ?_
    refine lv_if_le (tgt := 80) hx hb dX12_asked_45 (by decide) (fun _ => ?_) (fun h => absurd (by decide) h)
    refine lv_iload_n hx hb dX12_asked_80 rfl (lv_at hl 2 rfl) ?_
    refine lv_iconst (v := 2) hx hb dX12_asked_81 (by decide) ?_
    refine lv_icmp_ne (tgt := 99) hx hb dX12_asked_82 (by decide) (fun _ => ?_) (fun h => absurd h (by decide))
    refine lv_aload_n hx hb dX12_asked_99 rfl (lv_at hl 1 rfl) ?_
    refine lv_aload_n hx hb dX12_asked_100 rfl (lv_at hl 1 rfl) ?_
    refine fg_1460 X hw 1 rfl rfl dX12_asked_101 ?_
    refine lv_iload hx hb dX12_asked_104 (lv_at hl 0 rfl) ?_
    refine j_iald (j := 0) (v := 0) X hw 0 rfl (by decide) (by decide) (by decide) rfl dX12_asked_106 ?_
    refine lv_iload_n hx hb dX12_asked_107 rfl (lv_at hl 2 rfl) ?_
    refine m_Vi (As := [.int 0, .int 0]) (rest := []) (c140_X12_valueIn l D ct a0 a1 a2 a3 a4 a5 a6 a7 a8 a9 a10 a11 a12 a13 a14 a15 a16) X hl.1 kw_1912 kd_yX12_valueIn hw [1, 2] [0] rfl rfl rfl rfl (by decide) 0 rfl rfl ⟨by decide, by decide⟩ rfl rfl (Nat.le_of_ble_eq_true rfl) dX12_asked_108 ⟨by decide, by decide⟩ (fun r6 u7 H locs hr8 hw => ?_)
    replace hw : WD D A s.heap _ _ [(a8, .inl (ct 0, 40320, .inl (upd (fun _ => 0) 0 0))), (a0, .inr (12, [.int 0, .ref a1, .ref a2, .ref a3, .ref a4, .int 0, .int 0, .int 0, .int 0, .int 0, .int 0, .int 0, .int 0, .int 0, .int (-1), .ref a5, .ref a6, .ref a7, .ref a8, .int 1, .ref a9, .ref a10, .int 0, .int 0, .int 0, .ref a11, .ref a12, .ref a13, .ref a14, .ref a15, .ref a16])), (a1, .inl (ct 0, 5310, .inl fx0))] := hw
    subst hr8
    exact r_i X hr hlk hw [] (fun _ => 0) rfl rfl (Or.inl (⟨⟨h1, e2⟩, rfl⟩)) (by decide) (by decide) dX12_asked_111
  · have h1 : p0.toInt ≠ 0 := by have q := ci_neq (a := p0.toInt) (b := 0) rfl (by decide) h1; omega
    refine lv_iload_n hx hb dX12_asked_4 rfl (lv_at hl 2 rfl) ?_
    refine lv_i2l (v := p0.toInt64) hx hb dX12_asked_5 rfl ?_
    refine lv_ldc2 hx hb hown (hts _ wd_1801) dX12_asked_6 ?_
    refine lv_ldc2 hx hb hown (hts _ wd_1907) dX12_asked_9 ?_
    refine m_Si (As := [.long p0.toInt64, .long 10, .long 16]) (rest := []) (c142_X12_within l D ct (p0.toInt64)) X hl.1 kw_1545 kd_yX12_within hw [] [0, 1, 2] rfl rfl rfl rfl (by decide) ⟨by decide, by decide⟩ rfl rfl (Nat.le_of_ble_eq_true rfl) dX12_asked_12 ⟨by decide, by decide⟩ (fun r9 u10 H locs hr11 hw => ?_)
    replace hw : WD D A s.heap _ _ [(a0, .inr (12, [.int 0, .ref a1, .ref a2, .ref a3, .ref a4, .int 0, .int 0, .int 0, .int 0, .int 0, .int 0, .int 0, .int 0, .int 0, .int (-1), .ref a5, .ref a6, .ref a7, .ref a8, .int 0, .ref a9, .ref a10, .int 0, .int 0, .int 0, .ref a11, .ref a12, .ref a13, .ref a14, .ref a15, .ref a16])), (a8, .inl (ct 0, 40320, .inl (fun _ => 0))), (a1, .inl (ct 0, 5310, .inl fx0))] := hw
    rcases hr11 with ⟨h12, rfl⟩ | ⟨⟨h13, h14⟩, rfl⟩
    · skip
      simp only [i64i] at h12
      refine lv_if_ne (tgt := 21) hx hb dX12_asked_15 (by decide) (fun h => absurd rfl h) (fun _ => ?_)
      refine lv_bipush (v := (-2)) hx hb dX12_asked_18 (by decide) ?_
      exact r_i X hr hlk hw [] (fun _ => 0) rfl rfl (Or.inr (Or.inl (⟨⟨h1, h12⟩, rfl⟩))) (by decide) (by decide) dX12_asked_20
    · skip
      rw [i64i] at h13
      rw [i64i] at h14
      refine lv_if_ne (tgt := 21) hx hb dX12_asked_15 (by decide) (fun _ => ?_) (fun h => absurd h (by decide))
      refine lv_aload_n hx hb dX12_asked_21 rfl (lv_at hl 0 rfl) ?_
      refine lv_iload_n hx hb dX12_asked_22 rfl (lv_at hl 1 rfl) ?_
      refine m_Vi (As := [.int 0]) (rest := []) (c141_X12_bestMap l D ct a0 a1 a2 a3 a4 a5 a6 a7 a8 a9 a10 a11 a12 a13 a14 a15 a16) X hl.1 kw_1908 kd_yX12_bestMap hw [0, 1, 2] [] rfl rfl rfl rfl (by decide) 0 rfl rfl ⟨by decide, by decide⟩ rfl rfl (Nat.le_of_ble_eq_true rfl) dX12_asked_23 ⟨by decide, by decide⟩ (fun r15 u16 H locs hr17 hw => ?_)
      replace hw : WD D A s.heap _ _ [(a8, .inl (ct 0, 40320, .inl (upd (fun _ => 0) 0 0))), (a0, .inr (12, [.int 0, .ref a1, .ref a2, .ref a3, .ref a4, .int 0, .int 0, .int 0, .int 0, .int 0, .int 0, .int 0, .int 0, .int 0, .int (-1), .ref a5, .ref a6, .ref a7, .ref a8, .int 1, .ref a9, .ref a10, .int 0, .int 0, .int 0, .ref a11, .ref a12, .ref a13, .ref a14, .ref a15, .ref a16])), (a1, .inl (ct 0, 5310, .inl fx0))] := hw
      subst hr17
      refine lv_istore (lv' := [(4, .int 0), (0, .ref a0), (1, .int 0), (2, .int p0), (3, .int (-2000000))]) hx hb dX12_asked_26 hl (by decide) rfl (fun ls hl => ?_)
      refine lv_iload hx hb dX12_asked_28 (lv_at hl 0 rfl) ?_
      refine lv_iconst (v := (-1)) hx hb dX12_asked_30 (by decide) ?_
      refine lv_icmp_ne (tgt := 44) hx hb dX12_asked_31 (by decide) (fun _ => ?_) (fun h => absurd h (by decide))
      refine lv_iload_n hx hb dX12_asked_44 rfl (lv_at hl 3 rfl) ?_
      refine lv_if_le (tgt := 80) hx hb dX12_asked_45 (by decide) (fun h18 => absurd (ci_le (a := p0.toInt) (b := 0) rfl (by decide) h18) (by omega)) (fun h18 => ?_)
      refine lv_iload_n hx hb dX12_asked_48 rfl (lv_at hl 3 rfl) ?_
      refine lv_bipush (v := 10) hx hb dX12_asked_49 (by decide) ?_
      rcases (show p0.toInt = 10 ∨ p0.toInt = 11 ∨ p0.toInt = 12 ∨ p0.toInt = 13 ∨ p0.toInt = 14 ∨ p0.toInt = 15 ∨ p0.toInt = 16 by omega) with e19 | e19 | e19 | e19 | e19 | e19 | e19
      · skip
        obtain rfl : p0 = 10 := i32_of e19
        refine kv_isub (v := 0) hx hb (by decide) dX12_asked_51 ?_
        refine lv_aload_n hx hb dX12_asked_52 rfl (lv_at hl 1 rfl) ?_
        refine fg_1443 X hw 1 rfl rfl dX12_asked_53 ?_
        refine lv_iconst (v := 2) hx hb dX12_asked_56 (by decide) ?_
        refine j_iald (j := 2) (v := 0) X hw 2 rfl (by decide) (by decide) (by decide) rfl dX12_asked_57 ?_
        refine lv_icmp_ge (tgt := 78) hx hb dX12_asked_58 (by decide) (fun _ => ?_) (fun h => absurd (by decide) h)
        refine lv_iconst (v := (-1)) hx hb dX12_asked_78 (by decide) ?_
        exact r_i X hr hlk hw [] (fun _ => 0) rfl rfl (Or.inr (Or.inr (⟨Or.inl (⟨h1, h13, h14, e19⟩), rfl⟩))) (by decide) (by decide) dX12_asked_79
      · skip
        obtain rfl : p0 = 11 := i32_of e19
        refine kv_isub (v := 1) hx hb (by decide) dX12_asked_51 ?_
        refine lv_aload_n hx hb dX12_asked_52 rfl (lv_at hl 1 rfl) ?_
        refine fg_1443 X hw 1 rfl rfl dX12_asked_53 ?_
        refine lv_iconst (v := 2) hx hb dX12_asked_56 (by decide) ?_
        refine j_iald (j := 2) (v := 0) X hw 2 rfl (by decide) (by decide) (by decide) rfl dX12_asked_57 ?_
        refine lv_icmp_ge (tgt := 78) hx hb dX12_asked_58 (by decide) (fun _ => ?_) (fun h => absurd (by decide) h)
        refine lv_iconst (v := (-1)) hx hb dX12_asked_78 (by decide) ?_
        exact r_i X hr hlk hw [] (fun _ => 0) rfl rfl (Or.inr (Or.inr (⟨Or.inr (Or.inl (⟨h1, h13, h14, e19⟩)), rfl⟩))) (by decide) (by decide) dX12_asked_79
      · skip
        obtain rfl : p0 = 12 := i32_of e19
        refine kv_isub (v := 2) hx hb (by decide) dX12_asked_51 ?_
        refine lv_aload_n hx hb dX12_asked_52 rfl (lv_at hl 1 rfl) ?_
        refine fg_1443 X hw 1 rfl rfl dX12_asked_53 ?_
        refine lv_iconst (v := 2) hx hb dX12_asked_56 (by decide) ?_
        refine j_iald (j := 2) (v := 0) X hw 2 rfl (by decide) (by decide) (by decide) rfl dX12_asked_57 ?_
        refine lv_icmp_ge (tgt := 78) hx hb dX12_asked_58 (by decide) (fun _ => ?_) (fun h => absurd (by decide) h)
        refine lv_iconst (v := (-1)) hx hb dX12_asked_78 (by decide) ?_
        exact r_i X hr hlk hw [] (fun _ => 0) rfl rfl (Or.inr (Or.inr (⟨Or.inr (Or.inr (Or.inl (⟨h1, h13, h14, e19⟩))), rfl⟩))) (by decide) (by decide) dX12_asked_79
      · skip
        obtain rfl : p0 = 13 := i32_of e19
        refine kv_isub (v := 3) hx hb (by decide) dX12_asked_51 ?_
        refine lv_aload_n hx hb dX12_asked_52 rfl (lv_at hl 1 rfl) ?_
        refine fg_1443 X hw 1 rfl rfl dX12_asked_53 ?_
        refine lv_iconst (v := 2) hx hb dX12_asked_56 (by decide) ?_
        refine j_iald (j := 2) (v := 0) X hw 2 rfl (by decide) (by decide) (by decide) rfl dX12_asked_57 ?_
        refine lv_icmp_ge (tgt := 78) hx hb dX12_asked_58 (by decide) (fun _ => ?_) (fun h => absurd (by decide) h)
        refine lv_iconst (v := (-1)) hx hb dX12_asked_78 (by decide) ?_
        exact r_i X hr hlk hw [] (fun _ => 0) rfl rfl (Or.inr (Or.inr (⟨Or.inr (Or.inr (Or.inr (Or.inl (⟨h1, h13, h14, e19⟩)))), rfl⟩))) (by decide) (by decide) dX12_asked_79
      · skip
        obtain rfl : p0 = 14 := i32_of e19
        refine kv_isub (v := 4) hx hb (by decide) dX12_asked_51 ?_
        refine lv_aload_n hx hb dX12_asked_52 rfl (lv_at hl 1 rfl) ?_
        refine fg_1443 X hw 1 rfl rfl dX12_asked_53 ?_
        refine lv_iconst (v := 2) hx hb dX12_asked_56 (by decide) ?_
        refine j_iald (j := 2) (v := 0) X hw 2 rfl (by decide) (by decide) (by decide) rfl dX12_asked_57 ?_
        refine lv_icmp_ge (tgt := 78) hx hb dX12_asked_58 (by decide) (fun _ => ?_) (fun h => absurd (by decide) h)
        refine lv_iconst (v := (-1)) hx hb dX12_asked_78 (by decide) ?_
        exact r_i X hr hlk hw [] (fun _ => 0) rfl rfl (Or.inr (Or.inr (⟨Or.inr (Or.inr (Or.inr (Or.inr (Or.inl (⟨h1, h13, h14, e19⟩))))), rfl⟩))) (by decide) (by decide) dX12_asked_79
      · skip
        obtain rfl : p0 = 15 := i32_of e19
        refine kv_isub (v := 5) hx hb (by decide) dX12_asked_51 ?_
        refine lv_aload_n hx hb dX12_asked_52 rfl (lv_at hl 1 rfl) ?_
        refine fg_1443 X hw 1 rfl rfl dX12_asked_53 ?_
        refine lv_iconst (v := 2) hx hb dX12_asked_56 (by decide) ?_
        refine j_iald (j := 2) (v := 0) X hw 2 rfl (by decide) (by decide) (by decide) rfl dX12_asked_57 ?_
        refine lv_icmp_ge (tgt := 78) hx hb dX12_asked_58 (by decide) (fun _ => ?_) (fun h => absurd (by decide) h)
        refine lv_iconst (v := (-1)) hx hb dX12_asked_78 (by decide) ?_
        exact r_i X hr hlk hw [] (fun _ => 0) rfl rfl (Or.inr (Or.inr (⟨Or.inr (Or.inr (Or.inr (Or.inr (Or.inr (Or.inl (⟨h1, h13, h14, e19⟩)))))), rfl⟩))) (by decide) (by decide) dX12_asked_79
      · skip
        obtain rfl : p0 = 16 := i32_of e19
        refine kv_isub (v := 6) hx hb (by decide) dX12_asked_51 ?_
        refine lv_aload_n hx hb dX12_asked_52 rfl (lv_at hl 1 rfl) ?_
        refine fg_1443 X hw 1 rfl rfl dX12_asked_53 ?_
        refine lv_iconst (v := 2) hx hb dX12_asked_56 (by decide) ?_
        refine j_iald (j := 2) (v := 0) X hw 2 rfl (by decide) (by decide) (by decide) rfl dX12_asked_57 ?_
        refine lv_icmp_ge (tgt := 78) hx hb dX12_asked_58 (by decide) (fun _ => ?_) (fun h => absurd (by decide) h)
        refine lv_iconst (v := (-1)) hx hb dX12_asked_78 (by decide) ?_
        exact r_i X hr hlk hw [] (fun _ => 0) rfl rfl (Or.inr (Or.inr (⟨Or.inr (Or.inr (Or.inr (Or.inr (Or.inr (Or.inr (⟨h1, h13, h14, e19⟩)))))), rfl⟩))) (by decide) (by decide) dX12_asked_79
set_option maxHeartbeats 4000000 in
set_option maxRecDepth 100000 in
theorem c144_X12_best (l : Launch) (D : va_G) (ct : Nat → ClassId) (a0 : Nat) (p0 : Int32) (a1 : Nat) (a2 : Nat) (a3 : Nat) (a4 : Nat) (a5 : Nat) (a6 : Nat) (a7 : Nat) (a8 : Nat) (a9 : Nat) (a10 : Nat) (a11 : Nat) (a12 : Nat) (a13 : Nat) (a14 : Nat) (a15 : Nat) (a16 : Nat) : CI l yX12_best cX12_best 2 (some .int) { frames := 4, cells := 0, slots := 0, locals := 95 } D ct [.ref a0, .int p0] [(a0, .inr (12, [.int 0, .ref a1, .ref a2, .ref a3, .ref a4, .int 0, .int 0, .int 0, .int 0, .int 0, .int 0, .int 0, .int 0, .int 0, .int (-1), .ref a5, .ref a6, .ref a7, .ref a8, .int 0, .ref a9, .ref a10, .int 0, .int 0, .int 0, .ref a11, .ref a12, .ref a13, .ref a14, .ref a15, .ref a16])), (a8, .inl (ct 0, 40320, .inl (fun _ => 0))), (a1, .inl (ct 0, 5310, .inl fx0))] (fun r => (p0.toInt = 0 ∧ p0.toInt = 0 ∧ p0.toInt = 0) ∧ r = 0 ∨ (p0.toInt ≠ 0 ∧ ((p0.toInt < 10) ∨ (p0.toInt ≥ 10 ∧ p0.toInt > 16))) ∧ r = (-2) ∨ (((p0.toInt ≠ 0 ∧ p0.toInt ≥ 10 ∧ p0.toInt ≤ 16 ∧ p0.toInt = 10) ∨ (p0.toInt ≠ 0 ∧ p0.toInt ≥ 10 ∧ p0.toInt ≤ 16 ∧ p0.toInt = 11) ∨ (p0.toInt ≠ 0 ∧ p0.toInt ≥ 10 ∧ p0.toInt ≤ 16 ∧ p0.toInt = 12) ∨ (p0.toInt ≠ 0 ∧ p0.toInt ≥ 10 ∧ p0.toInt ≤ 16 ∧ p0.toInt = 13) ∨ (p0.toInt ≠ 0 ∧ p0.toInt ≥ 10 ∧ p0.toInt ≤ 16 ∧ p0.toInt = 14) ∨ (p0.toInt ≠ 0 ∧ p0.toInt ≥ 10 ∧ p0.toInt ≤ 16 ∧ p0.toInt = 15) ∨ (p0.toInt ≠ 0 ∧ p0.toInt ≥ 10 ∧ p0.toInt ≤ 16 ∧ p0.toInt = 16))) ∧ r = (-1)) (fun u => []) := by
  refine CI.of (by decide +kernel) (Nat.le_of_ble_eq_true rfl) ?_
  intro p e s m below meth c A ls hE
  obtain ⟨X, hr, hlk, hnm, hw, hl⟩ := hE
  have X : CX p m c cX12_best 2 s [.ref a0, .int p0].toArray RX12 D ct := X
  have hl : lv_has ls 2 [(0, .ref a0), (1, .int p0)] := hl
  obtain ⟨⟨hx, hb, hml, hown, hts⟩, hK⟩ := id X
  refine lv_aload_n hx hb dX12_best_0 rfl (lv_at hl 0 rfl) ?_
  refine lv_iconst (v := 0) hx hb dX12_best_1 (by decide) ?_
  refine fp_1442 X hw 0 rfl rfl rfl (Nat.le_of_ble_eq_true rfl) dX12_best_2 [(a0, .inr (12, [.int 0, .ref a1, .ref a2, .ref a3, .ref a4, .int 0, .int 0, .int 0, .int 0, .int 0, .int 0, .int 0, .int 0, .int 0, .int (-1), .ref a5, .ref a6, .ref a7, .ref a8, .int 0, .ref a9, .ref a10, .int 0, .int 0, .int 0, .ref a11, .ref a12, .ref a13, .ref a14, .ref a15, .ref a16])), (a8, .inl (ct 0, 40320, .inl (fun _ => 0))), (a1, .inl (ct 0, 5310, .inl fx0))] rfl (fun H locs hw => ?_)
  refine lv_aload_n hx hb dX12_best_5 rfl (lv_at hl 0 rfl) ?_
  refine lv_iconst (v := 0) hx hb dX12_best_6 (by decide) ?_
  refine lv_iload_n hx hb dX12_best_7 rfl (lv_at hl 1 rfl) ?_
  refine lv_ldc hx hb hown (hts _ wd_1711) dX12_best_8 ?_
  refine m_Vi (As := [.int 0, .int p0, .int (-2000000)]) (rest := []) (c143_X12_asked l D ct a0 p0 a1 a2 a3 a4 a5 a6 a7 a8 a9 a10 a11 a12 a13 a14 a15 a16) X hl.1 kw_1903 kd_yX12_asked hw [0, 1, 2] [] rfl rfl rfl rfl (by decide) 0 rfl rfl ⟨by decide, by decide⟩ rfl rfl (Nat.le_of_ble_eq_true rfl) dX12_best_10 ⟨by decide, by decide⟩ (fun r1 u2 H locs hr3 hw => ?_)
  replace hw : WD D A s.heap _ _ [] := hw
  rcases hr3 with ⟨⟨h4, h5⟩, rfl⟩ | ⟨⟨h6, h7⟩, rfl⟩ | ⟨h8, rfl⟩
  · skip
    have e9 : p0.toInt = 0 := by omega
    obtain rfl : p0 = 0 := i32_of e9
    exact r_i X hr hlk hw [] (fun _ => 0) rfl rfl (Or.inl (⟨⟨h4, h5, e9⟩, rfl⟩)) (by decide) (by decide) dX12_best_13
  · skip
    exact r_i X hr hlk hw [] (fun _ => 0) rfl rfl (Or.inr (Or.inl (⟨⟨h6, h7⟩, rfl⟩))) (by decide) (by decide) dX12_best_13
  · skip
    exact r_i X hr hlk hw [] (fun _ => 0) rfl rfl (Or.inr (Or.inr (⟨h8, rfl⟩))) (by decide) (by decide) dX12_best_13
set_option maxHeartbeats 4000000 in
set_option maxRecDepth 100000 in
theorem c145_X11_fairest (l : Launch) (D : va_G) (ct : Nat → ClassId) (a0 : Nat) (p0 : Int32) (a1 : Nat) (a2 : Nat) (a3 : Nat) (a4 : Nat) (a5 : Nat) (a6 : Nat) (a7 : Nat) (a8 : Nat) (a9 : Nat) (a10 : Nat) (a11 : Nat) (a12 : Nat) (a13 : Nat) (a14 : Nat) (a15 : Nat) (a16 : Nat) (a17 : Nat) (a18 : Nat) (a19 : Nat) (a20 : Nat) (a21 : Nat) (a22 : Nat) (a23 : Nat) (f0 : Nat → Int32) (a24 : Nat) (a25 : Nat) (a26 : Nat) (a27 : Nat) (a28 : Nat) : CI l yX11_fairest cX11_fairest 3 (some .int) { frames := 4, cells := 0, slots := 0, locals := 104 } D ct [.ref a0, .int p0] [(a0, .inr (11, [.ref a1, .int 0, .ref a2, .ref a3, .ref a4, .ref a5, .ref a6, .ref a7, .ref a8, .ref a9, .ref a10, .ref a11, .ref a12, .ref a13, .ref a14, .ref a15, .int (-1), .int (-1)])), (a2, .inr (2, [.int 0, .int 0, .int 0, .ref a16, .ref a17, .ref a18, .int 0, .int 0, .int 0, .int 0, .int 0, .ref a19, .int 0])), (a4, .inr (9, [.ref a20, .ref a21, .ref a2, .ref a22, .ref a23, .int (-1)])), (a20, .inl (ct 0, 7, .inl f0)), (a5, .inr (5, [.ref a24, .ref a25, .ref a26, .ref a27, .ref a28, .int 0, .int 0])), (a25, .inl (ct 0, 256, .inl (fun _ => 0))), (a28, .inl (ct 0, 7, .inl f0))] (fun r => (((p0.toInt = 0 ∧ p0.toInt = 0) ∨ (p0.toInt ≠ 0 ∧ p0.toInt ≥ 10 ∧ p0.toInt < 17)) ∧ p0.toInt ≠ 0) ∧ r = (-1) ∨ (((p0.toInt = 0 ∧ p0.toInt = 0) ∨ (p0.toInt ≠ 0 ∧ p0.toInt ≥ 10 ∧ p0.toInt < 17)) ∧ p0.toInt = 0 ∧ p0.toInt = 0) ∧ r = 0 ∨ (((p0.toInt ≠ 0 ∧ p0.toInt < 10) ∨ (p0.toInt ≠ 0 ∧ p0.toInt ≥ 10 ∧ p0.toInt ≥ 17))) ∧ r = (-2)) (fun u => []) := by
  refine CI.of (by decide +kernel) (Nat.le_of_ble_eq_true rfl) ?_
  intro p e s m below meth c A ls hE
  obtain ⟨X, hr, hlk, hnm, hw, hl⟩ := hE
  have X : CX p m c cX11_fairest 3 s [.ref a0, .int p0].toArray RX11 D ct := X
  have hl : lv_has ls 3 [(0, .ref a0), (1, .int p0)] := hl
  obtain ⟨⟨hx, hb, hml, hown, hts⟩, hK⟩ := id X
  refine lv_iload_n hx hb dX11_fairest_0 rfl (lv_at hl 1 rfl) ?_
  refine m_Si (As := [.int p0]) (rest := []) (c134_X11_asksOfMap l D ct p0) X hl.1 kw_1205 kd_yX11_asksOfMap hw [] [0, 1, 2, 3, 4, 5, 6] rfl rfl rfl rfl (by decide) ⟨by decide, by decide⟩ rfl rfl (Nat.le_of_ble_eq_true rfl) dX11_fairest_1 ⟨by decide, by decide⟩ (fun r1 u2 H locs hr3 hw => ?_)
  replace hw : WD D A s.heap _ _ [(a0, .inr (11, [.ref a1, .int 0, .ref a2, .ref a3, .ref a4, .ref a5, .ref a6, .ref a7, .ref a8, .ref a9, .ref a10, .ref a11, .ref a12, .ref a13, .ref a14, .ref a15, .int (-1), .int (-1)])), (a2, .inr (2, [.int 0, .int 0, .int 0, .ref a16, .ref a17, .ref a18, .int 0, .int 0, .int 0, .int 0, .int 0, .ref a19, .int 0])), (a4, .inr (9, [.ref a20, .ref a21, .ref a2, .ref a22, .ref a23, .int (-1)])), (a20, .inl (ct 0, 7, .inl f0)), (a5, .inr (5, [.ref a24, .ref a25, .ref a26, .ref a27, .ref a28, .int 0, .int 0])), (a25, .inl (ct 0, 256, .inl (fun _ => 0))), (a28, .inl (ct 0, 7, .inl f0))] := hw
  rcases hr3 with ⟨h4, rfl⟩ | ⟨h5, rfl⟩
  · skip
    refine lv_if_ne (tgt := 10) hx hb dX11_fairest_4 (by decide) (fun _ => ?_) (fun h => absurd h (by decide))
    refine lv_aload_n hx hb dX11_fairest_10 rfl (lv_at hl 0 rfl) ?_
    refine m_Vi (As := []) (rest := []) (c114_X11_tallyAll l D ct a0 a1 a2 a3 a4 a5 a6 a7 a8 a9 a10 a11 a12 a13 a14 a15 a16 a17 a18 a19 a20 a21 a22 a23 f0 a24 a25 a26 a27 a28) X hl.1 kw_1140 kd_yX11_tallyAll hw [0, 1, 2, 3, 4, 5, 6] [] rfl rfl rfl rfl (by decide) 0 rfl rfl ⟨by decide, by decide⟩ rfl rfl (Nat.le_of_ble_eq_true rfl) dX11_fairest_11 ⟨by decide, by decide⟩ (fun r6 u7 H locs hr8 hw => ?_)
    replace hw : WD D A s.heap _ _ [(a0, .inr (11, [.ref a1, .int 0, .ref a2, .ref a3, .ref a4, .ref a5, .ref a6, .ref a7, .ref a8, .ref a9, .ref a10, .ref a11, .ref a12, .ref a13, .ref a14, .ref a15, .int (-1), .int (-1)])), (a2, .inr (2, [.int 0, .int 0, .int 0, .ref a16, .ref a17, .ref a18, .int 0, .int 0, .int 0, .int 0, .int 0, .ref a19, .int 0])), (a4, .inr (9, [.ref a20, .ref a21, .ref a2, .ref a22, .ref a23, .int 0])), (a20, .inl (ct 0, 7, .inl f0)), (a25, .inl (ct 0, 256, .inl (upd (fun _ => 0) 0 1))), (a28, .inl (ct 0, 7, .inl (va_cpy f0 f0 0 0 0))), (a5, .inr (5, [.ref a24, .ref a25, .ref a26, .ref a27, .ref a28, .int 0, .int 0]))] := hw
    subst hr8
    refine lv_if_ne (tgt := 28) hx hb dX11_fairest_14 (by decide) (fun _ => ?_) (fun h => absurd h (by decide))
    refine lv_aload_n hx hb dX11_fairest_28 rfl (lv_at hl 0 rfl) ?_
    refine fg_567 X hw 0 rfl rfl dX11_fairest_29 ?_
    refine fg_225 X hw 1 rfl rfl dX11_fairest_32 ?_
    refine lv_if_ne (tgt := 48) hx hb dX11_fairest_35 (by decide) (fun h => absurd rfl h) (fun _ => ?_)
    refine lv_iload_n hx hb dX11_fairest_38 rfl (lv_at hl 1 rfl) ?_
    refine lv_if_ne (tgt := 46) hx hb dX11_fairest_39 (by decide) (fun h9 => ?_) (fun h9 => ?_)
    · have h9 : p0.toInt ≠ 0 := by have q := ci_neq (a := p0.toInt) (b := 0) rfl (by decide) h9; omega
      refine lv_iconst (v := (-1)) hx hb dX11_fairest_46 (by decide) ?_
      exact r_i X hr hlk hw [] (fun _ => 0) rfl rfl (Or.inl (⟨⟨h4, h9⟩, rfl⟩)) (by decide) (by decide) dX11_fairest_47
    · have h9 : p0.toInt = 0 := by have q := ci_eq (a := p0.toInt) (b := 0) rfl (by decide) h9; omega
      have e10 : p0.toInt = 0 := by omega
      obtain rfl : p0 = 0 := i32_of e10
      refine lv_iconst (v := 0) hx hb dX11_fairest_42 (by decide) ?_
      refine lv_goto (tgt := 47) hx hb dX11_fairest_43 (by decide) ?_
      exact r_i X hr hlk hw [] (fun _ => 0) rfl rfl (Or.inr (Or.inl (⟨⟨h4, h9, e10⟩, rfl⟩))) (by decide) (by decide) dX11_fairest_47
  · skip
    refine lv_if_ne (tgt := 10) hx hb dX11_fairest_4 (by decide) (fun h => absurd rfl h) (fun _ => ?_)
    refine lv_bipush (v := (-2)) hx hb dX11_fairest_7 (by decide) ?_
    exact r_i X hr hlk hw [] (fun _ => 0) rfl rfl (Or.inr (Or.inr (⟨h5, rfl⟩))) (by decide) (by decide) dX11_fairest_9
set_option maxHeartbeats 4000000 in
set_option maxRecDepth 100000 in
theorem c146_X12_leastIn (l : Launch) (D : va_G) (ct : Nat → ClassId) (a0 : Nat) (a1 : Nat) (a2 : Nat) (a3 : Nat) (a4 : Nat) (a5 : Nat) (a6 : Nat) (a7 : Nat) (a8 : Nat) (a9 : Nat) (a10 : Nat) (a11 : Nat) (a12 : Nat) (a13 : Nat) (a14 : Nat) (a15 : Nat) (a16 : Nat) : CI l yX12_leastIn cX12_leastIn 4 (some .int) { frames := 0, cells := 0, slots := 0, locals := 0 } D ct [.ref a0, .int 0] [(a0, .inr (12, [.int 0, .ref a1, .ref a2, .ref a3, .ref a4, .int 0, .int 0, .int 0, .int 0, .int 0, .int 0, .int 0, .int 0, .int 0, .int (-1), .ref a5, .ref a6, .ref a7, .ref a8, .int 1, .ref a9, .ref a10, .int 0, .int 0, .int 0, .ref a11, .ref a12, .ref a13, .ref a14, .ref a15, .ref a16])), (a1, .inl (ct 0, 5310, .inl fx0))] (fun r => r = 0) (fun u => [(a0, .inr (12, [.int 0, .ref a1, .ref a2, .ref a3, .ref a4, .int 0, .int 0, .int 0, .int 0, .int 0, .int 0, .int 0, .int 0, .int 0, .int (-1), .ref a5, .ref a6, .ref a7, .ref a8, .int 1, .ref a9, .ref a10, .int 0, .int 0, .int 0, .ref a11, .ref a12, .ref a13, .ref a14, .ref a15, .ref a16])), (a1, .inl (ct 0, 5310, .inl fx0))]) := by
  refine CI.of (by decide +kernel) (Nat.le_of_ble_eq_true rfl) ?_
  intro p e s m below meth c A ls hE
  obtain ⟨X, hr, hlk, hnm, hw, hl⟩ := hE
  have X : CX p m c cX12_leastIn 4 s [.ref a0, .int 0].toArray RX12 D ct := X
  have hl : lv_has ls 4 [(0, .ref a0), (1, .int 0)] := hl
  obtain ⟨⟨hx, hb, hml, hown, hts⟩, hK⟩ := id X
  refine lv_aload_n hx hb dX12_leastIn_0 rfl (lv_at hl 0 rfl) ?_
  refine fg_1443 X hw 0 rfl rfl dX12_leastIn_1 ?_
  refine lv_iconst (v := 2) hx hb dX12_leastIn_4 (by decide) ?_
  refine j_iald (j := 2) (v := 0) X hw 1 rfl (by decide) (by decide) (by decide) rfl dX12_leastIn_5 ?_
  refine lv_if_ne (tgt := 13) hx hb dX12_leastIn_6 (by decide) (fun h => absurd rfl h) (fun _ => ?_)
  refine lv_iconst (v := 0) hx hb dX12_leastIn_9 (by decide) ?_
  refine lv_goto (tgt := 16) hx hb dX12_leastIn_10 (by decide) ?_
  refine lv_istore_n (lv' := [(2, .int 0), (0, .ref a0), (1, .int 0)]) hx hb dX12_leastIn_16 rfl hl (by decide) rfl (fun ls hl => ?_)
  refine lv_iconst (v := 0) hx hb dX12_leastIn_17 (by decide) ?_
  refine lv_istore_n (lv' := [(3, .int 0), (2, .int 0), (0, .ref a0), (1, .int 0)]) hx hb dX12_leastIn_18 rfl hl (by decide) rfl (fun ls hl => ?_)
  refine lv_iload_n hx hb dX12_leastIn_19 rfl (lv_at hl 0 rfl) ?_
  refine lv_aload_n hx hb dX12_leastIn_20 rfl (lv_at hl 2 rfl) ?_
  refine fg_1443 X hw 0 rfl rfl dX12_leastIn_21 ?_
  refine lv_iconst (v := 2) hx hb dX12_leastIn_24 (by decide) ?_
  refine j_iald (j := 2) (v := 0) X hw 1 rfl (by decide) (by decide) (by decide) rfl dX12_leastIn_25 ?_
  refine lv_icmp_ge (tgt := 74) hx hb dX12_leastIn_26 (by decide) (fun _ => ?_) (fun h => absurd (by decide) h)
  refine lv_iload_n hx hb dX12_leastIn_74 rfl (lv_at hl 1 rfl) ?_
  exact r_i X hr hlk hw [0, 1] (fun _ => 0) rfl rfl rfl (by decide) (by decide) dX12_leastIn_75
set_option maxHeartbeats 4000000 in
set_option maxRecDepth 100000 in
theorem c147_X12_valueIn (l : Launch) (D : va_G) (ct : Nat → ClassId) (a0 : Nat) (a1 : Nat) (a2 : Nat) (a3 : Nat) (a4 : Nat) (a5 : Nat) (a6 : Nat) (a7 : Nat) (a8 : Nat) (a9 : Nat) (a10 : Nat) (a11 : Nat) (a12 : Nat) (a13 : Nat) (a14 : Nat) (a15 : Nat) (a16 : Nat) : CI l yX12_valueIn cX12_valueIn 3 (some .int) { frames := 1, cells := 0, slots := 0, locals := 23 } D ct [.ref a0, .int 0, .int 1] [(a0, .inr (12, [.int 0, .ref a1, .ref a2, .ref a3, .ref a4, .int 0, .int 0, .int 0, .int 0, .int 0, .int 0, .int 0, .int 0, .int 0, .int (-1), .ref a5, .ref a6, .ref a7, .ref a8, .int 1, .ref a9, .ref a10, .int 0, .int 0, .int 0, .ref a11, .ref a12, .ref a13, .ref a14, .ref a15, .ref a16])), (a1, .inl (ct 0, 5310, .inl fx0))] (fun r => r = 0) (fun u => [(a0, .inr (12, [.int 0, .ref a1, .ref a2, .ref a3, .ref a4, .int 0, .int 0, .int 0, .int 0, .int 0, .int 0, .int 0, .int 0, .int 0, .int (-1), .ref a5, .ref a6, .ref a7, .ref a8, .int 1, .ref a9, .ref a10, .int 0, .int 0, .int 0, .ref a11, .ref a12, .ref a13, .ref a14, .ref a15, .ref a16])), (a1, .inl (ct 0, 5310, .inl fx0))]) := by
  refine CI.of (by decide +kernel) (Nat.le_of_ble_eq_true rfl) ?_
  intro p e s m below meth c A ls hE
  obtain ⟨X, hr, hlk, hnm, hw, hl⟩ := hE
  have X : CX p m c cX12_valueIn 3 s [.ref a0, .int 0, .int 1].toArray RX12 D ct := X
  have hl : lv_has ls 3 [(0, .ref a0), (1, .int 0), (2, .int 1)] := hl
  obtain ⟨⟨hx, hb, hml, hown, hts⟩, hK⟩ := id X
  refine lv_iload_n hx hb dX12_valueIn_0 rfl (lv_at hl 2 rfl) ?_
  refine lv_if_ne (tgt := 12) hx hb dX12_valueIn_1 (by decide) (fun _ => ?_) (fun h => absurd h (by decide))
  refine lv_iload_n hx hb dX12_valueIn_12 rfl (lv_at hl 2 rfl) ?_
  refine lv_iconst (v := 1) hx hb dX12_valueIn_13 (by decide) ?_
  refine lv_icmp_ne (tgt := 25) hx hb dX12_valueIn_14 (by decide) (fun h => absurd rfl h) (fun _ => ?_)
  refine lv_aload_n hx hb dX12_valueIn_17 rfl (lv_at hl 0 rfl) ?_
  refine lv_iload_n hx hb dX12_valueIn_18 rfl (lv_at hl 1 rfl) ?_
  refine m_Vi (As := [.int 0]) (rest := []) (c146_X12_leastIn l D ct a0 a1 a2 a3 a4 a5 a6 a7 a8 a9 a10 a11 a12 a13 a14 a15 a16) X hl.1 kw_1920 kd_yX12_leastIn hw [0, 1] [] rfl rfl rfl rfl (by decide) 0 rfl rfl ⟨by decide, by decide⟩ rfl rfl (Nat.le_of_ble_eq_true rfl) dX12_valueIn_19 ⟨by decide, by decide⟩ (fun r1 u2 H locs hr3 hw => ?_)
  replace hw : WD D A s.heap _ _ [(a0, .inr (12, [.int 0, .ref a1, .ref a2, .ref a3, .ref a4, .int 0, .int 0, .int 0, .int 0, .int 0, .int 0, .int 0, .int 0, .int 0, .int (-1), .ref a5, .ref a6, .ref a7, .ref a8, .int 1, .ref a9, .ref a10, .int 0, .int 0, .int 0, .ref a11, .ref a12, .ref a13, .ref a14, .ref a15, .ref a16])), (a1, .inl (ct 0, 5310, .inl fx0))] := hw
  subst hr3
  refine lv_goto (tgt := 31) hx hb dX12_valueIn_22 (by decide) ?_
  exact r_i X hr hlk hw [0, 1] (fun _ => 0) rfl rfl rfl (by decide) (by decide) dX12_valueIn_31
set_option maxHeartbeats 4000000 in
set_option maxRecDepth 100000 in
theorem c148_X12_bestMap (l : Launch) (D : va_G) (ct : Nat → ClassId) (a0 : Nat) (a1 : Nat) (a2 : Nat) (a3 : Nat) (a4 : Nat) (a5 : Nat) (a6 : Nat) (a7 : Nat) (a8 : Nat) (a9 : Nat) (a10 : Nat) (a11 : Nat) (a12 : Nat) (a13 : Nat) (a14 : Nat) (a15 : Nat) (a16 : Nat) : CI l yX12_bestMap cX12_bestMap 6 (some .int) { frames := 2, cells := 0, slots := 0, locals := 46 } D ct [.ref a0, .int 1] [(a0, .inr (12, [.int 0, .ref a1, .ref a2, .ref a3, .ref a4, .int 0, .int 0, .int 0, .int 0, .int 0, .int 0, .int 0, .int 0, .int 0, .int (-1), .ref a5, .ref a6, .ref a7, .ref a8, .int 0, .ref a9, .ref a10, .int 0, .int 0, .int 0, .ref a11, .ref a12, .ref a13, .ref a14, .ref a15, .ref a16])), (a8, .inl (ct 0, 40320, .inl (fun _ => 0))), (a1, .inl (ct 0, 5310, .inl fx0))] (fun r => r = 0) (fun u => [(a8, .inl (ct 0, 40320, .inl (upd (fun _ => 0) 0 0))), (a0, .inr (12, [.int 0, .ref a1, .ref a2, .ref a3, .ref a4, .int 0, .int 0, .int 0, .int 0, .int 0, .int 0, .int 0, .int 0, .int 0, .int (-1), .ref a5, .ref a6, .ref a7, .ref a8, .int 1, .ref a9, .ref a10, .int 0, .int 0, .int 0, .ref a11, .ref a12, .ref a13, .ref a14, .ref a15, .ref a16])), (a1, .inl (ct 0, 5310, .inl fx0))]) := by
  refine CI.of (by decide +kernel) (Nat.le_of_ble_eq_true rfl) ?_
  intro p e s m below meth c A ls hE
  obtain ⟨X, hr, hlk, hnm, hw, hl⟩ := hE
  have X : CX p m c cX12_bestMap 6 s [.ref a0, .int 1].toArray RX12 D ct := X
  have hl : lv_has ls 6 [(0, .ref a0), (1, .int 1)] := hl
  obtain ⟨⟨hx, hb, hml, hown, hts⟩, hK⟩ := id X
  refine lv_aload_n hx hb dX12_bestMap_0 rfl (lv_at hl 0 rfl) ?_
  refine lv_iconst (v := (-1)) hx hb dX12_bestMap_1 (by decide) ?_
  refine m_Vv (As := [.int (-1)]) (rest := []) (c71_X12_laysMaps l D ct a0 a1 a2 a3 a4 a5 a6 a7 a8 a9 a10 a11 a12 a13 a14 a15 a16 (fun _ => 0)) X hl.1 kw_1716 kd_yX12_laysMaps hw [0, 1, 2] [] rfl rfl rfl rfl (by decide) 0 rfl rfl ⟨by decide, by decide⟩ rfl rfl (Nat.le_of_ble_eq_true rfl) dX12_bestMap_2 ⟨by decide, by decide⟩ (fun u2 H locs hr3 hw => ?_)
  replace hw : WD D A s.heap _ _ [(a8, .inl (ct 0, 40320, .inl (upd (fun _ => 0) 0 0))), (a0, .inr (12, [.int 0, .ref a1, .ref a2, .ref a3, .ref a4, .int 0, .int 0, .int 0, .int 0, .int 0, .int 0, .int 0, .int 0, .int 0, .int (-1), .ref a5, .ref a6, .ref a7, .ref a8, .int 1, .ref a9, .ref a10, .int 0, .int 0, .int 0, .ref a11, .ref a12, .ref a13, .ref a14, .ref a15, .ref a16])), (a1, .inl (ct 0, 5310, .inl fx0))] := hw
  refine lv_iconst (v := (-1)) hx hb dX12_bestMap_5 (by decide) ?_
  refine lv_istore_n (lv' := [(2, .int (-1)), (0, .ref a0), (1, .int 1)]) hx hb dX12_bestMap_6 rfl hl (by decide) rfl (fun ls hl => ?_)
  refine lv_iconst (v := 0) hx hb dX12_bestMap_7 (by decide) ?_
  refine lv_istore_n (lv' := [(3, .int 0), (2, .int (-1)), (0, .ref a0), (1, .int 1)]) hx hb dX12_bestMap_8 rfl hl (by decide) rfl (fun ls hl => ?_)
  refine lv_iconst (v := 0) hx hb dX12_bestMap_9 (by decide) ?_
  refine lv_istore (lv' := [(4, .int 0), (3, .int 0), (2, .int (-1)), (0, .ref a0), (1, .int 1)]) hx hb dX12_bestMap_10 hl (by decide) rfl (fun ls hl => ?_)
  refine lv_iload hx hb dX12_bestMap_12 (lv_at hl 0 rfl) ?_
  refine lv_aload_n hx hb dX12_bestMap_14 rfl (lv_at hl 3 rfl) ?_
  refine fg_1461 X hw 1 rfl rfl dX12_bestMap_15 ?_
  refine lv_icmp_ge (tgt := 61) hx hb dX12_bestMap_18 (by decide) (fun h => absurd h (by decide)) (fun _ => ?_)
  refine lv_aload_n hx hb dX12_bestMap_21 rfl (lv_at hl 3 rfl) ?_
  refine lv_aload_n hx hb dX12_bestMap_22 rfl (lv_at hl 3 rfl) ?_
  refine fg_1460 X hw 1 rfl rfl dX12_bestMap_23 ?_
  refine lv_iload hx hb dX12_bestMap_26 (lv_at hl 0 rfl) ?_
  refine j_iald (j := 0) (v := 0) X hw 0 rfl (by decide) (by decide) (by decide) rfl dX12_bestMap_28 ?_
  refine lv_iload_n hx hb dX12_bestMap_29 rfl (lv_at hl 4 rfl) ?_
  refine m_Vi (As := [.int 0, .int 1]) (rest := []) (c147_X12_valueIn l D ct a0 a1 a2 a3 a4 a5 a6 a7 a8 a9 a10 a11 a12 a13 a14 a15 a16) X hl.1 kw_1912 kd_yX12_valueIn hw [1, 2] [0] rfl rfl rfl rfl (by decide) 0 rfl rfl ⟨by decide, by decide⟩ rfl rfl (Nat.le_of_ble_eq_true rfl) dX12_bestMap_30 ⟨by decide, by decide⟩ (fun r4 u5 H locs hr6 hw => ?_)
  replace hw : WD D A s.heap _ _ [(a8, .inl (ct 0, 40320, .inl (upd (fun _ => 0) 0 0))), (a0, .inr (12, [.int 0, .ref a1, .ref a2, .ref a3, .ref a4, .int 0, .int 0, .int 0, .int 0, .int 0, .int 0, .int 0, .int 0, .int 0, .int (-1), .ref a5, .ref a6, .ref a7, .ref a8, .int 1, .ref a9, .ref a10, .int 0, .int 0, .int 0, .ref a11, .ref a12, .ref a13, .ref a14, .ref a15, .ref a16])), (a1, .inl (ct 0, 5310, .inl fx0))] := hw
  subst hr6
  refine lv_istore (lv' := [(5, .int 0), (4, .int 0), (3, .int 0), (2, .int (-1)), (0, .ref a0), (1, .int 1)]) hx hb dX12_bestMap_33 hl (by decide) rfl (fun ls hl => ?_)
  refine lv_iload_n hx hb dX12_bestMap_35 rfl (lv_at hl 3 rfl) ?_
  refine lv_iconst (v := (-1)) hx hb dX12_bestMap_36 (by decide) ?_
  refine lv_icmp_eq (tgt := 49) hx hb dX12_bestMap_37 (by decide) (fun _ => ?_) (fun h => absurd (by decide) h)
  refine lv_iload hx hb dX12_bestMap_49 (lv_at hl 1 rfl) ?_
  refine lv_istore_n (lv' := [(2, .int 0), (5, .int 0), (4, .int 0), (3, .int 0), (0, .ref a0), (1, .int 1)]) hx hb dX12_bestMap_51 rfl hl (by decide) rfl (fun ls hl => ?_)
  refine lv_iload hx hb dX12_bestMap_52 (lv_at hl 1 rfl) ?_
  refine lv_istore_n (lv' := [(3, .int 0), (2, .int 0), (5, .int 0), (4, .int 0), (0, .ref a0), (1, .int 1)]) hx hb dX12_bestMap_54 rfl hl (by decide) rfl (fun ls hl => ?_)
  refine lv_iinc (v := 1) (lv' := [(4, .int 1), (3, .int 0), (2, .int 0), (5, .int 0), (0, .ref a0), (1, .int 1)]) hx hb dX12_bestMap_55 hl (k := 3) rfl (by decide) (by decide) rfl (fun ls hl => ?_)
  refine lv_goto (tgt := 12) hx hb dX12_bestMap_58 (by decide) ?_
  refine lv_iload hx hb dX12_bestMap_12 (lv_at hl 0 rfl) ?_
  refine lv_aload_n hx hb dX12_bestMap_14 rfl (lv_at hl 4 rfl) ?_
  refine fg_1461 X hw 1 rfl rfl dX12_bestMap_15 ?_
  refine lv_icmp_ge (tgt := 61) hx hb dX12_bestMap_18 (by decide) (fun _ => ?_) (fun h => absurd (by decide) h)
  refine lv_iload_n hx hb dX12_bestMap_61 rfl (lv_at hl 2 rfl) ?_
  exact r_i X hr hlk hw [0, 1, 2] (fun _ => 0) rfl rfl rfl (by decide) (by decide) dX12_bestMap_62
set_option maxHeartbeats 4000000 in
set_option maxRecDepth 100000 in
theorem c149_X12_asked (l : Launch) (D : va_G) (ct : Nat → ClassId) (a0 : Nat) (p0 : Int32) (a1 : Nat) (a2 : Nat) (a3 : Nat) (a4 : Nat) (a5 : Nat) (a6 : Nat) (a7 : Nat) (a8 : Nat) (a9 : Nat) (a10 : Nat) (a11 : Nat) (a12 : Nat) (a13 : Nat) (a14 : Nat) (a15 : Nat) (a16 : Nat) : CI l yX12_asked cX12_asked 5 (some .int) { frames := 3, cells := 0, slots := 0, locals := 71 } D ct [.ref a0, .int 1, .int p0, .int (-2000000)] [(a0, .inr (12, [.int 0, .ref a1, .ref a2, .ref a3, .ref a4, .int 0, .int 0, .int 0, .int 0, .int 0, .int 0, .int 0, .int 0, .int 0, .int (-1), .ref a5, .ref a6, .ref a7, .ref a8, .int 0, .ref a9, .ref a10, .int 0, .int 0, .int 0, .ref a11, .ref a12, .ref a13, .ref a14, .ref a15, .ref a16])), (a8, .inl (ct 0, 40320, .inl (fun _ => 0))), (a1, .inl (ct 0, 5310, .inl fx0))] (fun r => (p0.toInt = 0 ∧ p0.toInt = 0) ∧ r = 0 ∨ (p0.toInt ≠ 0 ∧ ((p0.toInt < 10) ∨ (p0.toInt ≥ 10 ∧ p0.toInt > 16))) ∧ r = (-2) ∨ ((p0.toInt ≠ 0 ∧ p0.toInt ≥ 10 ∧ p0.toInt ≤ 16 ∧ p0.toInt = 10) ∨ (p0.toInt ≠ 0 ∧ p0.toInt ≥ 10 ∧ p0.toInt ≤ 16 ∧ p0.toInt = 11) ∨ (p0.toInt ≠ 0 ∧ p0.toInt ≥ 10 ∧ p0.toInt ≤ 16 ∧ p0.toInt = 12) ∨ (p0.toInt ≠ 0 ∧ p0.toInt ≥ 10 ∧ p0.toInt ≤ 16 ∧ p0.toInt = 13) ∨ (p0.toInt ≠ 0 ∧ p0.toInt ≥ 10 ∧ p0.toInt ≤ 16 ∧ p0.toInt = 14) ∨ (p0.toInt ≠ 0 ∧ p0.toInt ≥ 10 ∧ p0.toInt ≤ 16 ∧ p0.toInt = 15) ∨ (p0.toInt ≠ 0 ∧ p0.toInt ≥ 10 ∧ p0.toInt ≤ 16 ∧ p0.toInt = 16)) ∧ r = (-1)) (fun u => []) := by
  refine CI.of (by decide +kernel) (Nat.le_of_ble_eq_true rfl) ?_
  intro p e s m below meth c A ls hE
  obtain ⟨X, hr, hlk, hnm, hw, hl⟩ := hE
  have X : CX p m c cX12_asked 5 s [.ref a0, .int 1, .int p0, .int (-2000000)].toArray RX12 D ct := X
  have hl : lv_has ls 5 [(0, .ref a0), (1, .int 1), (2, .int p0), (3, .int (-2000000))] := hl
  obtain ⟨⟨hx, hb, hml, hown, hts⟩, hK⟩ := id X
  refine lv_iload_n hx hb dX12_asked_0 rfl (lv_at hl 2 rfl) ?_
  refine lv_if_eq (tgt := 21) hx hb dX12_asked_1 (by decide) (fun h1 => ?_) (fun h1 => ?_)
  · have h1 : p0.toInt = 0 := by have q := ci_eq (a := p0.toInt) (b := 0) rfl (by decide) h1; omega
    have e2 : p0.toInt = 0 := by omega
    obtain rfl : p0 = 0 := i32_of e2
    refine lv_aload_n hx hb dX12_asked_21 rfl (lv_at hl 0 rfl) ?_
    refine lv_iload_n hx hb dX12_asked_22 rfl (lv_at hl 1 rfl) ?_
    refine m_Vi (As := [.int 1]) (rest := []) (c148_X12_bestMap l D ct a0 a1 a2 a3 a4 a5 a6 a7 a8 a9 a10 a11 a12 a13 a14 a15 a16) X hl.1 kw_1908 kd_yX12_bestMap hw [0, 1, 2] [] rfl rfl rfl rfl (by decide) 0 rfl rfl ⟨by decide, by decide⟩ rfl rfl (Nat.le_of_ble_eq_true rfl) dX12_asked_23 ⟨by decide, by decide⟩ (fun r3 u4 H locs hr5 hw => ?_)
    replace hw : WD D A s.heap _ _ [(a8, .inl (ct 0, 40320, .inl (upd (fun _ => 0) 0 0))), (a0, .inr (12, [.int 0, .ref a1, .ref a2, .ref a3, .ref a4, .int 0, .int 0, .int 0, .int 0, .int 0, .int 0, .int 0, .int 0, .int 0, .int (-1), .ref a5, .ref a6, .ref a7, .ref a8, .int 1, .ref a9, .ref a10, .int 0, .int 0, .int 0, .ref a11, .ref a12, .ref a13, .ref a14, .ref a15, .ref a16])), (a1, .inl (ct 0, 5310, .inl fx0))] := hw
    subst hr5
    refine lv_istore (lv' := [(4, .int 0), (0, .ref a0), (1, .int 1), (2, .int 0), (3, .int (-2000000))]) hx hb dX12_asked_26 hl (by decide) rfl (fun ls hl => ?_)
    refine lv_iload hx hb dX12_asked_28 (lv_at hl 0 rfl) ?_
    refine lv_iconst (v := (-1)) hx hb dX12_asked_30 (by decide) ?_
    refine lv_icmp_ne (tgt := 44) hx hb dX12_asked_31 (by decide) (fun _ => ?_) (fun h => absurd h (by decide))
    refine lv_iload_n hx hb dX12_asked_44 rfl (lv_at hl 3 rfl) ?_
    refine lv_if_le (tgt := 80) hx hb dX12_asked_45 (by decide) (fun _ => ?_) (fun h => absurd (by decide) h)
    refine lv_iload_n hx hb dX12_asked_80 rfl (lv_at hl 2 rfl) ?_
    refine lv_iconst (v := 2) hx hb dX12_asked_81 (by decide) ?_
    refine lv_icmp_ne (tgt := 99) hx hb dX12_asked_82 (by decide) (fun _ => ?_) (fun h => absurd h (by decide))
    refine lv_aload_n hx hb dX12_asked_99 rfl (lv_at hl 1 rfl) ?_
    refine lv_aload_n hx hb dX12_asked_100 rfl (lv_at hl 1 rfl) ?_
    refine fg_1460 X hw 1 rfl rfl dX12_asked_101 ?_
    refine lv_iload hx hb dX12_asked_104 (lv_at hl 0 rfl) ?_
    refine j_iald (j := 0) (v := 0) X hw 0 rfl (by decide) (by decide) (by decide) rfl dX12_asked_106 ?_
    refine lv_iload_n hx hb dX12_asked_107 rfl (lv_at hl 2 rfl) ?_
    refine m_Vi (As := [.int 0, .int 1]) (rest := []) (c147_X12_valueIn l D ct a0 a1 a2 a3 a4 a5 a6 a7 a8 a9 a10 a11 a12 a13 a14 a15 a16) X hl.1 kw_1912 kd_yX12_valueIn hw [1, 2] [0] rfl rfl rfl rfl (by decide) 0 rfl rfl ⟨by decide, by decide⟩ rfl rfl (Nat.le_of_ble_eq_true rfl) dX12_asked_108 ⟨by decide, by decide⟩ (fun r6 u7 H locs hr8 hw => ?_)
    replace hw : WD D A s.heap _ _ [(a8, .inl (ct 0, 40320, .inl (upd (fun _ => 0) 0 0))), (a0, .inr (12, [.int 0, .ref a1, .ref a2, .ref a3, .ref a4, .int 0, .int 0, .int 0, .int 0, .int 0, .int 0, .int 0, .int 0, .int 0, .int (-1), .ref a5, .ref a6, .ref a7, .ref a8, .int 1, .ref a9, .ref a10, .int 0, .int 0, .int 0, .ref a11, .ref a12, .ref a13, .ref a14, .ref a15, .ref a16])), (a1, .inl (ct 0, 5310, .inl fx0))] := hw
    subst hr8
    exact r_i X hr hlk hw [] (fun _ => 0) rfl rfl (Or.inl (⟨⟨h1, e2⟩, rfl⟩)) (by decide) (by decide) dX12_asked_111
  · have h1 : p0.toInt ≠ 0 := by have q := ci_neq (a := p0.toInt) (b := 0) rfl (by decide) h1; omega
    refine lv_iload_n hx hb dX12_asked_4 rfl (lv_at hl 2 rfl) ?_
    refine lv_i2l (v := p0.toInt64) hx hb dX12_asked_5 rfl ?_
    refine lv_ldc2 hx hb hown (hts _ wd_1801) dX12_asked_6 ?_
    refine lv_ldc2 hx hb hown (hts _ wd_1907) dX12_asked_9 ?_
    refine m_Si (As := [.long p0.toInt64, .long 10, .long 16]) (rest := []) (c142_X12_within l D ct (p0.toInt64)) X hl.1 kw_1545 kd_yX12_within hw [] [0, 1, 2] rfl rfl rfl rfl (by decide) ⟨by decide, by decide⟩ rfl rfl (Nat.le_of_ble_eq_true rfl) dX12_asked_12 ⟨by decide, by decide⟩ (fun r9 u10 H locs hr11 hw => ?_)
    replace hw : WD D A s.heap _ _ [(a0, .inr (12, [.int 0, .ref a1, .ref a2, .ref a3, .ref a4, .int 0, .int 0, .int 0, .int 0, .int 0, .int 0, .int 0, .int 0, .int 0, .int (-1), .ref a5, .ref a6, .ref a7, .ref a8, .int 0, .ref a9, .ref a10, .int 0, .int 0, .int 0, .ref a11, .ref a12, .ref a13, .ref a14, .ref a15, .ref a16])), (a8, .inl (ct 0, 40320, .inl (fun _ => 0))), (a1, .inl (ct 0, 5310, .inl fx0))] := hw
    rcases hr11 with ⟨h12, rfl⟩ | ⟨⟨h13, h14⟩, rfl⟩
    · skip
      simp only [i64i] at h12
      refine lv_if_ne (tgt := 21) hx hb dX12_asked_15 (by decide) (fun h => absurd rfl h) (fun _ => ?_)
      refine lv_bipush (v := (-2)) hx hb dX12_asked_18 (by decide) ?_
      exact r_i X hr hlk hw [] (fun _ => 0) rfl rfl (Or.inr (Or.inl (⟨⟨h1, h12⟩, rfl⟩))) (by decide) (by decide) dX12_asked_20
    · skip
      rw [i64i] at h13
      rw [i64i] at h14
      refine lv_if_ne (tgt := 21) hx hb dX12_asked_15 (by decide) (fun _ => ?_) (fun h => absurd h (by decide))
      refine lv_aload_n hx hb dX12_asked_21 rfl (lv_at hl 0 rfl) ?_
      refine lv_iload_n hx hb dX12_asked_22 rfl (lv_at hl 1 rfl) ?_
      refine m_Vi (As := [.int 1]) (rest := []) (c148_X12_bestMap l D ct a0 a1 a2 a3 a4 a5 a6 a7 a8 a9 a10 a11 a12 a13 a14 a15 a16) X hl.1 kw_1908 kd_yX12_bestMap hw [0, 1, 2] [] rfl rfl rfl rfl (by decide) 0 rfl rfl ⟨by decide, by decide⟩ rfl rfl (Nat.le_of_ble_eq_true rfl) dX12_asked_23 ⟨by decide, by decide⟩ (fun r15 u16 H locs hr17 hw => ?_)
      replace hw : WD D A s.heap _ _ [(a8, .inl (ct 0, 40320, .inl (upd (fun _ => 0) 0 0))), (a0, .inr (12, [.int 0, .ref a1, .ref a2, .ref a3, .ref a4, .int 0, .int 0, .int 0, .int 0, .int 0, .int 0, .int 0, .int 0, .int 0, .int (-1), .ref a5, .ref a6, .ref a7, .ref a8, .int 1, .ref a9, .ref a10, .int 0, .int 0, .int 0, .ref a11, .ref a12, .ref a13, .ref a14, .ref a15, .ref a16])), (a1, .inl (ct 0, 5310, .inl fx0))] := hw
      subst hr17
      refine lv_istore (lv' := [(4, .int 0), (0, .ref a0), (1, .int 1), (2, .int p0), (3, .int (-2000000))]) hx hb dX12_asked_26 hl (by decide) rfl (fun ls hl => ?_)
      refine lv_iload hx hb dX12_asked_28 (lv_at hl 0 rfl) ?_
      refine lv_iconst (v := (-1)) hx hb dX12_asked_30 (by decide) ?_
      refine lv_icmp_ne (tgt := 44) hx hb dX12_asked_31 (by decide) (fun _ => ?_) (fun h => absurd h (by decide))
      refine lv_iload_n hx hb dX12_asked_44 rfl (lv_at hl 3 rfl) ?_
      refine lv_if_le (tgt := 80) hx hb dX12_asked_45 (by decide) (fun h18 => absurd (ci_le (a := p0.toInt) (b := 0) rfl (by decide) h18) (by omega)) (fun h18 => ?_)
      refine lv_iload_n hx hb dX12_asked_48 rfl (lv_at hl 3 rfl) ?_
      refine lv_bipush (v := 10) hx hb dX12_asked_49 (by decide) ?_
      rcases (show p0.toInt = 10 ∨ p0.toInt = 11 ∨ p0.toInt = 12 ∨ p0.toInt = 13 ∨ p0.toInt = 14 ∨ p0.toInt = 15 ∨ p0.toInt = 16 by omega) with e19 | e19 | e19 | e19 | e19 | e19 | e19
      · skip
        obtain rfl : p0 = 10 := i32_of e19
        refine kv_isub (v := 0) hx hb (by decide) dX12_asked_51 ?_
        refine lv_aload_n hx hb dX12_asked_52 rfl (lv_at hl 1 rfl) ?_
        refine fg_1443 X hw 1 rfl rfl dX12_asked_53 ?_
        refine lv_iconst (v := 2) hx hb dX12_asked_56 (by decide) ?_
        refine j_iald (j := 2) (v := 0) X hw 2 rfl (by decide) (by decide) (by decide) rfl dX12_asked_57 ?_
        refine lv_icmp_ge (tgt := 78) hx hb dX12_asked_58 (by decide) (fun _ => ?_) (fun h => absurd (by decide) h)
        refine lv_iconst (v := (-1)) hx hb dX12_asked_78 (by decide) ?_
        exact r_i X hr hlk hw [] (fun _ => 0) rfl rfl (Or.inr (Or.inr (⟨Or.inl (⟨h1, h13, h14, e19⟩), rfl⟩))) (by decide) (by decide) dX12_asked_79
      · skip
        obtain rfl : p0 = 11 := i32_of e19
        refine kv_isub (v := 1) hx hb (by decide) dX12_asked_51 ?_
        refine lv_aload_n hx hb dX12_asked_52 rfl (lv_at hl 1 rfl) ?_
        refine fg_1443 X hw 1 rfl rfl dX12_asked_53 ?_
        refine lv_iconst (v := 2) hx hb dX12_asked_56 (by decide) ?_
        refine j_iald (j := 2) (v := 0) X hw 2 rfl (by decide) (by decide) (by decide) rfl dX12_asked_57 ?_
        refine lv_icmp_ge (tgt := 78) hx hb dX12_asked_58 (by decide) (fun _ => ?_) (fun h => absurd (by decide) h)
        refine lv_iconst (v := (-1)) hx hb dX12_asked_78 (by decide) ?_
        exact r_i X hr hlk hw [] (fun _ => 0) rfl rfl (Or.inr (Or.inr (⟨Or.inr (Or.inl (⟨h1, h13, h14, e19⟩)), rfl⟩))) (by decide) (by decide) dX12_asked_79
      · skip
        obtain rfl : p0 = 12 := i32_of e19
        refine kv_isub (v := 2) hx hb (by decide) dX12_asked_51 ?_
        refine lv_aload_n hx hb dX12_asked_52 rfl (lv_at hl 1 rfl) ?_
        refine fg_1443 X hw 1 rfl rfl dX12_asked_53 ?_
        refine lv_iconst (v := 2) hx hb dX12_asked_56 (by decide) ?_
        refine j_iald (j := 2) (v := 0) X hw 2 rfl (by decide) (by decide) (by decide) rfl dX12_asked_57 ?_
        refine lv_icmp_ge (tgt := 78) hx hb dX12_asked_58 (by decide) (fun _ => ?_) (fun h => absurd (by decide) h)
        refine lv_iconst (v := (-1)) hx hb dX12_asked_78 (by decide) ?_
        exact r_i X hr hlk hw [] (fun _ => 0) rfl rfl (Or.inr (Or.inr (⟨Or.inr (Or.inr (Or.inl (⟨h1, h13, h14, e19⟩))), rfl⟩))) (by decide) (by decide) dX12_asked_79
      · skip
        obtain rfl : p0 = 13 := i32_of e19
        refine kv_isub (v := 3) hx hb (by decide) dX12_asked_51 ?_
        refine lv_aload_n hx hb dX12_asked_52 rfl (lv_at hl 1 rfl) ?_
        refine fg_1443 X hw 1 rfl rfl dX12_asked_53 ?_
        refine lv_iconst (v := 2) hx hb dX12_asked_56 (by decide) ?_
        refine j_iald (j := 2) (v := 0) X hw 2 rfl (by decide) (by decide) (by decide) rfl dX12_asked_57 ?_
        refine lv_icmp_ge (tgt := 78) hx hb dX12_asked_58 (by decide) (fun _ => ?_) (fun h => absurd (by decide) h)
        refine lv_iconst (v := (-1)) hx hb dX12_asked_78 (by decide) ?_
        exact r_i X hr hlk hw [] (fun _ => 0) rfl rfl (Or.inr (Or.inr (⟨Or.inr (Or.inr (Or.inr (Or.inl (⟨h1, h13, h14, e19⟩)))), rfl⟩))) (by decide) (by decide) dX12_asked_79
      · skip
        obtain rfl : p0 = 14 := i32_of e19
        refine kv_isub (v := 4) hx hb (by decide) dX12_asked_51 ?_
        refine lv_aload_n hx hb dX12_asked_52 rfl (lv_at hl 1 rfl) ?_
        refine fg_1443 X hw 1 rfl rfl dX12_asked_53 ?_
        refine lv_iconst (v := 2) hx hb dX12_asked_56 (by decide) ?_
        refine j_iald (j := 2) (v := 0) X hw 2 rfl (by decide) (by decide) (by decide) rfl dX12_asked_57 ?_
        refine lv_icmp_ge (tgt := 78) hx hb dX12_asked_58 (by decide) (fun _ => ?_) (fun h => absurd (by decide) h)
        refine lv_iconst (v := (-1)) hx hb dX12_asked_78 (by decide) ?_
        exact r_i X hr hlk hw [] (fun _ => 0) rfl rfl (Or.inr (Or.inr (⟨Or.inr (Or.inr (Or.inr (Or.inr (Or.inl (⟨h1, h13, h14, e19⟩))))), rfl⟩))) (by decide) (by decide) dX12_asked_79
      · skip
        obtain rfl : p0 = 15 := i32_of e19
        refine kv_isub (v := 5) hx hb (by decide) dX12_asked_51 ?_
        refine lv_aload_n hx hb dX12_asked_52 rfl (lv_at hl 1 rfl) ?_
        refine fg_1443 X hw 1 rfl rfl dX12_asked_53 ?_
        refine lv_iconst (v := 2) hx hb dX12_asked_56 (by decide) ?_
        refine j_iald (j := 2) (v := 0) X hw 2 rfl (by decide) (by decide) (by decide) rfl dX12_asked_57 ?_
        refine lv_icmp_ge (tgt := 78) hx hb dX12_asked_58 (by decide) (fun _ => ?_) (fun h => absurd (by decide) h)
        refine lv_iconst (v := (-1)) hx hb dX12_asked_78 (by decide) ?_
        exact r_i X hr hlk hw [] (fun _ => 0) rfl rfl (Or.inr (Or.inr (⟨Or.inr (Or.inr (Or.inr (Or.inr (Or.inr (Or.inl (⟨h1, h13, h14, e19⟩)))))), rfl⟩))) (by decide) (by decide) dX12_asked_79
      · skip
        obtain rfl : p0 = 16 := i32_of e19
        refine kv_isub (v := 6) hx hb (by decide) dX12_asked_51 ?_
        refine lv_aload_n hx hb dX12_asked_52 rfl (lv_at hl 1 rfl) ?_
        refine fg_1443 X hw 1 rfl rfl dX12_asked_53 ?_
        refine lv_iconst (v := 2) hx hb dX12_asked_56 (by decide) ?_
        refine j_iald (j := 2) (v := 0) X hw 2 rfl (by decide) (by decide) (by decide) rfl dX12_asked_57 ?_
        refine lv_icmp_ge (tgt := 78) hx hb dX12_asked_58 (by decide) (fun _ => ?_) (fun h => absurd (by decide) h)
        refine lv_iconst (v := (-1)) hx hb dX12_asked_78 (by decide) ?_
        exact r_i X hr hlk hw [] (fun _ => 0) rfl rfl (Or.inr (Or.inr (⟨Or.inr (Or.inr (Or.inr (Or.inr (Or.inr (Or.inr (⟨h1, h13, h14, e19⟩)))))), rfl⟩))) (by decide) (by decide) dX12_asked_79
set_option maxHeartbeats 4000000 in
set_option maxRecDepth 100000 in
theorem c150_X12_fairest (l : Launch) (D : va_G) (ct : Nat → ClassId) (a0 : Nat) (p0 : Int32) (a1 : Nat) (a2 : Nat) (a3 : Nat) (a4 : Nat) (a5 : Nat) (a6 : Nat) (a7 : Nat) (a8 : Nat) (a9 : Nat) (a10 : Nat) (a11 : Nat) (a12 : Nat) (a13 : Nat) (a14 : Nat) (a15 : Nat) (a16 : Nat) : CI l yX12_fairest cX12_fairest 2 (some .int) { frames := 4, cells := 0, slots := 0, locals := 95 } D ct [.ref a0, .int p0] [(a0, .inr (12, [.int 0, .ref a1, .ref a2, .ref a3, .ref a4, .int 0, .int 0, .int 0, .int 0, .int 0, .int 0, .int 0, .int 0, .int 0, .int (-1), .ref a5, .ref a6, .ref a7, .ref a8, .int 0, .ref a9, .ref a10, .int 0, .int 0, .int 0, .ref a11, .ref a12, .ref a13, .ref a14, .ref a15, .ref a16])), (a8, .inl (ct 0, 40320, .inl (fun _ => 0))), (a1, .inl (ct 0, 5310, .inl fx0))] (fun r => (p0.toInt = 0 ∧ p0.toInt = 0 ∧ p0.toInt = 0) ∧ r = 0 ∨ (p0.toInt ≠ 0 ∧ ((p0.toInt < 10) ∨ (p0.toInt ≥ 10 ∧ p0.toInt > 16))) ∧ r = (-2) ∨ (((p0.toInt ≠ 0 ∧ p0.toInt ≥ 10 ∧ p0.toInt ≤ 16 ∧ p0.toInt = 10) ∨ (p0.toInt ≠ 0 ∧ p0.toInt ≥ 10 ∧ p0.toInt ≤ 16 ∧ p0.toInt = 11) ∨ (p0.toInt ≠ 0 ∧ p0.toInt ≥ 10 ∧ p0.toInt ≤ 16 ∧ p0.toInt = 12) ∨ (p0.toInt ≠ 0 ∧ p0.toInt ≥ 10 ∧ p0.toInt ≤ 16 ∧ p0.toInt = 13) ∨ (p0.toInt ≠ 0 ∧ p0.toInt ≥ 10 ∧ p0.toInt ≤ 16 ∧ p0.toInt = 14) ∨ (p0.toInt ≠ 0 ∧ p0.toInt ≥ 10 ∧ p0.toInt ≤ 16 ∧ p0.toInt = 15) ∨ (p0.toInt ≠ 0 ∧ p0.toInt ≥ 10 ∧ p0.toInt ≤ 16 ∧ p0.toInt = 16))) ∧ r = (-1)) (fun u => []) := by
  refine CI.of (by decide +kernel) (Nat.le_of_ble_eq_true rfl) ?_
  intro p e s m below meth c A ls hE
  obtain ⟨X, hr, hlk, hnm, hw, hl⟩ := hE
  have X : CX p m c cX12_fairest 2 s [.ref a0, .int p0].toArray RX12 D ct := X
  have hl : lv_has ls 2 [(0, .ref a0), (1, .int p0)] := hl
  obtain ⟨⟨hx, hb, hml, hown, hts⟩, hK⟩ := id X
  refine lv_aload_n hx hb dX12_fairest_0 rfl (lv_at hl 0 rfl) ?_
  refine lv_iconst (v := 0) hx hb dX12_fairest_1 (by decide) ?_
  refine fp_1442 X hw 0 rfl rfl rfl (Nat.le_of_ble_eq_true rfl) dX12_fairest_2 [(a0, .inr (12, [.int 0, .ref a1, .ref a2, .ref a3, .ref a4, .int 0, .int 0, .int 0, .int 0, .int 0, .int 0, .int 0, .int 0, .int 0, .int (-1), .ref a5, .ref a6, .ref a7, .ref a8, .int 0, .ref a9, .ref a10, .int 0, .int 0, .int 0, .ref a11, .ref a12, .ref a13, .ref a14, .ref a15, .ref a16])), (a8, .inl (ct 0, 40320, .inl (fun _ => 0))), (a1, .inl (ct 0, 5310, .inl fx0))] rfl (fun H locs hw => ?_)
  refine lv_aload_n hx hb dX12_fairest_5 rfl (lv_at hl 0 rfl) ?_
  refine lv_iconst (v := 1) hx hb dX12_fairest_6 (by decide) ?_
  refine lv_iload_n hx hb dX12_fairest_7 rfl (lv_at hl 1 rfl) ?_
  refine lv_ldc hx hb hown (hts _ wd_1711) dX12_fairest_8 ?_
  refine m_Vi (As := [.int 1, .int p0, .int (-2000000)]) (rest := []) (c149_X12_asked l D ct a0 p0 a1 a2 a3 a4 a5 a6 a7 a8 a9 a10 a11 a12 a13 a14 a15 a16) X hl.1 kw_1903 kd_yX12_asked hw [0, 1, 2] [] rfl rfl rfl rfl (by decide) 0 rfl rfl ⟨by decide, by decide⟩ rfl rfl (Nat.le_of_ble_eq_true rfl) dX12_fairest_10 ⟨by decide, by decide⟩ (fun r1 u2 H locs hr3 hw => ?_)
  replace hw : WD D A s.heap _ _ [] := hw
  rcases hr3 with ⟨⟨h4, h5⟩, rfl⟩ | ⟨⟨h6, h7⟩, rfl⟩ | ⟨h8, rfl⟩
  · skip
    have e9 : p0.toInt = 0 := by omega
    obtain rfl : p0 = 0 := i32_of e9
    exact r_i X hr hlk hw [] (fun _ => 0) rfl rfl (Or.inl (⟨⟨h4, h5, e9⟩, rfl⟩)) (by decide) (by decide) dX12_fairest_13
  · skip
    exact r_i X hr hlk hw [] (fun _ => 0) rfl rfl (Or.inr (Or.inl (⟨⟨h6, h7⟩, rfl⟩))) (by decide) (by decide) dX12_fairest_13
  · skip
    exact r_i X hr hlk hw [] (fun _ => 0) rfl rfl (Or.inr (Or.inr (⟨h8, rfl⟩))) (by decide) (by decide) dX12_fairest_13
set_option maxHeartbeats 4000000 in
set_option maxRecDepth 100000 in
theorem ylp12 {p : Program} {l : Launch} {e : Env} {R : Room} {s : State} {m : MethodId} {args : Array Value} {below : List Frame} {meth : Method} {c : Code} {cells slots : Nat} {Q : State → Prop} {D : va_G} {ct : Nat → ClassId} {A : Nat → Prop} {a0 : Nat} {f0 : Nat → Int32} (X : CX p m c cJ7_fill_53178 4 s args RJ7 D ct) (kk : ∀ (g : Nat → Int32), g = (va_cpy (fun _ => (-1)) f0 0 0 8) → ∀ (H : Heap) (locs : List Loc) (ls : Array Slot), WD D A s.heap H locs [(a0, .inl (ct 0, 8, .inl g))] → lv_has ls 4 [(3, .int 8), (2, .int (nI 8)), (0, .ref a0), (1, .int (-1))] → W p l e R s m args below meth c H locs cells slots Q (F0 m 20 ls [])) : ∀ (n k : Nat), k + n = 8 → ∀ (g : Nat → Int32), g = (va_cpy (fun _ => (-1)) f0 0 0 k) → ∀ (H : Heap) (locs : List Loc) (ls : Array Slot), WD D A s.heap H locs [(a0, .inl (ct 0, 8, .inl g))] → lv_has ls 4 [(3, .int 8), (2, .int (nI k)), (0, .ref a0), (1, .int (-1))] → W p l e R s m args below meth c H locs cells slots Q (F0 m 5 ls []) := by
  obtain ⟨⟨hx, hb, hml, hown, hts⟩, hK⟩ := id X
  intro n
  induction n with
  | zero =>
    intro k hk g hg H locs ls hw hl
    obtain rfl : k = 8 := by omega
    refine lv_iload_n hx hb dJ7_fill_53178_5 rfl (lv_at hl 1 rfl) ?_
    refine lv_iload_n hx hb dJ7_fill_53178_6 rfl (lv_at hl 0 rfl) ?_
    refine lv_icmp_ge (tgt := 20) hx hb dJ7_fill_53178_7 (by decide) (fun _ => ?_) (fun h => absurd (nI_le (a := 8) (b := 8) (Nat.le_refl _) (by omega)) h)
    exact kk g hg _ _ _ hw hl
  | succ n ih =>
    intro k hk g hg H locs ls hw hl
    refine lv_iload_n hx hb dJ7_fill_53178_5 rfl (lv_at hl 1 rfl) ?_
    refine lv_iload_n hx hb dJ7_fill_53178_6 rfl (lv_at hl 0 rfl) ?_
    refine lv_icmp_ge (tgt := 20) hx hb dJ7_fill_53178_7 (by decide) (fun h => absurd h (nI_ge (a := k) (b := 8) (by omega) (by omega))) (fun _ => ?_)
    refine lv_aload_n hx hb dJ7_fill_53178_10 rfl (lv_at hl 2 rfl) ?_
    refine lv_iload_n hx hb dJ7_fill_53178_11 rfl (lv_at hl 1 rfl) ?_
    refine lv_iload_n hx hb dJ7_fill_53178_12 rfl (lv_at hl 3 rfl) ?_
    refine j_iast (j := (k)) X hw 0 rfl (nI_pos (by omega)) (nI_clamp (by omega)) (by omega) dJ7_fill_53178_13 [(a0, .inl (ct 0, 8, .inl (upd g (k) (-1))))] rfl (fun H locs hw => ?_)
    refine lv_iinc (v := (nI (k + 1))) (lv' := [(2, .int (nI (k + 1))), (3, .int 8), (0, .ref a0), (1, .int (-1))]) hx hb dJ7_fill_53178_14 hl (k := 1) rfl (nI_add _ _) (by decide) rfl (fun ls hl => ?_)
    refine lv_goto (tgt := 5) hx hb dJ7_fill_53178_17 (by decide) ?_
    exact ih (k + 1) (by omega) _ (by rw [hg]; exact cpy_s _ _ _ _ _ _ _ (by omega) (by first | rfl | rw [Nat.zero_add])) _ _ _ hw (lv_sub hl [1, 0, 2, 3] rfl)
set_option maxHeartbeats 4000000 in
set_option maxRecDepth 100000 in
theorem c151_J7_fill_53178 (l : Launch) (D : va_G) (ct : Nat → ClassId) (a0 : Nat) (f0 : Nat → Int32) : CV l yJ7_fill_53178 cJ7_fill_53178 4 none { frames := 0, cells := 0, slots := 0, locals := 0 } D ct [.ref a0, .int (-1)] [(a0, .inl (ct 0, 8, .inl f0))] True (fun u => [(a0, .inl (ct 0, 8, .inl (va_cpy (fun _ => (-1)) f0 0 0 8)))]) := by
  refine CV.of (by decide +kernel) (Nat.le_of_ble_eq_true rfl) ?_
  intro p e s m below meth c A ls hE
  obtain ⟨X, hr, hlk, hnm, hw, hl⟩ := hE
  have X : CX p m c cJ7_fill_53178 4 s [.ref a0, .int (-1)].toArray RJ7 D ct := X
  have hl : lv_has ls 4 [(0, .ref a0), (1, .int (-1))] := hl
  obtain ⟨⟨hx, hb, hml, hown, hts⟩, hK⟩ := id X
  refine lv_iconst (v := 0) hx hb dJ7_fill_53178_0 (by decide) ?_
  refine lv_istore_n (lv' := [(2, .int 0), (0, .ref a0), (1, .int (-1))]) hx hb dJ7_fill_53178_1 rfl hl (by decide) rfl (fun ls hl => ?_)
  refine lv_aload_n hx hb dJ7_fill_53178_2 rfl (lv_at hl 1 rfl) ?_
  refine k_alen (v := 8) X hw 0 0 rfl rfl rfl dJ7_fill_53178_3 ?_
  refine lv_istore_n (lv' := [(3, .int 8), (2, .int 0), (0, .ref a0), (1, .int (-1))]) hx hb dJ7_fill_53178_4 rfl hl (by decide) rfl (fun ls hl => ?_)
  refine ylp12 X (fun g hg H locs ls hw hl => ?_) 8 0 (by omega) _ (cpy_0 _ _ _ _) _ _ _ hw hl
  subst hg
  replace hw : WD D A s.heap _ _ [(a0, .inl (ct 0, 8, .inl (va_cpy (fun _ => (-1)) f0 0 0 8)))] := hw
  replace hl : lv_has ls 4 [(3, .int 8), (2, .int 8), (0, .ref a0), (1, .int (-1))] := hl
  exact r_v X hr hlk hw [0] (fun _ => 0) rfl rfl trivial (by decide) (by decide) dJ7_fill_53178_20
set_option maxHeartbeats 4000000 in
set_option maxRecDepth 100000 in
theorem c152_X6_seek (l : Launch) (D : va_G) (ct : Nat → ClassId) (a0 : Nat) (a1 : Nat) (a2 : Nat) (a3 : Nat) (a4 : Nat) (a5 : Nat) (a6 : Nat) (a7 : Nat) (f0 : Nat → Int32) (a8 : Nat) (a9 : Nat) (a10 : Nat) (a11 : Nat) : CV l yX6_seek cX6_seek 6 none { frames := 1, cells := 0, slots := 0, locals := 60 } D ct [.ref a0, .ref a1, .int 0, .int 0, .int 0] [(a0, .inr (6, [.int 1000000, .ref a2, .ref a3, .ref a4, .ref a5, .ref a6, .ref a7, .int (-1)])), (a2, .inl (ct 0, 7, .inl f0)), (a7, .inl (ct 0, 7, .inl f0)), (a3, .inr (2, [.int 0, .int 0, .int 0, .ref a8, .ref a9, .ref a10, .int 0, .int 0, .int 0, .int 0, .int 0, .ref a11, .int 0]))] True (fun u => [(a0, .inr (6, [.int 0, .ref a2, .ref a3, .ref a4, .ref a5, .ref a6, .ref a7, .int (-1)])), (a2, .inl (ct 0, 7, .inl (va_cpy f0 f0 0 0 7))), (a7, .inl (ct 0, 7, .inl f0)), (a3, .inr (2, [.int 0, .int 0, .int 0, .ref a8, .ref a9, .ref a10, .int 0, .int 0, .int 0, .int 0, .int 0, .ref a11, .int 0]))]) := by
  refine CV.of (by decide +kernel) (Nat.le_of_ble_eq_true rfl) ?_
  intro p e s m below meth c A ls hE
  obtain ⟨X, hr, hlk, hnm, hw, hl⟩ := hE
  have X : CX p m c cX6_seek 6 s [.ref a0, .ref a1, .int 0, .int 0, .int 0].toArray RX6 D ct := X
  have hl : lv_has ls 6 [(0, .ref a0), (1, .ref a1), (2, .int 0), (3, .int 0), (4, .int 0)] := hl
  obtain ⟨⟨hx, hb, hml, hown, hts⟩, hK⟩ := id X
  refine lv_iload hx hb dX6_seek_0 (lv_at hl 4 rfl) ?_
  refine lv_aload_n hx hb dX6_seek_2 rfl (lv_at hl 0 rfl) ?_
  refine fg_419 X hw 0 rfl rfl dX6_seek_3 ?_
  refine lv_icmp_lt (tgt := 10) hx hb dX6_seek_6 (by decide) (fun _ => ?_) (fun h => absurd (by decide) h)
  refine lv_iload_n hx hb dX6_seek_10 rfl (lv_at hl 2 rfl) ?_
  refine lv_aload_n hx hb dX6_seek_11 rfl (lv_at hl 0 rfl) ?_
  refine fg_423 X hw 0 rfl rfl dX6_seek_12 ?_
  refine fg_224 X hw 3 rfl rfl dX6_seek_15 ?_
  refine lv_icmp_lt (tgt := 43) hx hb dX6_seek_18 (by decide) (fun h => absurd h (by decide)) (fun _ => ?_)
  refine lv_aload_n hx hb dX6_seek_21 rfl (lv_at hl 0 rfl) ?_
  refine lv_iload hx hb dX6_seek_22 (lv_at hl 4 rfl) ?_
  refine fp_419 X hw 0 rfl rfl rfl (Nat.le_of_ble_eq_true rfl) dX6_seek_24 [(a0, .inr (6, [.int 0, .ref a2, .ref a3, .ref a4, .ref a5, .ref a6, .ref a7, .int (-1)])), (a2, .inl (ct 0, 7, .inl f0)), (a7, .inl (ct 0, 7, .inl f0)), (a3, .inr (2, [.int 0, .int 0, .int 0, .ref a8, .ref a9, .ref a10, .int 0, .int 0, .int 0, .int 0, .int 0, .ref a11, .int 0]))] rfl (fun H locs hw => ?_)
  refine lv_aload_n hx hb dX6_seek_27 rfl (lv_at hl 0 rfl) ?_
  refine fg_427 X hw 0 rfl rfl dX6_seek_28 ?_
  refine lv_iconst (v := 0) hx hb dX6_seek_31 (by decide) ?_
  refine lv_aload_n hx hb dX6_seek_32 rfl (lv_at hl 0 rfl) ?_
  refine fg_421 X hw 0 rfl rfl dX6_seek_33 ?_
  refine lv_iconst (v := 0) hx hb dX6_seek_36 (by decide) ?_
  refine lv_bipush (v := 7) hx hb dX6_seek_37 (by decide) ?_
  refine k_copyi X hl.1 wd_1253 wd_863 wd_862 wd_149 hw 2 1 rfl rfl (by decide) (by decide) (by decide) (by decide) (by decide) (by decide) (Nat.le_of_ble_eq_true rfl) dX6_seek_39 [(a0, .inr (6, [.int 0, .ref a2, .ref a3, .ref a4, .ref a5, .ref a6, .ref a7, .int (-1)])), (a2, .inl (ct 0, 7, .inl (va_cpy f0 f0 0 0 7))), (a7, .inl (ct 0, 7, .inl f0)), (a3, .inr (2, [.int 0, .int 0, .int 0, .ref a8, .ref a9, .ref a10, .int 0, .int 0, .int 0, .int 0, .int 0, .ref a11, .int 0]))] rfl (fun H locs hw => ?_)
  exact r_v X hr hlk hw [0, 1, 2, 3] (fun _ => 0) rfl rfl trivial (by decide) (by decide) dX6_seek_42
set_option maxHeartbeats 4000000 in
set_option maxRecDepth 100000 in
theorem c153_X6_search (l : Launch) (D : va_G) (ct : Nat → ClassId) (a0 : Nat) (a1 : Nat) (a2 : Nat) (a3 : Nat) (a4 : Nat) (a5 : Nat) (a6 : Nat) (a7 : Nat) (f0 : Nat → Int32) (a8 : Nat) (a9 : Nat) (a10 : Nat) (a11 : Nat) : CV l yX6_search cX6_search 3 none { frames := 2, cells := 0, slots := 0, locals := 85 } D ct [.ref a0, .ref a1] [(a0, .inr (6, [.int (-1), .ref a2, .ref a3, .ref a4, .ref a5, .ref a6, .ref a7, .int (-1)])), (a2, .inl (ct 0, 7, .inl f0)), (a5, .inl (ct 0, 8, .inl f0)), (a6, .inl (ct 0, 8, .inl f0)), (a7, .inl (ct 0, 7, .inl f0)), (a3, .inr (2, [.int 0, .int 0, .int 0, .ref a8, .ref a9, .ref a10, .int 0, .int 0, .int 0, .int 0, .int 0, .ref a11, .int 0]))] True (fun u => [(a6, .inl (ct 0, 8, .inl (va_cpy (fun _ => (-1)) f0 0 0 8))), (a5, .inl (ct 0, 8, .inl (va_cpy (fun _ => (-1)) f0 0 0 8))), (a0, .inr (6, [.int 0, .ref a2, .ref a3, .ref a4, .ref a5, .ref a6, .ref a7, .int 0])), (a2, .inl (ct 0, 7, .inl (va_cpy f0 f0 0 0 7))), (a7, .inl (ct 0, 7, .inl f0)), (a3, .inr (2, [.int 0, .int 0, .int 0, .ref a8, .ref a9, .ref a10, .int 0, .int 0, .int 0, .int 0, .int 0, .ref a11, .int 0]))]) := by
  refine CV.of (by decide +kernel) (Nat.le_of_ble_eq_true rfl) ?_
  intro p e s m below meth c A ls hE
  obtain ⟨X, hr, hlk, hnm, hw, hl⟩ := hE
  have X : CX p m c cX6_search 3 s [.ref a0, .ref a1].toArray RX6 D ct := X
  have hl : lv_has ls 3 [(0, .ref a0), (1, .ref a1)] := hl
  obtain ⟨⟨hx, hb, hml, hown, hts⟩, hK⟩ := id X
  refine lv_aload_n hx hb dX6_search_0 rfl (lv_at hl 0 rfl) ?_
  refine fg_428 X hw 0 rfl rfl dX6_search_1 ?_
  refine lv_aload_n hx hb dX6_search_4 rfl (lv_at hl 0 rfl) ?_
  refine fg_423 X hw 0 rfl rfl dX6_search_5 ?_
  refine fg_256 X hw 5 rfl rfl dX6_search_8 ?_
  refine lv_icmp_ne (tgt := 15) hx hb dX6_search_11 (by decide) (fun _ => ?_) (fun h => absurd h (by decide))
  refine lv_aload_n hx hb dX6_search_15 rfl (lv_at hl 0 rfl) ?_
  refine fg_426 X hw 0 rfl rfl dX6_search_16 ?_
  refine lv_iconst (v := (-1)) hx hb dX6_search_19 (by decide) ?_
  refine m_Sv (As := [.ref a6, .int (-1)]) (rest := []) (c151_J7_fill_53178 l D ct a6 f0) X hl.1 kw_1246 kd_yJ7_fill_53178 hw [3] [0, 1, 2, 4, 5] rfl rfl rfl rfl (by decide) ⟨by decide, by decide⟩ rfl rfl (Nat.le_of_ble_eq_true rfl) dX6_search_20 ⟨by decide, by decide⟩ (fun u2 H locs hr3 hw => ?_)
  replace hw : WD D A s.heap _ _ [(a0, .inr (6, [.int (-1), .ref a2, .ref a3, .ref a4, .ref a5, .ref a6, .ref a7, .int (-1)])), (a2, .inl (ct 0, 7, .inl f0)), (a5, .inl (ct 0, 8, .inl f0)), (a7, .inl (ct 0, 7, .inl f0)), (a3, .inr (2, [.int 0, .int 0, .int 0, .ref a8, .ref a9, .ref a10, .int 0, .int 0, .int 0, .int 0, .int 0, .ref a11, .int 0])), (a6, .inl (ct 0, 8, .inl (va_cpy (fun _ => (-1)) f0 0 0 8)))] := hw
  refine lv_aload_n hx hb dX6_search_23 rfl (lv_at hl 0 rfl) ?_
  refine fg_425 X hw 0 rfl rfl dX6_search_24 ?_
  refine lv_iconst (v := (-1)) hx hb dX6_search_27 (by decide) ?_
  refine m_Sv (As := [.ref a5, .int (-1)]) (rest := []) (c151_J7_fill_53178 l D ct a5 f0) X hl.1 kw_1246 kd_yJ7_fill_53178 hw [2] [0, 1, 3, 4, 5] rfl rfl rfl rfl (by decide) ⟨by decide, by decide⟩ rfl rfl (Nat.le_of_ble_eq_true rfl) dX6_search_28 ⟨by decide, by decide⟩ (fun u5 H locs hr6 hw => ?_)
  replace hw : WD D A s.heap _ _ [(a0, .inr (6, [.int (-1), .ref a2, .ref a3, .ref a4, .ref a5, .ref a6, .ref a7, .int (-1)])), (a2, .inl (ct 0, 7, .inl f0)), (a7, .inl (ct 0, 7, .inl f0)), (a3, .inr (2, [.int 0, .int 0, .int 0, .ref a8, .ref a9, .ref a10, .int 0, .int 0, .int 0, .int 0, .int 0, .ref a11, .int 0])), (a6, .inl (ct 0, 8, .inl (va_cpy (fun _ => (-1)) f0 0 0 8))), (a5, .inl (ct 0, 8, .inl (va_cpy (fun _ => (-1)) f0 0 0 8)))] := hw
  refine lv_iconst (v := 0) hx hb dX6_search_31 (by decide) ?_
  refine lv_istore_n (lv' := [(2, .int 0), (0, .ref a0), (1, .ref a1)]) hx hb dX6_search_32 rfl hl (by decide) rfl (fun ls hl => ?_)
  refine lv_iload_n hx hb dX6_search_33 rfl (lv_at hl 0 rfl) ?_
  refine lv_aload_n hx hb dX6_search_34 rfl (lv_at hl 1 rfl) ?_
  refine fg_423 X hw 0 rfl rfl dX6_search_35 ?_
  refine fg_212 X hw 3 rfl rfl dX6_search_38 ?_
  refine lv_icmp_ge (tgt := 86) hx hb dX6_search_41 (by decide) (fun _ => ?_) (fun h => absurd (by decide) h)
  refine lv_aload_n hx hb dX6_search_86 rfl (lv_at hl 1 rfl) ?_
  refine lv_ldc hx hb hown (hts _ wd_1248) dX6_search_87 ?_
  refine fp_419 X hw 0 rfl rfl rfl (Nat.le_of_ble_eq_true rfl) dX6_search_89 [(a0, .inr (6, [.int 1000000, .ref a2, .ref a3, .ref a4, .ref a5, .ref a6, .ref a7, .int (-1)])), (a2, .inl (ct 0, 7, .inl f0)), (a7, .inl (ct 0, 7, .inl f0)), (a3, .inr (2, [.int 0, .int 0, .int 0, .ref a8, .ref a9, .ref a10, .int 0, .int 0, .int 0, .int 0, .int 0, .ref a11, .int 0])), (a6, .inl (ct 0, 8, .inl (va_cpy (fun _ => (-1)) f0 0 0 8))), (a5, .inl (ct 0, 8, .inl (va_cpy (fun _ => (-1)) f0 0 0 8)))] rfl (fun H locs hw => ?_)
  refine lv_aload_n hx hb dX6_search_92 rfl (lv_at hl 1 rfl) ?_
  refine lv_aload_n hx hb dX6_search_93 rfl (lv_at hl 2 rfl) ?_
  refine lv_iconst (v := 0) hx hb dX6_search_94 (by decide) ?_
  refine lv_iconst (v := 0) hx hb dX6_search_95 (by decide) ?_
  refine lv_iconst (v := 0) hx hb dX6_search_96 (by decide) ?_
  refine m_Vv (As := [.ref a1, .int 0, .int 0, .int 0]) (rest := []) (c152_X6_seek l D ct a0 a1 a2 a3 a4 a5 a6 a7 f0 a8 a9 a10 a11) X hl.1 kw_1249 kd_yX6_seek hw [0, 1, 2, 3] [4, 5] rfl rfl rfl rfl (by decide) 0 rfl rfl ⟨by decide, by decide⟩ rfl rfl (Nat.le_of_ble_eq_true rfl) dX6_search_97 ⟨by decide, by decide⟩ (fun u8 H locs hr9 hw => ?_)
  replace hw : WD D A s.heap _ _ [(a6, .inl (ct 0, 8, .inl (va_cpy (fun _ => (-1)) f0 0 0 8))), (a5, .inl (ct 0, 8, .inl (va_cpy (fun _ => (-1)) f0 0 0 8))), (a0, .inr (6, [.int 0, .ref a2, .ref a3, .ref a4, .ref a5, .ref a6, .ref a7, .int (-1)])), (a2, .inl (ct 0, 7, .inl (va_cpy f0 f0 0 0 7))), (a7, .inl (ct 0, 7, .inl f0)), (a3, .inr (2, [.int 0, .int 0, .int 0, .ref a8, .ref a9, .ref a10, .int 0, .int 0, .int 0, .int 0, .int 0, .ref a11, .int 0]))] := hw
  refine lv_aload_n hx hb dX6_search_100 rfl (lv_at hl 1 rfl) ?_
  refine lv_aload_n hx hb dX6_search_101 rfl (lv_at hl 1 rfl) ?_
  refine fg_423 X hw 2 rfl rfl dX6_search_102 ?_
  refine fg_256 X hw 5 rfl rfl dX6_search_105 ?_
  refine fp_428 X hw 2 rfl rfl rfl (Nat.le_of_ble_eq_true rfl) dX6_search_108 [(a6, .inl (ct 0, 8, .inl (va_cpy (fun _ => (-1)) f0 0 0 8))), (a5, .inl (ct 0, 8, .inl (va_cpy (fun _ => (-1)) f0 0 0 8))), (a0, .inr (6, [.int 0, .ref a2, .ref a3, .ref a4, .ref a5, .ref a6, .ref a7, .int 0])), (a2, .inl (ct 0, 7, .inl (va_cpy f0 f0 0 0 7))), (a7, .inl (ct 0, 7, .inl f0)), (a3, .inr (2, [.int 0, .int 0, .int 0, .ref a8, .ref a9, .ref a10, .int 0, .int 0, .int 0, .int 0, .int 0, .ref a11, .int 0]))] rfl (fun H locs hw => ?_)
  exact r_v X hr hlk hw [0, 1, 2, 3, 4, 5] (fun _ => 0) rfl rfl trivial (by decide) (by decide) dX6_search_111
def fx13 : Nat → Int32 := (va_cpy (va_cpy (fun _ => 0) (fun _ => 0) 0 0 7) (fun _ => 0) 0 0 7)
set_option maxHeartbeats 4000000 in
set_option maxRecDepth 100000 in
theorem c154_X11_stillest (l : Launch) (D : va_G) (ct : Nat → ClassId) (a0 : Nat) (p0 : Int32) (a1 : Nat) (a2 : Nat) (a3 : Nat) (a4 : Nat) (a5 : Nat) (a6 : Nat) (a7 : Nat) (a8 : Nat) (a9 : Nat) (a10 : Nat) (a11 : Nat) (a12 : Nat) (a13 : Nat) (a14 : Nat) (a15 : Nat) (a16 : Nat) (a17 : Nat) (a18 : Nat) (a19 : Nat) (a20 : Nat) (a21 : Nat) (a22 : Nat) (a23 : Nat) (f0 : Nat → Int32) (a24 : Nat) (a25 : Nat) (a26 : Nat) (a27 : Nat) (a28 : Nat) (a29 : Nat) (a30 : Nat) (a31 : Nat) (a32 : Nat) (a33 : Nat) : CI l yX11_stillest cX11_stillest 2 (some .int) { frames := 4, cells := 0, slots := 0, locals := 107 } D ct [.ref a0, .int p0] [(a0, .inr (11, [.ref a1, .int 0, .ref a2, .ref a3, .ref a4, .ref a5, .ref a6, .ref a7, .ref a8, .ref a9, .ref a10, .ref a11, .ref a12, .ref a13, .ref a14, .ref a15, .int (-1), .int (-1)])), (a2, .inr (2, [.int 0, .int 0, .int 0, .ref a16, .ref a17, .ref a18, .int 0, .int 0, .int 0, .int 0, .int 0, .ref a19, .int 0])), (a4, .inr (9, [.ref a20, .ref a21, .ref a2, .ref a22, .ref a23, .int (-1)])), (a20, .inl (ct 0, 7, .inl f0)), (a5, .inr (5, [.ref a24, .ref a25, .ref a26, .ref a27, .ref a28, .int 0, .int 0])), (a25, .inl (ct 0, 256, .inl (fun _ => 0))), (a28, .inl (ct 0, 7, .inl f0)), (a7, .inr (6, [.int (-1), .ref a29, .ref a2, .ref a30, .ref a31, .ref a32, .ref a33, .int (-1)])), (a29, .inl (ct 0, 7, .inl f0)), (a31, .inl (ct 0, 8, .inl f0)), (a32, .inl (ct 0, 8, .inl f0)), (a33, .inl (ct 0, 7, .inl f0)), (a15, .inl (ct 0, 7, .inl f0))] (fun r => (((p0.toInt = 0 ∧ p0.toInt = 0) ∨ (p0.toInt ≠ 0 ∧ p0.toInt ≥ 10 ∧ p0.toInt < 17)) ∧ p0.toInt ≠ 0) ∧ r = (-1) ∨ (((p0.toInt = 0 ∧ p0.toInt = 0) ∨ (p0.toInt ≠ 0 ∧ p0.toInt ≥ 10 ∧ p0.toInt < 17)) ∧ p0.toInt = 0 ∧ p0.toInt = 0) ∧ r = 0 ∨ (((p0.toInt ≠ 0 ∧ p0.toInt < 10) ∨ (p0.toInt ≠ 0 ∧ p0.toInt ≥ 10 ∧ p0.toInt ≥ 17))) ∧ r = (-2)) (fun u => []) := by
  refine CI.of (by decide +kernel) (Nat.le_of_ble_eq_true rfl) ?_
  intro p e s m below meth c A ls hE
  obtain ⟨X, hr, hlk, hnm, hw, hl⟩ := hE
  have X : CX p m c cX11_stillest 2 s [.ref a0, .int p0].toArray RX11 D ct := X
  have hl : lv_has ls 2 [(0, .ref a0), (1, .int p0)] := hl
  obtain ⟨⟨hx, hb, hml, hown, hts⟩, hK⟩ := id X
  refine lv_iload_n hx hb dX11_stillest_0 rfl (lv_at hl 1 rfl) ?_
  refine m_Si (As := [.int p0]) (rest := []) (c134_X11_asksOfMap l D ct p0) X hl.1 kw_1205 kd_yX11_asksOfMap hw [] [0, 1, 2, 3, 4, 5, 6, 7, 8, 9, 10, 11, 12] rfl rfl rfl rfl (by decide) ⟨by decide, by decide⟩ rfl rfl (Nat.le_of_ble_eq_true rfl) dX11_stillest_1 ⟨by decide, by decide⟩ (fun r1 u2 H locs hr3 hw => ?_)
  replace hw : WD D A s.heap _ _ [(a0, .inr (11, [.ref a1, .int 0, .ref a2, .ref a3, .ref a4, .ref a5, .ref a6, .ref a7, .ref a8, .ref a9, .ref a10, .ref a11, .ref a12, .ref a13, .ref a14, .ref a15, .int (-1), .int (-1)])), (a2, .inr (2, [.int 0, .int 0, .int 0, .ref a16, .ref a17, .ref a18, .int 0, .int 0, .int 0, .int 0, .int 0, .ref a19, .int 0])), (a4, .inr (9, [.ref a20, .ref a21, .ref a2, .ref a22, .ref a23, .int (-1)])), (a20, .inl (ct 0, 7, .inl f0)), (a5, .inr (5, [.ref a24, .ref a25, .ref a26, .ref a27, .ref a28, .int 0, .int 0])), (a25, .inl (ct 0, 256, .inl (fun _ => 0))), (a28, .inl (ct 0, 7, .inl f0)), (a7, .inr (6, [.int (-1), .ref a29, .ref a2, .ref a30, .ref a31, .ref a32, .ref a33, .int (-1)])), (a29, .inl (ct 0, 7, .inl f0)), (a31, .inl (ct 0, 8, .inl f0)), (a32, .inl (ct 0, 8, .inl f0)), (a33, .inl (ct 0, 7, .inl f0)), (a15, .inl (ct 0, 7, .inl f0))] := hw
  rcases hr3 with ⟨h4, rfl⟩ | ⟨h5, rfl⟩
  · skip
    refine lv_if_ne (tgt := 10) hx hb dX11_stillest_4 (by decide) (fun _ => ?_) (fun h => absurd h (by decide))
    refine lv_aload_n hx hb dX11_stillest_10 rfl (lv_at hl 0 rfl) ?_
    refine m_Vi (As := []) (rest := []) (c114_X11_tallyAll l D ct a0 a1 a2 a3 a4 a5 a6 a7 a8 a9 a10 a11 a12 a13 a14 a15 a16 a17 a18 a19 a20 a21 a22 a23 f0 a24 a25 a26 a27 a28) X hl.1 kw_1140 kd_yX11_tallyAll hw [0, 1, 2, 3, 4, 5, 6] [7, 8, 9, 10, 11, 12] rfl rfl rfl rfl (by decide) 0 rfl rfl ⟨by decide, by decide⟩ rfl rfl (Nat.le_of_ble_eq_true rfl) dX11_stillest_11 ⟨by decide, by decide⟩ (fun r6 u7 H locs hr8 hw => ?_)
    replace hw : WD D A s.heap _ _ [(a7, .inr (6, [.int (-1), .ref a29, .ref a2, .ref a30, .ref a31, .ref a32, .ref a33, .int (-1)])), (a29, .inl (ct 0, 7, .inl f0)), (a31, .inl (ct 0, 8, .inl f0)), (a32, .inl (ct 0, 8, .inl f0)), (a33, .inl (ct 0, 7, .inl f0)), (a15, .inl (ct 0, 7, .inl f0)), (a0, .inr (11, [.ref a1, .int 0, .ref a2, .ref a3, .ref a4, .ref a5, .ref a6, .ref a7, .ref a8, .ref a9, .ref a10, .ref a11, .ref a12, .ref a13, .ref a14, .ref a15, .int (-1), .int (-1)])), (a2, .inr (2, [.int 0, .int 0, .int 0, .ref a16, .ref a17, .ref a18, .int 0, .int 0, .int 0, .int 0, .int 0, .ref a19, .int 0])), (a4, .inr (9, [.ref a20, .ref a21, .ref a2, .ref a22, .ref a23, .int 0])), (a20, .inl (ct 0, 7, .inl f0)), (a25, .inl (ct 0, 256, .inl (upd (fun _ => 0) 0 1))), (a28, .inl (ct 0, 7, .inl (va_cpy f0 f0 0 0 0))), (a5, .inr (5, [.ref a24, .ref a25, .ref a26, .ref a27, .ref a28, .int 0, .int 0]))] := hw
    subst hr8
    refine lv_if_ne (tgt := 19) hx hb dX11_stillest_14 (by decide) (fun _ => ?_) (fun h => absurd h (by decide))
    refine lv_aload_n hx hb dX11_stillest_19 rfl (lv_at hl 0 rfl) ?_
    refine fg_572 X hw 6 rfl rfl dX11_stillest_20 ?_
    refine lv_aload_n hx hb dX11_stillest_23 rfl (lv_at hl 0 rfl) ?_
    refine fg_570 X hw 6 rfl rfl dX11_stillest_24 ?_
    refine m_Vv (As := [.ref a5]) (rest := []) (c153_X6_search l D ct a7 a5 a29 a2 a30 a31 a32 a33 f0 a16 a17 a18 a19) X hl.1 kw_1242 kd_yX6_search hw [0, 1, 2, 3, 4, 7] [5, 6, 8, 9, 10, 11, 12] rfl rfl rfl rfl (by decide) 0 rfl rfl ⟨by decide, by decide⟩ rfl rfl (Nat.le_of_ble_eq_true rfl) dX11_stillest_27 ⟨by decide, by decide⟩ (fun u10 H locs hr11 hw => ?_)
    replace hw : WD D A s.heap _ _ [(a15, .inl (ct 0, 7, .inl f0)), (a0, .inr (11, [.ref a1, .int 0, .ref a2, .ref a3, .ref a4, .ref a5, .ref a6, .ref a7, .ref a8, .ref a9, .ref a10, .ref a11, .ref a12, .ref a13, .ref a14, .ref a15, .int (-1), .int (-1)])), (a4, .inr (9, [.ref a20, .ref a21, .ref a2, .ref a22, .ref a23, .int 0])), (a20, .inl (ct 0, 7, .inl f0)), (a25, .inl (ct 0, 256, .inl (upd (fun _ => 0) 0 1))), (a28, .inl (ct 0, 7, .inl (va_cpy f0 f0 0 0 0))), (a5, .inr (5, [.ref a24, .ref a25, .ref a26, .ref a27, .ref a28, .int 0, .int 0])), (a32, .inl (ct 0, 8, .inl (va_cpy (fun _ => (-1)) f0 0 0 8))), (a31, .inl (ct 0, 8, .inl (va_cpy (fun _ => (-1)) f0 0 0 8))), (a7, .inr (6, [.int 0, .ref a29, .ref a2, .ref a30, .ref a31, .ref a32, .ref a33, .int 0])), (a29, .inl (ct 0, 7, .inl (va_cpy f0 f0 0 0 7))), (a33, .inl (ct 0, 7, .inl f0)), (a2, .inr (2, [.int 0, .int 0, .int 0, .ref a16, .ref a17, .ref a18, .int 0, .int 0, .int 0, .int 0, .int 0, .ref a19, .int 0]))] := hw
    refine lv_iload_n hx hb dX11_stillest_30 rfl (lv_at hl 1 rfl) ?_
    refine lv_if_ne (tgt := 42) hx hb dX11_stillest_31 (by decide) (fun h12 => ?_) (fun h12 => ?_)
    · have h12 : p0.toInt ≠ 0 := by have q := ci_neq (a := p0.toInt) (b := 0) rfl (by decide) h12; omega
      refine lv_aload_n hx hb dX11_stillest_42 rfl (lv_at hl 0 rfl) ?_
      refine fg_572 X hw 1 rfl rfl dX11_stillest_43 ?_
      refine fg_422 X hw 9 rfl rfl dX11_stillest_46 ?_
      refine lv_iconst (v := 0) hx hb dX11_stillest_49 (by decide) ?_
      refine lv_aload_n hx hb dX11_stillest_50 rfl (lv_at hl 0 rfl) ?_
      refine fg_580 X hw 1 rfl rfl dX11_stillest_51 ?_
      refine lv_iconst (v := 0) hx hb dX11_stillest_54 (by decide) ?_
      refine lv_bipush (v := 7) hx hb dX11_stillest_55 (by decide) ?_
      refine k_copyi X hl.1 wd_1158 wd_863 wd_862 wd_149 hw 10 0 rfl rfl (by decide) (by decide) (by decide) (by decide) (by decide) (by decide) (Nat.le_of_ble_eq_true rfl) dX11_stillest_57 [(a15, .inl (ct 0, 7, .inl (va_cpy (va_cpy f0 f0 0 0 7) f0 0 0 7))), (a0, .inr (11, [.ref a1, .int 0, .ref a2, .ref a3, .ref a4, .ref a5, .ref a6, .ref a7, .ref a8, .ref a9, .ref a10, .ref a11, .ref a12, .ref a13, .ref a14, .ref a15, .int (-1), .int (-1)])), (a4, .inr (9, [.ref a20, .ref a21, .ref a2, .ref a22, .ref a23, .int 0])), (a20, .inl (ct 0, 7, .inl f0)), (a25, .inl (ct 0, 256, .inl (upd (fun _ => 0) 0 1))), (a28, .inl (ct 0, 7, .inl (va_cpy f0 f0 0 0 0))), (a5, .inr (5, [.ref a24, .ref a25, .ref a26, .ref a27, .ref a28, .int 0, .int 0])), (a32, .inl (ct 0, 8, .inl (va_cpy (fun _ => (-1)) f0 0 0 8))), (a31, .inl (ct 0, 8, .inl (va_cpy (fun _ => (-1)) f0 0 0 8))), (a7, .inr (6, [.int 0, .ref a29, .ref a2, .ref a30, .ref a31, .ref a32, .ref a33, .int 0])), (a29, .inl (ct 0, 7, .inl (va_cpy f0 f0 0 0 7))), (a33, .inl (ct 0, 7, .inl f0)), (a2, .inr (2, [.int 0, .int 0, .int 0, .ref a16, .ref a17, .ref a18, .int 0, .int 0, .int 0, .int 0, .int 0, .ref a19, .int 0]))] rfl (fun H locs hw => ?_)
      refine lv_aload_n hx hb dX11_stillest_60 rfl (lv_at hl 0 rfl) ?_
      refine lv_iload_n hx hb dX11_stillest_61 rfl (lv_at hl 1 rfl) ?_
      refine m_Vi (As := [.int p0]) (rest := []) (c137_X11_pickedFlat l D ct a0 p0 a1 a2 a3 a4 a5 a6 a7 a8 a9 a10 a11 a12 a13 a14 a15 a16 a17 a18 a19) X hl.1 kw_1221 kd_yX11_pickedFlat hw [1, 12] [0, 2, 3, 4, 5, 6, 7, 8, 9, 10, 11] rfl rfl rfl rfl (by decide) 0 rfl rfl ⟨by decide, by decide⟩ rfl rfl (Nat.le_of_ble_eq_true rfl) dX11_stillest_62 ⟨by decide, by decide⟩ (fun r13 u14 H locs hr15 hw => ?_)
      replace hw : WD D A s.heap _ _ [(a15, .inl (ct 0, 7, .inl (va_cpy (va_cpy f0 f0 0 0 7) f0 0 0 7))), (a4, .inr (9, [.ref a20, .ref a21, .ref a2, .ref a22, .ref a23, .int 0])), (a20, .inl (ct 0, 7, .inl f0)), (a25, .inl (ct 0, 256, .inl (upd (fun _ => 0) 0 1))), (a28, .inl (ct 0, 7, .inl (va_cpy f0 f0 0 0 0))), (a5, .inr (5, [.ref a24, .ref a25, .ref a26, .ref a27, .ref a28, .int 0, .int 0])), (a32, .inl (ct 0, 8, .inl (va_cpy (fun _ => (-1)) f0 0 0 8))), (a31, .inl (ct 0, 8, .inl (va_cpy (fun _ => (-1)) f0 0 0 8))), (a7, .inr (6, [.int 0, .ref a29, .ref a2, .ref a30, .ref a31, .ref a32, .ref a33, .int 0])), (a29, .inl (ct 0, 7, .inl (va_cpy f0 f0 0 0 7))), (a33, .inl (ct 0, 7, .inl f0)), (a0, .inr (11, [.ref a1, .int 0, .ref a2, .ref a3, .ref a4, .ref a5, .ref a6, .ref a7, .ref a8, .ref a9, .ref a10, .ref a11, .ref a12, .ref a13, .ref a14, .ref a15, .int (-1), .int (-1)])), (a2, .inr (2, [.int 0, .int 0, .int 0, .ref a16, .ref a17, .ref a18, .int 0, .int 0, .int 0, .int 0, .int 0, .ref a19, .int 0]))] := hw
      subst hr15
      exact r_i X hr hlk hw [] (fun _ => 0) rfl rfl (Or.inl (⟨⟨h4, h12⟩, rfl⟩)) (by decide) (by decide) dX11_stillest_65
    · have h12 : p0.toInt = 0 := by have q := ci_eq (a := p0.toInt) (b := 0) rfl (by decide) h12; omega
      have e16 : p0.toInt = 0 := by omega
      obtain rfl : p0 = 0 := i32_of e16
      refine lv_aload_n hx hb dX11_stillest_34 rfl (lv_at hl 0 rfl) ?_
      refine fg_572 X hw 1 rfl rfl dX11_stillest_35 ?_
      refine fg_420 X hw 9 rfl rfl dX11_stillest_38 ?_
      exact r_i X hr hlk hw [] (fun _ => 0) rfl rfl (Or.inr (Or.inl (⟨⟨h4, h12, e16⟩, rfl⟩))) (by decide) (by decide) dX11_stillest_41
  · skip
    refine lv_if_ne (tgt := 10) hx hb dX11_stillest_4 (by decide) (fun h => absurd rfl h) (fun _ => ?_)
    refine lv_bipush (v := (-2)) hx hb dX11_stillest_7 (by decide) ?_
    exact r_i X hr hlk hw [] (fun _ => 0) rfl rfl (Or.inr (Or.inr (⟨h5, rfl⟩))) (by decide) (by decide) dX11_stillest_9
