set_option maxHeartbeats 4000000 in
set_option maxRecDepth 100000 in
theorem c155_X12_harmIn (l : Launch) (D : va_G) (ct : Nat → ClassId) (a0 : Nat) (a1 : Nat) (a2 : Nat) (a3 : Nat) (a4 : Nat) (a5 : Nat) (a6 : Nat) (a7 : Nat) (a8 : Nat) (a9 : Nat) (a10 : Nat) (a11 : Nat) (a12 : Nat) (a13 : Nat) (a14 : Nat) (a15 : Nat) (a16 : Nat) : CI l yX12_harmIn cX12_harmIn 5 (some .int) { frames := 0, cells := 0, slots := 0, locals := 0 } D ct [.ref a0, .int 0] [(a0, .inr (12, [.int 0, .ref a1, .ref a2, .ref a3, .ref a4, .int 0, .int 0, .int 0, .int 0, .int 0, .int 0, .int 0, .int 0, .int 0, .int (-1), .ref a5, .ref a6, .ref a7, .ref a8, .int 1, .ref a9, .ref a10, .int 0, .int 0, .int 0, .ref a11, .ref a12, .ref a13, .ref a14, .ref a15, .ref a16])), (a1, .inl (ct 0, 5310, .inl fx0))] (fun r => r = 0) (fun u => [(a0, .inr (12, [.int 0, .ref a1, .ref a2, .ref a3, .ref a4, .int 0, .int 0, .int 0, .int 0, .int 0, .int 0, .int 0, .int 0, .int 0, .int (-1), .ref a5, .ref a6, .ref a7, .ref a8, .int 1, .ref a9, .ref a10, .int 0, .int 0, .int 0, .ref a11, .ref a12, .ref a13, .ref a14, .ref a15, .ref a16])), (a1, .inl (ct 0, 5310, .inl fx0))]) := by
  refine CI.of (by decide +kernel) (Nat.le_of_ble_eq_true rfl) ?_
  intro p e s m below meth c A ls hE
  obtain ⟨X, hr, hlk, hnm, hw, hl⟩ := hE
  have X : CX p m c cX12_harmIn 5 s [.ref a0, .int 0].toArray RX12 D ct := X
  have hl : lv_has ls 5 [(0, .ref a0), (1, .int 0)] := hl
  obtain ⟨⟨hx, hb, hml, hown, hts⟩, hK⟩ := id X
  refine lv_iconst (v := 0) hx hb dX12_harmIn_0 (by decide) ?_
  refine lv_istore_n (lv' := [(2, .int 0), (0, .ref a0), (1, .int 0)]) hx hb dX12_harmIn_1 rfl hl (by decide) rfl (fun ls hl => ?_)
  refine lv_iconst (v := 0) hx hb dX12_harmIn_2 (by decide) ?_
  refine lv_istore_n (lv' := [(3, .int 0), (2, .int 0), (0, .ref a0), (1, .int 0)]) hx hb dX12_harmIn_3 rfl hl (by decide) rfl (fun ls hl => ?_)
  refine lv_iload_n hx hb dX12_harmIn_4 rfl (lv_at hl 0 rfl) ?_
  refine lv_aload_n hx hb dX12_harmIn_5 rfl (lv_at hl 2 rfl) ?_
  refine fg_1443 X hw 0 rfl rfl dX12_harmIn_6 ?_
  refine lv_iconst (v := 2) hx hb dX12_harmIn_9 (by decide) ?_
  refine j_iald (j := 2) (v := 0) X hw 1 rfl (by decide) (by decide) (by decide) rfl dX12_harmIn_10 ?_
  refine lv_icmp_ge (tgt := 56) hx hb dX12_harmIn_11 (by decide) (fun _ => ?_) (fun h => absurd (by decide) h)
  refine lv_iload_n hx hb dX12_harmIn_56 rfl (lv_at hl 1 rfl) ?_
  exact r_i X hr hlk hw [0, 1] (fun _ => 0) rfl rfl rfl (by decide) (by decide) dX12_harmIn_57
set_option maxHeartbeats 4000000 in
set_option maxRecDepth 100000 in
theorem c156_X12_valueIn (l : Launch) (D : va_G) (ct : Nat → ClassId) (a0 : Nat) (a1 : Nat) (a2 : Nat) (a3 : Nat) (a4 : Nat) (a5 : Nat) (a6 : Nat) (a7 : Nat) (a8 : Nat) (a9 : Nat) (a10 : Nat) (a11 : Nat) (a12 : Nat) (a13 : Nat) (a14 : Nat) (a15 : Nat) (a16 : Nat) : CI l yX12_valueIn cX12_valueIn 3 (some .int) { frames := 1, cells := 0, slots := 0, locals := 24 } D ct [.ref a0, .int 0, .int 2] [(a0, .inr (12, [.int 0, .ref a1, .ref a2, .ref a3, .ref a4, .int 0, .int 0, .int 0, .int 0, .int 0, .int 0, .int 0, .int 0, .int 0, .int (-1), .ref a5, .ref a6, .ref a7, .ref a8, .int 1, .ref a9, .ref a10, .int 0, .int 0, .int 0, .ref a11, .ref a12, .ref a13, .ref a14, .ref a15, .ref a16])), (a1, .inl (ct 0, 5310, .inl fx0))] (fun r => r = 0) (fun u => [(a0, .inr (12, [.int 0, .ref a1, .ref a2, .ref a3, .ref a4, .int 0, .int 0, .int 0, .int 0, .int 0, .int 0, .int 0, .int 0, .int 0, .int (-1), .ref a5, .ref a6, .ref a7, .ref a8, .int 1, .ref a9, .ref a10, .int 0, .int 0, .int 0, .ref a11, .ref a12, .ref a13, .ref a14, .ref a15, .ref a16])), (a1, .inl (ct 0, 5310, .inl fx0))]) := by
  refine CI.of (by decide +kernel) (Nat.le_of_ble_eq_true rfl) ?_
  intro p e s m below meth c A ls hE
  obtain ⟨X, hr, hlk, hnm, hw, hl⟩ := hE
  have X : CX p m c cX12_valueIn 3 s [.ref a0, .int 0, .int 2].toArray RX12 D ct := X
  have hl : lv_has ls 3 [(0, .ref a0), (1, .int 0), (2, .int 2)] := hl
  obtain ⟨⟨hx, hb, hml, hown, hts⟩, hK⟩ := id X
  refine lv_iload_n hx hb dX12_valueIn_0 rfl (lv_at hl 2 rfl) ?_
  refine lv_if_ne (tgt := 12) hx hb dX12_valueIn_1 (by decide) (fun _ => ?_) (fun h => absurd h (by decide))
  refine lv_iload_n hx hb dX12_valueIn_12 rfl (lv_at hl 2 rfl) ?_
  refine lv_iconst (v := 1) hx hb dX12_valueIn_13 (by decide) ?_
  refine lv_icmp_ne (tgt := 25) hx hb dX12_valueIn_14 (by decide) (fun _ => ?_) (fun h => absurd h (by decide))
  refine lv_aload_n hx hb dX12_valueIn_25 rfl (lv_at hl 0 rfl) ?_
  refine lv_iload_n hx hb dX12_valueIn_26 rfl (lv_at hl 1 rfl) ?_
  refine m_Vi (As := [.int 0]) (rest := []) (c155_X12_harmIn l D ct a0 a1 a2 a3 a4 a5 a6 a7 a8 a9 a10 a11 a12 a13 a14 a15 a16) X hl.1 kw_1925 kd_yX12_harmIn hw [0, 1] [] rfl rfl rfl rfl (by decide) 0 rfl rfl ⟨by decide, by decide⟩ rfl rfl (Nat.le_of_ble_eq_true rfl) dX12_valueIn_27 ⟨by decide, by decide⟩ (fun r1 u2 H locs hr3 hw => ?_)
  replace hw : WD D A s.heap _ _ [(a0, .inr (12, [.int 0, .ref a1, .ref a2, .ref a3, .ref a4, .int 0, .int 0, .int 0, .int 0, .int 0, .int 0, .int 0, .int 0, .int 0, .int (-1), .ref a5, .ref a6, .ref a7, .ref a8, .int 1, .ref a9, .ref a10, .int 0, .int 0, .int 0, .ref a11, .ref a12, .ref a13, .ref a14, .ref a15, .ref a16])), (a1, .inl (ct 0, 5310, .inl fx0))] := hw
  subst hr3
  refine kv_ineg (v := 0) hx hb (by decide) dX12_valueIn_30 ?_
  exact r_i X hr hlk hw [0, 1] (fun _ => 0) rfl rfl rfl (by decide) (by decide) dX12_valueIn_31
set_option maxHeartbeats 4000000 in
set_option maxRecDepth 100000 in
theorem c157_X12_bestMap (l : Launch) (D : va_G) (ct : Nat → ClassId) (a0 : Nat) (a1 : Nat) (a2 : Nat) (a3 : Nat) (a4 : Nat) (a5 : Nat) (a6 : Nat) (a7 : Nat) (a8 : Nat) (a9 : Nat) (a10 : Nat) (a11 : Nat) (a12 : Nat) (a13 : Nat) (a14 : Nat) (a15 : Nat) (a16 : Nat) : CI l yX12_bestMap cX12_bestMap 6 (some .int) { frames := 2, cells := 0, slots := 0, locals := 46 } D ct [.ref a0, .int 2] [(a0, .inr (12, [.int 0, .ref a1, .ref a2, .ref a3, .ref a4, .int 0, .int 0, .int 0, .int 0, .int 0, .int 0, .int 0, .int 0, .int 0, .int (-1), .ref a5, .ref a6, .ref a7, .ref a8, .int 0, .ref a9, .ref a10, .int 0, .int 0, .int 0, .ref a11, .ref a12, .ref a13, .ref a14, .ref a15, .ref a16])), (a8, .inl (ct 0, 40320, .inl (fun _ => 0))), (a1, .inl (ct 0, 5310, .inl fx0))] (fun r => r = 0) (fun u => [(a8, .inl (ct 0, 40320, .inl (upd (fun _ => 0) 0 0))), (a0, .inr (12, [.int 0, .ref a1, .ref a2, .ref a3, .ref a4, .int 0, .int 0, .int 0, .int 0, .int 0, .int 0, .int 0, .int 0, .int 0, .int (-1), .ref a5, .ref a6, .ref a7, .ref a8, .int 1, .ref a9, .ref a10, .int 0, .int 0, .int 0, .ref a11, .ref a12, .ref a13, .ref a14, .ref a15, .ref a16])), (a1, .inl (ct 0, 5310, .inl fx0))]) := by
  refine CI.of (by decide +kernel) (Nat.le_of_ble_eq_true rfl) ?_
  intro p e s m below meth c A ls hE
  obtain ⟨X, hr, hlk, hnm, hw, hl⟩ := hE
  have X : CX p m c cX12_bestMap 6 s [.ref a0, .int 2].toArray RX12 D ct := X
  have hl : lv_has ls 6 [(0, .ref a0), (1, .int 2)] := hl
  obtain ⟨⟨hx, hb, hml, hown, hts⟩, hK⟩ := id X
  refine lv_aload_n hx hb dX12_bestMap_0 rfl (lv_at hl 0 rfl) ?_
  refine lv_iconst (v := (-1)) hx hb dX12_bestMap_1 (by decide) ?_
  refine m_Vv (As := [.int (-1)]) (rest := []) (c71_X12_laysMaps l D ct a0 a1 a2 a3 a4 a5 a6 a7 a8 a9 a10 a11 a12 a13 a14 a15 a16 (fun _ => 0)) X hl.1 kw_1716 kd_yX12_laysMaps hw [0, 1, 2] [] rfl rfl rfl rfl (by decide) 0 rfl rfl ⟨by decide, by decide⟩ rfl rfl (Nat.le_of_ble_eq_true rfl) dX12_bestMap_2 ⟨by decide, by decide⟩ (fun u2 H locs hr3 hw => ?_)
  replace hw : WD D A s.heap _ _ [(a8, .inl (ct 0, 40320, .inl (upd (fun _ => 0) 0 0))), (a0, .inr (12, [.int 0, .ref a1, .ref a2, .ref a3, .ref a4, .int 0, .int 0, .int 0, .int 0, .int 0, .int 0, .int 0, .int 0, .int 0, .int (-1), .ref a5, .ref a6, .ref a7, .ref a8, .int 1, .ref a9, .ref a10, .int 0, .int 0, .int 0, .ref a11, .ref a12, .ref a13, .ref a14, .ref a15, .ref a16])), (a1, .inl (ct 0, 5310, .inl fx0))] := hw
  refine lv_iconst (v := (-1)) hx hb dX12_bestMap_5 (by decide) ?_
  refine lv_istore_n (lv' := [(2, .int (-1)), (0, .ref a0), (1, .int 2)]) hx hb dX12_bestMap_6 rfl hl (by decide) rfl (fun ls hl => ?_)
  refine lv_iconst (v := 0) hx hb dX12_bestMap_7 (by decide) ?_
  refine lv_istore_n (lv' := [(3, .int 0), (2, .int (-1)), (0, .ref a0), (1, .int 2)]) hx hb dX12_bestMap_8 rfl hl (by decide) rfl (fun ls hl => ?_)
  refine lv_iconst (v := 0) hx hb dX12_bestMap_9 (by decide) ?_
  refine lv_istore (lv' := [(4, .int 0), (3, .int 0), (2, .int (-1)), (0, .ref a0), (1, .int 2)]) hx hb dX12_bestMap_10 hl (by decide) rfl (fun ls hl => ?_)
  refine lv_iload hx hb dX12_bestMap_12 (lv_at hl 0 rfl) ?_
  refine lv_aload_n hx hb dX12_bestMap_14 rfl (lv_at hl 3 rfl) ?_
  refine fg_1461 X hw 1 rfl rfl dX12_bestMap_15 ?_
  refine lv_icmp_ge (tgt := 61) hx hb dX12_bestMap_18 (by decide) (fun h => absurd h (by decide)) (fun _ => ?_)
  refine lv_aload_n hx hb dX12_bestMap_21 rfl (lv_at hl 3 rfl) ?_
  refine lv_aload_n hx hb dX12_bestMap_22 rfl (lv_at hl 3 rfl) ?_
  refine fg_1460 X hw 1 rfl rfl dX12_bestMap_23 ?_
  refine lv_iload hx hb dX12_bestMap_26 (lv_at hl 0 rfl) ?_
  refine j_iald (j := 0) (v := 0) X hw 0 rfl (by decide) (by decide) (by decide) rfl dX12_bestMap_28 ?_
  refine lv_iload_n hx hb dX12_bestMap_29 rfl (lv_at hl 4 rfl) ?_
  refine m_Vi (As := [.int 0, .int 2]) (rest := []) (c156_X12_valueIn l D ct a0 a1 a2 a3 a4 a5 a6 a7 a8 a9 a10 a11 a12 a13 a14 a15 a16) X hl.1 kw_1912 kd_yX12_valueIn hw [1, 2] [0] rfl rfl rfl rfl (by decide) 0 rfl rfl ⟨by decide, by decide⟩ rfl rfl (Nat.le_of_ble_eq_true rfl) dX12_bestMap_30 ⟨by decide, by decide⟩ (fun r4 u5 H locs hr6 hw => ?_)
  replace hw : WD D A s.heap _ _ [(a8, .inl (ct 0, 40320, .inl (upd (fun _ => 0) 0 0))), (a0, .inr (12, [.int 0, .ref a1, .ref a2, .ref a3, .ref a4, .int 0, .int 0, .int 0, .int 0, .int 0, .int 0, .int 0, .int 0, .int 0, .int (-1), .ref a5, .ref a6, .ref a7, .ref a8, .int 1, .ref a9, .ref a10, .int 0, .int 0, .int 0, .ref a11, .ref a12, .ref a13, .ref a14, .ref a15, .ref a16])), (a1, .inl (ct 0, 5310, .inl fx0))] := hw
  subst hr6
  refine lv_istore (lv' := [(5, .int 0), (4, .int 0), (3, .int 0), (2, .int (-1)), (0, .ref a0), (1, .int 2)]) hx hb dX12_bestMap_33 hl (by decide) rfl (fun ls hl => ?_)
  refine lv_iload_n hx hb dX12_bestMap_35 rfl (lv_at hl 3 rfl) ?_
  refine lv_iconst (v := (-1)) hx hb dX12_bestMap_36 (by decide) ?_
  refine lv_icmp_eq (tgt := 49) hx hb dX12_bestMap_37 (by decide) (fun _ => ?_) (fun h => absurd (by decide) h)
  refine lv_iload hx hb dX12_bestMap_49 (lv_at hl 1 rfl) ?_
  refine lv_istore_n (lv' := [(2, .int 0), (5, .int 0), (4, .int 0), (3, .int 0), (0, .ref a0), (1, .int 2)]) hx hb dX12_bestMap_51 rfl hl (by decide) rfl (fun ls hl => ?_)
  refine lv_iload hx hb dX12_bestMap_52 (lv_at hl 1 rfl) ?_
  refine lv_istore_n (lv' := [(3, .int 0), (2, .int 0), (5, .int 0), (4, .int 0), (0, .ref a0), (1, .int 2)]) hx hb dX12_bestMap_54 rfl hl (by decide) rfl (fun ls hl => ?_)
  refine lv_iinc (v := 1) (lv' := [(4, .int 1), (3, .int 0), (2, .int 0), (5, .int 0), (0, .ref a0), (1, .int 2)]) hx hb dX12_bestMap_55 hl (k := 3) rfl (by decide) (by decide) rfl (fun ls hl => ?_)
  refine lv_goto (tgt := 12) hx hb dX12_bestMap_58 (by decide) ?_
  refine lv_iload hx hb dX12_bestMap_12 (lv_at hl 0 rfl) ?_
  refine lv_aload_n hx hb dX12_bestMap_14 rfl (lv_at hl 4 rfl) ?_
  refine fg_1461 X hw 1 rfl rfl dX12_bestMap_15 ?_
  refine lv_icmp_ge (tgt := 61) hx hb dX12_bestMap_18 (by decide) (fun _ => ?_) (fun h => absurd (by decide) h)
  refine lv_iload_n hx hb dX12_bestMap_61 rfl (lv_at hl 2 rfl) ?_
  exact r_i X hr hlk hw [0, 1, 2] (fun _ => 0) rfl rfl rfl (by decide) (by decide) dX12_bestMap_62
set_option maxHeartbeats 4000000 in
set_option maxRecDepth 100000 in
theorem c158_X12_asked (l : Launch) (D : va_G) (ct : Nat → ClassId) (a0 : Nat) (p0 : Int32) (a1 : Nat) (a2 : Nat) (a3 : Nat) (a4 : Nat) (a5 : Nat) (a6 : Nat) (a7 : Nat) (a8 : Nat) (a9 : Nat) (a10 : Nat) (a11 : Nat) (a12 : Nat) (a13 : Nat) (a14 : Nat) (a15 : Nat) (a16 : Nat) : CI l yX12_asked cX12_asked 5 (some .int) { frames := 3, cells := 0, slots := 0, locals := 71 } D ct [.ref a0, .int 2, .int p0, .int (-1)] [(a0, .inr (12, [.int 0, .ref a1, .ref a2, .ref a3, .ref a4, .int 0, .int 0, .int 0, .int 0, .int 0, .int 0, .int 0, .int 0, .int 0, .int (-1), .ref a5, .ref a6, .ref a7, .ref a8, .int 0, .ref a9, .ref a10, .int 0, .int 0, .int 0, .ref a11, .ref a12, .ref a13, .ref a14, .ref a15, .ref a16])), (a8, .inl (ct 0, 40320, .inl (fun _ => 0))), (a1, .inl (ct 0, 5310, .inl fx0))] (fun r => (p0.toInt = 0 ∧ p0.toInt = 0) ∧ r = 0 ∨ (p0.toInt ≠ 0 ∧ ((p0.toInt < 10) ∨ (p0.toInt ≥ 10 ∧ p0.toInt > 16))) ∧ r = (-2) ∨ ((p0.toInt ≠ 0 ∧ p0.toInt ≥ 10 ∧ p0.toInt ≤ 16 ∧ p0.toInt = 10) ∨ (p0.toInt ≠ 0 ∧ p0.toInt ≥ 10 ∧ p0.toInt ≤ 16 ∧ p0.toInt = 11) ∨ (p0.toInt ≠ 0 ∧ p0.toInt ≥ 10 ∧ p0.toInt ≤ 16 ∧ p0.toInt = 12) ∨ (p0.toInt ≠ 0 ∧ p0.toInt ≥ 10 ∧ p0.toInt ≤ 16 ∧ p0.toInt = 13) ∨ (p0.toInt ≠ 0 ∧ p0.toInt ≥ 10 ∧ p0.toInt ≤ 16 ∧ p0.toInt = 14) ∨ (p0.toInt ≠ 0 ∧ p0.toInt ≥ 10 ∧ p0.toInt ≤ 16 ∧ p0.toInt = 15) ∨ (p0.toInt ≠ 0 ∧ p0.toInt ≥ 10 ∧ p0.toInt ≤ 16 ∧ p0.toInt = 16)) ∧ r = (-1)) (fun u => []) := by
  refine CI.of (by decide +kernel) (Nat.le_of_ble_eq_true rfl) ?_
  intro p e s m below meth c A ls hE
  obtain ⟨X, hr, hlk, hnm, hw, hl⟩ := hE
  have X : CX p m c cX12_asked 5 s [.ref a0, .int 2, .int p0, .int (-1)].toArray RX12 D ct := X
  have hl : lv_has ls 5 [(0, .ref a0), (1, .int 2), (2, .int p0), (3, .int (-1))] := hl
  obtain ⟨⟨hx, hb, hml, hown, hts⟩, hK⟩ := id X
  refine lv_iload_n hx hb dX12_asked_0 rfl (lv_at hl 2 rfl) ?_
  refine lv_if_eq (tgt := 21) hx hb dX12_asked_1 (by decide) (fun h1 => ?_) (fun h1 => ?_)
  · have h1 : p0.toInt = 0 := by have q := ci_eq (a := p0.toInt) (b := 0) rfl (by decide) h1; omega
    have e2 : p0.toInt = 0 := by omega
    obtain rfl : p0 = 0 := i32_of e2
    refine lv_aload_n hx hb dX12_asked_21 rfl (lv_at hl 0 rfl) ?_
    refine lv_iload_n hx hb dX12_asked_22 rfl (lv_at hl 1 rfl) ?_
    refine m_Vi (As := [.int 2]) (rest := []) (c157_X12_bestMap l D ct a0 a1 a2 a3 a4 a5 a6 a7 a8 a9 a10 a11 a12 a13 a14 a15 a16) X hl.1 kw_1908 kd_yX12_bestMap hw [0, 1, 2] [] rfl rfl rfl rfl (by decide) 0 rfl rfl ⟨by decide, by decide⟩ rfl rfl (Nat.le_of_ble_eq_true rfl) dX12_asked_23 ⟨by decide, by decide⟩ (fun r3 u4 H locs hr5 hw => ?_)
    replace hw : WD D A s.heap _ _ [(a8, .inl (ct 0, 40320, .inl (upd (fun _ => 0) 0 0))), (a0, .inr (12, [.int 0, .ref a1, .ref a2, .ref a3, .ref a4, .int 0, .int 0, .int 0, .int 0, .int 0, .int 0, .int 0, .int 0, .int 0, .int (-1), .ref a5, .ref a6, .ref a7, .ref a8, .int 1, .ref a9, .ref a10, .int 0, .int 0, .int 0, .ref a11, .ref a12, .ref a13, .ref a14, .ref a15, .ref a16])), (a1, .inl (ct 0, 5310, .inl fx0))] := hw
    subst hr5
    refine lv_istore (lv' := [(4, .int 0), (0, .ref a0), (1, .int 2), (2, .int 0), (3, .int (-1))]) hx hb dX12_asked_26 hl (by decide) rfl (fun ls hl => ?_)
    refine lv_iload hx hb dX12_asked_28 (lv_at hl 0 rfl) ?_
    refine lv_iconst (v := (-1)) hx hb dX12_asked_30 (by decide) ?_
    refine lv_icmp_ne (tgt := 44) hx hb dX12_asked_31 (by decide) (fun _ => ?_) (fun h => absurd h (by decide))
    refine lv_iload_n hx hb dX12_asked_44 rfl (lv_at hl 3 rfl) ?_
    refine lv_if_le (tgt := 80) hx hb dX12_asked_45 (by decide) (fun _ => ?_) (fun h => absurd (by decide) h)
    refine lv_iload_n hx hb dX12_asked_80 rfl (lv_at hl 2 rfl) ?_
    refine lv_iconst (v := 2) hx hb dX12_asked_81 (by decide) ?_
    refine lv_icmp_ne (tgt := 99) hx hb dX12_asked_82 (by decide) (fun h => absurd rfl h) (fun _ => ?_)
    refine lv_aload_n hx hb dX12_asked_85 rfl (lv_at hl 1 rfl) ?_
    refine lv_aload_n hx hb dX12_asked_86 rfl (lv_at hl 1 rfl) ?_
    refine fg_1460 X hw 1 rfl rfl dX12_asked_87 ?_
    refine lv_iload hx hb dX12_asked_90 (lv_at hl 0 rfl) ?_
    refine j_iald (j := 0) (v := 0) X hw 0 rfl (by decide) (by decide) (by decide) rfl dX12_asked_92 ?_
    refine m_Vi (As := [.int 0]) (rest := []) (c155_X12_harmIn l D ct a0 a1 a2 a3 a4 a5 a6 a7 a8 a9 a10 a11 a12 a13 a14 a15 a16) X hl.1 kw_1925 kd_yX12_harmIn hw [1, 2] [0] rfl rfl rfl rfl (by decide) 0 rfl rfl ⟨by decide, by decide⟩ rfl rfl (Nat.le_of_ble_eq_true rfl) dX12_asked_93 ⟨by decide, by decide⟩ (fun r6 u7 H locs hr8 hw => ?_)
    replace hw : WD D A s.heap _ _ [(a8, .inl (ct 0, 40320, .inl (upd (fun _ => 0) 0 0))), (a0, .inr (12, [.int 0, .ref a1, .ref a2, .ref a3, .ref a4, .int 0, .int 0, .int 0, .int 0, .int 0, .int 0, .int 0, .int 0, .int 0, .int (-1), .ref a5, .ref a6, .ref a7, .ref a8, .int 1, .ref a9, .ref a10, .int 0, .int 0, .int 0, .ref a11, .ref a12, .ref a13, .ref a14, .ref a15, .ref a16])), (a1, .inl (ct 0, 5310, .inl fx0))] := hw
    subst hr8
    refine lv_goto (tgt := 111) hx hb dX12_asked_96 (by decide) ?_
    exact r_i X hr hlk hw [] (fun _ => 0) rfl rfl (Or.inl (⟨⟨h1, e2⟩, rfl⟩)) (by decide) (by decide) dX12_asked_111
  · have h1 : p0.toInt ≠ 0 := by have q := ci_neq (a := p0.toInt) (b := 0) rfl (by decide) h1; omega
    refine lv_iload_n hx hb dX12_asked_4 rfl (lv_at hl 2 rfl) ?_
    refine lv_i2l (v := p0.toInt64) hx hb dX12_asked_5 rfl ?_
    refine lv_ldc2 hx hb hown (hts _ wd_1801) dX12_asked_6 ?_
    refine lv_ldc2 hx hb hown (hts _ wd_1907) dX12_asked_9 ?_
    refine m_Si (As := [.long p0.toInt64, .long 10, .long 16]) (rest := []) (c142_X12_within l D ct (p0.toInt64)) X hl.1 kw_1545 kd_yX12_within hw [] [0, 1, 2] rfl rfl rfl rfl (by decide) ⟨by decide, by decide⟩ rfl rfl (Nat.le_of_ble_eq_true rfl) dX12_asked_12 ⟨by decide, by decide⟩ (fun r9 u10 H locs hr11 hw => ?_)
    replace hw : WD D A s.heap _ _ [(a0, .inr (12, [.int 0, .ref a1, .ref a2, .ref a3, .ref a4, .int 0, .int 0, .int 0, .int 0, .int 0, .int 0, .int 0, .int 0, .int 0, .int (-1), .ref a5, .ref a6, .ref a7, .ref a8, .int 0, .ref a9, .ref a10, .int 0, .int 0, .int 0, .ref a11, .ref a12, .ref a13, .ref a14, .ref a15, .ref a16])), (a8, .inl (ct 0, 40320, .inl (fun _ => 0))), (a1, .inl (ct 0, 5310, .inl fx0))] := hw
    rcases hr11 with ⟨h12, rfl⟩ | ⟨⟨h13, h14⟩, rfl⟩
    · skip
      simp only [i64i] at h12
      refine lv_if_ne (tgt := 21) hx hb dX12_asked_15 (by decide) (fun h => absurd rfl h) (fun _ => ?_)
      refine lv_bipush (v := (-2)) hx hb dX12_asked_18 (by decide) ?_
      exact r_i X hr hlk hw [] (fun _ => 0) rfl rfl (Or.inr (Or.inl (⟨⟨h1, h12⟩, rfl⟩))) (by decide) (by decide) dX12_asked_20
    · skip
      rw [i64i] at h13
      rw [i64i] at h14
      refine lv_if_ne (tgt := 21) hx hb dX12_asked_15 (by decide) (fun _ => ?_) (fun h => absurd h (by decide))
      refine lv_aload_n hx hb dX12_asked_21 rfl (lv_at hl 0 rfl) ?_
      refine lv_iload_n hx hb dX12_asked_22 rfl (lv_at hl 1 rfl) ?_
      refine m_Vi (As := [.int 2]) (rest := []) (c157_X12_bestMap l D ct a0 a1 a2 a3 a4 a5 a6 a7 a8 a9 a10 a11 a12 a13 a14 a15 a16) X hl.1 kw_1908 kd_yX12_bestMap hw [0, 1, 2] [] rfl rfl rfl rfl (by decide) 0 rfl rfl ⟨by decide, by decide⟩ rfl rfl (Nat.le_of_ble_eq_true rfl) dX12_asked_23 ⟨by decide, by decide⟩ (fun r15 u16 H locs hr17 hw => ?_)
      replace hw : WD D A s.heap _ _ [(a8, .inl (ct 0, 40320, .inl (upd (fun _ => 0) 0 0))), (a0, .inr (12, [.int 0, .ref a1, .ref a2, .ref a3, .ref a4, .int 0, .int 0, .int 0, .int 0, .int 0, .int 0, .int 0, .int 0, .int 0, .int (-1), .ref a5, .ref a6, .ref a7, .ref a8, .int 1, .ref a9, .ref a10, .int 0, .int 0, .int 0, .ref a11, .ref a12, .ref a13, .ref a14, .ref a15, .ref a16])), (a1, .inl (ct 0, 5310, .inl fx0))] := hw
      subst hr17
      refine lv_istore (lv' := [(4, .int 0), (0, .ref a0), (1, .int 2), (2, .int p0), (3, .int (-1))]) hx hb dX12_asked_26 hl (by decide) rfl (fun ls hl => ?_)
      refine lv_iload hx hb dX12_asked_28 (lv_at hl 0 rfl) ?_
      refine lv_iconst (v := (-1)) hx hb dX12_asked_30 (by decide) ?_
      refine lv_icmp_ne (tgt := 44) hx hb dX12_asked_31 (by decide) (fun _ => ?_) (fun h => absurd h (by decide))
      refine lv_iload_n hx hb dX12_asked_44 rfl (lv_at hl 3 rfl) ?_
      refine lv_if_le (tgt := 80) hx hb dX12_asked_45 (by decide) (fun h18 => absurd (ci_le (a := p0.toInt) (b := 0) rfl (by decide) h18) (by omega)) (fun h18 => ?_)
      refine lv_iload_n hx hb dX12_asked_48 rfl (lv_at hl 3 rfl) ?_
      refine lv_bipush (v := 10) hx hb dX12_asked_49 (by decide) ?_
      rcases (show p0.toInt = 10 ∨ p0.toInt = 11 ∨ p0.toInt = 12 ∨ p0.toInt = 13 ∨ p0.toInt = 14 ∨ p0.toInt = 15 ∨ p0.toInt = 16 by omega) with e19 | e19 | e19 | e19 | e19 | e19 | e19
      · skip
        obtain rfl : p0 = 10 := i32_of e19
        refine kv_isub (v := 0) hx hb (by decide) dX12_asked_51 ?_
        refine lv_aload_n hx hb dX12_asked_52 rfl (lv_at hl 1 rfl) ?_
        refine fg_1443 X hw 1 rfl rfl dX12_asked_53 ?_
        refine lv_iconst (v := 2) hx hb dX12_asked_56 (by decide) ?_
        refine j_iald (j := 2) (v := 0) X hw 2 rfl (by decide) (by decide) (by decide) rfl dX12_asked_57 ?_
        refine lv_icmp_ge (tgt := 78) hx hb dX12_asked_58 (by decide) (fun _ => ?_) (fun h => absurd (by decide) h)
        refine lv_iconst (v := (-1)) hx hb dX12_asked_78 (by decide) ?_
        exact r_i X hr hlk hw [] (fun _ => 0) rfl rfl (Or.inr (Or.inr (⟨Or.inl (⟨h1, h13, h14, e19⟩), rfl⟩))) (by decide) (by decide) dX12_asked_79
      · skip
        obtain rfl : p0 = 11 := i32_of e19
        refine kv_isub (v := 1) hx hb (by decide) dX12_asked_51 ?_
        refine lv_aload_n hx hb dX12_asked_52 rfl (lv_at hl 1 rfl) ?_
        refine fg_1443 X hw 1 rfl rfl dX12_asked_53 ?_
        refine lv_iconst (v := 2) hx hb dX12_asked_56 (by decide) ?_
        refine j_iald (j := 2) (v := 0) X hw 2 rfl (by decide) (by decide) (by decide) rfl dX12_asked_57 ?_
        refine lv_icmp_ge (tgt := 78) hx hb dX12_asked_58 (by decide) (fun _ => ?_) (fun h => absurd (by decide) h)
        refine lv_iconst (v := (-1)) hx hb dX12_asked_78 (by decide) ?_
        exact r_i X hr hlk hw [] (fun _ => 0) rfl rfl (Or.inr (Or.inr (⟨Or.inr (Or.inl (⟨h1, h13, h14, e19⟩)), rfl⟩))) (by decide) (by decide) dX12_asked_79
      · skip
        obtain rfl : p0 = 12 := i32_of e19
        refine kv_isub (v := 2) hx hb (by decide) dX12_asked_51 ?_
        refine lv_aload_n hx hb dX12_asked_52 rfl (lv_at hl 1 rfl) ?_
        refine fg_1443 X hw 1 rfl rfl dX12_asked_53 ?_
        refine lv_iconst (v := 2) hx hb dX12_asked_56 (by decide) ?_
        refine j_iald (j := 2) (v := 0) X hw 2 rfl (by decide) (by decide) (by decide) rfl dX12_asked_57 ?_
        refine lv_icmp_ge (tgt := 78) hx hb dX12_asked_58 (by decide) (fun _ => ?_) (fun h => absurd (by decide) h)
        refine lv_iconst (v := (-1)) hx hb dX12_asked_78 (by decide) ?_
        exact r_i X hr hlk hw [] (fun _ => 0) rfl rfl (Or.inr (Or.inr (⟨Or.inr (Or.inr (Or.inl (⟨h1, h13, h14, e19⟩))), rfl⟩))) (by decide) (by decide) dX12_asked_79
      · skip
        obtain rfl : p0 = 13 := i32_of e19
        refine kv_isub (v := 3) hx hb (by decide) dX12_asked_51 ?_
        refine lv_aload_n hx hb dX12_asked_52 rfl (lv_at hl 1 rfl) ?_
        refine fg_1443 X hw 1 rfl rfl dX12_asked_53 ?_
        refine lv_iconst (v := 2) hx hb dX12_asked_56 (by decide) ?_
        refine j_iald (j := 2) (v := 0) X hw 2 rfl (by decide) (by decide) (by decide) rfl dX12_asked_57 ?_
        refine lv_icmp_ge (tgt := 78) hx hb dX12_asked_58 (by decide) (fun _ => ?_) (fun h => absurd (by decide) h)
        refine lv_iconst (v := (-1)) hx hb dX12_asked_78 (by decide) ?_
        exact r_i X hr hlk hw [] (fun _ => 0) rfl rfl (Or.inr (Or.inr (⟨Or.inr (Or.inr (Or.inr (Or.inl (⟨h1, h13, h14, e19⟩)))), rfl⟩))) (by decide) (by decide) dX12_asked_79
      · skip
        obtain rfl : p0 = 14 := i32_of e19
        refine kv_isub (v := 4) hx hb (by decide) dX12_asked_51 ?_
        refine lv_aload_n hx hb dX12_asked_52 rfl (lv_at hl 1 rfl) ?_
        refine fg_1443 X hw 1 rfl rfl dX12_asked_53 ?_
        refine lv_iconst (v := 2) hx hb dX12_asked_56 (by decide) ?_
        refine j_iald (j := 2) (v := 0) X hw 2 rfl (by decide) (by decide) (by decide) rfl dX12_asked_57 ?_
        refine lv_icmp_ge (tgt := 78) hx hb dX12_asked_58 (by decide) (fun _ => ?_) (fun h => absurd (by decide) h)
        refine lv_iconst (v := (-1)) hx hb dX12_asked_78 (by decide) ?_
        exact r_i X hr hlk hw [] (fun _ => 0) rfl rfl (Or.inr (Or.inr (⟨Or.inr (Or.inr (Or.inr (Or.inr (Or.inl (⟨h1, h13, h14, e19⟩))))), rfl⟩))) (by decide) (by decide) dX12_asked_79
      · skip
        obtain rfl : p0 = 15 := i32_of e19
        refine kv_isub (v := 5) hx hb (by decide) dX12_asked_51 ?_
        refine lv_aload_n hx hb dX12_asked_52 rfl (lv_at hl 1 rfl) ?_
        refine fg_1443 X hw 1 rfl rfl dX12_asked_53 ?_
        refine lv_iconst (v := 2) hx hb dX12_asked_56 (by decide) ?_
        refine j_iald (j := 2) (v := 0) X hw 2 rfl (by decide) (by decide) (by decide) rfl dX12_asked_57 ?_
        refine lv_icmp_ge (tgt := 78) hx hb dX12_asked_58 (by decide) (fun _ => ?_) (fun h => absurd (by decide) h)
        refine lv_iconst (v := (-1)) hx hb dX12_asked_78 (by decide) ?_
        exact r_i X hr hlk hw [] (fun _ => 0) rfl rfl (Or.inr (Or.inr (⟨Or.inr (Or.inr (Or.inr (Or.inr (Or.inr (Or.inl (⟨h1, h13, h14, e19⟩)))))), rfl⟩))) (by decide) (by decide) dX12_asked_79
      · skip
        obtain rfl : p0 = 16 := i32_of e19
        refine kv_isub (v := 6) hx hb (by decide) dX12_asked_51 ?_
        refine lv_aload_n hx hb dX12_asked_52 rfl (lv_at hl 1 rfl) ?_
        refine fg_1443 X hw 1 rfl rfl dX12_asked_53 ?_
        refine lv_iconst (v := 2) hx hb dX12_asked_56 (by decide) ?_
        refine j_iald (j := 2) (v := 0) X hw 2 rfl (by decide) (by decide) (by decide) rfl dX12_asked_57 ?_
        refine lv_icmp_ge (tgt := 78) hx hb dX12_asked_58 (by decide) (fun _ => ?_) (fun h => absurd (by decide) h)
        refine lv_iconst (v := (-1)) hx hb dX12_asked_78 (by decide) ?_
        exact r_i X hr hlk hw [] (fun _ => 0) rfl rfl (Or.inr (Or.inr (⟨Or.inr (Or.inr (Or.inr (Or.inr (Or.inr (Or.inr (⟨h1, h13, h14, e19⟩)))))), rfl⟩))) (by decide) (by decide) dX12_asked_79
set_option maxHeartbeats 4000000 in
set_option maxRecDepth 100000 in
theorem c159_X12_stillest (l : Launch) (D : va_G) (ct : Nat → ClassId) (a0 : Nat) (p0 : Int32) (a1 : Nat) (a2 : Nat) (a3 : Nat) (a4 : Nat) (a5 : Nat) (a6 : Nat) (a7 : Nat) (a8 : Nat) (a9 : Nat) (a10 : Nat) (a11 : Nat) (a12 : Nat) (a13 : Nat) (a14 : Nat) (a15 : Nat) (a16 : Nat) : CI l yX12_stillest cX12_stillest 2 (some .int) { frames := 4, cells := 0, slots := 0, locals := 95 } D ct [.ref a0, .int p0] [(a0, .inr (12, [.int 0, .ref a1, .ref a2, .ref a3, .ref a4, .int 0, .int 0, .int 0, .int 0, .int 0, .int 0, .int 0, .int 0, .int 0, .int (-1), .ref a5, .ref a6, .ref a7, .ref a8, .int 0, .ref a9, .ref a10, .int 0, .int 0, .int 0, .ref a11, .ref a12, .ref a13, .ref a14, .ref a15, .ref a16])), (a8, .inl (ct 0, 40320, .inl (fun _ => 0))), (a1, .inl (ct 0, 5310, .inl fx0))] (fun r => (p0.toInt = 0 ∧ p0.toInt = 0 ∧ p0.toInt = 0) ∧ r = 0 ∨ (p0.toInt ≠ 0 ∧ ((p0.toInt < 10) ∨ (p0.toInt ≥ 10 ∧ p0.toInt > 16))) ∧ r = (-2) ∨ (((p0.toInt ≠ 0 ∧ p0.toInt ≥ 10 ∧ p0.toInt ≤ 16 ∧ p0.toInt = 10) ∨ (p0.toInt ≠ 0 ∧ p0.toInt ≥ 10 ∧ p0.toInt ≤ 16 ∧ p0.toInt = 11) ∨ (p0.toInt ≠ 0 ∧ p0.toInt ≥ 10 ∧ p0.toInt ≤ 16 ∧ p0.toInt = 12) ∨ (p0.toInt ≠ 0 ∧ p0.toInt ≥ 10 ∧ p0.toInt ≤ 16 ∧ p0.toInt = 13) ∨ (p0.toInt ≠ 0 ∧ p0.toInt ≥ 10 ∧ p0.toInt ≤ 16 ∧ p0.toInt = 14) ∨ (p0.toInt ≠ 0 ∧ p0.toInt ≥ 10 ∧ p0.toInt ≤ 16 ∧ p0.toInt = 15) ∨ (p0.toInt ≠ 0 ∧ p0.toInt ≥ 10 ∧ p0.toInt ≤ 16 ∧ p0.toInt = 16))) ∧ r = (-1)) (fun u => []) := by
  refine CI.of (by decide +kernel) (Nat.le_of_ble_eq_true rfl) ?_
  intro p e s m below meth c A ls hE
  obtain ⟨X, hr, hlk, hnm, hw, hl⟩ := hE
  have X : CX p m c cX12_stillest 2 s [.ref a0, .int p0].toArray RX12 D ct := X
  have hl : lv_has ls 2 [(0, .ref a0), (1, .int p0)] := hl
  obtain ⟨⟨hx, hb, hml, hown, hts⟩, hK⟩ := id X
  refine lv_aload_n hx hb dX12_stillest_0 rfl (lv_at hl 0 rfl) ?_
  refine lv_iconst (v := 0) hx hb dX12_stillest_1 (by decide) ?_
  refine fp_1442 X hw 0 rfl rfl rfl (Nat.le_of_ble_eq_true rfl) dX12_stillest_2 [(a0, .inr (12, [.int 0, .ref a1, .ref a2, .ref a3, .ref a4, .int 0, .int 0, .int 0, .int 0, .int 0, .int 0, .int 0, .int 0, .int 0, .int (-1), .ref a5, .ref a6, .ref a7, .ref a8, .int 0, .ref a9, .ref a10, .int 0, .int 0, .int 0, .ref a11, .ref a12, .ref a13, .ref a14, .ref a15, .ref a16])), (a8, .inl (ct 0, 40320, .inl (fun _ => 0))), (a1, .inl (ct 0, 5310, .inl fx0))] rfl (fun H locs hw => ?_)
  refine lv_aload_n hx hb dX12_stillest_5 rfl (lv_at hl 0 rfl) ?_
  refine lv_iconst (v := 2) hx hb dX12_stillest_6 (by decide) ?_
  refine lv_iload_n hx hb dX12_stillest_7 rfl (lv_at hl 1 rfl) ?_
  refine lv_iconst (v := (-1)) hx hb dX12_stillest_8 (by decide) ?_
  refine m_Vi (As := [.int 2, .int p0, .int (-1)]) (rest := []) (c158_X12_asked l D ct a0 p0 a1 a2 a3 a4 a5 a6 a7 a8 a9 a10 a11 a12 a13 a14 a15 a16) X hl.1 kw_1903 kd_yX12_asked hw [0, 1, 2] [] rfl rfl rfl rfl (by decide) 0 rfl rfl ⟨by decide, by decide⟩ rfl rfl (Nat.le_of_ble_eq_true rfl) dX12_stillest_9 ⟨by decide, by decide⟩ (fun r1 u2 H locs hr3 hw => ?_)
  replace hw : WD D A s.heap _ _ [] := hw
  rcases hr3 with ⟨⟨h4, h5⟩, rfl⟩ | ⟨⟨h6, h7⟩, rfl⟩ | ⟨h8, rfl⟩
  · skip
    have e9 : p0.toInt = 0 := by omega
    obtain rfl : p0 = 0 := i32_of e9
    exact r_i X hr hlk hw [] (fun _ => 0) rfl rfl (Or.inl (⟨⟨h4, h5, e9⟩, rfl⟩)) (by decide) (by decide) dX12_stillest_12
  · skip
    exact r_i X hr hlk hw [] (fun _ => 0) rfl rfl (Or.inr (Or.inl (⟨⟨h6, h7⟩, rfl⟩))) (by decide) (by decide) dX12_stillest_12
  · skip
    exact r_i X hr hlk hw [] (fun _ => 0) rfl rfl (Or.inr (Or.inr (⟨h8, rfl⟩))) (by decide) (by decide) dX12_stillest_12
set_option maxHeartbeats 4000000 in
set_option maxRecDepth 100000 in
theorem c160_X11_bestMending (l : Launch) (D : va_G) (ct : Nat → ClassId) (a0 : Nat) (a1 : Nat) (a2 : Nat) (a3 : Nat) (a4 : Nat) (a5 : Nat) (a6 : Nat) (a7 : Nat) (a8 : Nat) (a9 : Nat) (a10 : Nat) (a11 : Nat) (a12 : Nat) (a13 : Nat) (a14 : Nat) (a15 : Nat) (a16 : Nat) (a17 : Nat) (a18 : Nat) (a19 : Nat) (a20 : Nat) (a21 : Nat) (a22 : Nat) (a23 : Nat) (f0 : Nat → Int32) (a24 : Nat) (a25 : Nat) (a26 : Nat) (a27 : Nat) (a28 : Nat) : CI l yX11_bestMending cX11_bestMending 6 (some .int) { frames := 4, cells := 0, slots := 0, locals := 104 } D ct [.ref a0] [(a0, .inr (11, [.ref a1, .int 0, .ref a2, .ref a3, .ref a4, .ref a5, .ref a6, .ref a7, .ref a8, .ref a9, .ref a10, .ref a11, .ref a12, .ref a13, .ref a14, .ref a15, .int (-1), .int (-1)])), (a2, .inr (2, [.int 0, .int 0, .int 0, .ref a16, .ref a17, .ref a18, .int 0, .int 0, .int 0, .int 0, .int 0, .ref a19, .int 0])), (a4, .inr (9, [.ref a20, .ref a21, .ref a2, .ref a22, .ref a23, .int (-1)])), (a20, .inl (ct 0, 7, .inl f0)), (a5, .inr (5, [.ref a24, .ref a25, .ref a26, .ref a27, .ref a28, .int 0, .int 0])), (a25, .inl (ct 0, 256, .inl (fun _ => 0))), (a27, .inl (ct 0, 256, .inl (fun _ => 0))), (a28, .inl (ct 0, 7, .inl f0))] (fun r => r = (-1)) (fun u => []) := by
  refine CI.of (by decide +kernel) (Nat.le_of_ble_eq_true rfl) ?_
  intro p e s m below meth c A ls hE
  obtain ⟨X, hr, hlk, hnm, hw, hl⟩ := hE
  have X : CX p m c cX11_bestMending 6 s [.ref a0].toArray RX11 D ct := X
  have hl : lv_has ls 6 [(0, .ref a0)] := hl
  obtain ⟨⟨hx, hb, hml, hown, hts⟩, hK⟩ := id X
  refine lv_aload_n hx hb dX11_bestMending_0 rfl (lv_at hl 0 rfl) ?_
  refine m_Vi (As := []) (rest := []) (c114_X11_tallyAll l D ct a0 a1 a2 a3 a4 a5 a6 a7 a8 a9 a10 a11 a12 a13 a14 a15 a16 a17 a18 a19 a20 a21 a22 a23 f0 a24 a25 a26 a27 a28) X hl.1 kw_1140 kd_yX11_tallyAll hw [0, 1, 2, 3, 4, 5, 7] [6] rfl rfl rfl rfl (by decide) 0 rfl rfl ⟨by decide, by decide⟩ rfl rfl (Nat.le_of_ble_eq_true rfl) dX11_bestMending_1 ⟨by decide, by decide⟩ (fun r1 u2 H locs hr3 hw => ?_)
  replace hw : WD D A s.heap _ _ [(a27, .inl (ct 0, 256, .inl (fun _ => 0))), (a0, .inr (11, [.ref a1, .int 0, .ref a2, .ref a3, .ref a4, .ref a5, .ref a6, .ref a7, .ref a8, .ref a9, .ref a10, .ref a11, .ref a12, .ref a13, .ref a14, .ref a15, .int (-1), .int (-1)])), (a2, .inr (2, [.int 0, .int 0, .int 0, .ref a16, .ref a17, .ref a18, .int 0, .int 0, .int 0, .int 0, .int 0, .ref a19, .int 0])), (a4, .inr (9, [.ref a20, .ref a21, .ref a2, .ref a22, .ref a23, .int 0])), (a20, .inl (ct 0, 7, .inl f0)), (a25, .inl (ct 0, 256, .inl (upd (fun _ => 0) 0 1))), (a28, .inl (ct 0, 7, .inl (va_cpy f0 f0 0 0 0))), (a5, .inr (5, [.ref a24, .ref a25, .ref a26, .ref a27, .ref a28, .int 0, .int 0]))] := hw
  subst hr3
  refine lv_if_ne (tgt := 9) hx hb dX11_bestMending_4 (by decide) (fun _ => ?_) (fun h => absurd h (by decide))
  refine lv_aload_n hx hb dX11_bestMending_9 rfl (lv_at hl 0 rfl) ?_
  refine fg_570 X hw 1 rfl rfl dX11_bestMending_10 ?_
  refine lv_aload_n hx hb dX11_bestMending_13 rfl (lv_at hl 0 rfl) ?_
  refine fg_569 X hw 1 rfl rfl dX11_bestMending_14 ?_
  refine fg_336 X hw 3 rfl rfl dX11_bestMending_17 ?_
  refine m_Vi (As := [.ref a21]) (rest := []) (c135_X5_mostInSum l D ct a5 a21 a27 a24 a25 a26 a28) X hl.1 kw_1208 kd_yX5_mostInSum hw [0, 7] [1, 2, 3, 4, 5, 6] rfl rfl rfl rfl (by decide) 1 rfl rfl ⟨by decide, by decide⟩ rfl rfl (Nat.le_of_ble_eq_true rfl) dX11_bestMending_20 ⟨by decide, by decide⟩ (fun r4 u5 H locs hr6 hw => ?_)
  replace hw : WD D A s.heap _ _ [(a0, .inr (11, [.ref a1, .int 0, .ref a2, .ref a3, .ref a4, .ref a5, .ref a6, .ref a7, .ref a8, .ref a9, .ref a10, .ref a11, .ref a12, .ref a13, .ref a14, .ref a15, .int (-1), .int (-1)])), (a2, .inr (2, [.int 0, .int 0, .int 0, .ref a16, .ref a17, .ref a18, .int 0, .int 0, .int 0, .int 0, .int 0, .ref a19, .int 0])), (a4, .inr (9, [.ref a20, .ref a21, .ref a2, .ref a22, .ref a23, .int 0])), (a20, .inl (ct 0, 7, .inl f0)), (a25, .inl (ct 0, 256, .inl (upd (fun _ => 0) 0 1))), (a28, .inl (ct 0, 7, .inl (va_cpy f0 f0 0 0 0))), (a27, .inl (ct 0, 256, .inl (upd (fun _ => 0) 0 0))), (a5, .inr (5, [.ref a24, .ref a25, .ref a26, .ref a27, .ref a28, .int 0, .int 0]))] := hw
  subst hr6
  refine lv_istore_n (lv' := [(1, .int 0), (0, .ref a0)]) hx hb dX11_bestMending_23 rfl hl (by decide) rfl (fun ls hl => ?_)
  refine lv_iconst (v := (-1)) hx hb dX11_bestMending_24 (by decide) ?_
  refine lv_istore_n (lv' := [(2, .int (-1)), (1, .int 0), (0, .ref a0)]) hx hb dX11_bestMending_25 rfl hl (by decide) rfl (fun ls hl => ?_)
  refine lv_iconst (v := 0) hx hb dX11_bestMending_26 (by decide) ?_
  refine lv_istore_n (lv' := [(3, .int 0), (2, .int (-1)), (1, .int 0), (0, .ref a0)]) hx hb dX11_bestMending_27 rfl hl (by decide) rfl (fun ls hl => ?_)
  refine lv_iload_n hx hb dX11_bestMending_28 rfl (lv_at hl 0 rfl) ?_
  refine lv_aload_n hx hb dX11_bestMending_29 rfl (lv_at hl 3 rfl) ?_
  refine fg_567 X hw 0 rfl rfl dX11_bestMending_30 ?_
  refine fg_217 X hw 1 rfl rfl dX11_bestMending_33 ?_
  refine lv_icmp_ge (tgt := 112) hx hb dX11_bestMending_36 (by decide) (fun _ => ?_) (fun h => absurd (by decide) h)
  refine lv_iload_n hx hb dX11_bestMending_112 rfl (lv_at hl 1 rfl) ?_
  exact r_i X hr hlk hw [] (fun _ => 0) rfl rfl rfl (by decide) (by decide) dX11_bestMending_113
set_option maxHeartbeats 4000000 in
set_option maxRecDepth 100000 in
theorem c161_X12_bestMending (l : Launch) (D : va_G) (ct : Nat → ClassId) (a0 : Nat) (a1 : Nat) (a2 : Nat) (a3 : Nat) (a4 : Nat) (a5 : Nat) (a6 : Nat) (a7 : Nat) (a8 : Nat) (a9 : Nat) (a10 : Nat) (a11 : Nat) (a12 : Nat) (a13 : Nat) (a14 : Nat) (a15 : Nat) (a16 : Nat) : CI l yX12_bestMending cX12_bestMending 7 (some .int) { frames := 3, cells := 0, slots := 0, locals := 71 } D ct [.ref a0] [(a0, .inr (12, [.int 0, .ref a1, .ref a2, .ref a3, .ref a4, .int 0, .int 0, .int 0, .int 0, .int 0, .int 0, .int 0, .int 0, .int 0, .int (-1), .ref a5, .ref a6, .ref a7, .ref a8, .int 0, .ref a9, .ref a10, .int 0, .int 0, .int 0, .ref a11, .ref a12, .ref a13, .ref a14, .ref a15, .ref a16])), (a8, .inl (ct 0, 40320, .inl (fun _ => 0))), (a1, .inl (ct 0, 5310, .inl fx0))] (fun r => r = (-1)) (fun u => []) := by
  refine CI.of (by decide +kernel) (Nat.le_of_ble_eq_true rfl) ?_
  intro p e s m below meth c A ls hE
  obtain ⟨X, hr, hlk, hnm, hw, hl⟩ := hE
  have X : CX p m c cX12_bestMending 7 s [.ref a0].toArray RX12 D ct := X
  have hl : lv_has ls 7 [(0, .ref a0)] := hl
  obtain ⟨⟨hx, hb, hml, hown, hts⟩, hK⟩ := id X
  refine lv_aload_n hx hb dX12_bestMending_0 rfl (lv_at hl 0 rfl) ?_
  refine lv_iconst (v := 0) hx hb dX12_bestMending_1 (by decide) ?_
  refine fp_1442 X hw 0 rfl rfl rfl (Nat.le_of_ble_eq_true rfl) dX12_bestMending_2 [(a0, .inr (12, [.int 0, .ref a1, .ref a2, .ref a3, .ref a4, .int 0, .int 0, .int 0, .int 0, .int 0, .int 0, .int 0, .int 0, .int 0, .int (-1), .ref a5, .ref a6, .ref a7, .ref a8, .int 0, .ref a9, .ref a10, .int 0, .int 0, .int 0, .ref a11, .ref a12, .ref a13, .ref a14, .ref a15, .ref a16])), (a8, .inl (ct 0, 40320, .inl (fun _ => 0))), (a1, .inl (ct 0, 5310, .inl fx0))] rfl (fun H locs hw => ?_)
  refine lv_aload_n hx hb dX12_bestMending_5 rfl (lv_at hl 0 rfl) ?_
  refine lv_iconst (v := 0) hx hb dX12_bestMending_6 (by decide) ?_
  refine m_Vi (As := [.int 0]) (rest := []) (c141_X12_bestMap l D ct a0 a1 a2 a3 a4 a5 a6 a7 a8 a9 a10 a11 a12 a13 a14 a15 a16) X hl.1 kw_1908 kd_yX12_bestMap hw [0, 1, 2] [] rfl rfl rfl rfl (by decide) 0 rfl rfl ⟨by decide, by decide⟩ rfl rfl (Nat.le_of_ble_eq_true rfl) dX12_bestMending_7 ⟨by decide, by decide⟩ (fun r1 u2 H locs hr3 hw => ?_)
  replace hw : WD D A s.heap _ _ [(a8, .inl (ct 0, 40320, .inl (upd (fun _ => 0) 0 0))), (a0, .inr (12, [.int 0, .ref a1, .ref a2, .ref a3, .ref a4, .int 0, .int 0, .int 0, .int 0, .int 0, .int 0, .int 0, .int 0, .int 0, .int (-1), .ref a5, .ref a6, .ref a7, .ref a8, .int 1, .ref a9, .ref a10, .int 0, .int 0, .int 0, .ref a11, .ref a12, .ref a13, .ref a14, .ref a15, .ref a16])), (a1, .inl (ct 0, 5310, .inl fx0))] := hw
  subst hr3
  refine lv_istore_n (lv' := [(1, .int 0), (0, .ref a0)]) hx hb dX12_bestMending_10 rfl hl (by decide) rfl (fun ls hl => ?_)
  refine lv_iload_n hx hb dX12_bestMending_11 rfl (lv_at hl 0 rfl) ?_
  refine lv_iconst (v := (-1)) hx hb dX12_bestMending_12 (by decide) ?_
  refine lv_icmp_ne (tgt := 18) hx hb dX12_bestMending_13 (by decide) (fun _ => ?_) (fun h => absurd h (by decide))
  refine lv_aload_n hx hb dX12_bestMending_18 rfl (lv_at hl 1 rfl) ?_
  refine lv_aload_n hx hb dX12_bestMending_19 rfl (lv_at hl 1 rfl) ?_
  refine fg_1460 X hw 1 rfl rfl dX12_bestMending_20 ?_
  refine lv_iload_n hx hb dX12_bestMending_23 rfl (lv_at hl 0 rfl) ?_
  refine j_iald (j := 0) (v := 0) X hw 0 rfl (by decide) (by decide) (by decide) rfl dX12_bestMending_24 ?_
  refine m_Vi (As := [.int 0]) (rest := []) (c139_X12_worthIn l D ct a0 a1 a2 a3 a4 a5 a6 a7 a8 a9 a10 a11 a12 a13 a14 a15 a16) X hl.1 kw_1916 kd_yX12_worthIn hw [1, 2] [0] rfl rfl rfl rfl (by decide) 0 rfl rfl ⟨by decide, by decide⟩ rfl rfl (Nat.le_of_ble_eq_true rfl) dX12_bestMending_25 ⟨by decide, by decide⟩ (fun r4 u5 H locs hr6 hw => ?_)
  replace hw : WD D A s.heap _ _ [(a8, .inl (ct 0, 40320, .inl (upd (fun _ => 0) 0 0))), (a0, .inr (12, [.int 0, .ref a1, .ref a2, .ref a3, .ref a4, .int 0, .int 0, .int 0, .int 0, .int 0, .int 0, .int 0, .int 0, .int 0, .int (-1), .ref a5, .ref a6, .ref a7, .ref a8, .int 1, .ref a9, .ref a10, .int 0, .int 0, .int 0, .ref a11, .ref a12, .ref a13, .ref a14, .ref a15, .ref a16])), (a1, .inl (ct 0, 5310, .inl fx0))] := hw
  subst hr6
  refine lv_istore_n (lv' := [(2, .int 0), (1, .int 0), (0, .ref a0)]) hx hb dX12_bestMending_28 rfl hl (by decide) rfl (fun ls hl => ?_)
  refine lv_iconst (v := (-1)) hx hb dX12_bestMending_29 (by decide) ?_
  refine lv_istore_n (lv' := [(3, .int (-1)), (2, .int 0), (1, .int 0), (0, .ref a0)]) hx hb dX12_bestMending_30 rfl hl (by decide) rfl (fun ls hl => ?_)
  refine lv_iconst (v := 0) hx hb dX12_bestMending_31 (by decide) ?_
  refine lv_istore (lv' := [(4, .int 0), (3, .int (-1)), (2, .int 0), (1, .int 0), (0, .ref a0)]) hx hb dX12_bestMending_32 hl (by decide) rfl (fun ls hl => ?_)
  refine lv_iload hx hb dX12_bestMending_34 (lv_at hl 0 rfl) ?_
  refine lv_aload_n hx hb dX12_bestMending_36 rfl (lv_at hl 4 rfl) ?_
  refine fg_1443 X hw 1 rfl rfl dX12_bestMending_37 ?_
  refine lv_iconst (v := 1) hx hb dX12_bestMending_40 (by decide) ?_
  refine j_iald (j := 1) (v := 0) X hw 2 rfl (by decide) (by decide) (by decide) rfl dX12_bestMending_41 ?_
  refine lv_icmp_ge (tgt := 135) hx hb dX12_bestMending_42 (by decide) (fun _ => ?_) (fun h => absurd (by decide) h)
  refine lv_iload_n hx hb dX12_bestMending_135 rfl (lv_at hl 1 rfl) ?_
  exact r_i X hr hlk hw [] (fun _ => 0) rfl rfl rfl (by decide) (by decide) dX12_bestMending_136
set_option maxHeartbeats 4000000 in
set_option maxRecDepth 100000 in
theorem c162_X5_numberOf (l : Launch) (D : va_G) (ct : Nat → ClassId) (a0 : Nat) (a1 : Nat) (a2 : Nat) (a3 : Nat) (a4 : Nat) (a5 : Nat) (a6 : Nat) : CI l yX5_numberOf cX5_numberOf 6 (some .int) { frames := 0, cells := 0, slots := 0, locals := 0 } D ct [.ref a0, .ref a1] [(a0, .inr (5, [.ref a2, .ref a3, .ref a4, .ref a5, .ref a6, .int 0, .int 0]))] (fun r => r = 0) (fun u => [(a0, .inr (5, [.ref a2, .ref a3, .ref a4, .ref a5, .ref a6, .int 0, .int 0]))]) := by
  refine CI.of (by decide +kernel) (Nat.le_of_ble_eq_true rfl) ?_
  intro p e s m below meth c A ls hE
  obtain ⟨X, hr, hlk, hnm, hw, hl⟩ := hE
  have X : CX p m c cX5_numberOf 6 s [.ref a0, .ref a1].toArray RX5 D ct := X
  have hl : lv_has ls 6 [(0, .ref a0), (1, .ref a1)] := hl
  obtain ⟨⟨hx, hb, hml, hown, hts⟩, hK⟩ := id X
  refine lv_iconst (v := 0) hx hb dX5_numberOf_0 (by decide) ?_
  refine lv_istore_n (lv' := [(2, .int 0), (0, .ref a0), (1, .ref a1)]) hx hb dX5_numberOf_1 rfl hl (by decide) rfl (fun ls hl => ?_)
  refine lv_iconst (v := 0) hx hb dX5_numberOf_2 (by decide) ?_
  refine lv_istore_n (lv' := [(3, .int 0), (2, .int 0), (0, .ref a0), (1, .ref a1)]) hx hb dX5_numberOf_3 rfl hl (by decide) rfl (fun ls hl => ?_)
  refine lv_iconst (v := 0) hx hb dX5_numberOf_4 (by decide) ?_
  refine lv_istore (lv' := [(4, .int 0), (3, .int 0), (2, .int 0), (0, .ref a0), (1, .ref a1)]) hx hb dX5_numberOf_5 hl (by decide) rfl (fun ls hl => ?_)
  refine lv_iload hx hb dX5_numberOf_7 (lv_at hl 0 rfl) ?_
  refine lv_aload_n hx hb dX5_numberOf_9 rfl (lv_at hl 3 rfl) ?_
  refine fg_366 X hw 0 rfl rfl dX5_numberOf_10 ?_
  refine lv_icmp_ge (tgt := 79) hx hb dX5_numberOf_13 (by decide) (fun _ => ?_) (fun h => absurd (by decide) h)
  refine lv_iload_n hx hb dX5_numberOf_79 rfl (lv_at hl 2 rfl) ?_
  exact r_i X hr hlk hw [0] (fun _ => 0) rfl rfl rfl (by decide) (by decide) dX5_numberOf_80
set_option maxHeartbeats 4000000 in
set_option maxRecDepth 100000 in
theorem c163_X11_thisMap (l : Launch) (D : va_G) (ct : Nat → ClassId) (a0 : Nat) (a1 : Nat) (a2 : Nat) (a3 : Nat) (a4 : Nat) (a5 : Nat) (a6 : Nat) (a7 : Nat) (a8 : Nat) (a9 : Nat) (a10 : Nat) (a11 : Nat) (a12 : Nat) (a13 : Nat) (a14 : Nat) (a15 : Nat) (a16 : Nat) (a17 : Nat) (a18 : Nat) (a19 : Nat) (a20 : Nat) (a21 : Nat) (a22 : Nat) (a23 : Nat) (a24 : Nat) (a25 : Nat) (a26 : Nat) (f0 : Nat → Int32) (a27 : Nat) (a28 : Nat) (a29 : Nat) (a30 : Nat) (a31 : Nat) : CI l yX11_thisMap cX11_thisMap 3 (some .int) { frames := 4, cells := 0, slots := 0, locals := 104 } D ct [.ref a0] [(a0, .inr (11, [.ref a1, .int 0, .ref a2, .ref a3, .ref a4, .ref a5, .ref a6, .ref a7, .ref a8, .ref a9, .ref a10, .ref a11, .ref a12, .ref a13, .ref a14, .ref a15, .int (-1), .int (-1)])), (a2, .inr (2, [.int 0, .int 0, .int 0, .ref a16, .ref a17, .ref a18, .int 0, .int 0, .int 0, .int 0, .int 0, .ref a19, .int 0])), (a19, .inr (4, [.ref a20, .ref a21, .ref a22, .int 0])), (a4, .inr (9, [.ref a23, .ref a24, .ref a2, .ref a25, .ref a26, .int (-1)])), (a23, .inl (ct 0, 7, .inl f0)), (a5, .inr (5, [.ref a27, .ref a28, .ref a29, .ref a30, .ref a31, .int 0, .int 0])), (a28, .inl (ct 0, 256, .inl (fun _ => 0))), (a31, .inl (ct 0, 7, .inl f0))] (fun r => r = 0) (fun u => []) := by
  refine CI.of (by decide +kernel) (Nat.le_of_ble_eq_true rfl) ?_
  intro p e s m below meth c A ls hE
  obtain ⟨X, hr, hlk, hnm, hw, hl⟩ := hE
  have X : CX p m c cX11_thisMap 3 s [.ref a0].toArray RX11 D ct := X
  have hl : lv_has ls 3 [(0, .ref a0)] := hl
  obtain ⟨⟨hx, hb, hml, hown, hts⟩, hK⟩ := id X
  refine lv_aload_n hx hb dX11_thisMap_0 rfl (lv_at hl 0 rfl) ?_
  refine m_Vi (As := []) (rest := []) (c114_X11_tallyAll l D ct a0 a1 a2 a3 a4 a5 a6 a7 a8 a9 a10 a11 a12 a13 a14 a15 a16 a17 a18 a19 a23 a24 a25 a26 f0 a27 a28 a29 a30 a31) X hl.1 kw_1140 kd_yX11_tallyAll hw [0, 1, 3, 4, 5, 6, 7] [2] rfl rfl rfl rfl (by decide) 0 rfl rfl ⟨by decide, by decide⟩ rfl rfl (Nat.le_of_ble_eq_true rfl) dX11_thisMap_1 ⟨by decide, by decide⟩ (fun r1 u2 H locs hr3 hw => ?_)
  replace hw : WD D A s.heap _ _ [(a19, .inr (4, [.ref a20, .ref a21, .ref a22, .int 0])), (a0, .inr (11, [.ref a1, .int 0, .ref a2, .ref a3, .ref a4, .ref a5, .ref a6, .ref a7, .ref a8, .ref a9, .ref a10, .ref a11, .ref a12, .ref a13, .ref a14, .ref a15, .int (-1), .int (-1)])), (a2, .inr (2, [.int 0, .int 0, .int 0, .ref a16, .ref a17, .ref a18, .int 0, .int 0, .int 0, .int 0, .int 0, .ref a19, .int 0])), (a4, .inr (9, [.ref a23, .ref a24, .ref a2, .ref a25, .ref a26, .int 0])), (a23, .inl (ct 0, 7, .inl f0)), (a28, .inl (ct 0, 256, .inl (upd (fun _ => 0) 0 1))), (a31, .inl (ct 0, 7, .inl (va_cpy f0 f0 0 0 0))), (a5, .inr (5, [.ref a27, .ref a28, .ref a29, .ref a30, .ref a31, .int 0, .int 0]))] := hw
  subst hr3
  refine lv_pop hx hb dX11_thisMap_4 rfl ?_
  refine lv_iconst (v := 0) hx hb dX11_thisMap_5 (by decide) ?_
  refine lv_istore_n (lv' := [(1, .int 0), (0, .ref a0)]) hx hb dX11_thisMap_6 rfl hl (by decide) rfl (fun ls hl => ?_)
  refine lv_iload_n hx hb dX11_thisMap_7 rfl (lv_at hl 0 rfl) ?_
  refine lv_aload_n hx hb dX11_thisMap_8 rfl (lv_at hl 1 rfl) ?_
  refine fg_567 X hw 1 rfl rfl dX11_thisMap_9 ?_
  refine fg_225 X hw 2 rfl rfl dX11_thisMap_12 ?_
  refine lv_icmp_ge (tgt := 56) hx hb dX11_thisMap_15 (by decide) (fun _ => ?_) (fun h => absurd (by decide) h)
  refine lv_aload_n hx hb dX11_thisMap_56 rfl (lv_at hl 1 rfl) ?_
  refine fg_570 X hw 1 rfl rfl dX11_thisMap_57 ?_
  refine lv_aload_n hx hb dX11_thisMap_60 rfl (lv_at hl 1 rfl) ?_
  refine fg_567 X hw 1 rfl rfl dX11_thisMap_61 ?_
  refine fg_253 X hw 2 rfl rfl dX11_thisMap_64 ?_
  refine fg_181 X hw 0 rfl rfl dX11_thisMap_67 ?_
  refine m_Vi (As := [.ref a20]) (rest := []) (c162_X5_numberOf l D ct a5 a20 a27 a28 a29 a30 a31) X hl.1 kw_1273 kd_yX5_numberOf hw [7] [0, 1, 2, 3, 4, 5, 6] rfl rfl rfl rfl (by decide) 0 rfl rfl ⟨by decide, by decide⟩ rfl rfl (Nat.le_of_ble_eq_true rfl) dX11_thisMap_70 ⟨by decide, by decide⟩ (fun r4 u5 H locs hr6 hw => ?_)
  replace hw : WD D A s.heap _ _ [(a19, .inr (4, [.ref a20, .ref a21, .ref a22, .int 0])), (a0, .inr (11, [.ref a1, .int 0, .ref a2, .ref a3, .ref a4, .ref a5, .ref a6, .ref a7, .ref a8, .ref a9, .ref a10, .ref a11, .ref a12, .ref a13, .ref a14, .ref a15, .int (-1), .int (-1)])), (a2, .inr (2, [.int 0, .int 0, .int 0, .ref a16, .ref a17, .ref a18, .int 0, .int 0, .int 0, .int 0, .int 0, .ref a19, .int 0])), (a4, .inr (9, [.ref a23, .ref a24, .ref a2, .ref a25, .ref a26, .int 0])), (a23, .inl (ct 0, 7, .inl f0)), (a28, .inl (ct 0, 256, .inl (upd (fun _ => 0) 0 1))), (a31, .inl (ct 0, 7, .inl (va_cpy f0 f0 0 0 0))), (a5, .inr (5, [.ref a27, .ref a28, .ref a29, .ref a30, .ref a31, .int 0, .int 0]))] := hw
  subst hr6
  exact r_i X hr hlk hw [] (fun _ => 0) rfl rfl rfl (by decide) (by decide) dX11_thisMap_73
set_option maxHeartbeats 4000000 in
set_option maxRecDepth 100000 in
theorem c164_X12_thisMap (l : Launch) (D : va_G) (ct : Nat → ClassId) (a0 : Nat) (a1 : Nat) (a2 : Nat) (a3 : Nat) (a4 : Nat) (a5 : Nat) (a6 : Nat) (a7 : Nat) (a8 : Nat) (a9 : Nat) (a10 : Nat) (a11 : Nat) (a12 : Nat) (a13 : Nat) (a14 : Nat) (a15 : Nat) (a16 : Nat) (f0 : Nat → Int32) : CI l yX12_thisMap cX12_thisMap 4 (some .int) { frames := 2, cells := 0, slots := 0, locals := 46 } D ct [.ref a0] [(a0, .inr (12, [.int 0, .ref a1, .ref a2, .ref a3, .ref a4, .int 0, .int 0, .int 0, .int 0, .int 0, .int 0, .int 0, .int 0, .int 0, .int (-1), .ref a5, .ref a6, .ref a7, .ref a8, .int 0, .ref a9, .ref a10, .int 0, .int 0, .int 0, .ref a11, .ref a12, .ref a13, .ref a14, .ref a15, .ref a16])), (a8, .inl (ct 0, 40320, .inl f0)), (a1, .inl (ct 0, 5310, .inl fx0))] (fun r => r = 0) (fun u => []) := by
  refine CI.of (by decide +kernel) (Nat.le_of_ble_eq_true rfl) ?_
  intro p e s m below meth c A ls hE
  obtain ⟨X, hr, hlk, hnm, hw, hl⟩ := hE
  have X : CX p m c cX12_thisMap 4 s [.ref a0].toArray RX12 D ct := X
  have hl : lv_has ls 4 [(0, .ref a0)] := hl
  obtain ⟨⟨hx, hb, hml, hown, hts⟩, hK⟩ := id X
  refine lv_aload_n hx hb dX12_thisMap_0 rfl (lv_at hl 0 rfl) ?_
  refine lv_iconst (v := 0) hx hb dX12_thisMap_1 (by decide) ?_
  refine fp_1442 X hw 0 rfl rfl rfl (Nat.le_of_ble_eq_true rfl) dX12_thisMap_2 [(a0, .inr (12, [.int 0, .ref a1, .ref a2, .ref a3, .ref a4, .int 0, .int 0, .int 0, .int 0, .int 0, .int 0, .int 0, .int 0, .int 0, .int (-1), .ref a5, .ref a6, .ref a7, .ref a8, .int 0, .ref a9, .ref a10, .int 0, .int 0, .int 0, .ref a11, .ref a12, .ref a13, .ref a14, .ref a15, .ref a16])), (a8, .inl (ct 0, 40320, .inl f0)), (a1, .inl (ct 0, 5310, .inl fx0))] rfl (fun H locs hw => ?_)
  refine lv_aload_n hx hb dX12_thisMap_5 rfl (lv_at hl 0 rfl) ?_
  refine lv_iconst (v := (-1)) hx hb dX12_thisMap_6 (by decide) ?_
  refine m_Vv (As := [.int (-1)]) (rest := []) (c71_X12_laysMaps l D ct a0 a1 a2 a3 a4 a5 a6 a7 a8 a9 a10 a11 a12 a13 a14 a15 a16 f0) X hl.1 kw_1716 kd_yX12_laysMaps hw [0, 1, 2] [] rfl rfl rfl rfl (by decide) 0 rfl rfl ⟨by decide, by decide⟩ rfl rfl (Nat.le_of_ble_eq_true rfl) dX12_thisMap_7 ⟨by decide, by decide⟩ (fun u2 H locs hr3 hw => ?_)
  replace hw : WD D A s.heap _ _ [(a8, .inl (ct 0, 40320, .inl (upd f0 0 0))), (a0, .inr (12, [.int 0, .ref a1, .ref a2, .ref a3, .ref a4, .int 0, .int 0, .int 0, .int 0, .int 0, .int 0, .int 0, .int 0, .int 0, .int (-1), .ref a5, .ref a6, .ref a7, .ref a8, .int 1, .ref a9, .ref a10, .int 0, .int 0, .int 0, .ref a11, .ref a12, .ref a13, .ref a14, .ref a15, .ref a16])), (a1, .inl (ct 0, 5310, .inl fx0))] := hw
  refine lv_iconst (v := 0) hx hb dX12_thisMap_10 (by decide) ?_
  refine lv_istore_n (lv' := [(1, .int 0), (0, .ref a0)]) hx hb dX12_thisMap_11 rfl hl (by decide) rfl (fun ls hl => ?_)
  refine lv_iload_n hx hb dX12_thisMap_12 rfl (lv_at hl 0 rfl) ?_
  refine lv_aload_n hx hb dX12_thisMap_13 rfl (lv_at hl 1 rfl) ?_
  refine fg_1461 X hw 1 rfl rfl dX12_thisMap_14 ?_
  refine lv_icmp_ge (tgt := 82) hx hb dX12_thisMap_17 (by decide) (fun h => absurd h (by decide)) (fun _ => ?_)
  refine lv_iconst (v := 1) hx hb dX12_thisMap_20 (by decide) ?_
  refine lv_istore_n (lv' := [(2, .int 1), (1, .int 0), (0, .ref a0)]) hx hb dX12_thisMap_21 rfl hl (by decide) rfl (fun ls hl => ?_)
  refine lv_iconst (v := 0) hx hb dX12_thisMap_22 (by decide) ?_
  refine lv_istore_n (lv' := [(3, .int 0), (2, .int 1), (1, .int 0), (0, .ref a0)]) hx hb dX12_thisMap_23 rfl hl (by decide) rfl (fun ls hl => ?_)
  refine lv_iload_n hx hb dX12_thisMap_24 rfl (lv_at hl 0 rfl) ?_
  refine lv_aload_n hx hb dX12_thisMap_25 rfl (lv_at hl 3 rfl) ?_
  refine fg_1443 X hw 1 rfl rfl dX12_thisMap_26 ?_
  refine lv_iconst (v := 2) hx hb dX12_thisMap_29 (by decide) ?_
  refine j_iald (j := 2) (v := 0) X hw 2 rfl (by decide) (by decide) (by decide) rfl dX12_thisMap_30 ?_
  refine lv_icmp_ge (tgt := 70) hx hb dX12_thisMap_31 (by decide) (fun _ => ?_) (fun h => absurd (by decide) h)
  refine lv_iload_n hx hb dX12_thisMap_70 rfl (lv_at hl 1 rfl) ?_
  refine lv_if_eq (tgt := 76) hx hb dX12_thisMap_71 (by decide) (fun h => absurd h (by decide)) (fun _ => ?_)
  refine lv_iload_n hx hb dX12_thisMap_74 rfl (lv_at hl 2 rfl) ?_
  exact r_i X hr hlk hw [] (fun _ => 0) rfl rfl rfl (by decide) (by decide) dX12_thisMap_75
set_option maxHeartbeats 4000000 in
set_option maxRecDepth 100000 in
theorem c165_X6_harmNow (l : Launch) (D : va_G) (ct : Nat → ClassId) (a0 : Nat) (a1 : Nat) (a2 : Nat) (a3 : Nat) (a4 : Nat) (a5 : Nat) (a6 : Nat) (a7 : Nat) (a8 : Nat) (a9 : Nat) (a10 : Nat) : CI l yX6_harmNow cX6_harmNow 4 (some .int) { frames := 0, cells := 0, slots := 0, locals := 0 } D ct [.ref a0] [(a1, .inr (2, [.int 0, .int 0, .int 0, .ref a2, .ref a3, .ref a4, .int 0, .int 0, .int 0, .int 0, .int 0, .ref a5, .int 0])), (a0, .inr (6, [.int (-1), .ref a6, .ref a1, .ref a7, .ref a8, .ref a9, .ref a10, .int (-1)]))] (fun r => r = 0) (fun u => [(a1, .inr (2, [.int 0, .int 0, .int 0, .ref a2, .ref a3, .ref a4, .int 0, .int 0, .int 0, .int 0, .int 0, .ref a5, .int 0])), (a0, .inr (6, [.int (-1), .ref a6, .ref a1, .ref a7, .ref a8, .ref a9, .ref a10, .int (-1)]))]) := by
  refine CI.of (by decide +kernel) (Nat.le_of_ble_eq_true rfl) ?_
  intro p e s m below meth c A ls hE
  obtain ⟨X, hr, hlk, hnm, hw, hl⟩ := hE
  have X : CX p m c cX6_harmNow 4 s [.ref a0].toArray RX6 D ct := X
  have hl : lv_has ls 4 [(0, .ref a0)] := hl
  obtain ⟨⟨hx, hb, hml, hown, hts⟩, hK⟩ := id X
  refine lv_iconst (v := 0) hx hb dX6_harmNow_0 (by decide) ?_
  refine lv_istore_n (lv' := [(1, .int 0), (0, .ref a0)]) hx hb dX6_harmNow_1 rfl hl (by decide) rfl (fun ls hl => ?_)
  refine lv_iconst (v := 0) hx hb dX6_harmNow_2 (by decide) ?_
  refine lv_istore_n (lv' := [(2, .int 0), (1, .int 0), (0, .ref a0)]) hx hb dX6_harmNow_3 rfl hl (by decide) rfl (fun ls hl => ?_)
  refine lv_iload_n hx hb dX6_harmNow_4 rfl (lv_at hl 0 rfl) ?_
  refine lv_aload_n hx hb dX6_harmNow_5 rfl (lv_at hl 2 rfl) ?_
  refine fg_423 X hw 1 rfl rfl dX6_harmNow_6 ?_
  refine fg_212 X hw 0 rfl rfl dX6_harmNow_9 ?_
  refine lv_icmp_ge (tgt := 58) hx hb dX6_harmNow_12 (by decide) (fun _ => ?_) (fun h => absurd (by decide) h)
  refine lv_iload_n hx hb dX6_harmNow_58 rfl (lv_at hl 1 rfl) ?_
  exact r_i X hr hlk hw [0, 1] (fun _ => 0) rfl rfl rfl (by decide) (by decide) dX6_harmNow_59
set_option maxHeartbeats 4000000 in
set_option maxRecDepth 100000 in
theorem c166_X11_harm (l : Launch) (D : va_G) (ct : Nat → ClassId) (a0 : Nat) (a1 : Nat) (a2 : Nat) (a3 : Nat) (a4 : Nat) (a5 : Nat) (a6 : Nat) (a7 : Nat) (a8 : Nat) (a9 : Nat) (a10 : Nat) (a11 : Nat) (a12 : Nat) (a13 : Nat) (a14 : Nat) (a15 : Nat) (a16 : Nat) (a17 : Nat) (a18 : Nat) (a19 : Nat) (a20 : Nat) (a21 : Nat) (a22 : Nat) (a23 : Nat) (a24 : Nat) : CI l yX11_harm cX11_harm 1 (some .int) { frames := 1, cells := 0, slots := 0, locals := 23 } D ct [.ref a0] [(a0, .inr (11, [.ref a1, .int 0, .ref a2, .ref a3, .ref a4, .ref a5, .ref a6, .ref a7, .ref a8, .ref a9, .ref a10, .ref a11, .ref a12, .ref a13, .ref a14, .ref a15, .int (-1), .int (-1)])), (a2, .inr (2, [.int 0, .int 0, .int 0, .ref a16, .ref a17, .ref a18, .int 0, .int 0, .int 0, .int 0, .int 0, .ref a19, .int 0])), (a7, .inr (6, [.int (-1), .ref a20, .ref a2, .ref a21, .ref a22, .ref a23, .ref a24, .int (-1)]))] (fun r => r = 0) (fun u => []) := by
  refine CI.of (by decide +kernel) (Nat.le_of_ble_eq_true rfl) ?_
  intro p e s m below meth c A ls hE
  obtain ⟨X, hr, hlk, hnm, hw, hl⟩ := hE
  have X : CX p m c cX11_harm 1 s [.ref a0].toArray RX11 D ct := X
  have hl : lv_has ls 1 [(0, .ref a0)] := hl
  obtain ⟨⟨hx, hb, hml, hown, hts⟩, hK⟩ := id X
  refine lv_aload_n hx hb dX11_harm_0 rfl (lv_at hl 0 rfl) ?_
  refine fg_572 X hw 0 rfl rfl dX11_harm_1 ?_
  refine m_Vi (As := []) (rest := []) (c165_X6_harmNow l D ct a7 a2 a16 a17 a18 a19 a20 a21 a22 a23 a24) X hl.1 kw_1281 kd_yX6_harmNow hw [1, 2] [0] rfl rfl rfl rfl (by decide) 1 rfl rfl ⟨by decide, by decide⟩ rfl rfl (Nat.le_of_ble_eq_true rfl) dX11_harm_4 ⟨by decide, by decide⟩ (fun r1 u2 H locs hr3 hw => ?_)
  replace hw : WD D A s.heap _ _ [(a0, .inr (11, [.ref a1, .int 0, .ref a2, .ref a3, .ref a4, .ref a5, .ref a6, .ref a7, .ref a8, .ref a9, .ref a10, .ref a11, .ref a12, .ref a13, .ref a14, .ref a15, .int (-1), .int (-1)])), (a2, .inr (2, [.int 0, .int 0, .int 0, .ref a16, .ref a17, .ref a18, .int 0, .int 0, .int 0, .int 0, .int 0, .ref a19, .int 0])), (a7, .inr (6, [.int (-1), .ref a20, .ref a2, .ref a21, .ref a22, .ref a23, .ref a24, .int (-1)]))] := hw
  subst hr3
  exact r_i X hr hlk hw [] (fun _ => 0) rfl rfl rfl (by decide) (by decide) dX11_harm_7
set_option maxHeartbeats 4000000 in
set_option maxRecDepth 100000 in
theorem c167_X12_harm (l : Launch) (D : va_G) (ct : Nat → ClassId) (a0 : Nat) (a1 : Nat) (a2 : Nat) (a3 : Nat) (a4 : Nat) (a5 : Nat) (a6 : Nat) (a7 : Nat) (a8 : Nat) (a9 : Nat) (a10 : Nat) (a11 : Nat) (a12 : Nat) (a13 : Nat) (a14 : Nat) (a15 : Nat) (a16 : Nat) : CI l yX12_harm cX12_harm 4 (some .int) { frames := 0, cells := 0, slots := 0, locals := 0 } D ct [.ref a0] [(a0, .inr (12, [.int 0, .ref a1, .ref a2, .ref a3, .ref a4, .int 0, .int 0, .int 0, .int 0, .int 0, .int 0, .int 0, .int 0, .int 0, .int (-1), .ref a5, .ref a6, .ref a7, .ref a8, .int 0, .ref a9, .ref a10, .int 0, .int 0, .int 0, .ref a11, .ref a12, .ref a13, .ref a14, .ref a15, .ref a16])), (a1, .inl (ct 0, 5310, .inl fx0))] (fun r => r = 0) (fun u => []) := by
  refine CI.of (by decide +kernel) (Nat.le_of_ble_eq_true rfl) ?_
  intro p e s m below meth c A ls hE
  obtain ⟨X, hr, hlk, hnm, hw, hl⟩ := hE
  have X : CX p m c cX12_harm 4 s [.ref a0].toArray RX12 D ct := X
  have hl : lv_has ls 4 [(0, .ref a0)] := hl
  obtain ⟨⟨hx, hb, hml, hown, hts⟩, hK⟩ := id X
  refine lv_aload_n hx hb dX12_harm_0 rfl (lv_at hl 0 rfl) ?_
  refine lv_iconst (v := 0) hx hb dX12_harm_1 (by decide) ?_
  refine fp_1442 X hw 0 rfl rfl rfl (Nat.le_of_ble_eq_true rfl) dX12_harm_2 [(a0, .inr (12, [.int 0, .ref a1, .ref a2, .ref a3, .ref a4, .int 0, .int 0, .int 0, .int 0, .int 0, .int 0, .int 0, .int 0, .int 0, .int (-1), .ref a5, .ref a6, .ref a7, .ref a8, .int 0, .ref a9, .ref a10, .int 0, .int 0, .int 0, .ref a11, .ref a12, .ref a13, .ref a14, .ref a15, .ref a16])), (a1, .inl (ct 0, 5310, .inl fx0))] rfl (fun H locs hw => ?_)
  refine lv_iconst (v := 0) hx hb dX12_harm_5 (by decide) ?_
  refine lv_istore_n (lv' := [(1, .int 0), (0, .ref a0)]) hx hb dX12_harm_6 rfl hl (by decide) rfl (fun ls hl => ?_)
  refine lv_iconst (v := 0) hx hb dX12_harm_7 (by decide) ?_
  refine lv_istore_n (lv' := [(2, .int 0), (1, .int 0), (0, .ref a0)]) hx hb dX12_harm_8 rfl hl (by decide) rfl (fun ls hl => ?_)
  refine lv_iload_n hx hb dX12_harm_9 rfl (lv_at hl 0 rfl) ?_
  refine lv_aload_n hx hb dX12_harm_10 rfl (lv_at hl 2 rfl) ?_
  refine fg_1443 X hw 0 rfl rfl dX12_harm_11 ?_
  refine lv_iconst (v := 2) hx hb dX12_harm_14 (by decide) ?_
  refine j_iald (j := 2) (v := 0) X hw 1 rfl (by decide) (by decide) (by decide) rfl dX12_harm_15 ?_
  refine lv_icmp_ge (tgt := 65) hx hb dX12_harm_16 (by decide) (fun _ => ?_) (fun h => absurd (by decide) h)
  refine lv_iload_n hx hb dX12_harm_65 rfl (lv_at hl 1 rfl) ?_
  exact r_i X hr hlk hw [] (fun _ => 0) rfl rfl rfl (by decide) (by decide) dX12_harm_66
set_option maxHeartbeats 4000000 in
set_option maxRecDepth 100000 in
theorem c168_X11_envies (l : Launch) (D : va_G) (ct : Nat → ClassId) (a0 : Nat) (p0 : Int32) (a1 : Nat) (a2 : Nat) (a3 : Nat) (a4 : Nat) (a5 : Nat) (a6 : Nat) (a7 : Nat) (a8 : Nat) (a9 : Nat) (a10 : Nat) (a11 : Nat) (a12 : Nat) (a13 : Nat) (a14 : Nat) (a15 : Nat) (a16 : Nat) (a17 : Nat) (a18 : Nat) (a19 : Nat) : CI l yX11_envies cX11_envies 4 (some .int) { frames := 1, cells := 0, slots := 0, locals := 21 } D ct [.ref a0, .int p0] [(a0, .inr (11, [.ref a1, .int 0, .ref a2, .ref a3, .ref a4, .ref a5, .ref a6, .ref a7, .ref a8, .ref a9, .ref a10, .ref a11, .ref a12, .ref a13, .ref a14, .ref a15, .int (-1), .int (-1)])), (a2, .inr (2, [.int 0, .int 0, .int 0, .ref a16, .ref a17, .ref a18, .int 0, .int 0, .int 0, .int 0, .int 0, .ref a19, .int 0]))] (fun r => r = (-2)) (fun u => []) := by
  refine CI.of (by decide +kernel) (Nat.le_of_ble_eq_true rfl) ?_
  intro p e s m below meth c A ls hE
  obtain ⟨X, hr, hlk, hnm, hw, hl⟩ := hE
  have X : CX p m c cX11_envies 4 s [.ref a0, .int p0].toArray RX11 D ct := X
  have hl : lv_has ls 4 [(0, .ref a0), (1, .int p0)] := hl
  obtain ⟨⟨hx, hb, hml, hown, hts⟩, hK⟩ := id X
  refine lv_aload_n hx hb dX11_envies_0 rfl (lv_at hl 0 rfl) ?_
  refine lv_iload_n hx hb dX11_envies_1 rfl (lv_at hl 1 rfl) ?_
  refine m_Vi (As := [.int p0]) (rest := []) (c47_X11_isHousehold l D ct a0 p0 a1 a2 a3 a4 a5 a6 a7 a8 a9 a10 a11 a12 a13 a14 a15 a16 a17 a18 a19) X hl.1 kw_891 kd_yX11_isHousehold hw [0, 1] [] rfl rfl rfl rfl (by decide) 0 rfl rfl ⟨by decide, by decide⟩ rfl rfl (Nat.le_of_ble_eq_true rfl) dX11_envies_2 ⟨by decide, by decide⟩ (fun r1 u2 H locs hr3 hw => ?_)
  replace hw : WD D A s.heap _ _ [(a0, .inr (11, [.ref a1, .int 0, .ref a2, .ref a3, .ref a4, .ref a5, .ref a6, .ref a7, .ref a8, .ref a9, .ref a10, .ref a11, .ref a12, .ref a13, .ref a14, .ref a15, .int (-1), .int (-1)])), (a2, .inr (2, [.int 0, .int 0, .int 0, .ref a16, .ref a17, .ref a18, .int 0, .int 0, .int 0, .int 0, .int 0, .ref a19, .int 0]))] := hw
  subst hr3
  refine lv_if_ne (tgt := 11) hx hb dX11_envies_5 (by decide) (fun h => absurd rfl h) (fun _ => ?_)
  refine lv_bipush (v := (-2)) hx hb dX11_envies_8 (by decide) ?_
  exact r_i X hr hlk hw [] (fun _ => 0) rfl rfl rfl (by decide) (by decide) dX11_envies_10
set_option maxHeartbeats 4000000 in
set_option maxRecDepth 100000 in
theorem c169_X12_envies (l : Launch) (D : va_G) (ct : Nat → ClassId) (a0 : Nat) (p0 : Int32) (a1 : Nat) (a2 : Nat) (a3 : Nat) (a4 : Nat) (a5 : Nat) (a6 : Nat) (a7 : Nat) (a8 : Nat) (a9 : Nat) (a10 : Nat) (a11 : Nat) (a12 : Nat) (a13 : Nat) (a14 : Nat) (a15 : Nat) (a16 : Nat) : CI l yX12_envies cX12_envies 4 (some .int) { frames := 2, cells := 0, slots := 0, locals := 47 } D ct [.ref a0, .int p0] [(a0, .inr (12, [.int 0, .ref a1, .ref a2, .ref a3, .ref a4, .int 0, .int 0, .int 0, .int 0, .int 0, .int 0, .int 0, .int 0, .int 0, .int (-1), .ref a5, .ref a6, .ref a7, .ref a8, .int 0, .ref a9, .ref a10, .int 0, .int 0, .int 0, .ref a11, .ref a12, .ref a13, .ref a14, .ref a15, .ref a16])), (a1, .inl (ct 0, 5310, .inl fx0))] (fun r => r = (-2)) (fun u => []) := by
  refine CI.of (by decide +kernel) (Nat.le_of_ble_eq_true rfl) ?_
  intro p e s m below meth c A ls hE
  obtain ⟨X, hr, hlk, hnm, hw, hl⟩ := hE
  have X : CX p m c cX12_envies 4 s [.ref a0, .int p0].toArray RX12 D ct := X
  have hl : lv_has ls 4 [(0, .ref a0), (1, .int p0)] := hl
  obtain ⟨⟨hx, hb, hml, hown, hts⟩, hK⟩ := id X
  refine lv_aload_n hx hb dX12_envies_0 rfl (lv_at hl 0 rfl) ?_
  refine lv_iconst (v := 0) hx hb dX12_envies_1 (by decide) ?_
  refine fp_1442 X hw 0 rfl rfl rfl (Nat.le_of_ble_eq_true rfl) dX12_envies_2 [(a0, .inr (12, [.int 0, .ref a1, .ref a2, .ref a3, .ref a4, .int 0, .int 0, .int 0, .int 0, .int 0, .int 0, .int 0, .int 0, .int 0, .int (-1), .ref a5, .ref a6, .ref a7, .ref a8, .int 0, .ref a9, .ref a10, .int 0, .int 0, .int 0, .ref a11, .ref a12, .ref a13, .ref a14, .ref a15, .ref a16])), (a1, .inl (ct 0, 5310, .inl fx0))] rfl (fun H locs hw => ?_)
  refine lv_aload_n hx hb dX12_envies_5 rfl (lv_at hl 0 rfl) ?_
  refine lv_iload_n hx hb dX12_envies_6 rfl (lv_at hl 1 rfl) ?_
  refine lv_i2l (v := p0.toInt64) hx hb dX12_envies_7 rfl ?_
  refine m_Vi (As := [.long p0.toInt64]) (rest := []) (c49_X12_isHousehold l D ct a0 (p0.toInt64) a1 a2 a3 a4 a5 a6 a7 a8 a9 a10 a11 a12 a13 a14 a15 a16) X hl.1 kw_1667 kd_yX12_isHousehold hw [0, 1] [] rfl rfl rfl rfl (by decide) 0 rfl rfl ⟨by decide, by decide⟩ rfl rfl (Nat.le_of_ble_eq_true rfl) dX12_envies_8 ⟨by decide, by decide⟩ (fun r1 u2 H locs hr3 hw => ?_)
  replace hw : WD D A s.heap _ _ [(a0, .inr (12, [.int 0, .ref a1, .ref a2, .ref a3, .ref a4, .int 0, .int 0, .int 0, .int 0, .int 0, .int 0, .int 0, .int 0, .int 0, .int (-1), .ref a5, .ref a6, .ref a7, .ref a8, .int 0, .ref a9, .ref a10, .int 0, .int 0, .int 0, .ref a11, .ref a12, .ref a13, .ref a14, .ref a15, .ref a16])), (a1, .inl (ct 0, 5310, .inl fx0))] := hw
  subst hr3
  refine lv_if_ne (tgt := 17) hx hb dX12_envies_11 (by decide) (fun h => absurd rfl h) (fun _ => ?_)
  refine lv_bipush (v := (-2)) hx hb dX12_envies_14 (by decide) ?_
  exact r_i X hr hlk hw [] (fun _ => 0) rfl rfl rfl (by decide) (by decide) dX12_envies_16
set_option maxHeartbeats 4000000 in
set_option maxRecDepth 100000 in
theorem c170_X11_wouldSwap (l : Launch) (D : va_G) (ct : Nat → ClassId) (a0 : Nat) (a1 : Nat) (a2 : Nat) (a3 : Nat) (a4 : Nat) (a5 : Nat) (a6 : Nat) (a7 : Nat) (a8 : Nat) (a9 : Nat) (a10 : Nat) (a11 : Nat) (a12 : Nat) (a13 : Nat) (a14 : Nat) (a15 : Nat) (a16 : Nat) (a17 : Nat) (a18 : Nat) (a19 : Nat) (a20 : Nat) (a21 : Nat) (a22 : Nat) (a23 : Nat) : CI l yX11_wouldSwap cX11_wouldSwap 3 (some .int) { frames := 1, cells := 0, slots := 0, locals := 23 } D ct [.ref a0] [(a0, .inr (11, [.ref a1, .int 0, .ref a2, .ref a3, .ref a4, .ref a5, .ref a6, .ref a7, .ref a8, .ref a9, .ref a10, .ref a11, .ref a12, .ref a13, .ref a14, .ref a15, .int (-1), .int (-1)])), (a2, .inr (2, [.int 0, .int 0, .int 0, .ref a16, .ref a17, .ref a18, .int 0, .int 0, .int 0, .int 0, .int 0, .ref a19, .int 0])), (a4, .inr (9, [.ref a20, .ref a21, .ref a2, .ref a22, .ref a23, .int (-1)]))] (fun r => r = (-1)) (fun u => []) := by
  refine CI.of (by decide +kernel) (Nat.le_of_ble_eq_true rfl) ?_
  intro p e s m below meth c A ls hE
  obtain ⟨X, hr, hlk, hnm, hw, hl⟩ := hE
  have X : CX p m c cX11_wouldSwap 3 s [.ref a0].toArray RX11 D ct := X
  have hl : lv_has ls 3 [(0, .ref a0)] := hl
  obtain ⟨⟨hx, hb, hml, hown, hts⟩, hK⟩ := id X
  refine lv_aload_n hx hb dX11_wouldSwap_0 rfl (lv_at hl 0 rfl) ?_
  refine fg_569 X hw 0 rfl rfl dX11_wouldSwap_1 ?_
  refine m_Vv (As := []) (rest := []) (c60_X9_refresh l D ct a4 a2 a16 a17 a18 a19 a20 a21 a22 a23) X hl.1 kw_911 kd_yX9_refresh hw [1, 2] [0] rfl rfl rfl rfl (by decide) 1 rfl rfl ⟨by decide, by decide⟩ rfl rfl (Nat.le_of_ble_eq_true rfl) dX11_wouldSwap_4 ⟨by decide, by decide⟩ (fun u2 H locs hr3 hw => ?_)
  replace hw : WD D A s.heap _ _ [(a0, .inr (11, [.ref a1, .int 0, .ref a2, .ref a3, .ref a4, .ref a5, .ref a6, .ref a7, .ref a8, .ref a9, .ref a10, .ref a11, .ref a12, .ref a13, .ref a14, .ref a15, .int (-1), .int (-1)])), (a2, .inr (2, [.int 0, .int 0, .int 0, .ref a16, .ref a17, .ref a18, .int 0, .int 0, .int 0, .int 0, .int 0, .ref a19, .int 0])), (a4, .inr (9, [.ref a20, .ref a21, .ref a2, .ref a22, .ref a23, .int 0]))] := hw
  refine lv_iconst (v := 0) hx hb dX11_wouldSwap_7 (by decide) ?_
  refine lv_istore_n (lv' := [(1, .int 0), (0, .ref a0)]) hx hb dX11_wouldSwap_8 rfl hl (by decide) rfl (fun ls hl => ?_)
  refine lv_iload_n hx hb dX11_wouldSwap_9 rfl (lv_at hl 0 rfl) ?_
  refine lv_aload_n hx hb dX11_wouldSwap_10 rfl (lv_at hl 1 rfl) ?_
  refine fg_567 X hw 0 rfl rfl dX11_wouldSwap_11 ?_
  refine fg_225 X hw 1 rfl rfl dX11_wouldSwap_14 ?_
  refine lv_icmp_ge (tgt := 78) hx hb dX11_wouldSwap_17 (by decide) (fun _ => ?_) (fun h => absurd (by decide) h)
  refine lv_iconst (v := (-1)) hx hb dX11_wouldSwap_78 (by decide) ?_
  exact r_i X hr hlk hw [] (fun _ => 0) rfl rfl rfl (by decide) (by decide) dX11_wouldSwap_79
set_option maxHeartbeats 4000000 in
set_option maxRecDepth 100000 in
theorem c171_X12_wouldSwap (l : Launch) (D : va_G) (ct : Nat → ClassId) (a0 : Nat) (a1 : Nat) (a2 : Nat) (a3 : Nat) (a4 : Nat) (a5 : Nat) (a6 : Nat) (a7 : Nat) (a8 : Nat) (a9 : Nat) (a10 : Nat) (a11 : Nat) (a12 : Nat) (a13 : Nat) (a14 : Nat) (a15 : Nat) (a16 : Nat) : CI l yX12_wouldSwap cX12_wouldSwap 3 (some .int) { frames := 0, cells := 0, slots := 0, locals := 0 } D ct [.ref a0] [(a0, .inr (12, [.int 0, .ref a1, .ref a2, .ref a3, .ref a4, .int 0, .int 0, .int 0, .int 0, .int 0, .int 0, .int 0, .int 0, .int 0, .int (-1), .ref a5, .ref a6, .ref a7, .ref a8, .int 0, .ref a9, .ref a10, .int 0, .int 0, .int 0, .ref a11, .ref a12, .ref a13, .ref a14, .ref a15, .ref a16])), (a1, .inl (ct 0, 5310, .inl fx0))] (fun r => r = (-1)) (fun u => []) := by
  refine CI.of (by decide +kernel) (Nat.le_of_ble_eq_true rfl) ?_
  intro p e s m below meth c A ls hE
  obtain ⟨X, hr, hlk, hnm, hw, hl⟩ := hE
  have X : CX p m c cX12_wouldSwap 3 s [.ref a0].toArray RX12 D ct := X
  have hl : lv_has ls 3 [(0, .ref a0)] := hl
  obtain ⟨⟨hx, hb, hml, hown, hts⟩, hK⟩ := id X
  refine lv_aload_n hx hb dX12_wouldSwap_0 rfl (lv_at hl 0 rfl) ?_
  refine lv_iconst (v := 0) hx hb dX12_wouldSwap_1 (by decide) ?_
  refine fp_1442 X hw 0 rfl rfl rfl (Nat.le_of_ble_eq_true rfl) dX12_wouldSwap_2 [(a0, .inr (12, [.int 0, .ref a1, .ref a2, .ref a3, .ref a4, .int 0, .int 0, .int 0, .int 0, .int 0, .int 0, .int 0, .int 0, .int 0, .int (-1), .ref a5, .ref a6, .ref a7, .ref a8, .int 0, .ref a9, .ref a10, .int 0, .int 0, .int 0, .ref a11, .ref a12, .ref a13, .ref a14, .ref a15, .ref a16])), (a1, .inl (ct 0, 5310, .inl fx0))] rfl (fun H locs hw => ?_)
  refine lv_iconst (v := 0) hx hb dX12_wouldSwap_5 (by decide) ?_
  refine lv_istore_n (lv' := [(1, .int 0), (0, .ref a0)]) hx hb dX12_wouldSwap_6 rfl hl (by decide) rfl (fun ls hl => ?_)
  refine lv_iload_n hx hb dX12_wouldSwap_7 rfl (lv_at hl 0 rfl) ?_
  refine lv_aload_n hx hb dX12_wouldSwap_8 rfl (lv_at hl 1 rfl) ?_
  refine fg_1443 X hw 0 rfl rfl dX12_wouldSwap_9 ?_
  refine lv_iconst (v := 2) hx hb dX12_wouldSwap_12 (by decide) ?_
  refine j_iald (j := 2) (v := 0) X hw 1 rfl (by decide) (by decide) (by decide) rfl dX12_wouldSwap_13 ?_
  refine lv_icmp_ge (tgt := 68) hx hb dX12_wouldSwap_14 (by decide) (fun _ => ?_) (fun h => absurd (by decide) h)
  refine lv_iconst (v := (-1)) hx hb dX12_wouldSwap_68 (by decide) ?_
  exact r_i X hr hlk hw [] (fun _ => 0) rfl rfl rfl (by decide) (by decide) dX12_wouldSwap_69
set_option maxHeartbeats 4000000 in
set_option maxRecDepth 100000 in
theorem c172_X11_byRings (l : Launch) (D : va_G) (ct : Nat → ClassId) (a0 : Nat) (p0 : Int32) (a1 : Nat) (a2 : Nat) (a3 : Nat) (a4 : Nat) (a5 : Nat) (a6 : Nat) (a7 : Nat) (a8 : Nat) (a9 : Nat) (a10 : Nat) (a11 : Nat) (a12 : Nat) (a13 : Nat) (a14 : Nat) (a15 : Nat) (a16 : Nat) (a17 : Nat) (a18 : Nat) (a19 : Nat) : CI l yX11_byRings cX11_byRings 2 (some .int) { frames := 1, cells := 0, slots := 0, locals := 21 } D ct [.ref a0, .int p0] [(a0, .inr (11, [.ref a1, .int 0, .ref a2, .ref a3, .ref a4, .ref a5, .ref a6, .ref a7, .ref a8, .ref a9, .ref a10, .ref a11, .ref a12, .ref a13, .ref a14, .ref a15, .int (-1), .int (-1)])), (a2, .inr (2, [.int 0, .int 0, .int 0, .ref a16, .ref a17, .ref a18, .int 0, .int 0, .int 0, .int 0, .int 0, .ref a19, .int 0]))] (fun r => r = (-2)) (fun u => []) := by
  refine CI.of (by decide +kernel) (Nat.le_of_ble_eq_true rfl) ?_
  intro p e s m below meth c A ls hE
  obtain ⟨X, hr, hlk, hnm, hw, hl⟩ := hE
  have X : CX p m c cX11_byRings 2 s [.ref a0, .int p0].toArray RX11 D ct := X
  have hl : lv_has ls 2 [(0, .ref a0), (1, .int p0)] := hl
  obtain ⟨⟨hx, hb, hml, hown, hts⟩, hK⟩ := id X
  refine lv_aload_n hx hb dX11_byRings_0 rfl (lv_at hl 0 rfl) ?_
  refine lv_iload_n hx hb dX11_byRings_1 rfl (lv_at hl 1 rfl) ?_
  refine m_Vi (As := [.int p0]) (rest := []) (c47_X11_isHousehold l D ct a0 p0 a1 a2 a3 a4 a5 a6 a7 a8 a9 a10 a11 a12 a13 a14 a15 a16 a17 a18 a19) X hl.1 kw_891 kd_yX11_isHousehold hw [0, 1] [] rfl rfl rfl rfl (by decide) 0 rfl rfl ⟨by decide, by decide⟩ rfl rfl (Nat.le_of_ble_eq_true rfl) dX11_byRings_2 ⟨by decide, by decide⟩ (fun r1 u2 H locs hr3 hw => ?_)
  replace hw : WD D A s.heap _ _ [(a0, .inr (11, [.ref a1, .int 0, .ref a2, .ref a3, .ref a4, .ref a5, .ref a6, .ref a7, .ref a8, .ref a9, .ref a10, .ref a11, .ref a12, .ref a13, .ref a14, .ref a15, .int (-1), .int (-1)])), (a2, .inr (2, [.int 0, .int 0, .int 0, .ref a16, .ref a17, .ref a18, .int 0, .int 0, .int 0, .int 0, .int 0, .ref a19, .int 0]))] := hw
  subst hr3
  refine lv_if_ne (tgt := 11) hx hb dX11_byRings_5 (by decide) (fun h => absurd rfl h) (fun _ => ?_)
  refine lv_bipush (v := (-2)) hx hb dX11_byRings_8 (by decide) ?_
  exact r_i X hr hlk hw [] (fun _ => 0) rfl rfl rfl (by decide) (by decide) dX11_byRings_10
set_option maxHeartbeats 4000000 in
set_option maxRecDepth 100000 in
theorem c173_X12_byRings (l : Launch) (D : va_G) (ct : Nat → ClassId) (a0 : Nat) (p0 : Int32) (a1 : Nat) (a2 : Nat) (a3 : Nat) (a4 : Nat) (a5 : Nat) (a6 : Nat) (a7 : Nat) (a8 : Nat) (a9 : Nat) (a10 : Nat) (a11 : Nat) (a12 : Nat) (a13 : Nat) (a14 : Nat) (a15 : Nat) (a16 : Nat) : CI l yX12_byRings cX12_byRings 2 (some .int) { frames := 2, cells := 0, slots := 0, locals := 47 } D ct [.ref a0, .int p0] [(a0, .inr (12, [.int 0, .ref a1, .ref a2, .ref a3, .ref a4, .int 0, .int 0, .int 0, .int 0, .int 0, .int 0, .int 0, .int 0, .int 0, .int (-1), .ref a5, .ref a6, .ref a7, .ref a8, .int 0, .ref a9, .ref a10, .int 0, .int 0, .int 0, .ref a11, .ref a12, .ref a13, .ref a14, .ref a15, .ref a16])), (a1, .inl (ct 0, 5310, .inl fx0))] (fun r => r = (-2)) (fun u => []) := by
  refine CI.of (by decide +kernel) (Nat.le_of_ble_eq_true rfl) ?_
  intro p e s m below meth c A ls hE
  obtain ⟨X, hr, hlk, hnm, hw, hl⟩ := hE
  have X : CX p m c cX12_byRings 2 s [.ref a0, .int p0].toArray RX12 D ct := X
  have hl : lv_has ls 2 [(0, .ref a0), (1, .int p0)] := hl
  obtain ⟨⟨hx, hb, hml, hown, hts⟩, hK⟩ := id X
  refine lv_aload_n hx hb dX12_byRings_0 rfl (lv_at hl 0 rfl) ?_
  refine lv_iconst (v := 0) hx hb dX12_byRings_1 (by decide) ?_
  refine fp_1442 X hw 0 rfl rfl rfl (Nat.le_of_ble_eq_true rfl) dX12_byRings_2 [(a0, .inr (12, [.int 0, .ref a1, .ref a2, .ref a3, .ref a4, .int 0, .int 0, .int 0, .int 0, .int 0, .int 0, .int 0, .int 0, .int 0, .int (-1), .ref a5, .ref a6, .ref a7, .ref a8, .int 0, .ref a9, .ref a10, .int 0, .int 0, .int 0, .ref a11, .ref a12, .ref a13, .ref a14, .ref a15, .ref a16])), (a1, .inl (ct 0, 5310, .inl fx0))] rfl (fun H locs hw => ?_)
  refine lv_aload_n hx hb dX12_byRings_5 rfl (lv_at hl 0 rfl) ?_
  refine lv_iload_n hx hb dX12_byRings_6 rfl (lv_at hl 1 rfl) ?_
  refine lv_i2l (v := p0.toInt64) hx hb dX12_byRings_7 rfl ?_
  refine m_Vi (As := [.long p0.toInt64]) (rest := []) (c49_X12_isHousehold l D ct a0 (p0.toInt64) a1 a2 a3 a4 a5 a6 a7 a8 a9 a10 a11 a12 a13 a14 a15 a16) X hl.1 kw_1667 kd_yX12_isHousehold hw [0, 1] [] rfl rfl rfl rfl (by decide) 0 rfl rfl ⟨by decide, by decide⟩ rfl rfl (Nat.le_of_ble_eq_true rfl) dX12_byRings_8 ⟨by decide, by decide⟩ (fun r1 u2 H locs hr3 hw => ?_)
  replace hw : WD D A s.heap _ _ [(a0, .inr (12, [.int 0, .ref a1, .ref a2, .ref a3, .ref a4, .int 0, .int 0, .int 0, .int 0, .int 0, .int 0, .int 0, .int 0, .int 0, .int (-1), .ref a5, .ref a6, .ref a7, .ref a8, .int 0, .ref a9, .ref a10, .int 0, .int 0, .int 0, .ref a11, .ref a12, .ref a13, .ref a14, .ref a15, .ref a16])), (a1, .inl (ct 0, 5310, .inl fx0))] := hw
  subst hr3
  refine lv_if_ne (tgt := 17) hx hb dX12_byRings_11 (by decide) (fun h => absurd rfl h) (fun _ => ?_)
  refine lv_bipush (v := (-2)) hx hb dX12_byRings_14 (by decide) ?_
  exact r_i X hr hlk hw [] (fun _ => 0) rfl rfl rfl (by decide) (by decide) dX12_byRings_16
set_option maxHeartbeats 4000000 in
set_option maxRecDepth 100000 in
theorem c174_X11_ringsMany (l : Launch) (D : va_G) (ct : Nat → ClassId) (a0 : Nat) (a1 : Nat) (a2 : Nat) (a3 : Nat) (a4 : Nat) (a5 : Nat) (a6 : Nat) (a7 : Nat) (a8 : Nat) (a9 : Nat) (a10 : Nat) (a11 : Nat) (a12 : Nat) (a13 : Nat) (a14 : Nat) (a15 : Nat) (a16 : Nat) (a17 : Nat) (a18 : Nat) (a19 : Nat) (a20 : Nat) (a21 : Nat) (a22 : Nat) (a23 : Nat) (a24 : Nat) (a25 : Nat) : CI l yX11_ringsMany cX11_ringsMany 1 (some .int) { frames := 1, cells := 0, slots := 0, locals := 23 } D ct [.ref a0] [(a0, .inr (11, [.ref a1, .int 0, .ref a2, .ref a3, .ref a4, .ref a5, .ref a6, .ref a7, .ref a8, .ref a9, .ref a10, .ref a11, .ref a12, .ref a13, .ref a14, .ref a15, .int (-1), .int (-1)])), (a2, .inr (2, [.int 0, .int 0, .int 0, .ref a16, .ref a17, .ref a18, .int 0, .int 0, .int 0, .int 0, .int 0, .ref a19, .int 0])), (a4, .inr (9, [.ref a20, .ref a21, .ref a2, .ref a22, .ref a23, .int (-1)])), (a6, .inr (8, [.ref a24, .int 0, .int 0, .ref a25, .ref a2, .ref a4]))] (fun r => r = 0) (fun u => []) := by
  refine CI.of (by decide +kernel) (Nat.le_of_ble_eq_true rfl) ?_
  intro p e s m below meth c A ls hE
  obtain ⟨X, hr, hlk, hnm, hw, hl⟩ := hE
  have X : CX p m c cX11_ringsMany 1 s [.ref a0].toArray RX11 D ct := X
  have hl : lv_has ls 1 [(0, .ref a0)] := hl
  obtain ⟨⟨hx, hb, hml, hown, hts⟩, hK⟩ := id X
  refine lv_aload_n hx hb dX11_ringsMany_0 rfl (lv_at hl 0 rfl) ?_
  refine fg_569 X hw 0 rfl rfl dX11_ringsMany_1 ?_
  refine m_Vv (As := []) (rest := []) (c60_X9_refresh l D ct a4 a2 a16 a17 a18 a19 a20 a21 a22 a23) X hl.1 kw_911 kd_yX9_refresh hw [1, 2] [0, 3] rfl rfl rfl rfl (by decide) 1 rfl rfl ⟨by decide, by decide⟩ rfl rfl (Nat.le_of_ble_eq_true rfl) dX11_ringsMany_4 ⟨by decide, by decide⟩ (fun u2 H locs hr3 hw => ?_)
  replace hw : WD D A s.heap _ _ [(a0, .inr (11, [.ref a1, .int 0, .ref a2, .ref a3, .ref a4, .ref a5, .ref a6, .ref a7, .ref a8, .ref a9, .ref a10, .ref a11, .ref a12, .ref a13, .ref a14, .ref a15, .int (-1), .int (-1)])), (a6, .inr (8, [.ref a24, .int 0, .int 0, .ref a25, .ref a2, .ref a4])), (a2, .inr (2, [.int 0, .int 0, .int 0, .ref a16, .ref a17, .ref a18, .int 0, .int 0, .int 0, .int 0, .int 0, .ref a19, .int 0])), (a4, .inr (9, [.ref a20, .ref a21, .ref a2, .ref a22, .ref a23, .int 0]))] := hw
  refine lv_aload_n hx hb dX11_ringsMany_7 rfl (lv_at hl 0 rfl) ?_
  refine fg_571 X hw 0 rfl rfl dX11_ringsMany_8 ?_
  refine m_Vv (As := []) (rest := []) (c76_X8_turn l D ct a6 a24 a25 a2 a4 a16 a17 a18 a19) X hl.1 kw_1303 kd_yX8_turn hw [1, 2] [0, 3] rfl rfl rfl rfl (by decide) 0 rfl rfl ⟨by decide, by decide⟩ rfl rfl (Nat.le_of_ble_eq_true rfl) dX11_ringsMany_11 ⟨by decide, by decide⟩ (fun u5 H locs hr6 hw => ?_)
  replace hw : WD D A s.heap _ _ [(a0, .inr (11, [.ref a1, .int 0, .ref a2, .ref a3, .ref a4, .ref a5, .ref a6, .ref a7, .ref a8, .ref a9, .ref a10, .ref a11, .ref a12, .ref a13, .ref a14, .ref a15, .int (-1), .int (-1)])), (a4, .inr (9, [.ref a20, .ref a21, .ref a2, .ref a22, .ref a23, .int 0])), (a6, .inr (8, [.ref a24, .int 0, .int 0, .ref a25, .ref a2, .ref a4])), (a2, .inr (2, [.int 0, .int 0, .int 0, .ref a16, .ref a17, .ref a18, .int 0, .int 0, .int 0, .int 0, .int 0, .ref a19, .int 0]))] := hw
  refine lv_aload_n hx hb dX11_ringsMany_14 rfl (lv_at hl 0 rfl) ?_
  refine fg_571 X hw 0 rfl rfl dX11_ringsMany_15 ?_
  refine fg_393 X hw 2 rfl rfl dX11_ringsMany_18 ?_
  exact r_i X hr hlk hw [] (fun _ => 0) rfl rfl rfl (by decide) (by decide) dX11_ringsMany_21
set_option maxHeartbeats 4000000 in
set_option maxRecDepth 100000 in
theorem c175_X12_ringsMany (l : Launch) (D : va_G) (ct : Nat → ClassId) (a0 : Nat) (a1 : Nat) (a2 : Nat) (a3 : Nat) (a4 : Nat) (a5 : Nat) (a6 : Nat) (a7 : Nat) (a8 : Nat) (a9 : Nat) (a10 : Nat) (a11 : Nat) (a12 : Nat) (a13 : Nat) (a14 : Nat) (a15 : Nat) (a16 : Nat) : CI l yX12_ringsMany cX12_ringsMany 1 (some .int) { frames := 2, cells := 0, slots := 0, locals := 46 } D ct [.ref a0] [(a0, .inr (12, [.int 0, .ref a1, .ref a2, .ref a3, .ref a4, .int 0, .int 0, .int 0, .int 0, .int 0, .int 0, .int 0, .int 0, .int 0, .int (-1), .ref a5, .ref a6, .ref a7, .ref a8, .int 0, .ref a9, .ref a10, .int 0, .int 0, .int 0, .ref a11, .ref a12, .ref a13, .ref a14, .ref a15, .ref a16])), (a1, .inl (ct 0, 5310, .inl fx0))] (fun r => r = 0) (fun u => []) := by
  refine CI.of (by decide +kernel) (Nat.le_of_ble_eq_true rfl) ?_
  intro p e s m below meth c A ls hE
  obtain ⟨X, hr, hlk, hnm, hw, hl⟩ := hE
  have X : CX p m c cX12_ringsMany 1 s [.ref a0].toArray RX12 D ct := X
  have hl : lv_has ls 1 [(0, .ref a0)] := hl
  obtain ⟨⟨hx, hb, hml, hown, hts⟩, hK⟩ := id X
  refine lv_aload_n hx hb dX12_ringsMany_0 rfl (lv_at hl 0 rfl) ?_
  refine lv_iconst (v := 0) hx hb dX12_ringsMany_1 (by decide) ?_
  refine fp_1442 X hw 0 rfl rfl rfl (Nat.le_of_ble_eq_true rfl) dX12_ringsMany_2 [(a0, .inr (12, [.int 0, .ref a1, .ref a2, .ref a3, .ref a4, .int 0, .int 0, .int 0, .int 0, .int 0, .int 0, .int 0, .int 0, .int 0, .int (-1), .ref a5, .ref a6, .ref a7, .ref a8, .int 0, .ref a9, .ref a10, .int 0, .int 0, .int 0, .ref a11, .ref a12, .ref a13, .ref a14, .ref a15, .ref a16])), (a1, .inl (ct 0, 5310, .inl fx0))] rfl (fun H locs hw => ?_)
  refine lv_aload_n hx hb dX12_ringsMany_5 rfl (lv_at hl 0 rfl) ?_
  refine m_Vv (As := []) (rest := []) (c80_X12_laysRings l D ct a0 a1 a2 a3 a4 a5 a6 a7 a8 a9 a10 a11 a12 a13 a14 a15 a16) X hl.1 kw_1754 kd_yX12_laysRings hw [0, 1] [] rfl rfl rfl rfl (by decide) 0 rfl rfl ⟨by decide, by decide⟩ rfl rfl (Nat.le_of_ble_eq_true rfl) dX12_ringsMany_6 ⟨by decide, by decide⟩ (fun u2 H locs hr3 hw => ?_)
  replace hw : WD D A s.heap _ _ [(a0, .inr (12, [.int 0, .ref a1, .ref a2, .ref a3, .ref a4, .int 0, .int 0, .int 0, .int 0, .int 0, .int 0, .int 0, .int 0, .int 0, .int (-1), .ref a5, .ref a6, .ref a7, .ref a8, .int 0, .ref a9, .ref a10, .int 0, .int 0, .int 0, .ref a11, .ref a12, .ref a13, .ref a14, .ref a15, .ref a16])), (a1, .inl (ct 0, 5310, .inl fx0))] := hw
  refine lv_aload_n hx hb dX12_ringsMany_9 rfl (lv_at hl 0 rfl) ?_
  refine fg_1464 X hw 0 rfl rfl dX12_ringsMany_10 ?_
  exact r_i X hr hlk hw [] (fun _ => 0) rfl rfl rfl (by decide) (by decide) dX12_ringsMany_13
set_option maxHeartbeats 4000000 in
set_option maxRecDepth 100000 in
theorem c176_X5_find (l : Launch) (D : va_G) (ct : Nat → ClassId) (a0 : Nat) (a1 : Nat) (a2 : Nat) (a3 : Nat) (a4 : Nat) (a5 : Nat) (a6 : Nat) : CV l yX5_find cX5_find 7 none { frames := 0, cells := 0, slots := 0, locals := 0 } D ct [.ref a0, .int 0, .ref a1] [(a0, .inr (5, [.ref a2, .ref a3, .ref a4, .ref a5, .ref a6, .int 0, .int 0]))] True (fun u => [(a0, .inr (5, [.ref a2, .ref a3, .ref a4, .ref a5, .ref a6, .int 0, .int 0]))]) := by
  refine CV.of (by decide +kernel) (Nat.le_of_ble_eq_true rfl) ?_
  intro p e s m below meth c A ls hE
  obtain ⟨X, hr, hlk, hnm, hw, hl⟩ := hE
  have X : CX p m c cX5_find 7 s [.ref a0, .int 0, .ref a1].toArray RX5 D ct := X
  have hl : lv_has ls 7 [(0, .ref a0), (1, .int 0), (2, .ref a1)] := hl
  obtain ⟨⟨hx, hb, hml, hown, hts⟩, hK⟩ := id X
  refine lv_iload_n hx hb dX5_find_0 rfl (lv_at hl 1 rfl) ?_
  refine lv_istore_n (lv' := [(3, .int 0), (0, .ref a0), (1, .int 0), (2, .ref a1)]) hx hb dX5_find_1 rfl hl (by decide) rfl (fun ls hl => ?_)
  refine lv_iconst (v := 0) hx hb dX5_find_2 (by decide) ?_
  refine lv_istore (lv' := [(4, .int 0), (3, .int 0), (0, .ref a0), (1, .int 0), (2, .ref a1)]) hx hb dX5_find_3 hl (by decide) rfl (fun ls hl => ?_)
  refine lv_iconst (v := 0) hx hb dX5_find_5 (by decide) ?_
  refine lv_istore (lv' := [(5, .int 0), (4, .int 0), (3, .int 0), (0, .ref a0), (1, .int 0), (2, .ref a1)]) hx hb dX5_find_6 hl (by decide) rfl (fun ls hl => ?_)
  refine lv_iload hx hb dX5_find_8 (lv_at hl 0 rfl) ?_
  refine lv_aload_n hx hb dX5_find_10 rfl (lv_at hl 3 rfl) ?_
  refine fg_366 X hw 0 rfl rfl dX5_find_11 ?_
  refine lv_icmp_ge (tgt := 119) hx hb dX5_find_14 (by decide) (fun _ => ?_) (fun h => absurd (by decide) h)
  exact r_v X hr hlk hw [0] (fun _ => 0) rfl rfl trivial (by decide) (by decide) dX5_find_119
set_option maxHeartbeats 4000000 in
set_option maxRecDepth 100000 in
theorem c177_X3_gather (l : Launch) (D : va_G) (ct : Nat → ClassId) (a0 : Nat) (a1 : Nat) (a2 : Nat) (a3 : Nat) (a4 : Nat) (a5 : Nat) (a6 : Nat) (a7 : Nat) (a8 : Nat) (a9 : Nat) (a10 : Nat) (a11 : Nat) (a12 : Nat) (a13 : Nat) (a14 : Nat) : CI l yX3_gather cX3_gather 5 (some .int) { frames := 0, cells := 0, slots := 0, locals := 0 } D ct [.ref a0, .ref a1] [(a0, .inr (3, [.ref a2, .int 0, .ref a3, .ref a4, .ref a5, .ref a6, .ref a7, .ref a8, .ref a9, .ref a10])), (a2, .inr (2, [.int 0, .int 0, .int 0, .ref a11, .ref a12, .ref a13, .int 0, .int 0, .int 0, .int 0, .int 0, .ref a14, .int 0]))] (fun r => r = 1) (fun u => [(a0, .inr (3, [.ref a2, .int 0, .ref a3, .ref a4, .ref a5, .ref a6, .ref a7, .ref a8, .ref a9, .ref a10])), (a2, .inr (2, [.int 0, .int 0, .int 0, .ref a11, .ref a12, .ref a13, .int 0, .int 0, .int 0, .int 0, .int 0, .ref a14, .int 0]))]) := by
  refine CI.of (by decide +kernel) (Nat.le_of_ble_eq_true rfl) ?_
  intro p e s m below meth c A ls hE
  obtain ⟨X, hr, hlk, hnm, hw, hl⟩ := hE
  have X : CX p m c cX3_gather 5 s [.ref a0, .ref a1].toArray RX3 D ct := X
  have hl : lv_has ls 5 [(0, .ref a0), (1, .ref a1)] := hl
  obtain ⟨⟨hx, hb, hml, hown, hts⟩, hK⟩ := id X
  refine lv_aload_n hx hb dX3_gather_0 rfl (lv_at hl 0 rfl) ?_
  refine lv_iconst (v := 0) hx hb dX3_gather_1 (by decide) ?_
  refine fp_453 X hw 0 rfl rfl rfl (Nat.le_of_ble_eq_true rfl) dX3_gather_2 [(a0, .inr (3, [.ref a2, .int 0, .ref a3, .ref a4, .ref a5, .ref a6, .ref a7, .ref a8, .ref a9, .ref a10])), (a2, .inr (2, [.int 0, .int 0, .int 0, .ref a11, .ref a12, .ref a13, .int 0, .int 0, .int 0, .int 0, .int 0, .ref a14, .int 0]))] rfl (fun H locs hw => ?_)
  refine lv_iconst (v := 1) hx hb dX3_gather_5 (by decide) ?_
  refine lv_istore_n (lv' := [(2, .int 1), (0, .ref a0), (1, .ref a1)]) hx hb dX3_gather_6 rfl hl (by decide) rfl (fun ls hl => ?_)
  refine lv_iconst (v := 0) hx hb dX3_gather_7 (by decide) ?_
  refine lv_istore_n (lv' := [(3, .int 0), (2, .int 1), (0, .ref a0), (1, .ref a1)]) hx hb dX3_gather_8 rfl hl (by decide) rfl (fun ls hl => ?_)
  refine lv_iload_n hx hb dX3_gather_9 rfl (lv_at hl 0 rfl) ?_
  refine lv_aload_n hx hb dX3_gather_10 rfl (lv_at hl 2 rfl) ?_
  refine fg_452 X hw 0 rfl rfl dX3_gather_11 ?_
  refine fg_222 X hw 1 rfl rfl dX3_gather_14 ?_
  refine lv_icmp_ge (tgt := 161) hx hb dX3_gather_17 (by decide) (fun _ => ?_) (fun h => absurd (by decide) h)
  refine lv_iconst (v := 0) hx hb dX3_gather_161 (by decide) ?_
  refine lv_istore_n (lv' := [(3, .int 0), (2, .int 1), (0, .ref a0), (1, .ref a1)]) hx hb dX3_gather_162 rfl hl (by decide) rfl (fun ls hl => ?_)
  refine lv_iload_n hx hb dX3_gather_163 rfl (lv_at hl 0 rfl) ?_
  refine lv_aload_n hx hb dX3_gather_164 rfl (lv_at hl 2 rfl) ?_
  refine fg_453 X hw 0 rfl rfl dX3_gather_165 ?_
  refine lv_icmp_ge (tgt := 202) hx hb dX3_gather_168 (by decide) (fun _ => ?_) (fun h => absurd (by decide) h)
  refine lv_iload_n hx hb dX3_gather_202 rfl (lv_at hl 1 rfl) ?_
  exact r_i X hr hlk hw [0, 1] (fun _ => 0) rfl rfl rfl (by decide) (by decide) dX3_gather_203
set_option maxHeartbeats 4000000 in
set_option maxRecDepth 100000 in
theorem c178_X3_floorsToGo (l : Launch) (D : va_G) (ct : Nat → ClassId) (a0 : Nat) (a1 : Nat) (a2 : Nat) (a3 : Nat) (a4 : Nat) (a5 : Nat) (a6 : Nat) (a7 : Nat) (a8 : Nat) (a9 : Nat) : CI l yX3_floorsToGo cX3_floorsToGo 6 (some .int) { frames := 0, cells := 0, slots := 0, locals := 0 } D ct [.ref a0, .int 0] [(a0, .inr (3, [.ref a1, .int 0, .ref a2, .ref a3, .ref a4, .ref a5, .ref a6, .ref a7, .ref a8, .ref a9]))] (fun r => r = 0) (fun u => [(a0, .inr (3, [.ref a1, .int 0, .ref a2, .ref a3, .ref a4, .ref a5, .ref a6, .ref a7, .ref a8, .ref a9]))]) := by
  refine CI.of (by decide +kernel) (Nat.le_of_ble_eq_true rfl) ?_
  intro p e s m below meth c A ls hE
  obtain ⟨X, hr, hlk, hnm, hw, hl⟩ := hE
  have X : CX p m c cX3_floorsToGo 6 s [.ref a0, .int 0].toArray RX3 D ct := X
  have hl : lv_has ls 6 [(0, .ref a0), (1, .int 0)] := hl
  obtain ⟨⟨hx, hb, hml, hown, hts⟩, hK⟩ := id X
  refine lv_iload_n hx hb dX3_floorsToGo_0 rfl (lv_at hl 1 rfl) ?_
  refine lv_istore_n (lv' := [(2, .int 0), (0, .ref a0), (1, .int 0)]) hx hb dX3_floorsToGo_1 rfl hl (by decide) rfl (fun ls hl => ?_)
  refine lv_iconst (v := 0) hx hb dX3_floorsToGo_2 (by decide) ?_
  refine lv_istore_n (lv' := [(3, .int 0), (2, .int 0), (0, .ref a0), (1, .int 0)]) hx hb dX3_floorsToGo_3 rfl hl (by decide) rfl (fun ls hl => ?_)
  refine lv_iconst (v := 0) hx hb dX3_floorsToGo_4 (by decide) ?_
  refine lv_istore (lv' := [(4, .int 0), (3, .int 0), (2, .int 0), (0, .ref a0), (1, .int 0)]) hx hb dX3_floorsToGo_5 hl (by decide) rfl (fun ls hl => ?_)
  refine lv_iload hx hb dX3_floorsToGo_7 (lv_at hl 0 rfl) ?_
  refine lv_aload_n hx hb dX3_floorsToGo_9 rfl (lv_at hl 3 rfl) ?_
  refine fg_453 X hw 0 rfl rfl dX3_floorsToGo_10 ?_
  refine lv_icmp_ge (tgt := 95) hx hb dX3_floorsToGo_13 (by decide) (fun _ => ?_) (fun h => absurd (by decide) h)
  refine lv_iload_n hx hb dX3_floorsToGo_95 rfl (lv_at hl 1 rfl) ?_
  exact r_i X hr hlk hw [0] (fun _ => 0) rfl rfl rfl (by decide) (by decide) dX3_floorsToGo_96
set_option maxHeartbeats 4000000 in
set_option maxRecDepth 100000 in
theorem c179_J7_rangeCheck_23922 (l : Launch) (D : va_G) (ct : Nat → ClassId)  : CV l yJ7_rangeCheck_23922 cJ7_rangeCheck_23922 3 none { frames := 0, cells := 0, slots := 0, locals := 0 } D ct [.int 21870, .int 0, .int 10] [] True (fun u => []) := by
  refine CV.of (by decide +kernel) (Nat.le_of_ble_eq_true rfl) ?_
  intro p e s m below meth c A ls hE
  obtain ⟨X, hr, hlk, hnm, hw, hl⟩ := hE
  have X : CX p m c cJ7_rangeCheck_23922 3 s [.int 21870, .int 0, .int 10].toArray RJ7 D ct := X
  have hl : lv_has ls 3 [(0, .int 21870), (1, .int 0), (2, .int 10)] := hl
  obtain ⟨⟨hx, hb, hml, hown, hts⟩, hK⟩ := id X
  refine lv_iload_n hx hb dJ7_rangeCheck_23922_0 rfl (lv_at hl 1 rfl) ?_
  refine lv_iload_n hx hb dJ7_rangeCheck_23922_1 rfl (lv_at hl 2 rfl) ?_
  refine lv_icmp_le (tgt := 46) hx hb dJ7_rangeCheck_23922_2 (by decide) (fun _ => ?_) (fun h => absurd (by decide) h)
  refine lv_iload_n hx hb dJ7_rangeCheck_23922_46 rfl (lv_at hl 1 rfl) ?_
  refine lv_if_ge (tgt := 59) hx hb dJ7_rangeCheck_23922_47 (by decide) (fun _ => ?_) (fun h => absurd (by decide) h)
  refine lv_iload_n hx hb dJ7_rangeCheck_23922_59 rfl (lv_at hl 2 rfl) ?_
  refine lv_iload_n hx hb dJ7_rangeCheck_23922_60 rfl (lv_at hl 0 rfl) ?_
  refine lv_icmp_le (tgt := 73) hx hb dJ7_rangeCheck_23922_61 (by decide) (fun _ => ?_) (fun h => absurd (by decide) h)
  exact r_v X hr hlk hw [] (fun _ => 0) rfl rfl trivial (by decide) (by decide) dJ7_rangeCheck_23922_73
set_option maxHeartbeats 4000000 in
set_option maxRecDepth 100000 in
theorem c180_J7_fill_fda19 (l : Launch) (D : va_G) (ct : Nat → ClassId) (a0 : Nat) (f0 : Nat → Int32) : CV l yJ7_fill_fda19 cJ7_fill_fda19 5 none { frames := 1, cells := 0, slots := 0, locals := 22 } D ct [.ref a0, .int 0, .int 10, .int 32000000] [(a0, .inl (ct 0, 21870, .inl f0))] True (fun u => [(a0, .inl (ct 0, 21870, .inl (upd (upd (upd (upd (upd (upd (upd (upd (upd (upd f0 0 32000000) 1 32000000) 2 32000000) 3 32000000) 4 32000000) 5 32000000) 6 32000000) 7 32000000) 8 32000000) 9 32000000)))]) := by
  refine CV.of (by decide +kernel) (Nat.le_of_ble_eq_true rfl) ?_
  intro p e s m below meth c A ls hE
  obtain ⟨X, hr, hlk, hnm, hw, hl⟩ := hE
  have X : CX p m c cJ7_fill_fda19 5 s [.ref a0, .int 0, .int 10, .int 32000000].toArray RJ7 D ct := X
  have hl : lv_has ls 5 [(0, .ref a0), (1, .int 0), (2, .int 10), (3, .int 32000000)] := hl
  obtain ⟨⟨hx, hb, hml, hown, hts⟩, hK⟩ := id X
  refine lv_aload_n hx hb dJ7_fill_fda19_0 rfl (lv_at hl 0 rfl) ?_
  refine k_alen (v := 21870) X hw 0 0 rfl rfl rfl dJ7_fill_fda19_1 ?_
  refine lv_iload_n hx hb dJ7_fill_fda19_2 rfl (lv_at hl 1 rfl) ?_
  refine lv_iload_n hx hb dJ7_fill_fda19_3 rfl (lv_at hl 2 rfl) ?_
  refine m_Sv (As := [.int 21870, .int 0, .int 10]) (rest := []) (c179_J7_rangeCheck_23922 l D ct) X hl.1 kw_1340 kd_yJ7_rangeCheck_23922 hw [] [0] rfl rfl rfl rfl (by decide) ⟨by decide, by decide⟩ rfl rfl (Nat.le_of_ble_eq_true rfl) dJ7_fill_fda19_4 ⟨by decide, by decide⟩ (fun u2 H locs hr3 hw => ?_)
  replace hw : WD D A s.heap _ _ [(a0, .inl (ct 0, 21870, .inl f0))] := hw
  refine lv_iload_n hx hb dJ7_fill_fda19_7 rfl (lv_at hl 1 rfl) ?_
  refine lv_istore (lv' := [(4, .int 0), (0, .ref a0), (1, .int 0), (2, .int 10), (3, .int 32000000)]) hx hb dJ7_fill_fda19_8 hl (by decide) rfl (fun ls hl => ?_)
  refine lv_iload hx hb dJ7_fill_fda19_10 (lv_at hl 0 rfl) ?_
  refine lv_iload_n hx hb dJ7_fill_fda19_12 rfl (lv_at hl 3 rfl) ?_
  refine lv_icmp_ge (tgt := 27) hx hb dJ7_fill_fda19_13 (by decide) (fun h => absurd h (by decide)) (fun _ => ?_)
  refine lv_aload_n hx hb dJ7_fill_fda19_16 rfl (lv_at hl 1 rfl) ?_
  refine lv_iload hx hb dJ7_fill_fda19_17 (lv_at hl 0 rfl) ?_
  refine lv_iload_n hx hb dJ7_fill_fda19_19 rfl (lv_at hl 4 rfl) ?_
  refine j_iast (j := 0) X hw 0 rfl (by decide) (by decide) (by decide) dJ7_fill_fda19_20 [(a0, .inl (ct 0, 21870, .inl (upd f0 0 32000000)))] rfl (fun H locs hw => ?_)
  refine lv_iinc (v := 1) (lv' := [(4, .int 1), (0, .ref a0), (1, .int 0), (2, .int 10), (3, .int 32000000)]) hx hb dJ7_fill_fda19_21 hl (k := 0) rfl (by decide) (by decide) rfl (fun ls hl => ?_)
  refine lv_goto (tgt := 10) hx hb dJ7_fill_fda19_24 (by decide) ?_
  refine lv_iload hx hb dJ7_fill_fda19_10 (lv_at hl 0 rfl) ?_
  refine lv_iload_n hx hb dJ7_fill_fda19_12 rfl (lv_at hl 3 rfl) ?_
  refine lv_icmp_ge (tgt := 27) hx hb dJ7_fill_fda19_13 (by decide) (fun h => absurd h (by decide)) (fun _ => ?_)
  refine lv_aload_n hx hb dJ7_fill_fda19_16 rfl (lv_at hl 1 rfl) ?_
  refine lv_iload hx hb dJ7_fill_fda19_17 (lv_at hl 0 rfl) ?_
  refine lv_iload_n hx hb dJ7_fill_fda19_19 rfl (lv_at hl 4 rfl) ?_
  refine j_iast (j := 1) X hw 0 rfl (by decide) (by decide) (by decide) dJ7_fill_fda19_20 [(a0, .inl (ct 0, 21870, .inl (upd (upd f0 0 32000000) 1 32000000)))] rfl (fun H locs hw => ?_)
  refine lv_iinc (v := 2) (lv' := [(4, .int 2), (0, .ref a0), (1, .int 0), (2, .int 10), (3, .int 32000000)]) hx hb dJ7_fill_fda19_21 hl (k := 0) rfl (by decide) (by decide) rfl (fun ls hl => ?_)
  refine lv_goto (tgt := 10) hx hb dJ7_fill_fda19_24 (by decide) ?_
  refine lv_iload hx hb dJ7_fill_fda19_10 (lv_at hl 0 rfl) ?_
  refine lv_iload_n hx hb dJ7_fill_fda19_12 rfl (lv_at hl 3 rfl) ?_
  refine lv_icmp_ge (tgt := 27) hx hb dJ7_fill_fda19_13 (by decide) (fun h => absurd h (by decide)) (fun _ => ?_)
  refine lv_aload_n hx hb dJ7_fill_fda19_16 rfl (lv_at hl 1 rfl) ?_
  refine lv_iload hx hb dJ7_fill_fda19_17 (lv_at hl 0 rfl) ?_
  refine lv_iload_n hx hb dJ7_fill_fda19_19 rfl (lv_at hl 4 rfl) ?_
  refine j_iast (j := 2) X hw 0 rfl (by decide) (by decide) (by decide) dJ7_fill_fda19_20 [(a0, .inl (ct 0, 21870, .inl (upd (upd (upd f0 0 32000000) 1 32000000) 2 32000000)))] rfl (fun H locs hw => ?_)
  refine lv_iinc (v := 3) (lv' := [(4, .int 3), (0, .ref a0), (1, .int 0), (2, .int 10), (3, .int 32000000)]) hx hb dJ7_fill_fda19_21 hl (k := 0) rfl (by decide) (by decide) rfl (fun ls hl => ?_)
  refine lv_goto (tgt := 10) hx hb dJ7_fill_fda19_24 (by decide) ?_
  refine lv_iload hx hb dJ7_fill_fda19_10 (lv_at hl 0 rfl) ?_
  refine lv_iload_n hx hb dJ7_fill_fda19_12 rfl (lv_at hl 3 rfl) ?_
  refine lv_icmp_ge (tgt := 27) hx hb dJ7_fill_fda19_13 (by decide) (fun h => absurd h (by decide)) (fun _ => ?_)
  refine lv_aload_n hx hb dJ7_fill_fda19_16 rfl (lv_at hl 1 rfl) ?_
  refine lv_iload hx hb dJ7_fill_fda19_17 (lv_at hl 0 rfl) ?_
  refine lv_iload_n hx hb dJ7_fill_fda19_19 rfl (lv_at hl 4 rfl) ?_
  refine j_iast (j := 3) X hw 0 rfl (by decide) (by decide) (by decide) dJ7_fill_fda19_20 [(a0, .inl (ct 0, 21870, .inl (upd (upd (upd (upd f0 0 32000000) 1 32000000) 2 32000000) 3 32000000)))] rfl (fun H locs hw => ?_)
  refine lv_iinc (v := 4) (lv' := [(4, .int 4), (0, .ref a0), (1, .int 0), (2, .int 10), (3, .int 32000000)]) hx hb dJ7_fill_fda19_21 hl (k := 0) rfl (by decide) (by decide) rfl (fun ls hl => ?_)
  refine lv_goto (tgt := 10) hx hb dJ7_fill_fda19_24 (by decide) ?_
  refine lv_iload hx hb dJ7_fill_fda19_10 (lv_at hl 0 rfl) ?_
  refine lv_iload_n hx hb dJ7_fill_fda19_12 rfl (lv_at hl 3 rfl) ?_
  refine lv_icmp_ge (tgt := 27) hx hb dJ7_fill_fda19_13 (by decide) (fun h => absurd h (by decide)) (fun _ => ?_)
  refine lv_aload_n hx hb dJ7_fill_fda19_16 rfl (lv_at hl 1 rfl) ?_
  refine lv_iload hx hb dJ7_fill_fda19_17 (lv_at hl 0 rfl) ?_
  refine lv_iload_n hx hb dJ7_fill_fda19_19 rfl (lv_at hl 4 rfl) ?_
  refine j_iast (j := 4) X hw 0 rfl (by decide) (by decide) (by decide) dJ7_fill_fda19_20 [(a0, .inl (ct 0, 21870, .inl (upd (upd (upd (upd (upd f0 0 32000000) 1 32000000) 2 32000000) 3 32000000) 4 32000000)))] rfl (fun H locs hw => ?_)
  refine lv_iinc (v := 5) (lv' := [(4, .int 5), (0, .ref a0), (1, .int 0), (2, .int 10), (3, .int 32000000)]) hx hb dJ7_fill_fda19_21 hl (k := 0) rfl (by decide) (by decide) rfl (fun ls hl => ?_)
  refine lv_goto (tgt := 10) hx hb dJ7_fill_fda19_24 (by decide) ?_
  refine lv_iload hx hb dJ7_fill_fda19_10 (lv_at hl 0 rfl) ?_
  refine lv_iload_n hx hb dJ7_fill_fda19_12 rfl (lv_at hl 3 rfl) ?_
  refine lv_icmp_ge (tgt := 27) hx hb dJ7_fill_fda19_13 (by decide) (fun h => absurd h (by decide)) (fun _ => ?_)
  refine lv_aload_n hx hb dJ7_fill_fda19_16 rfl (lv_at hl 1 rfl) ?_
  refine lv_iload hx hb dJ7_fill_fda19_17 (lv_at hl 0 rfl) ?_
  refine lv_iload_n hx hb dJ7_fill_fda19_19 rfl (lv_at hl 4 rfl) ?_
  refine j_iast (j := 5) X hw 0 rfl (by decide) (by decide) (by decide) dJ7_fill_fda19_20 [(a0, .inl (ct 0, 21870, .inl (upd (upd (upd (upd (upd (upd f0 0 32000000) 1 32000000) 2 32000000) 3 32000000) 4 32000000) 5 32000000)))] rfl (fun H locs hw => ?_)
  refine lv_iinc (v := 6) (lv' := [(4, .int 6), (0, .ref a0), (1, .int 0), (2, .int 10), (3, .int 32000000)]) hx hb dJ7_fill_fda19_21 hl (k := 0) rfl (by decide) (by decide) rfl (fun ls hl => ?_)
  refine lv_goto (tgt := 10) hx hb dJ7_fill_fda19_24 (by decide) ?_
  refine lv_iload hx hb dJ7_fill_fda19_10 (lv_at hl 0 rfl) ?_
  refine lv_iload_n hx hb dJ7_fill_fda19_12 rfl (lv_at hl 3 rfl) ?_
  refine lv_icmp_ge (tgt := 27) hx hb dJ7_fill_fda19_13 (by decide) (fun h => absurd h (by decide)) (fun _ => ?_)
  refine lv_aload_n hx hb dJ7_fill_fda19_16 rfl (lv_at hl 1 rfl) ?_
  refine lv_iload hx hb dJ7_fill_fda19_17 (lv_at hl 0 rfl) ?_
  refine lv_iload_n hx hb dJ7_fill_fda19_19 rfl (lv_at hl 4 rfl) ?_
  refine j_iast (j := 6) X hw 0 rfl (by decide) (by decide) (by decide) dJ7_fill_fda19_20 [(a0, .inl (ct 0, 21870, .inl (upd (upd (upd (upd (upd (upd (upd f0 0 32000000) 1 32000000) 2 32000000) 3 32000000) 4 32000000) 5 32000000) 6 32000000)))] rfl (fun H locs hw => ?_)
  refine lv_iinc (v := 7) (lv' := [(4, .int 7), (0, .ref a0), (1, .int 0), (2, .int 10), (3, .int 32000000)]) hx hb dJ7_fill_fda19_21 hl (k := 0) rfl (by decide) (by decide) rfl (fun ls hl => ?_)
  refine lv_goto (tgt := 10) hx hb dJ7_fill_fda19_24 (by decide) ?_
  refine lv_iload hx hb dJ7_fill_fda19_10 (lv_at hl 0 rfl) ?_
  refine lv_iload_n hx hb dJ7_fill_fda19_12 rfl (lv_at hl 3 rfl) ?_
  refine lv_icmp_ge (tgt := 27) hx hb dJ7_fill_fda19_13 (by decide) (fun h => absurd h (by decide)) (fun _ => ?_)
  refine lv_aload_n hx hb dJ7_fill_fda19_16 rfl (lv_at hl 1 rfl) ?_
  refine lv_iload hx hb dJ7_fill_fda19_17 (lv_at hl 0 rfl) ?_
  refine lv_iload_n hx hb dJ7_fill_fda19_19 rfl (lv_at hl 4 rfl) ?_
  refine j_iast (j := 7) X hw 0 rfl (by decide) (by decide) (by decide) dJ7_fill_fda19_20 [(a0, .inl (ct 0, 21870, .inl (upd (upd (upd (upd (upd (upd (upd (upd f0 0 32000000) 1 32000000) 2 32000000) 3 32000000) 4 32000000) 5 32000000) 6 32000000) 7 32000000)))] rfl (fun H locs hw => ?_)
  refine lv_iinc (v := 8) (lv' := [(4, .int 8), (0, .ref a0), (1, .int 0), (2, .int 10), (3, .int 32000000)]) hx hb dJ7_fill_fda19_21 hl (k := 0) rfl (by decide) (by decide) rfl (fun ls hl => ?_)
  refine lv_goto (tgt := 10) hx hb dJ7_fill_fda19_24 (by decide) ?_
  refine lv_iload hx hb dJ7_fill_fda19_10 (lv_at hl 0 rfl) ?_
  refine lv_iload_n hx hb dJ7_fill_fda19_12 rfl (lv_at hl 3 rfl) ?_
  refine lv_icmp_ge (tgt := 27) hx hb dJ7_fill_fda19_13 (by decide) (fun h => absurd h (by decide)) (fun _ => ?_)
  refine lv_aload_n hx hb dJ7_fill_fda19_16 rfl (lv_at hl 1 rfl) ?_
  refine lv_iload hx hb dJ7_fill_fda19_17 (lv_at hl 0 rfl) ?_
  refine lv_iload_n hx hb dJ7_fill_fda19_19 rfl (lv_at hl 4 rfl) ?_
  refine j_iast (j := 8) X hw 0 rfl (by decide) (by decide) (by decide) dJ7_fill_fda19_20 [(a0, .inl (ct 0, 21870, .inl (upd (upd (upd (upd (upd (upd (upd (upd (upd f0 0 32000000) 1 32000000) 2 32000000) 3 32000000) 4 32000000) 5 32000000) 6 32000000) 7 32000000) 8 32000000)))] rfl (fun H locs hw => ?_)
  refine lv_iinc (v := 9) (lv' := [(4, .int 9), (0, .ref a0), (1, .int 0), (2, .int 10), (3, .int 32000000)]) hx hb dJ7_fill_fda19_21 hl (k := 0) rfl (by decide) (by decide) rfl (fun ls hl => ?_)
  refine lv_goto (tgt := 10) hx hb dJ7_fill_fda19_24 (by decide) ?_
  refine lv_iload hx hb dJ7_fill_fda19_10 (lv_at hl 0 rfl) ?_
  refine lv_iload_n hx hb dJ7_fill_fda19_12 rfl (lv_at hl 3 rfl) ?_
  refine lv_icmp_ge (tgt := 27) hx hb dJ7_fill_fda19_13 (by decide) (fun h => absurd h (by decide)) (fun _ => ?_)
  refine lv_aload_n hx hb dJ7_fill_fda19_16 rfl (lv_at hl 1 rfl) ?_
  refine lv_iload hx hb dJ7_fill_fda19_17 (lv_at hl 0 rfl) ?_
  refine lv_iload_n hx hb dJ7_fill_fda19_19 rfl (lv_at hl 4 rfl) ?_
  refine j_iast (j := 9) X hw 0 rfl (by decide) (by decide) (by decide) dJ7_fill_fda19_20 [(a0, .inl (ct 0, 21870, .inl (upd (upd (upd (upd (upd (upd (upd (upd (upd (upd f0 0 32000000) 1 32000000) 2 32000000) 3 32000000) 4 32000000) 5 32000000) 6 32000000) 7 32000000) 8 32000000) 9 32000000)))] rfl (fun H locs hw => ?_)
  refine lv_iinc (v := 10) (lv' := [(4, .int 10), (0, .ref a0), (1, .int 0), (2, .int 10), (3, .int 32000000)]) hx hb dJ7_fill_fda19_21 hl (k := 0) rfl (by decide) (by decide) rfl (fun ls hl => ?_)
  refine lv_goto (tgt := 10) hx hb dJ7_fill_fda19_24 (by decide) ?_
  refine lv_iload hx hb dJ7_fill_fda19_10 (lv_at hl 0 rfl) ?_
  refine lv_iload_n hx hb dJ7_fill_fda19_12 rfl (lv_at hl 3 rfl) ?_
  refine lv_icmp_ge (tgt := 27) hx hb dJ7_fill_fda19_13 (by decide) (fun _ => ?_) (fun h => absurd (by decide) h)
  exact r_v X hr hlk hw [0] (fun _ => 0) rfl rfl trivial (by decide) (by decide) dJ7_fill_fda19_27
def fx14 : Nat → Int32 := (upd (upd (upd (upd (upd (upd (upd (upd (upd (upd (fun _ => 0) 0 32000000) 1 32000000) 2 32000000) 3 32000000) 4 32000000) 5 32000000) 6 32000000) 7 32000000) 8 32000000) 9 32000000)
set_option maxHeartbeats 4000000 in
set_option maxRecDepth 100000 in
theorem c181_X3_cheapest (l : Launch) (D : va_G) (ct : Nat → ClassId) (a0 : Nat) (a1 : Nat) (a2 : Nat) (a3 : Nat) (a4 : Nat) (a5 : Nat) (a6 : Nat) (a7 : Nat) (a8 : Nat) (a9 : Nat) (a10 : Nat) (f0 : Nat → Int32) (a11 : Nat) (a12 : Nat) (a13 : Nat) (a14 : Nat) : CI l yX3_cheapest cX3_cheapest 6 (some .int) { frames := 2, cells := 1, slots := 21870, locals := 46 } D ct [.ref a0, .ref a1, .int 1000000] [(a0, .inr (3, [.ref a2, .int 0, .ref a3, .ref a4, .ref a5, .ref a6, .ref a7, .ref a8, .ref a9, .ref a10])), (a10, .inl (ct 0, 0, .inl f0)), (a2, .inr (2, [.int 0, .int 0, .int 0, .ref a11, .ref a12, .ref a13, .int 0, .int 0, .int 0, .int 0, .int 0, .ref a14, .int 0]))] (fun r => r = 0) (fun u => [(a10, .inl (ct 0, 0, .inl f0)), (a2, .inr (2, [.int 0, .int 0, .int 0, .ref a11, .ref a12, .ref a13, .int 0, .int 0, .int 0, .int 0, .int 0, .ref a14, .int 0])), (a0, .inr (3, [.ref a2, .int 0, .ref a3, .ref a4, .ref a5, .ref a6, .ref a7, .ref a8, .ref a9, .ref (u 0)])), ((u 0), .inl (ct 0, 21870, .inl (upd fx14 0 0)))]) := by
  refine CI.of (by decide +kernel) (Nat.le_of_ble_eq_true rfl) ?_
  intro p e s m below meth c A ls hE
  obtain ⟨X, hr, hlk, hnm, hw, hl⟩ := hE
  have X : CX p m c cX3_cheapest 6 s [.ref a0, .ref a1, .int 1000000].toArray RX3 D ct := X
  have hl : lv_has ls 6 [(0, .ref a0), (1, .ref a1), (2, .int 1000000)] := hl
  obtain ⟨⟨hx, hb, hml, hown, hts⟩, hK⟩ := id X
  refine lv_aload_n hx hb dX3_cheapest_0 rfl (lv_at hl 0 rfl) ?_
  refine lv_aload_n hx hb dX3_cheapest_1 rfl (lv_at hl 1 rfl) ?_
  refine m_Vi (As := [.ref a1]) (rest := []) (c177_X3_gather l D ct a0 a1 a2 a3 a4 a5 a6 a7 a8 a9 a10 a11 a12 a13 a14) X hl.1 kw_1317 kd_yX3_gather hw [0, 2] [1] rfl rfl rfl rfl (by decide) 0 rfl rfl ⟨by decide, by decide⟩ rfl rfl (Nat.le_of_ble_eq_true rfl) dX3_cheapest_2 ⟨by decide, by decide⟩ (fun r1 u2 H locs hr3 hw => ?_)
  replace hw : WD D A s.heap _ _ [(a10, .inl (ct 0, 0, .inl f0)), (a0, .inr (3, [.ref a2, .int 0, .ref a3, .ref a4, .ref a5, .ref a6, .ref a7, .ref a8, .ref a9, .ref a10])), (a2, .inr (2, [.int 0, .int 0, .int 0, .ref a11, .ref a12, .ref a13, .int 0, .int 0, .int 0, .int 0, .int 0, .ref a14, .int 0]))] := hw
  subst hr3
  refine lv_istore_n (lv' := [(3, .int 1), (0, .ref a0), (1, .ref a1), (2, .int 1000000)]) hx hb dX3_cheapest_5 rfl hl (by decide) rfl (fun ls hl => ?_)
  refine lv_aload_n hx hb dX3_cheapest_6 rfl (lv_at hl 1 rfl) ?_
  refine lv_iconst (v := 0) hx hb dX3_cheapest_7 (by decide) ?_
  refine m_Vi (As := [.int 0]) (rest := []) (c178_X3_floorsToGo l D ct a0 a2 a3 a4 a5 a6 a7 a8 a9 a10) X hl.1 kw_1327 kd_yX3_floorsToGo hw [1] [0, 2] rfl rfl rfl rfl (by decide) 0 rfl rfl ⟨by decide, by decide⟩ rfl rfl (Nat.le_of_ble_eq_true rfl) dX3_cheapest_8 ⟨by decide, by decide⟩ (fun r4 u5 H locs hr6 hw => ?_)
  replace hw : WD D A s.heap _ _ [(a10, .inl (ct 0, 0, .inl f0)), (a2, .inr (2, [.int 0, .int 0, .int 0, .ref a11, .ref a12, .ref a13, .int 0, .int 0, .int 0, .int 0, .int 0, .ref a14, .int 0])), (a0, .inr (3, [.ref a2, .int 0, .ref a3, .ref a4, .ref a5, .ref a6, .ref a7, .ref a8, .ref a9, .ref a10]))] := hw
  subst hr6
  refine lv_iload_n hx hb dX3_cheapest_11 rfl (lv_at hl 3 rfl) ?_
  refine lv_icmp_lt (tgt := 18) hx hb dX3_cheapest_12 (by decide) (fun _ => ?_) (fun h => absurd (by decide) h)
  refine lv_aload_n hx hb dX3_cheapest_18 rfl (lv_at hl 1 rfl) ?_
  refine fg_461 X hw 2 rfl rfl dX3_cheapest_19 ?_
  refine k_alen (v := 0) X hw 0 0 rfl rfl rfl dX3_cheapest_22 ?_
  refine lv_if_ne (tgt := 35) hx hb dX3_cheapest_23 (by decide) (fun h => absurd rfl h) (fun _ => ?_)
  refine lv_aload_n hx hb dX3_cheapest_26 rfl (lv_at hl 1 rfl) ?_
  refine lv_sipush (v := 21870) hx hb dX3_cheapest_27 (by decide) ?_
  refine k_newa (N' := 21870) (a0 := (21870, .inl (fun _ => 0))) X hw 0 rfl rfl wd_207 (fun _ => rfl) (by decide) (by decide) (by decide) (by decide) (by decide) dX3_cheapest_30 (fun q7 H hw => ?_)
  replace hw : WD D A s.heap _ _ [(a10, .inl (ct 0, 0, .inl f0)), (a2, .inr (2, [.int 0, .int 0, .int 0, .ref a11, .ref a12, .ref a13, .int 0, .int 0, .int 0, .int 0, .int 0, .ref a14, .int 0])), (a0, .inr (3, [.ref a2, .int 0, .ref a3, .ref a4, .ref a5, .ref a6, .ref a7, .ref a8, .ref a9, .ref a10])), (q7, .inl (ct 0, 21870, .inl (fun _ => 0)))] := hw
  refine fp_461 X hw 2 rfl rfl rfl (Nat.le_of_ble_eq_true rfl) dX3_cheapest_32 [(a10, .inl (ct 0, 0, .inl f0)), (a2, .inr (2, [.int 0, .int 0, .int 0, .ref a11, .ref a12, .ref a13, .int 0, .int 0, .int 0, .int 0, .int 0, .ref a14, .int 0])), (a0, .inr (3, [.ref a2, .int 0, .ref a3, .ref a4, .ref a5, .ref a6, .ref a7, .ref a8, .ref a9, .ref q7])), (q7, .inl (ct 0, 21870, .inl (fun _ => 0)))] rfl (fun H locs hw => ?_)
  refine lv_aload_n hx hb dX3_cheapest_35 rfl (lv_at hl 1 rfl) ?_
  refine fg_461 X hw 2 rfl rfl dX3_cheapest_36 ?_
  refine lv_iconst (v := 0) hx hb dX3_cheapest_39 (by decide) ?_
  refine lv_iload_n hx hb dX3_cheapest_40 rfl (lv_at hl 0 rfl) ?_
  refine lv_bipush (v := 10) hx hb dX3_cheapest_41 (by decide) ?_
  refine kv_imul (v := 10) hx hb (by decide) dX3_cheapest_43 ?_
  refine lv_ldc hx hb hown (hts _ wd_1336) dX3_cheapest_44 ?_
  refine m_Sv (As := [.ref q7, .int 0, .int 10, .int 32000000]) (rest := []) (c180_J7_fill_fda19 l D ct q7 (fun _ => 0)) X hl.1 kw_1337 kd_yJ7_fill_fda19 hw [3] [0, 1, 2] rfl rfl rfl rfl (by decide) ⟨by decide, by decide⟩ rfl rfl (Nat.le_of_ble_eq_true rfl) dX3_cheapest_46 ⟨by decide, by decide⟩ (fun u9 H locs hr10 hw => ?_)
  replace hw : WD D A s.heap _ _ [(a10, .inl (ct 0, 0, .inl f0)), (a2, .inr (2, [.int 0, .int 0, .int 0, .ref a11, .ref a12, .ref a13, .int 0, .int 0, .int 0, .int 0, .int 0, .ref a14, .int 0])), (a0, .inr (3, [.ref a2, .int 0, .ref a3, .ref a4, .ref a5, .ref a6, .ref a7, .ref a8, .ref a9, .ref q7])), (q7, .inl (ct 0, 21870, .inl fx14))] := hw
  refine lv_aload_n hx hb dX3_cheapest_49 rfl (lv_at hl 1 rfl) ?_
  refine fg_461 X hw 2 rfl rfl dX3_cheapest_50 ?_
  refine lv_iconst (v := 0) hx hb dX3_cheapest_53 (by decide) ?_
  refine lv_iconst (v := 0) hx hb dX3_cheapest_54 (by decide) ?_
  refine j_iast (j := 0) X hw 3 rfl (by decide) (by decide) (by decide) dX3_cheapest_55 [(a10, .inl (ct 0, 0, .inl f0)), (a2, .inr (2, [.int 0, .int 0, .int 0, .ref a11, .ref a12, .ref a13, .int 0, .int 0, .int 0, .int 0, .int 0, .ref a14, .int 0])), (a0, .inr (3, [.ref a2, .int 0, .ref a3, .ref a4, .ref a5, .ref a6, .ref a7, .ref a8, .ref a9, .ref q7])), (q7, .inl (ct 0, 21870, .inl (upd fx14 0 0)))] rfl (fun H locs hw => ?_)
  refine lv_iconst (v := 0) hx hb dX3_cheapest_56 (by decide) ?_
  refine lv_istore (lv' := [(4, .int 0), (3, .int 1), (0, .ref a0), (1, .ref a1), (2, .int 1000000)]) hx hb dX3_cheapest_57 hl (by decide) rfl (fun ls hl => ?_)
  refine lv_iload hx hb dX3_cheapest_59 (lv_at hl 0 rfl) ?_
  refine lv_iload_n hx hb dX3_cheapest_61 rfl (lv_at hl 1 rfl) ?_
  refine lv_iconst (v := 1) hx hb dX3_cheapest_62 (by decide) ?_
  refine kv_isub (v := 0) hx hb (by decide) dX3_cheapest_63 ?_
  refine lv_icmp_ge (tgt := 80) hx hb dX3_cheapest_64 (by decide) (fun _ => ?_) (fun h => absurd (by decide) h)
  refine lv_ldc hx hb hown (hts _ wd_1336) dX3_cheapest_80 ?_
  refine lv_istore (lv' := [(4, .int 32000000), (3, .int 1), (0, .ref a0), (1, .ref a1), (2, .int 1000000)]) hx hb dX3_cheapest_82 hl (by decide) rfl (fun ls hl => ?_)
  refine lv_iconst (v := 0) hx hb dX3_cheapest_84 (by decide) ?_
  refine lv_istore (lv' := [(5, .int 0), (4, .int 32000000), (3, .int 1), (0, .ref a0), (1, .ref a1), (2, .int 1000000)]) hx hb dX3_cheapest_85 hl (by decide) rfl (fun ls hl => ?_)
  refine lv_iload hx hb dX3_cheapest_87 (lv_at hl 0 rfl) ?_
  refine lv_bipush (v := 10) hx hb dX3_cheapest_89 (by decide) ?_
  refine lv_icmp_ge (tgt := 121) hx hb dX3_cheapest_91 (by decide) (fun h => absurd h (by decide)) (fun _ => ?_)
  refine lv_iload hx hb dX3_cheapest_94 (lv_at hl 1 rfl) ?_
  refine lv_aload_n hx hb dX3_cheapest_96 rfl (lv_at hl 3 rfl) ?_
  refine fg_461 X hw 2 rfl rfl dX3_cheapest_97 ?_
  refine lv_iload_n hx hb dX3_cheapest_100 rfl (lv_at hl 2 rfl) ?_
  refine lv_iconst (v := 1) hx hb dX3_cheapest_101 (by decide) ?_
  refine kv_isub (v := 0) hx hb (by decide) dX3_cheapest_102 ?_
  refine lv_bipush (v := 10) hx hb dX3_cheapest_103 (by decide) ?_
  refine kv_imul (v := 0) hx hb (by decide) dX3_cheapest_105 ?_
  refine lv_iload hx hb dX3_cheapest_106 (lv_at hl 0 rfl) ?_
  refine kv_iadd (v := 0) hx hb (by decide) dX3_cheapest_108 ?_
  refine j_iald (j := 0) (v := 0) X hw 3 rfl (by decide) (by decide) (by decide) rfl dX3_cheapest_109 ?_
  refine k_min (v := 0) X hl.1 wd_1355 wd_637 wd_143 wd_638 (by decide) (Nat.le_of_ble_eq_true rfl) (by decide) (by decide) (by decide) dX3_cheapest_110 ?_
  refine lv_istore (lv' := [(4, .int 0), (5, .int 0), (3, .int 1), (0, .ref a0), (1, .ref a1), (2, .int 1000000)]) hx hb dX3_cheapest_113 hl (by decide) rfl (fun ls hl => ?_)
  refine lv_iinc (v := 1) (lv' := [(5, .int 1), (4, .int 0), (3, .int 1), (0, .ref a0), (1, .ref a1), (2, .int 1000000)]) hx hb dX3_cheapest_115 hl (k := 1) rfl (by decide) (by decide) rfl (fun ls hl => ?_)
  refine lv_goto (tgt := 87) hx hb dX3_cheapest_118 (by decide) ?_
  refine lv_iload hx hb dX3_cheapest_87 (lv_at hl 0 rfl) ?_
  refine lv_bipush (v := 10) hx hb dX3_cheapest_89 (by decide) ?_
  refine lv_icmp_ge (tgt := 121) hx hb dX3_cheapest_91 (by decide) (fun h => absurd h (by decide)) (fun _ => ?_)
  refine lv_iload hx hb dX3_cheapest_94 (lv_at hl 1 rfl) ?_
  refine lv_aload_n hx hb dX3_cheapest_96 rfl (lv_at hl 3 rfl) ?_
  refine fg_461 X hw 2 rfl rfl dX3_cheapest_97 ?_
  refine lv_iload_n hx hb dX3_cheapest_100 rfl (lv_at hl 2 rfl) ?_
  refine lv_iconst (v := 1) hx hb dX3_cheapest_101 (by decide) ?_
  refine kv_isub (v := 0) hx hb (by decide) dX3_cheapest_102 ?_
  refine lv_bipush (v := 10) hx hb dX3_cheapest_103 (by decide) ?_
  refine kv_imul (v := 0) hx hb (by decide) dX3_cheapest_105 ?_
  refine lv_iload hx hb dX3_cheapest_106 (lv_at hl 0 rfl) ?_
  refine kv_iadd (v := 1) hx hb (by decide) dX3_cheapest_108 ?_
  refine j_iald (j := 1) (v := 32000000) X hw 3 rfl (by decide) (by decide) (by decide) rfl dX3_cheapest_109 ?_
  refine k_min (v := 0) X hl.1 wd_1355 wd_637 wd_143 wd_638 (by decide) (Nat.le_of_ble_eq_true rfl) (by decide) (by decide) (by decide) dX3_cheapest_110 ?_
  refine lv_istore (lv' := [(4, .int 0), (5, .int 1), (3, .int 1), (0, .ref a0), (1, .ref a1), (2, .int 1000000)]) hx hb dX3_cheapest_113 hl (by decide) rfl (fun ls hl => ?_)
  refine lv_iinc (v := 2) (lv' := [(5, .int 2), (4, .int 0), (3, .int 1), (0, .ref a0), (1, .ref a1), (2, .int 1000000)]) hx hb dX3_cheapest_115 hl (k := 1) rfl (by decide) (by decide) rfl (fun ls hl => ?_)
  refine lv_goto (tgt := 87) hx hb dX3_cheapest_118 (by decide) ?_
  refine lv_iload hx hb dX3_cheapest_87 (lv_at hl 0 rfl) ?_
  refine lv_bipush (v := 10) hx hb dX3_cheapest_89 (by decide) ?_
  refine lv_icmp_ge (tgt := 121) hx hb dX3_cheapest_91 (by decide) (fun h => absurd h (by decide)) (fun _ => ?_)
  refine lv_iload hx hb dX3_cheapest_94 (lv_at hl 1 rfl) ?_
  refine lv_aload_n hx hb dX3_cheapest_96 rfl (lv_at hl 3 rfl) ?_
  refine fg_461 X hw 2 rfl rfl dX3_cheapest_97 ?_
  refine lv_iload_n hx hb dX3_cheapest_100 rfl (lv_at hl 2 rfl) ?_
  refine lv_iconst (v := 1) hx hb dX3_cheapest_101 (by decide) ?_
  refine kv_isub (v := 0) hx hb (by decide) dX3_cheapest_102 ?_
  refine lv_bipush (v := 10) hx hb dX3_cheapest_103 (by decide) ?_
  refine kv_imul (v := 0) hx hb (by decide) dX3_cheapest_105 ?_
  refine lv_iload hx hb dX3_cheapest_106 (lv_at hl 0 rfl) ?_
  refine kv_iadd (v := 2) hx hb (by decide) dX3_cheapest_108 ?_
  refine j_iald (j := 2) (v := 32000000) X hw 3 rfl (by decide) (by decide) (by decide) rfl dX3_cheapest_109 ?_
  refine k_min (v := 0) X hl.1 wd_1355 wd_637 wd_143 wd_638 (by decide) (Nat.le_of_ble_eq_true rfl) (by decide) (by decide) (by decide) dX3_cheapest_110 ?_
  refine lv_istore (lv' := [(4, .int 0), (5, .int 2), (3, .int 1), (0, .ref a0), (1, .ref a1), (2, .int 1000000)]) hx hb dX3_cheapest_113 hl (by decide) rfl (fun ls hl => ?_)
  refine lv_iinc (v := 3) (lv' := [(5, .int 3), (4, .int 0), (3, .int 1), (0, .ref a0), (1, .ref a1), (2, .int 1000000)]) hx hb dX3_cheapest_115 hl (k := 1) rfl (by decide) (by decide) rfl (fun ls hl => ?_)
  refine lv_goto (tgt := 87) hx hb dX3_cheapest_118 (by decide) ?_
  refine lv_iload hx hb dX3_cheapest_87 (lv_at hl 0 rfl) ?_
  refine lv_bipush (v := 10) hx hb dX3_cheapest_89 (by decide) ?_
  refine lv_icmp_ge (tgt := 121) hx hb dX3_cheapest_91 (by decide) (fun h => absurd h (by decide)) (fun _ => ?_)
  refine lv_iload hx hb dX3_cheapest_94 (lv_at hl 1 rfl) ?_
  refine lv_aload_n hx hb dX3_cheapest_96 rfl (lv_at hl 3 rfl) ?_
  refine fg_461 X hw 2 rfl rfl dX3_cheapest_97 ?_
  refine lv_iload_n hx hb dX3_cheapest_100 rfl (lv_at hl 2 rfl) ?_
  refine lv_iconst (v := 1) hx hb dX3_cheapest_101 (by decide) ?_
  refine kv_isub (v := 0) hx hb (by decide) dX3_cheapest_102 ?_
  refine lv_bipush (v := 10) hx hb dX3_cheapest_103 (by decide) ?_
  refine kv_imul (v := 0) hx hb (by decide) dX3_cheapest_105 ?_
  refine lv_iload hx hb dX3_cheapest_106 (lv_at hl 0 rfl) ?_
  refine kv_iadd (v := 3) hx hb (by decide) dX3_cheapest_108 ?_
  refine j_iald (j := 3) (v := 32000000) X hw 3 rfl (by decide) (by decide) (by decide) rfl dX3_cheapest_109 ?_
  refine k_min (v := 0) X hl.1 wd_1355 wd_637 wd_143 wd_638 (by decide) (Nat.le_of_ble_eq_true rfl) (by decide) (by decide) (by decide) dX3_cheapest_110 ?_
  refine lv_istore (lv' := [(4, .int 0), (5, .int 3), (3, .int 1), (0, .ref a0), (1, .ref a1), (2, .int 1000000)]) hx hb dX3_cheapest_113 hl (by decide) rfl (fun ls hl => ?_)
  refine lv_iinc (v := 4) (lv' := [(5, .int 4), (4, .int 0), (3, .int 1), (0, .ref a0), (1, .ref a1), (2, .int 1000000)]) hx hb dX3_cheapest_115 hl (k := 1) rfl (by decide) (by decide) rfl (fun ls hl => ?_)
  refine lv_goto (tgt := 87) hx hb dX3_cheapest_118 (by decide) ?_
  refine lv_iload hx hb dX3_cheapest_87 (lv_at hl 0 rfl) ?_
  refine lv_bipush (v := 10) hx hb dX3_cheapest_89 (by decide) ?_
  refine lv_icmp_ge (tgt := 121) hx hb dX3_cheapest_91 (by decide) (fun h => absurd h (by decide)) (fun _ => ?_)
  refine lv_iload hx hb dX3_cheapest_94 (lv_at hl 1 rfl) ?_
  refine lv_aload_n hx hb dX3_cheapest_96 rfl (lv_at hl 3 rfl) ?_
  refine fg_461 X hw 2 rfl rfl dX3_cheapest_97 ?_
  refine lv_iload_n hx hb dX3_cheapest_100 rfl (lv_at hl 2 rfl) ?_
  refine lv_iconst (v := 1) hx hb dX3_cheapest_101 (by decide) ?_
  refine kv_isub (v := 0) hx hb (by decide) dX3_cheapest_102 ?_
  refine lv_bipush (v := 10) hx hb dX3_cheapest_103 (by decide) ?_
  refine kv_imul (v := 0) hx hb (by decide) dX3_cheapest_105 ?_
  refine lv_iload hx hb dX3_cheapest_106 (lv_at hl 0 rfl) ?_
  refine kv_iadd (v := 4) hx hb (by decide) dX3_cheapest_108 ?_
  refine j_iald (j := 4) (v := 32000000) X hw 3 rfl (by decide) (by decide) (by decide) rfl dX3_cheapest_109 ?_
  refine k_min (v := 0) X hl.1 wd_1355 wd_637 wd_143 wd_638 (by decide) (Nat.le_of_ble_eq_true rfl) (by decide) (by decide) (by decide) dX3_cheapest_110 ?_
  refine lv_istore (lv' := [(4, .int 0), (5, .int 4), (3, .int 1), (0, .ref a0), (1, .ref a1), (2, .int 1000000)]) hx hb dX3_cheapest_113 hl (by decide) rfl (fun ls hl => ?_)
  refine lv_iinc (v := 5) (lv' := [(5, .int 5), (4, .int 0), (3, .int 1), (0, .ref a0), (1, .ref a1), (2, .int 1000000)]) hx hb dX3_cheapest_115 hl (k := 1) rfl (by decide) (by decide) rfl (fun ls hl => ?_)
  refine lv_goto (tgt := 87) hx hb dX3_cheapest_118 (by decide) ?_
  refine lv_iload hx hb dX3_cheapest_87 (lv_at hl 0 rfl) ?_
  refine lv_bipush (v := 10) hx hb dX3_cheapest_89 (by decide) ?_
  refine lv_icmp_ge (tgt := 121) hx hb dX3_cheapest_91 (by decide) (fun h => absurd h (by decide)) (fun _ => ?_)
  refine lv_iload hx hb dX3_cheapest_94 (lv_at hl 1 rfl) ?_
  refine lv_aload_n hx hb dX3_cheapest_96 rfl (lv_at hl 3 rfl) ?_
  refine fg_461 X hw 2 rfl rfl dX3_cheapest_97 ?_
  refine lv_iload_n hx hb dX3_cheapest_100 rfl (lv_at hl 2 rfl) ?_
  refine lv_iconst (v := 1) hx hb dX3_cheapest_101 (by decide) ?_
  refine kv_isub (v := 0) hx hb (by decide) dX3_cheapest_102 ?_
  refine lv_bipush (v := 10) hx hb dX3_cheapest_103 (by decide) ?_
  refine kv_imul (v := 0) hx hb (by decide) dX3_cheapest_105 ?_
  refine lv_iload hx hb dX3_cheapest_106 (lv_at hl 0 rfl) ?_
  refine kv_iadd (v := 5) hx hb (by decide) dX3_cheapest_108 ?_
  refine j_iald (j := 5) (v := 32000000) X hw 3 rfl (by decide) (by decide) (by decide) rfl dX3_cheapest_109 ?_
  refine k_min (v := 0) X hl.1 wd_1355 wd_637 wd_143 wd_638 (by decide) (Nat.le_of_ble_eq_true rfl) (by decide) (by decide) (by decide) dX3_cheapest_110 ?_
  refine lv_istore (lv' := [(4, .int 0), (5, .int 5), (3, .int 1), (0, .ref a0), (1, .ref a1), (2, .int 1000000)]) hx hb dX3_cheapest_113 hl (by decide) rfl (fun ls hl => ?_)
  refine lv_iinc (v := 6) (lv' := [(5, .int 6), (4, .int 0), (3, .int 1), (0, .ref a0), (1, .ref a1), (2, .int 1000000)]) hx hb dX3_cheapest_115 hl (k := 1) rfl (by decide) (by decide) rfl (fun ls hl => ?_)
  refine lv_goto (tgt := 87) hx hb dX3_cheapest_118 (by decide) ?_
  refine lv_iload hx hb dX3_cheapest_87 (lv_at hl 0 rfl) ?_
  refine lv_bipush (v := 10) hx hb dX3_cheapest_89 (by decide) ?_
  refine lv_icmp_ge (tgt := 121) hx hb dX3_cheapest_91 (by decide) (fun h => absurd h (by decide)) (fun _ => ?_)
  refine lv_iload hx hb dX3_cheapest_94 (lv_at hl 1 rfl) ?_
  refine lv_aload_n hx hb dX3_cheapest_96 rfl (lv_at hl 3 rfl) ?_
  refine fg_461 X hw 2 rfl rfl dX3_cheapest_97 ?_
  refine lv_iload_n hx hb dX3_cheapest_100 rfl (lv_at hl 2 rfl) ?_
  refine lv_iconst (v := 1) hx hb dX3_cheapest_101 (by decide) ?_
  refine kv_isub (v := 0) hx hb (by decide) dX3_cheapest_102 ?_
  refine lv_bipush (v := 10) hx hb dX3_cheapest_103 (by decide) ?_
  refine kv_imul (v := 0) hx hb (by decide) dX3_cheapest_105 ?_
  refine lv_iload hx hb dX3_cheapest_106 (lv_at hl 0 rfl) ?_
  refine kv_iadd (v := 6) hx hb (by decide) dX3_cheapest_108 ?_
  refine j_iald (j := 6) (v := 32000000) X hw 3 rfl (by decide) (by decide) (by decide) rfl dX3_cheapest_109 ?_
  refine k_min (v := 0) X hl.1 wd_1355 wd_637 wd_143 wd_638 (by decide) (Nat.le_of_ble_eq_true rfl) (by decide) (by decide) (by decide) dX3_cheapest_110 ?_
  refine lv_istore (lv' := [(4, .int 0), (5, .int 6), (3, .int 1), (0, .ref a0), (1, .ref a1), (2, .int 1000000)]) hx hb dX3_cheapest_113 hl (by decide) rfl (fun ls hl => ?_)
  refine lv_iinc (v := 7) (lv' := [(5, .int 7), (4, .int 0), (3, .int 1), (0, .ref a0), (1, .ref a1), (2, .int 1000000)]) hx hb dX3_cheapest_115 hl (k := 1) rfl (by decide) (by decide) rfl (fun ls hl => ?_)
  refine lv_goto (tgt := 87) hx hb dX3_cheapest_118 (by decide) ?_
  refine lv_iload hx hb dX3_cheapest_87 (lv_at hl 0 rfl) ?_
  refine lv_bipush (v := 10) hx hb dX3_cheapest_89 (by decide) ?_
  refine lv_icmp_ge (tgt := 121) hx hb dX3_cheapest_91 (by decide) (fun h => absurd h (by decide)) (fun _ => ?_)
  refine lv_iload hx hb dX3_cheapest_94 (lv_at hl 1 rfl) ?_
  refine lv_aload_n hx hb dX3_cheapest_96 rfl (lv_at hl 3 rfl) ?_
  refine fg_461 X hw 2 rfl rfl dX3_cheapest_97 ?_
  refine lv_iload_n hx hb dX3_cheapest_100 rfl (lv_at hl 2 rfl) ?_
  refine lv_iconst (v := 1) hx hb dX3_cheapest_101 (by decide) ?_
  refine kv_isub (v := 0) hx hb (by decide) dX3_cheapest_102 ?_
  refine lv_bipush (v := 10) hx hb dX3_cheapest_103 (by decide) ?_
  refine kv_imul (v := 0) hx hb (by decide) dX3_cheapest_105 ?_
  refine lv_iload hx hb dX3_cheapest_106 (lv_at hl 0 rfl) ?_
  refine kv_iadd (v := 7) hx hb (by decide) dX3_cheapest_108 ?_
  refine j_iald (j := 7) (v := 32000000) X hw 3 rfl (by decide) (by decide) (by decide) rfl dX3_cheapest_109 ?_
  refine k_min (v := 0) X hl.1 wd_1355 wd_637 wd_143 wd_638 (by decide) (Nat.le_of_ble_eq_true rfl) (by decide) (by decide) (by decide) dX3_cheapest_110 ?_
  refine lv_istore (lv' := [(4, .int 0), (5, .int 7), (3, .int 1), (0, .ref a0), (1, .ref a1), (2, .int 1000000)]) hx hb dX3_cheapest_113 hl (by decide) rfl (fun ls hl => ?_)
  refine lv_iinc (v := 8) (lv' := [(5, .int 8), (4, .int 0), (3, .int 1), (0, .ref a0), (1, .ref a1), (2, .int 1000000)]) hx hb dX3_cheapest_115 hl (k := 1) rfl (by decide) (by decide) rfl (fun ls hl => ?_)
  refine lv_goto (tgt := 87) hx hb dX3_cheapest_118 (by decide) ?_
  refine lv_iload hx hb dX3_cheapest_87 (lv_at hl 0 rfl) ?_
  refine lv_bipush (v := 10) hx hb dX3_cheapest_89 (by decide) ?_
  refine lv_icmp_ge (tgt := 121) hx hb dX3_cheapest_91 (by decide) (fun h => absurd h (by decide)) (fun _ => ?_)
  refine lv_iload hx hb dX3_cheapest_94 (lv_at hl 1 rfl) ?_
  refine lv_aload_n hx hb dX3_cheapest_96 rfl (lv_at hl 3 rfl) ?_
  refine fg_461 X hw 2 rfl rfl dX3_cheapest_97 ?_
  refine lv_iload_n hx hb dX3_cheapest_100 rfl (lv_at hl 2 rfl) ?_
  refine lv_iconst (v := 1) hx hb dX3_cheapest_101 (by decide) ?_
  refine kv_isub (v := 0) hx hb (by decide) dX3_cheapest_102 ?_
  refine lv_bipush (v := 10) hx hb dX3_cheapest_103 (by decide) ?_
  refine kv_imul (v := 0) hx hb (by decide) dX3_cheapest_105 ?_
  refine lv_iload hx hb dX3_cheapest_106 (lv_at hl 0 rfl) ?_
  refine kv_iadd (v := 8) hx hb (by decide) dX3_cheapest_108 ?_
  refine j_iald (j := 8) (v := 32000000) X hw 3 rfl (by decide) (by decide) (by decide) rfl dX3_cheapest_109 ?_
  refine k_min (v := 0) X hl.1 wd_1355 wd_637 wd_143 wd_638 (by decide) (Nat.le_of_ble_eq_true rfl) (by decide) (by decide) (by decide) dX3_cheapest_110 ?_
  refine lv_istore (lv' := [(4, .int 0), (5, .int 8), (3, .int 1), (0, .ref a0), (1, .ref a1), (2, .int 1000000)]) hx hb dX3_cheapest_113 hl (by decide) rfl (fun ls hl => ?_)
  refine lv_iinc (v := 9) (lv' := [(5, .int 9), (4, .int 0), (3, .int 1), (0, .ref a0), (1, .ref a1), (2, .int 1000000)]) hx hb dX3_cheapest_115 hl (k := 1) rfl (by decide) (by decide) rfl (fun ls hl => ?_)
  refine lv_goto (tgt := 87) hx hb dX3_cheapest_118 (by decide) ?_
  refine lv_iload hx hb dX3_cheapest_87 (lv_at hl 0 rfl) ?_
  refine lv_bipush (v := 10) hx hb dX3_cheapest_89 (by decide) ?_
  refine lv_icmp_ge (tgt := 121) hx hb dX3_cheapest_91 (by decide) (fun h => absurd h (by decide)) (fun _ => ?_)
  refine lv_iload hx hb dX3_cheapest_94 (lv_at hl 1 rfl) ?_
  refine lv_aload_n hx hb dX3_cheapest_96 rfl (lv_at hl 3 rfl) ?_
  refine fg_461 X hw 2 rfl rfl dX3_cheapest_97 ?_
  refine lv_iload_n hx hb dX3_cheapest_100 rfl (lv_at hl 2 rfl) ?_
  refine lv_iconst (v := 1) hx hb dX3_cheapest_101 (by decide) ?_
  refine kv_isub (v := 0) hx hb (by decide) dX3_cheapest_102 ?_
  refine lv_bipush (v := 10) hx hb dX3_cheapest_103 (by decide) ?_
  refine kv_imul (v := 0) hx hb (by decide) dX3_cheapest_105 ?_
  refine lv_iload hx hb dX3_cheapest_106 (lv_at hl 0 rfl) ?_
  refine kv_iadd (v := 9) hx hb (by decide) dX3_cheapest_108 ?_
  refine j_iald (j := 9) (v := 32000000) X hw 3 rfl (by decide) (by decide) (by decide) rfl dX3_cheapest_109 ?_
  refine k_min (v := 0) X hl.1 wd_1355 wd_637 wd_143 wd_638 (by decide) (Nat.le_of_ble_eq_true rfl) (by decide) (by decide) (by decide) dX3_cheapest_110 ?_
  refine lv_istore (lv' := [(4, .int 0), (5, .int 9), (3, .int 1), (0, .ref a0), (1, .ref a1), (2, .int 1000000)]) hx hb dX3_cheapest_113 hl (by decide) rfl (fun ls hl => ?_)
  refine lv_iinc (v := 10) (lv' := [(5, .int 10), (4, .int 0), (3, .int 1), (0, .ref a0), (1, .ref a1), (2, .int 1000000)]) hx hb dX3_cheapest_115 hl (k := 1) rfl (by decide) (by decide) rfl (fun ls hl => ?_)
  refine lv_goto (tgt := 87) hx hb dX3_cheapest_118 (by decide) ?_
  refine lv_iload hx hb dX3_cheapest_87 (lv_at hl 0 rfl) ?_
  refine lv_bipush (v := 10) hx hb dX3_cheapest_89 (by decide) ?_
  refine lv_icmp_ge (tgt := 121) hx hb dX3_cheapest_91 (by decide) (fun _ => ?_) (fun h => absurd (by decide) h)
  refine lv_iload hx hb dX3_cheapest_121 (lv_at hl 1 rfl) ?_
  exact r_i X hr hlk hw [0, 1, 2, 3] (fun k => [q7].getD k 0) rfl rfl rfl (by decide) (by decide) dX3_cheapest_123
set_option maxHeartbeats 4000000 in
set_option maxRecDepth 100000 in
theorem c182_X11_moving (l : Launch) (D : va_G) (ct : Nat → ClassId) (a0 : Nat) (p0 : Int32) (p1 : Int32) (a1 : Nat) (a2 : Nat) (a3 : Nat) (a4 : Nat) (a5 : Nat) (a6 : Nat) (a7 : Nat) (a8 : Nat) (a9 : Nat) (a10 : Nat) (a11 : Nat) (a12 : Nat) (a13 : Nat) (a14 : Nat) (a15 : Nat) (a16 : Nat) (a17 : Nat) (a18 : Nat) (a19 : Nat) (a20 : Nat) (a21 : Nat) (a22 : Nat) (a23 : Nat) (f0 : Nat → Int32) (a24 : Nat) (a25 : Nat) (a26 : Nat) (a27 : Nat) (a28 : Nat) (a29 : Nat) (a30 : Nat) (a31 : Nat) (a32 : Nat) (a33 : Nat) (a34 : Nat) (a35 : Nat) (a36 : Nat) : CI l yX11_moving cX11_moving 4 (some .int) { frames := 4, cells := 1, slots := 21870, locals := 104 } D ct [.ref a0, .int p0, .int p1] [(a0, .inr (11, [.ref a1, .int 0, .ref a2, .ref a3, .ref a4, .ref a5, .ref a6, .ref a7, .ref a8, .ref a9, .ref a10, .ref a11, .ref a12, .ref a13, .ref a14, .ref a15, .int (-1), .int (-1)])), (a2, .inr (2, [.int 0, .int 0, .int 0, .ref a16, .ref a17, .ref a18, .int 0, .int 0, .int 0, .int 0, .int 0, .ref a19, .int 0])), (a4, .inr (9, [.ref a20, .ref a21, .ref a2, .ref a22, .ref a23, .int (-1)])), (a20, .inl (ct 0, 7, .inl f0)), (a5, .inr (5, [.ref a24, .ref a25, .ref a26, .ref a27, .ref a28, .int 0, .int 0])), (a25, .inl (ct 0, 256, .inl (fun _ => 0))), (a28, .inl (ct 0, 7, .inl f0)), (a8, .inr (3, [.ref a2, .int 0, .ref a29, .ref a30, .ref a31, .ref a32, .ref a33, .ref a34, .ref a35, .ref a36])), (a36, .inl (ct 0, 0, .inl f0))] (fun r => ((p1.toInt < 0) ∨ (p1.toInt ≥ 0 ∧ p1.toInt > 1)) ∧ r = (-2) ∨ ((p1.toInt ≥ 0 ∧ p1.toInt ≤ 1 ∧ p0.toInt ≥ 0 ∧ p0.toInt < 1 ∧ p0.toInt = 0 ∧ p1.toInt ≠ 0 ∧ p1.toInt = 1) ∨ (p1.toInt ≥ 0 ∧ p1.toInt ≤ 1 ∧ p0.toInt ≥ 0 ∧ p0.toInt < 1 ∧ p0.toInt = 0 ∧ p1.toInt = 0 ∧ p1.toInt = 0)) ∧ r = 0 ∨ (p1.toInt ≥ 0 ∧ p1.toInt ≤ 1 ∧ p0.toInt ≥ 0 ∧ p0.toInt ≥ 1) ∧ r = (-1) ∨ (p1.toInt ≥ 0 ∧ p1.toInt ≤ 1 ∧ p0.toInt < 0) ∧ r = (-3)) (fun u => []) := by
  refine CI.of (by decide +kernel) (Nat.le_of_ble_eq_true rfl) ?_
  intro p e s m below meth c A ls hE
  obtain ⟨X, hr, hlk, hnm, hw, hl⟩ := hE
  have X : CX p m c cX11_moving 4 s [.ref a0, .int p0, .int p1].toArray RX11 D ct := X
  have hl : lv_has ls 4 [(0, .ref a0), (1, .int p0), (2, .int p1)] := hl
  obtain ⟨⟨hx, hb, hml, hown, hts⟩, hK⟩ := id X
  refine lv_iload_n hx hb dX11_moving_0 rfl (lv_at hl 2 rfl) ?_
  refine lv_if_lt (tgt := 9) hx hb dX11_moving_1 (by decide) (fun h1 => ?_) (fun h1 => ?_)
  · have h1 : p1.toInt < 0 := by have q := ci_lt (a := p1.toInt) (b := 0) rfl (by decide) h1; omega
    refine lv_bipush (v := (-2)) hx hb dX11_moving_9 (by decide) ?_
    exact r_i X hr hlk hw [] (fun _ => 0) rfl rfl (Or.inl (⟨Or.inl (h1), rfl⟩)) (by decide) (by decide) dX11_moving_11
  · have h1 : p1.toInt ≥ 0 := by have q := ci_nlt (a := p1.toInt) (b := 0) rfl (by decide) h1; omega
    refine lv_iload_n hx hb dX11_moving_4 rfl (lv_at hl 2 rfl) ?_
    refine lv_iconst (v := 1) hx hb dX11_moving_5 (by decide) ?_
    refine lv_icmp_le (tgt := 12) hx hb dX11_moving_6 (by decide) (fun h2 => ?_) (fun h2 => ?_)
    · have h2 : p1.toInt ≤ 1 := by have q := ci_le (a := p1.toInt) (b := 1) rfl (by decide) h2; omega
      refine lv_iload_n hx hb dX11_moving_12 rfl (lv_at hl 1 rfl) ?_
      refine lv_if_ge (tgt := 19) hx hb dX11_moving_13 (by decide) (fun h3 => ?_) (fun h3 => ?_)
      · have h3 : p0.toInt ≥ 0 := by have q := ci_le (a := 0) (b := p0.toInt) (by decide) rfl h3; omega
        refine lv_iload_n hx hb dX11_moving_19 rfl (lv_at hl 1 rfl) ?_
        refine lv_aload_n hx hb dX11_moving_20 rfl (lv_at hl 0 rfl) ?_
        refine m_Vi (As := []) (rest := [.int p0]) (c114_X11_tallyAll l D ct a0 a1 a2 a3 a4 a5 a6 a7 a8 a9 a10 a11 a12 a13 a14 a15 a16 a17 a18 a19 a20 a21 a22 a23 f0 a24 a25 a26 a27 a28) X hl.1 kw_1140 kd_yX11_tallyAll hw [0, 1, 2, 3, 4, 5, 6] [7, 8] rfl rfl rfl rfl (by decide) 0 rfl rfl ⟨by decide, by decide⟩ rfl rfl (Nat.le_of_ble_eq_true rfl) dX11_moving_21 ⟨by decide, by decide⟩ (fun r4 u5 H locs hr6 hw => ?_)
        replace hw : WD D A s.heap _ _ [(a8, .inr (3, [.ref a2, .int 0, .ref a29, .ref a30, .ref a31, .ref a32, .ref a33, .ref a34, .ref a35, .ref a36])), (a36, .inl (ct 0, 0, .inl f0)), (a0, .inr (11, [.ref a1, .int 0, .ref a2, .ref a3, .ref a4, .ref a5, .ref a6, .ref a7, .ref a8, .ref a9, .ref a10, .ref a11, .ref a12, .ref a13, .ref a14, .ref a15, .int (-1), .int (-1)])), (a2, .inr (2, [.int 0, .int 0, .int 0, .ref a16, .ref a17, .ref a18, .int 0, .int 0, .int 0, .int 0, .int 0, .ref a19, .int 0])), (a4, .inr (9, [.ref a20, .ref a21, .ref a2, .ref a22, .ref a23, .int 0])), (a20, .inl (ct 0, 7, .inl f0)), (a25, .inl (ct 0, 256, .inl (upd (fun _ => 0) 0 1))), (a28, .inl (ct 0, 7, .inl (va_cpy f0 f0 0 0 0))), (a5, .inr (5, [.ref a24, .ref a25, .ref a26, .ref a27, .ref a28, .int 0, .int 0]))] := hw
        subst hr6
        refine lv_icmp_lt (tgt := 29) hx hb dX11_moving_24 (by decide) (fun h7 => ?_) (fun h7 => ?_)
        · have h7 : p0.toInt < 1 := by have q := ci_lt (a := p0.toInt) (b := 1) rfl (by decide) h7; omega
          have e8 : p0.toInt = 0 := by omega
          obtain rfl : p0 = 0 := i32_of e8
          refine lv_aload_n hx hb dX11_moving_29 rfl (lv_at hl 0 rfl) ?_
          refine fg_570 X hw 2 rfl rfl dX11_moving_30 ?_
          refine lv_iload_n hx hb dX11_moving_33 rfl (lv_at hl 1 rfl) ?_
          refine lv_aload_n hx hb dX11_moving_34 rfl (lv_at hl 0 rfl) ?_
          refine fg_580 X hw 2 rfl rfl dX11_moving_35 ?_
          refine m_Vv (As := [.int 0, .ref a15]) (rest := []) (c176_X5_find l D ct a5 a15 a24 a25 a26 a27 a28) X hl.1 kw_1149 kd_yX5_find hw [8] [0, 1, 2, 3, 4, 5, 6, 7] rfl rfl rfl rfl (by decide) 0 rfl rfl ⟨by decide, by decide⟩ rfl rfl (Nat.le_of_ble_eq_true rfl) dX11_moving_38 ⟨by decide, by decide⟩ (fun u10 H locs hr11 hw => ?_)
          replace hw : WD D A s.heap _ _ [(a8, .inr (3, [.ref a2, .int 0, .ref a29, .ref a30, .ref a31, .ref a32, .ref a33, .ref a34, .ref a35, .ref a36])), (a36, .inl (ct 0, 0, .inl f0)), (a0, .inr (11, [.ref a1, .int 0, .ref a2, .ref a3, .ref a4, .ref a5, .ref a6, .ref a7, .ref a8, .ref a9, .ref a10, .ref a11, .ref a12, .ref a13, .ref a14, .ref a15, .int (-1), .int (-1)])), (a2, .inr (2, [.int 0, .int 0, .int 0, .ref a16, .ref a17, .ref a18, .int 0, .int 0, .int 0, .int 0, .int 0, .ref a19, .int 0])), (a4, .inr (9, [.ref a20, .ref a21, .ref a2, .ref a22, .ref a23, .int 0])), (a20, .inl (ct 0, 7, .inl f0)), (a25, .inl (ct 0, 256, .inl (upd (fun _ => 0) 0 1))), (a28, .inl (ct 0, 7, .inl (va_cpy f0 f0 0 0 0))), (a5, .inr (5, [.ref a24, .ref a25, .ref a26, .ref a27, .ref a28, .int 0, .int 0]))] := hw
          refine lv_aload_n hx hb dX11_moving_41 rfl (lv_at hl 0 rfl) ?_
          refine fg_573 X hw 2 rfl rfl dX11_moving_42 ?_
          refine lv_aload_n hx hb dX11_moving_45 rfl (lv_at hl 0 rfl) ?_
          refine fg_580 X hw 2 rfl rfl dX11_moving_46 ?_
          refine lv_ldcw hx hb hown (hts _ wd_1312) dX11_moving_49 ?_
          refine m_Vi (As := [.ref a15, .int 1000000]) (rest := []) (c181_X3_cheapest l D ct a8 a15 a2 a29 a30 a31 a32 a33 a34 a35 a36 f0 a16 a17 a18 a19) X hl.1 kw_1313 kd_yX3_cheapest hw [0, 1, 3] [2, 4, 5, 6, 7, 8] rfl rfl rfl rfl (by decide) 0 rfl rfl ⟨by decide, by decide⟩ rfl rfl (Nat.le_of_ble_eq_true rfl) dX11_moving_52 ⟨by decide, by decide⟩ (fun r12 u13 H locs hr14 hw => ?_)
          replace hw : WD D A s.heap _ _ [(a0, .inr (11, [.ref a1, .int 0, .ref a2, .ref a3, .ref a4, .ref a5, .ref a6, .ref a7, .ref a8, .ref a9, .ref a10, .ref a11, .ref a12, .ref a13, .ref a14, .ref a15, .int (-1), .int (-1)])), (a4, .inr (9, [.ref a20, .ref a21, .ref a2, .ref a22, .ref a23, .int 0])), (a20, .inl (ct 0, 7, .inl f0)), (a25, .inl (ct 0, 256, .inl (upd (fun _ => 0) 0 1))), (a28, .inl (ct 0, 7, .inl (va_cpy f0 f0 0 0 0))), (a5, .inr (5, [.ref a24, .ref a25, .ref a26, .ref a27, .ref a28, .int 0, .int 0])), (a36, .inl (ct 0, 0, .inl f0)), (a2, .inr (2, [.int 0, .int 0, .int 0, .ref a16, .ref a17, .ref a18, .int 0, .int 0, .int 0, .int 0, .int 0, .ref a19, .int 0])), (a8, .inr (3, [.ref a2, .int 0, .ref a29, .ref a30, .ref a31, .ref a32, .ref a33, .ref a34, .ref a35, .ref (u13 0)])), ((u13 0), .inl (ct 0, 21870, .inl (upd fx14 0 0)))] := hw
          subst hr14
          refine lv_istore_n (lv' := [(3, .int 0), (0, .ref a0), (1, .int 0), (2, .int p1)]) hx hb dX11_moving_55 rfl hl (by decide) rfl (fun ls hl => ?_)
          refine lv_iload_n hx hb dX11_moving_56 rfl (lv_at hl 3 rfl) ?_
          refine lv_if_ne (tgt := 67) hx hb dX11_moving_57 (by decide) (fun h15 => ?_) (fun h15 => ?_)
          · have h15 : p1.toInt ≠ 0 := by have q := ci_neq (a := p1.toInt) (b := 0) rfl (by decide) h15; omega
            have e16 : p1.toInt = 1 := by omega
            obtain rfl : p1 = 1 := i32_of e16
            refine lv_iload_n hx hb dX11_moving_67 rfl (lv_at hl 0 rfl) ?_
            refine lv_bipush (v := 32) hx hb dX11_moving_68 (by decide) ?_
            refine kv_irem (v := 0) hx hb (by decide) (by decide) dX11_moving_70 ?_
            exact r_i X hr hlk hw [] (fun _ => 0) rfl rfl (Or.inr (Or.inl (⟨Or.inl (⟨h1, h2, h3, h7, e8, h15, e16⟩), rfl⟩))) (by decide) (by decide) dX11_moving_71
          · have h15 : p1.toInt = 0 := by have q := ci_eq (a := p1.toInt) (b := 0) rfl (by decide) h15; omega
            have e17 : p1.toInt = 0 := by omega
            obtain rfl : p1 = 0 := i32_of e17
            refine lv_iload_n hx hb dX11_moving_60 rfl (lv_at hl 0 rfl) ?_
            refine lv_bipush (v := 32) hx hb dX11_moving_61 (by decide) ?_
            refine kv_idiv (v := 0) hx hb (by decide) (by decide) dX11_moving_63 ?_
            refine lv_goto (tgt := 71) hx hb dX11_moving_64 (by decide) ?_
            exact r_i X hr hlk hw [] (fun _ => 0) rfl rfl (Or.inr (Or.inl (⟨Or.inr (⟨h1, h2, h3, h7, e8, h15, e17⟩), rfl⟩))) (by decide) (by decide) dX11_moving_71
        · have h7 : p0.toInt ≥ 1 := by have q := ci_nlt (a := p0.toInt) (b := 1) rfl (by decide) h7; omega
          refine lv_iconst (v := (-1)) hx hb dX11_moving_27 (by decide) ?_
          exact r_i X hr hlk hw [] (fun _ => 0) rfl rfl (Or.inr (Or.inr (Or.inl (⟨⟨h1, h2, h3, h7⟩, rfl⟩)))) (by decide) (by decide) dX11_moving_28
      · have h3 : p0.toInt < 0 := by have q := ci_nle (a := 0) (b := p0.toInt) (by decide) rfl h3; omega
        refine lv_bipush (v := (-3)) hx hb dX11_moving_16 (by decide) ?_
        exact r_i X hr hlk hw [] (fun _ => 0) rfl rfl (Or.inr (Or.inr (Or.inr (⟨⟨h1, h2, h3⟩, rfl⟩)))) (by decide) (by decide) dX11_moving_18
    · have h2 : p1.toInt > 1 := by have q := ci_nle (a := p1.toInt) (b := 1) rfl (by decide) h2; omega
      refine lv_bipush (v := (-2)) hx hb dX11_moving_9 (by decide) ?_
      exact r_i X hr hlk hw [] (fun _ => 0) rfl rfl (Or.inl (⟨Or.inr (⟨h1, h2⟩), rfl⟩)) (by decide) (by decide) dX11_moving_11
set_option maxHeartbeats 4000000 in
set_option maxRecDepth 100000 in
theorem c183_X12_within (l : Launch) (D : va_G) (ct : Nat → ClassId) (w0 : Int64) : CI l yX12_within cX12_within 6 (some .boolean) { frames := 0, cells := 0, slots := 0, locals := 0 } D ct [.long w0, .long 0, .long 1] [] (fun r => ((w0.toInt < 0) ∨ (w0.toInt ≥ 0 ∧ w0.toInt > 1)) ∧ r = 0 ∨ (w0.toInt ≥ 0 ∧ w0.toInt ≤ 1) ∧ r = 1) (fun u => []) := by
  refine CI.of (by decide +kernel) (Nat.le_of_ble_eq_true rfl) ?_
  intro p e s m below meth c A ls hE
  obtain ⟨X, hr, hlk, hnm, hw, hl⟩ := hE
  have X : CX p m c cX12_within 6 s [.long w0, .long 0, .long 1].toArray RX12 D ct := X
  have hl : lv_has ls 6 [(0, .long w0), (2, .long 0), (4, .long 1)] := hl
  obtain ⟨⟨hx, hb, hml, hown, hts⟩, hK⟩ := id X
  refine lv_lload_n hx hb dX12_within_0 rfl (lv_at hl 0 rfl) ?_
  refine lv_lload_n hx hb dX12_within_1 rfl (lv_at hl 1 rfl) ?_
  refine W.lcmp hx hb dX12_within_2 ?_
  refine lv_if_lt (tgt := 17) hx hb dX12_within_3 (by decide) (fun h1 => ?_) (fun h1 => ?_)
  · have h1 : w0.toInt < 0 := by have q := cl_lt (a := w0.toInt) (b := 0) rfl (by decide) h1; omega
    refine lv_iconst (v := 0) hx hb dX12_within_17 (by decide) ?_
    exact r_z X hr hlk hw [] (fun _ => 0) rfl rfl (Or.inl (⟨Or.inl (h1), rfl⟩)) (by decide) (by decide) (by decide) dX12_within_18
  · have h1 : w0.toInt ≥ 0 := by have q := cl_nlt (a := w0.toInt) (b := 0) rfl (by decide) h1; omega
    refine lv_lload_n hx hb dX12_within_6 rfl (lv_at hl 0 rfl) ?_
    refine lv_lload hx hb dX12_within_7 (lv_at hl 2 rfl) ?_
    refine W.lcmp hx hb dX12_within_9 ?_
    refine lv_if_gt (tgt := 17) hx hb dX12_within_10 (by decide) (fun h2 => ?_) (fun h2 => ?_)
    · have h2 : w0.toInt > 1 := by have q := cl_gt (a := w0.toInt) (b := 1) rfl (by decide) h2; omega
      refine lv_iconst (v := 0) hx hb dX12_within_17 (by decide) ?_
      exact r_z X hr hlk hw [] (fun _ => 0) rfl rfl (Or.inl (⟨Or.inr (⟨h1, h2⟩), rfl⟩)) (by decide) (by decide) (by decide) dX12_within_18
    · have h2 : w0.toInt ≤ 1 := by have q := cl_ngt (a := w0.toInt) (b := 1) rfl (by decide) h2; omega
      refine lv_iconst (v := 1) hx hb dX12_within_13 (by decide) ?_
      refine lv_goto (tgt := 18) hx hb dX12_within_14 (by decide) ?_
      exact r_z X hr hlk hw [] (fun _ => 0) rfl rfl (Or.inr (⟨⟨h1, h2⟩, rfl⟩)) (by decide) (by decide) (by decide) dX12_within_18
def fx15 : Nat → Int32 := (upd (va_cpy (fun _ => 1000000000) (fun _ => 0) 0 0 21870) 0 0)
set_option maxHeartbeats 4000000 in
set_option maxRecDepth 100000 in
theorem ylp13 {p : Program} {l : Launch} {e : Env} {R : Room} {s : State} {m : MethodId} {args : Array Value} {below : List Frame} {meth : Method} {c : Code} {cells slots : Nat} {Q : State → Prop} {D : va_G} {ct : Nat → ClassId} {A : Nat → Prop} {a1 : Nat} {a0 : Nat} {a2 : Nat} {a3 : Nat} {a4 : Nat} {a5 : Nat} {a6 : Nat} {a7 : Nat} {a8 : Nat} {a9 : Nat} {a10 : Nat} {a11 : Nat} {a12 : Nat} {a13 : Nat} {a14 : Nat} {a15 : Nat} {a16 : Nat} (X : CX p m c cX12_moved 8 s args RX12 D ct) (kk : ∀ (g : Nat → Int32), g = (va_cpy (fun _ => 1000000000) (fun _ => 0) 0 0 21870) → ∀ (H : Heap) (locs : List Loc) (ls : Array Slot), WD D A s.heap H locs [(a1, .inl (ct 0, 21870, .inl g)), (a0, .inr (12, [.int 0, .ref a2, .ref a3, .ref a4, .ref a5, .int 0, .int 0, .int 0, .int 0, .int 0, .int 0, .int 0, .int 0, .int 0, .int (-1), .ref a6, .ref a7, .ref a8, .ref a9, .int 1, .ref a10, .ref a11, .int 0, .int 0, .int 0, .ref a1, .ref a12, .ref a13, .ref a14, .ref a15, .ref a16])), (a2, .inl (ct 0, 5310, .inl fx0))] → lv_has ls 8 [(2, .int (nI 21870)), (0, .ref a0), (1, .int 0)] → W p l e R s m args below meth c H locs cells slots Q (F0 m 24 ls [])) : ∀ (n k : Nat), k + n = 21870 → ∀ (g : Nat → Int32), g = (va_cpy (fun _ => 1000000000) (fun _ => 0) 0 0 k) → ∀ (H : Heap) (locs : List Loc) (ls : Array Slot), WD D A s.heap H locs [(a1, .inl (ct 0, 21870, .inl g)), (a0, .inr (12, [.int 0, .ref a2, .ref a3, .ref a4, .ref a5, .int 0, .int 0, .int 0, .int 0, .int 0, .int 0, .int 0, .int 0, .int 0, .int (-1), .ref a6, .ref a7, .ref a8, .ref a9, .int 1, .ref a10, .ref a11, .int 0, .int 0, .int 0, .ref a1, .ref a12, .ref a13, .ref a14, .ref a15, .ref a16])), (a2, .inl (ct 0, 5310, .inl fx0))] → lv_has ls 8 [(2, .int (nI k)), (0, .ref a0), (1, .int 0)] → W p l e R s m args below meth c H locs cells slots Q (F0 m 2 ls []) := by
  obtain ⟨⟨hx, hb, hml, hown, hts⟩, hK⟩ := id X
  intro n
  induction n with
  | zero =>
    intro k hk g hg H locs ls hw hl
    obtain rfl : k = 21870 := by omega
    refine lv_iload_n hx hb dX12_moved_2 rfl (lv_at hl 0 rfl) ?_
    refine lv_sipush (v := 21870) hx hb dX12_moved_3 (by decide) ?_
    refine lv_icmp_ge (tgt := 24) hx hb dX12_moved_6 (by decide) (fun _ => ?_) (fun h => absurd (nI_le (a := 21870) (b := 21870) (Nat.le_refl _) (by omega)) h)
    exact kk g hg _ _ _ hw hl
  | succ n ih =>
    intro k hk g hg H locs ls hw hl
    refine lv_iload_n hx hb dX12_moved_2 rfl (lv_at hl 0 rfl) ?_
    refine lv_sipush (v := 21870) hx hb dX12_moved_3 (by decide) ?_
    refine lv_icmp_ge (tgt := 24) hx hb dX12_moved_6 (by decide) (fun h => absurd h (nI_ge (a := k) (b := 21870) (by omega) (by omega))) (fun _ => ?_)
    refine lv_aload_n hx hb dX12_moved_9 rfl (lv_at hl 1 rfl) ?_
    refine fg_1467 X hw 1 rfl rfl dX12_moved_10 ?_
    refine lv_iload_n hx hb dX12_moved_13 rfl (lv_at hl 0 rfl) ?_
    refine lv_ldcw hx hb hown (hts _ wd_1924) dX12_moved_14 ?_
    refine j_iast (j := (k)) X hw 0 rfl (nI_pos (by omega)) (nI_clamp (by omega)) (by omega) dX12_moved_17 [(a1, .inl (ct 0, 21870, .inl (upd g (k) 1000000000))), (a0, .inr (12, [.int 0, .ref a2, .ref a3, .ref a4, .ref a5, .int 0, .int 0, .int 0, .int 0, .int 0, .int 0, .int 0, .int 0, .int 0, .int (-1), .ref a6, .ref a7, .ref a8, .ref a9, .int 1, .ref a10, .ref a11, .int 0, .int 0, .int 0, .ref a1, .ref a12, .ref a13, .ref a14, .ref a15, .ref a16])), (a2, .inl (ct 0, 5310, .inl fx0))] rfl (fun H locs hw => ?_)
    refine lv_iinc (v := (nI (k + 1))) (lv' := [(2, .int (nI (k + 1))), (0, .ref a0), (1, .int 0)]) hx hb dX12_moved_18 hl (k := 0) rfl (nI_add _ _) (by decide) rfl (fun ls hl => ?_)
    refine lv_goto (tgt := 2) hx hb dX12_moved_21 (by decide) ?_
    exact ih (k + 1) (by omega) _ (by rw [hg]; exact cpy_s _ _ _ _ _ _ _ (by omega) (by first | rfl | rw [Nat.zero_add])) _ _ _ hw (lv_sub hl [0, 1, 2] rfl)
set_option maxHeartbeats 4000000 in
set_option maxRecDepth 100000 in
theorem c184_X12_moved (l : Launch) (D : va_G) (ct : Nat → ClassId) (a0 : Nat) (a1 : Nat) (a2 : Nat) (a3 : Nat) (a4 : Nat) (a5 : Nat) (a6 : Nat) (a7 : Nat) (a8 : Nat) (a9 : Nat) (a10 : Nat) (a11 : Nat) (a12 : Nat) (a13 : Nat) (a14 : Nat) (a15 : Nat) (a16 : Nat) : CI l yX12_moved cX12_moved 8 (some .int) { frames := 0, cells := 0, slots := 0, locals := 0 } D ct [.ref a0, .int 0] [(a1, .inl (ct 0, 21870, .inl (fun _ => 0))), (a0, .inr (12, [.int 0, .ref a2, .ref a3, .ref a4, .ref a5, .int 0, .int 0, .int 0, .int 0, .int 0, .int 0, .int 0, .int 0, .int 0, .int (-1), .ref a6, .ref a7, .ref a8, .ref a9, .int 1, .ref a10, .ref a11, .int 0, .int 0, .int 0, .ref a1, .ref a12, .ref a13, .ref a14, .ref a15, .ref a16])), (a2, .inl (ct 0, 5310, .inl fx0))] (fun r => r = 0) (fun u => [(a1, .inl (ct 0, 21870, .inl fx15)), (a0, .inr (12, [.int 0, .ref a2, .ref a3, .ref a4, .ref a5, .int 0, .int 0, .int 0, .int 0, .int 0, .int 0, .int 0, .int 0, .int 0, .int (-1), .ref a6, .ref a7, .ref a8, .ref a9, .int 1, .ref a10, .ref a11, .int 0, .int 0, .int 0, .ref a1, .ref a12, .ref a13, .ref a14, .ref a15, .ref a16])), (a2, .inl (ct 0, 5310, .inl fx0))]) := by
  refine CI.of (by decide +kernel) (Nat.le_of_ble_eq_true rfl) ?_
  intro p e s m below meth c A ls hE
  obtain ⟨X, hr, hlk, hnm, hw, hl⟩ := hE
  have X : CX p m c cX12_moved 8 s [.ref a0, .int 0].toArray RX12 D ct := X
  have hl : lv_has ls 8 [(0, .ref a0), (1, .int 0)] := hl
  obtain ⟨⟨hx, hb, hml, hown, hts⟩, hK⟩ := id X
  refine lv_iconst (v := 0) hx hb dX12_moved_0 (by decide) ?_
  refine lv_istore_n (lv' := [(2, .int 0), (0, .ref a0), (1, .int 0)]) hx hb dX12_moved_1 rfl hl (by decide) rfl (fun ls hl => ?_)
  refine ylp13 X (fun g hg H locs ls hw hl => ?_) 21870 0 (by omega) _ (cpy_0 _ _ _ _) _ _ _ hw hl
  subst hg
  replace hw : WD D A s.heap _ _ [(a1, .inl (ct 0, 21870, .inl (va_cpy (fun _ => 1000000000) (fun _ => 0) 0 0 21870))), (a0, .inr (12, [.int 0, .ref a2, .ref a3, .ref a4, .ref a5, .int 0, .int 0, .int 0, .int 0, .int 0, .int 0, .int 0, .int 0, .int 0, .int (-1), .ref a6, .ref a7, .ref a8, .ref a9, .int 1, .ref a10, .ref a11, .int 0, .int 0, .int 0, .ref a1, .ref a12, .ref a13, .ref a14, .ref a15, .ref a16])), (a2, .inl (ct 0, 5310, .inl fx0))] := hw
  replace hl : lv_has ls 8 [(2, .int 21870), (0, .ref a0), (1, .int 0)] := hl
  refine lv_iconst (v := 0) hx hb dX12_moved_24 (by decide) ?_
  refine lv_istore_n (lv' := [(2, .int 0), (0, .ref a0), (1, .int 0)]) hx hb dX12_moved_25 rfl hl (by decide) rfl (fun ls hl => ?_)
  refine lv_iconst (v := 0) hx hb dX12_moved_26 (by decide) ?_
  refine lv_istore_n (lv' := [(3, .int 0), (2, .int 0), (0, .ref a0), (1, .int 0)]) hx hb dX12_moved_27 rfl hl (by decide) rfl (fun ls hl => ?_)
  refine lv_iconst (v := 0) hx hb dX12_moved_28 (by decide) ?_
  refine lv_istore (lv' := [(4, .int 0), (3, .int 0), (2, .int 0), (0, .ref a0), (1, .int 0)]) hx hb dX12_moved_29 hl (by decide) rfl (fun ls hl => ?_)
  refine lv_iload hx hb dX12_moved_31 (lv_at hl 0 rfl) ?_
  refine lv_aload_n hx hb dX12_moved_33 rfl (lv_at hl 3 rfl) ?_
  refine fg_1443 X hw 1 rfl rfl dX12_moved_34 ?_
  refine lv_iconst (v := 2) hx hb dX12_moved_37 (by decide) ?_
  refine j_iald (j := 2) (v := 0) X hw 2 rfl (by decide) (by decide) (by decide) rfl dX12_moved_38 ?_
  refine lv_icmp_ge (tgt := 113) hx hb dX12_moved_39 (by decide) (fun _ => ?_) (fun h => absurd (by decide) h)
  refine lv_aload_n hx hb dX12_moved_113 rfl (lv_at hl 3 rfl) ?_
  refine fg_1467 X hw 1 rfl rfl dX12_moved_114 ?_
  refine lv_bipush (v := 10) hx hb dX12_moved_117 (by decide) ?_
  refine lv_iload_n hx hb dX12_moved_119 rfl (lv_at hl 2 rfl) ?_
  refine kv_imul (v := 0) hx hb (by decide) dX12_moved_120 ?_
  refine lv_iconst (v := 0) hx hb dX12_moved_121 (by decide) ?_
  refine j_iast (j := 0) X hw 0 rfl (by decide) (by decide) (by decide) dX12_moved_122 [(a1, .inl (ct 0, 21870, .inl (upd (va_cpy (fun _ => 1000000000) (fun _ => 0) 0 0 21870) 0 0))), (a0, .inr (12, [.int 0, .ref a2, .ref a3, .ref a4, .ref a5, .int 0, .int 0, .int 0, .int 0, .int 0, .int 0, .int 0, .int 0, .int 0, .int (-1), .ref a6, .ref a7, .ref a8, .ref a9, .int 1, .ref a10, .ref a11, .int 0, .int 0, .int 0, .ref a1, .ref a12, .ref a13, .ref a14, .ref a15, .ref a16])), (a2, .inl (ct 0, 5310, .inl fx0))] rfl (fun H locs hw => ?_)
  refine lv_iload_n hx hb dX12_moved_123 rfl (lv_at hl 2 rfl) ?_
  refine lv_istore (lv' := [(4, .int 0), (3, .int 0), (2, .int 0), (0, .ref a0), (1, .int 0)]) hx hb dX12_moved_124 hl (by decide) rfl (fun ls hl => ?_)
  refine lv_iload hx hb dX12_moved_126 (lv_at hl 0 rfl) ?_
  refine lv_iload_n hx hb dX12_moved_128 rfl (lv_at hl 1 rfl) ?_
  refine lv_icmp_gt (tgt := 273) hx hb dX12_moved_129 (by decide) (fun h => absurd h (by decide)) (fun _ => ?_)
  refine lv_iconst (v := 0) hx hb dX12_moved_132 (by decide) ?_
  refine lv_istore (lv' := [(5, .int 0), (4, .int 0), (3, .int 0), (2, .int 0), (0, .ref a0), (1, .int 0)]) hx hb dX12_moved_133 hl (by decide) rfl (fun ls hl => ?_)
  refine lv_iload hx hb dX12_moved_135 (lv_at hl 0 rfl) ?_
  refine lv_bipush (v := 10) hx hb dX12_moved_137 (by decide) ?_
  refine lv_icmp_ge (tgt := 267) hx hb dX12_moved_139 (by decide) (fun h => absurd h (by decide)) (fun _ => ?_)
  refine lv_aload_n hx hb dX12_moved_142 rfl (lv_at hl 4 rfl) ?_
  refine fg_1467 X hw 1 rfl rfl dX12_moved_143 ?_
  refine lv_bipush (v := 10) hx hb dX12_moved_146 (by decide) ?_
  refine lv_iload hx hb dX12_moved_148 (lv_at hl 1 rfl) ?_
  refine kv_imul (v := 0) hx hb (by decide) dX12_moved_150 ?_
  refine lv_iload hx hb dX12_moved_151 (lv_at hl 0 rfl) ?_
  refine kv_iadd (v := 0) hx hb (by decide) dX12_moved_153 ?_
  refine j_iald (j := 0) (v := 0) X hw 0 rfl (by decide) (by decide) (by decide) rfl dX12_moved_154 ?_
  refine lv_ldcw hx hb hown (hts _ wd_1924) dX12_moved_155 ?_
  refine lv_icmp_ne (tgt := 164) hx hb dX12_moved_158 (by decide) (fun _ => ?_) (fun h => absurd h (by decide))
  refine lv_iconst (v := 0) hx hb dX12_moved_164 (by decide) ?_
  refine lv_istore (lv' := [(6, .int 0), (5, .int 0), (4, .int 0), (3, .int 0), (2, .int 0), (0, .ref a0), (1, .int 0)]) hx hb dX12_moved_165 hl (by decide) rfl (fun ls hl => ?_)
  refine lv_iload hx hb dX12_moved_167 (lv_at hl 0 rfl) ?_
  refine lv_aload_n hx hb dX12_moved_169 rfl (lv_at hl 5 rfl) ?_
  refine fg_1443 X hw 1 rfl rfl dX12_moved_170 ?_
  refine lv_iconst (v := 2) hx hb dX12_moved_173 (by decide) ?_
  refine j_iald (j := 2) (v := 0) X hw 2 rfl (by decide) (by decide) (by decide) rfl dX12_moved_174 ?_
  refine lv_icmp_ge (tgt := 261) hx hb dX12_moved_175 (by decide) (fun _ => ?_) (fun h => absurd (by decide) h)
  refine lv_iinc (v := 1) (lv' := [(5, .int 1), (6, .int 0), (4, .int 0), (3, .int 0), (2, .int 0), (0, .ref a0), (1, .int 0)]) hx hb dX12_moved_261 hl (k := 1) rfl (by decide) (by decide) rfl (fun ls hl => ?_)
  refine lv_goto (tgt := 135) hx hb dX12_moved_264 (by decide) ?_
  refine lv_iload hx hb dX12_moved_135 (lv_at hl 0 rfl) ?_
  refine lv_bipush (v := 10) hx hb dX12_moved_137 (by decide) ?_
  refine lv_icmp_ge (tgt := 267) hx hb dX12_moved_139 (by decide) (fun h => absurd h (by decide)) (fun _ => ?_)
  refine lv_aload_n hx hb dX12_moved_142 rfl (lv_at hl 5 rfl) ?_
  refine fg_1467 X hw 1 rfl rfl dX12_moved_143 ?_
  refine lv_bipush (v := 10) hx hb dX12_moved_146 (by decide) ?_
  refine lv_iload hx hb dX12_moved_148 (lv_at hl 2 rfl) ?_
  refine kv_imul (v := 0) hx hb (by decide) dX12_moved_150 ?_
  refine lv_iload hx hb dX12_moved_151 (lv_at hl 0 rfl) ?_
  refine kv_iadd (v := 1) hx hb (by decide) dX12_moved_153 ?_
  refine j_iald (j := 1) (v := 1000000000) X hw 0 rfl (by decide) (by decide) (by decide) rfl dX12_moved_154 ?_
  refine lv_ldcw hx hb hown (hts _ wd_1924) dX12_moved_155 ?_
  refine lv_icmp_ne (tgt := 164) hx hb dX12_moved_158 (by decide) (fun h => absurd rfl h) (fun _ => ?_)
  refine lv_goto (tgt := 261) hx hb dX12_moved_161 (by decide) ?_
  refine lv_iinc (v := 2) (lv' := [(5, .int 2), (6, .int 0), (4, .int 0), (3, .int 0), (2, .int 0), (0, .ref a0), (1, .int 0)]) hx hb dX12_moved_261 hl (k := 0) rfl (by decide) (by decide) rfl (fun ls hl => ?_)
  refine lv_goto (tgt := 135) hx hb dX12_moved_264 (by decide) ?_
  refine lv_iload hx hb dX12_moved_135 (lv_at hl 0 rfl) ?_
  refine lv_bipush (v := 10) hx hb dX12_moved_137 (by decide) ?_
  refine lv_icmp_ge (tgt := 267) hx hb dX12_moved_139 (by decide) (fun h => absurd h (by decide)) (fun _ => ?_)
  refine lv_aload_n hx hb dX12_moved_142 rfl (lv_at hl 5 rfl) ?_
  refine fg_1467 X hw 1 rfl rfl dX12_moved_143 ?_
  refine lv_bipush (v := 10) hx hb dX12_moved_146 (by decide) ?_
  refine lv_iload hx hb dX12_moved_148 (lv_at hl 2 rfl) ?_
  refine kv_imul (v := 0) hx hb (by decide) dX12_moved_150 ?_
  refine lv_iload hx hb dX12_moved_151 (lv_at hl 0 rfl) ?_
  refine kv_iadd (v := 2) hx hb (by decide) dX12_moved_153 ?_
  refine j_iald (j := 2) (v := 1000000000) X hw 0 rfl (by decide) (by decide) (by decide) rfl dX12_moved_154 ?_
  refine lv_ldcw hx hb hown (hts _ wd_1924) dX12_moved_155 ?_
  refine lv_icmp_ne (tgt := 164) hx hb dX12_moved_158 (by decide) (fun h => absurd rfl h) (fun _ => ?_)
  refine lv_goto (tgt := 261) hx hb dX12_moved_161 (by decide) ?_
  refine lv_iinc (v := 3) (lv' := [(5, .int 3), (6, .int 0), (4, .int 0), (3, .int 0), (2, .int 0), (0, .ref a0), (1, .int 0)]) hx hb dX12_moved_261 hl (k := 0) rfl (by decide) (by decide) rfl (fun ls hl => ?_)
  refine lv_goto (tgt := 135) hx hb dX12_moved_264 (by decide) ?_
  refine lv_iload hx hb dX12_moved_135 (lv_at hl 0 rfl) ?_
  refine lv_bipush (v := 10) hx hb dX12_moved_137 (by decide) ?_
  refine lv_icmp_ge (tgt := 267) hx hb dX12_moved_139 (by decide) (fun h => absurd h (by decide)) (fun _ => ?_)
  refine lv_aload_n hx hb dX12_moved_142 rfl (lv_at hl 5 rfl) ?_
  refine fg_1467 X hw 1 rfl rfl dX12_moved_143 ?_
  refine lv_bipush (v := 10) hx hb dX12_moved_146 (by decide) ?_
  refine lv_iload hx hb dX12_moved_148 (lv_at hl 2 rfl) ?_
  refine kv_imul (v := 0) hx hb (by decide) dX12_moved_150 ?_
  refine lv_iload hx hb dX12_moved_151 (lv_at hl 0 rfl) ?_
  refine kv_iadd (v := 3) hx hb (by decide) dX12_moved_153 ?_
  refine j_iald (j := 3) (v := 1000000000) X hw 0 rfl (by decide) (by decide) (by decide) rfl dX12_moved_154 ?_
  refine lv_ldcw hx hb hown (hts _ wd_1924) dX12_moved_155 ?_
  refine lv_icmp_ne (tgt := 164) hx hb dX12_moved_158 (by decide) (fun h => absurd rfl h) (fun _ => ?_)
  refine lv_goto (tgt := 261) hx hb dX12_moved_161 (by decide) ?_
  refine lv_iinc (v := 4) (lv' := [(5, .int 4), (6, .int 0), (4, .int 0), (3, .int 0), (2, .int 0), (0, .ref a0), (1, .int 0)]) hx hb dX12_moved_261 hl (k := 0) rfl (by decide) (by decide) rfl (fun ls hl => ?_)
  refine lv_goto (tgt := 135) hx hb dX12_moved_264 (by decide) ?_
  refine lv_iload hx hb dX12_moved_135 (lv_at hl 0 rfl) ?_
  refine lv_bipush (v := 10) hx hb dX12_moved_137 (by decide) ?_
  refine lv_icmp_ge (tgt := 267) hx hb dX12_moved_139 (by decide) (fun h => absurd h (by decide)) (fun _ => ?_)
  refine lv_aload_n hx hb dX12_moved_142 rfl (lv_at hl 5 rfl) ?_
  refine fg_1467 X hw 1 rfl rfl dX12_moved_143 ?_
  refine lv_bipush (v := 10) hx hb dX12_moved_146 (by decide) ?_
  refine lv_iload hx hb dX12_moved_148 (lv_at hl 2 rfl) ?_
  refine kv_imul (v := 0) hx hb (by decide) dX12_moved_150 ?_
  refine lv_iload hx hb dX12_moved_151 (lv_at hl 0 rfl) ?_
  refine kv_iadd (v := 4) hx hb (by decide) dX12_moved_153 ?_
  refine j_iald (j := 4) (v := 1000000000) X hw 0 rfl (by decide) (by decide) (by decide) rfl dX12_moved_154 ?_
  refine lv_ldcw hx hb hown (hts _ wd_1924) dX12_moved_155 ?_
  refine lv_icmp_ne (tgt := 164) hx hb dX12_moved_158 (by decide) (fun h => absurd rfl h) (fun _ => ?_)
  refine lv_goto (tgt := 261) hx hb dX12_moved_161 (by decide) ?_
  refine lv_iinc (v := 5) (lv' := [(5, .int 5), (6, .int 0), (4, .int 0), (3, .int 0), (2, .int 0), (0, .ref a0), (1, .int 0)]) hx hb dX12_moved_261 hl (k := 0) rfl (by decide) (by decide) rfl (fun ls hl => ?_)
  refine lv_goto (tgt := 135) hx hb dX12_moved_264 (by decide) ?_
  refine lv_iload hx hb dX12_moved_135 (lv_at hl 0 rfl) ?_
  refine lv_bipush (v := 10) hx hb dX12_moved_137 (by decide) ?_
  refine lv_icmp_ge (tgt := 267) hx hb dX12_moved_139 (by decide) (fun h => absurd h (by decide)) (fun _ => ?_)
  refine lv_aload_n hx hb dX12_moved_142 rfl (lv_at hl 5 rfl) ?_
  refine fg_1467 X hw 1 rfl rfl dX12_moved_143 ?_
  refine lv_bipush (v := 10) hx hb dX12_moved_146 (by decide) ?_
  refine lv_iload hx hb dX12_moved_148 (lv_at hl 2 rfl) ?_
  refine kv_imul (v := 0) hx hb (by decide) dX12_moved_150 ?_
  refine lv_iload hx hb dX12_moved_151 (lv_at hl 0 rfl) ?_
  refine kv_iadd (v := 5) hx hb (by decide) dX12_moved_153 ?_
  refine j_iald (j := 5) (v := 1000000000) X hw 0 rfl (by decide) (by decide) (by decide) rfl dX12_moved_154 ?_
  refine lv_ldcw hx hb hown (hts _ wd_1924) dX12_moved_155 ?_
  refine lv_icmp_ne (tgt := 164) hx hb dX12_moved_158 (by decide) (fun h => absurd rfl h) (fun _ => ?_)
  refine lv_goto (tgt := 261) hx hb dX12_moved_161 (by decide) ?_
  refine lv_iinc (v := 6) (lv' := [(5, .int 6), (6, .int 0), (4, .int 0), (3, .int 0), (2, .int 0), (0, .ref a0), (1, .int 0)]) hx hb dX12_moved_261 hl (k := 0) rfl (by decide) (by decide) rfl (fun ls hl => ?_)
  refine lv_goto (tgt := 135) hx hb dX12_moved_264 (by decide) ?_
  refine lv_iload hx hb dX12_moved_135 (lv_at hl 0 rfl) ?_
  refine lv_bipush (v := 10) hx hb dX12_moved_137 (by decide) ?_
  refine lv_icmp_ge (tgt := 267) hx hb dX12_moved_139 (by decide) (fun h => absurd h (by decide)) (fun _ => ?_)
  refine lv_aload_n hx hb dX12_moved_142 rfl (lv_at hl 5 rfl) ?_
  refine fg_1467 X hw 1 rfl rfl dX12_moved_143 ?_
  refine lv_bipush (v := 10) hx hb dX12_moved_146 (by decide) ?_
  refine lv_iload hx hb dX12_moved_148 (lv_at hl 2 rfl) ?_
  refine kv_imul (v := 0) hx hb (by decide) dX12_moved_150 ?_
  refine lv_iload hx hb dX12_moved_151 (lv_at hl 0 rfl) ?_
  refine kv_iadd (v := 6) hx hb (by decide) dX12_moved_153 ?_
  refine j_iald (j := 6) (v := 1000000000) X hw 0 rfl (by decide) (by decide) (by decide) rfl dX12_moved_154 ?_
  refine lv_ldcw hx hb hown (hts _ wd_1924) dX12_moved_155 ?_
  refine lv_icmp_ne (tgt := 164) hx hb dX12_moved_158 (by decide) (fun h => absurd rfl h) (fun _ => ?_)
  refine lv_goto (tgt := 261) hx hb dX12_moved_161 (by decide) ?_
  refine lv_iinc (v := 7) (lv' := [(5, .int 7), (6, .int 0), (4, .int 0), (3, .int 0), (2, .int 0), (0, .ref a0), (1, .int 0)]) hx hb dX12_moved_261 hl (k := 0) rfl (by decide) (by decide) rfl (fun ls hl => ?_)
  refine lv_goto (tgt := 135) hx hb dX12_moved_264 (by decide) ?_
  refine lv_iload hx hb dX12_moved_135 (lv_at hl 0 rfl) ?_
  refine lv_bipush (v := 10) hx hb dX12_moved_137 (by decide) ?_
  refine lv_icmp_ge (tgt := 267) hx hb dX12_moved_139 (by decide) (fun h => absurd h (by decide)) (fun _ => ?_)
  refine lv_aload_n hx hb dX12_moved_142 rfl (lv_at hl 5 rfl) ?_
  refine fg_1467 X hw 1 rfl rfl dX12_moved_143 ?_
  refine lv_bipush (v := 10) hx hb dX12_moved_146 (by decide) ?_
  refine lv_iload hx hb dX12_moved_148 (lv_at hl 2 rfl) ?_
  refine kv_imul (v := 0) hx hb (by decide) dX12_moved_150 ?_
  refine lv_iload hx hb dX12_moved_151 (lv_at hl 0 rfl) ?_
  refine kv_iadd (v := 7) hx hb (by decide) dX12_moved_153 ?_
  refine j_iald (j := 7) (v := 1000000000) X hw 0 rfl (by decide) (by decide) (by decide) rfl dX12_moved_154 ?_
  refine lv_ldcw hx hb hown (hts _ wd_1924) dX12_moved_155 ?_
  refine lv_icmp_ne (tgt := 164) hx hb dX12_moved_158 (by decide) (fun h => absurd rfl h) (fun _ => ?_)
  refine lv_goto (tgt := 261) hx hb dX12_moved_161 (by decide) ?_
  refine lv_iinc (v := 8) (lv' := [(5, .int 8), (6, .int 0), (4, .int 0), (3, .int 0), (2, .int 0), (0, .ref a0), (1, .int 0)]) hx hb dX12_moved_261 hl (k := 0) rfl (by decide) (by decide) rfl (fun ls hl => ?_)
  refine lv_goto (tgt := 135) hx hb dX12_moved_264 (by decide) ?_
  refine lv_iload hx hb dX12_moved_135 (lv_at hl 0 rfl) ?_
  refine lv_bipush (v := 10) hx hb dX12_moved_137 (by decide) ?_
  refine lv_icmp_ge (tgt := 267) hx hb dX12_moved_139 (by decide) (fun h => absurd h (by decide)) (fun _ => ?_)
  refine lv_aload_n hx hb dX12_moved_142 rfl (lv_at hl 5 rfl) ?_
  refine fg_1467 X hw 1 rfl rfl dX12_moved_143 ?_
  refine lv_bipush (v := 10) hx hb dX12_moved_146 (by decide) ?_
  refine lv_iload hx hb dX12_moved_148 (lv_at hl 2 rfl) ?_
  refine kv_imul (v := 0) hx hb (by decide) dX12_moved_150 ?_
  refine lv_iload hx hb dX12_moved_151 (lv_at hl 0 rfl) ?_
  refine kv_iadd (v := 8) hx hb (by decide) dX12_moved_153 ?_
  refine j_iald (j := 8) (v := 1000000000) X hw 0 rfl (by decide) (by decide) (by decide) rfl dX12_moved_154 ?_
  refine lv_ldcw hx hb hown (hts _ wd_1924) dX12_moved_155 ?_
  refine lv_icmp_ne (tgt := 164) hx hb dX12_moved_158 (by decide) (fun h => absurd rfl h) (fun _ => ?_)
  refine lv_goto (tgt := 261) hx hb dX12_moved_161 (by decide) ?_
  refine lv_iinc (v := 9) (lv' := [(5, .int 9), (6, .int 0), (4, .int 0), (3, .int 0), (2, .int 0), (0, .ref a0), (1, .int 0)]) hx hb dX12_moved_261 hl (k := 0) rfl (by decide) (by decide) rfl (fun ls hl => ?_)
  refine lv_goto (tgt := 135) hx hb dX12_moved_264 (by decide) ?_
  refine lv_iload hx hb dX12_moved_135 (lv_at hl 0 rfl) ?_
  refine lv_bipush (v := 10) hx hb dX12_moved_137 (by decide) ?_
  refine lv_icmp_ge (tgt := 267) hx hb dX12_moved_139 (by decide) (fun h => absurd h (by decide)) (fun _ => ?_)
  refine lv_aload_n hx hb dX12_moved_142 rfl (lv_at hl 5 rfl) ?_
  refine fg_1467 X hw 1 rfl rfl dX12_moved_143 ?_
  refine lv_bipush (v := 10) hx hb dX12_moved_146 (by decide) ?_
  refine lv_iload hx hb dX12_moved_148 (lv_at hl 2 rfl) ?_
  refine kv_imul (v := 0) hx hb (by decide) dX12_moved_150 ?_
  refine lv_iload hx hb dX12_moved_151 (lv_at hl 0 rfl) ?_
  refine kv_iadd (v := 9) hx hb (by decide) dX12_moved_153 ?_
  refine j_iald (j := 9) (v := 1000000000) X hw 0 rfl (by decide) (by decide) (by decide) rfl dX12_moved_154 ?_
  refine lv_ldcw hx hb hown (hts _ wd_1924) dX12_moved_155 ?_
  refine lv_icmp_ne (tgt := 164) hx hb dX12_moved_158 (by decide) (fun h => absurd rfl h) (fun _ => ?_)
  refine lv_goto (tgt := 261) hx hb dX12_moved_161 (by decide) ?_
  refine lv_iinc (v := 10) (lv' := [(5, .int 10), (6, .int 0), (4, .int 0), (3, .int 0), (2, .int 0), (0, .ref a0), (1, .int 0)]) hx hb dX12_moved_261 hl (k := 0) rfl (by decide) (by decide) rfl (fun ls hl => ?_)
  refine lv_goto (tgt := 135) hx hb dX12_moved_264 (by decide) ?_
  refine lv_iload hx hb dX12_moved_135 (lv_at hl 0 rfl) ?_
  refine lv_bipush (v := 10) hx hb dX12_moved_137 (by decide) ?_
  refine lv_icmp_ge (tgt := 267) hx hb dX12_moved_139 (by decide) (fun _ => ?_) (fun h => absurd (by decide) h)
  refine lv_iinc (v := 1) (lv' := [(4, .int 1), (5, .int 10), (6, .int 0), (3, .int 0), (2, .int 0), (0, .ref a0), (1, .int 0)]) hx hb dX12_moved_267 hl (k := 2) rfl (by decide) (by decide) rfl (fun ls hl => ?_)
  refine lv_goto (tgt := 126) hx hb dX12_moved_270 (by decide) ?_
  refine lv_iload hx hb dX12_moved_126 (lv_at hl 0 rfl) ?_
  refine lv_iload_n hx hb dX12_moved_128 rfl (lv_at hl 3 rfl) ?_
  refine lv_icmp_gt (tgt := 273) hx hb dX12_moved_129 (by decide) (fun _ => ?_) (fun h => absurd (by decide) h)
  refine lv_ldcw hx hb hown (hts _ wd_1924) dX12_moved_273 ?_
  refine lv_istore (lv' := [(4, .int 1000000000), (5, .int 10), (6, .int 0), (3, .int 0), (2, .int 0), (0, .ref a0), (1, .int 0)]) hx hb dX12_moved_276 hl (by decide) rfl (fun ls hl => ?_)
  refine lv_iconst (v := 0) hx hb dX12_moved_278 (by decide) ?_
  refine lv_istore (lv' := [(5, .int 0), (4, .int 1000000000), (6, .int 0), (3, .int 0), (2, .int 0), (0, .ref a0), (1, .int 0)]) hx hb dX12_moved_279 hl (by decide) rfl (fun ls hl => ?_)
  refine lv_iload hx hb dX12_moved_281 (lv_at hl 0 rfl) ?_
  refine lv_bipush (v := 10) hx hb dX12_moved_283 (by decide) ?_
  refine lv_icmp_ge (tgt := 330) hx hb dX12_moved_285 (by decide) (fun h => absurd h (by decide)) (fun _ => ?_)
  refine lv_aload_n hx hb dX12_moved_288 rfl (lv_at hl 5 rfl) ?_
  refine fg_1467 X hw 1 rfl rfl dX12_moved_289 ?_
  refine lv_bipush (v := 10) hx hb dX12_moved_292 (by decide) ?_
  refine lv_iload_n hx hb dX12_moved_294 rfl (lv_at hl 3 rfl) ?_
  refine kv_imul (v := 0) hx hb (by decide) dX12_moved_295 ?_
  refine lv_iload hx hb dX12_moved_296 (lv_at hl 0 rfl) ?_
  refine kv_iadd (v := 0) hx hb (by decide) dX12_moved_298 ?_
  refine j_iald (j := 0) (v := 0) X hw 0 rfl (by decide) (by decide) (by decide) rfl dX12_moved_299 ?_
  refine lv_iload hx hb dX12_moved_300 (lv_at hl 1 rfl) ?_
  refine lv_icmp_ge (tgt := 320) hx hb dX12_moved_302 (by decide) (fun h => absurd h (by decide)) (fun _ => ?_)
  refine lv_aload_n hx hb dX12_moved_305 rfl (lv_at hl 5 rfl) ?_
  refine fg_1467 X hw 1 rfl rfl dX12_moved_306 ?_
  refine lv_bipush (v := 10) hx hb dX12_moved_309 (by decide) ?_
  refine lv_iload_n hx hb dX12_moved_311 rfl (lv_at hl 3 rfl) ?_
  refine kv_imul (v := 0) hx hb (by decide) dX12_moved_312 ?_
  refine lv_iload hx hb dX12_moved_313 (lv_at hl 0 rfl) ?_
  refine kv_iadd (v := 0) hx hb (by decide) dX12_moved_315 ?_
  refine j_iald (j := 0) (v := 0) X hw 0 rfl (by decide) (by decide) (by decide) rfl dX12_moved_316 ?_
  refine lv_goto (tgt := 322) hx hb dX12_moved_317 (by decide) ?_
  refine lv_istore (lv' := [(4, .int 0), (5, .int 0), (6, .int 0), (3, .int 0), (2, .int 0), (0, .ref a0), (1, .int 0)]) hx hb dX12_moved_322 hl (by decide) rfl (fun ls hl => ?_)
  refine lv_iinc (v := 1) (lv' := [(5, .int 1), (4, .int 0), (6, .int 0), (3, .int 0), (2, .int 0), (0, .ref a0), (1, .int 0)]) hx hb dX12_moved_324 hl (k := 1) rfl (by decide) (by decide) rfl (fun ls hl => ?_)
  refine lv_goto (tgt := 281) hx hb dX12_moved_327 (by decide) ?_
  refine lv_iload hx hb dX12_moved_281 (lv_at hl 0 rfl) ?_
  refine lv_bipush (v := 10) hx hb dX12_moved_283 (by decide) ?_
  refine lv_icmp_ge (tgt := 330) hx hb dX12_moved_285 (by decide) (fun h => absurd h (by decide)) (fun _ => ?_)
  refine lv_aload_n hx hb dX12_moved_288 rfl (lv_at hl 5 rfl) ?_
  refine fg_1467 X hw 1 rfl rfl dX12_moved_289 ?_
  refine lv_bipush (v := 10) hx hb dX12_moved_292 (by decide) ?_
  refine lv_iload_n hx hb dX12_moved_294 rfl (lv_at hl 3 rfl) ?_
  refine kv_imul (v := 0) hx hb (by decide) dX12_moved_295 ?_
  refine lv_iload hx hb dX12_moved_296 (lv_at hl 0 rfl) ?_
  refine kv_iadd (v := 1) hx hb (by decide) dX12_moved_298 ?_
  refine j_iald (j := 1) (v := 1000000000) X hw 0 rfl (by decide) (by decide) (by decide) rfl dX12_moved_299 ?_
  refine lv_iload hx hb dX12_moved_300 (lv_at hl 1 rfl) ?_
  refine lv_icmp_ge (tgt := 320) hx hb dX12_moved_302 (by decide) (fun _ => ?_) (fun h => absurd (by decide) h)
  refine lv_iload hx hb dX12_moved_320 (lv_at hl 1 rfl) ?_
  refine lv_istore (lv' := [(4, .int 0), (5, .int 1), (6, .int 0), (3, .int 0), (2, .int 0), (0, .ref a0), (1, .int 0)]) hx hb dX12_moved_322 hl (by decide) rfl (fun ls hl => ?_)
  refine lv_iinc (v := 2) (lv' := [(5, .int 2), (4, .int 0), (6, .int 0), (3, .int 0), (2, .int 0), (0, .ref a0), (1, .int 0)]) hx hb dX12_moved_324 hl (k := 1) rfl (by decide) (by decide) rfl (fun ls hl => ?_)
  refine lv_goto (tgt := 281) hx hb dX12_moved_327 (by decide) ?_
  refine lv_iload hx hb dX12_moved_281 (lv_at hl 0 rfl) ?_
  refine lv_bipush (v := 10) hx hb dX12_moved_283 (by decide) ?_
  refine lv_icmp_ge (tgt := 330) hx hb dX12_moved_285 (by decide) (fun h => absurd h (by decide)) (fun _ => ?_)
  refine lv_aload_n hx hb dX12_moved_288 rfl (lv_at hl 5 rfl) ?_
  refine fg_1467 X hw 1 rfl rfl dX12_moved_289 ?_
  refine lv_bipush (v := 10) hx hb dX12_moved_292 (by decide) ?_
  refine lv_iload_n hx hb dX12_moved_294 rfl (lv_at hl 3 rfl) ?_
  refine kv_imul (v := 0) hx hb (by decide) dX12_moved_295 ?_
  refine lv_iload hx hb dX12_moved_296 (lv_at hl 0 rfl) ?_
  refine kv_iadd (v := 2) hx hb (by decide) dX12_moved_298 ?_
  refine j_iald (j := 2) (v := 1000000000) X hw 0 rfl (by decide) (by decide) (by decide) rfl dX12_moved_299 ?_
  refine lv_iload hx hb dX12_moved_300 (lv_at hl 1 rfl) ?_
  refine lv_icmp_ge (tgt := 320) hx hb dX12_moved_302 (by decide) (fun _ => ?_) (fun h => absurd (by decide) h)
  refine lv_iload hx hb dX12_moved_320 (lv_at hl 1 rfl) ?_
  refine lv_istore (lv' := [(4, .int 0), (5, .int 2), (6, .int 0), (3, .int 0), (2, .int 0), (0, .ref a0), (1, .int 0)]) hx hb dX12_moved_322 hl (by decide) rfl (fun ls hl => ?_)
  refine lv_iinc (v := 3) (lv' := [(5, .int 3), (4, .int 0), (6, .int 0), (3, .int 0), (2, .int 0), (0, .ref a0), (1, .int 0)]) hx hb dX12_moved_324 hl (k := 1) rfl (by decide) (by decide) rfl (fun ls hl => ?_)
  refine lv_goto (tgt := 281) hx hb dX12_moved_327 (by decide) ?_
  refine lv_iload hx hb dX12_moved_281 (lv_at hl 0 rfl) ?_
  refine lv_bipush (v := 10) hx hb dX12_moved_283 (by decide) ?_
  refine lv_icmp_ge (tgt := 330) hx hb dX12_moved_285 (by decide) (fun h => absurd h (by decide)) (fun _ => ?_)
  refine lv_aload_n hx hb dX12_moved_288 rfl (lv_at hl 5 rfl) ?_
  refine fg_1467 X hw 1 rfl rfl dX12_moved_289 ?_
  refine lv_bipush (v := 10) hx hb dX12_moved_292 (by decide) ?_
  refine lv_iload_n hx hb dX12_moved_294 rfl (lv_at hl 3 rfl) ?_
  refine kv_imul (v := 0) hx hb (by decide) dX12_moved_295 ?_
  refine lv_iload hx hb dX12_moved_296 (lv_at hl 0 rfl) ?_
  refine kv_iadd (v := 3) hx hb (by decide) dX12_moved_298 ?_
  refine j_iald (j := 3) (v := 1000000000) X hw 0 rfl (by decide) (by decide) (by decide) rfl dX12_moved_299 ?_
  refine lv_iload hx hb dX12_moved_300 (lv_at hl 1 rfl) ?_
  refine lv_icmp_ge (tgt := 320) hx hb dX12_moved_302 (by decide) (fun _ => ?_) (fun h => absurd (by decide) h)
  refine lv_iload hx hb dX12_moved_320 (lv_at hl 1 rfl) ?_
  refine lv_istore (lv' := [(4, .int 0), (5, .int 3), (6, .int 0), (3, .int 0), (2, .int 0), (0, .ref a0), (1, .int 0)]) hx hb dX12_moved_322 hl (by decide) rfl (fun ls hl => ?_)
  refine lv_iinc (v := 4) (lv' := [(5, .int 4), (4, .int 0), (6, .int 0), (3, .int 0), (2, .int 0), (0, .ref a0), (1, .int 0)]) hx hb dX12_moved_324 hl (k := 1) rfl (by decide) (by decide) rfl (fun ls hl => ?_)
  refine lv_goto (tgt := 281) hx hb dX12_moved_327 (by decide) ?_
  refine lv_iload hx hb dX12_moved_281 (lv_at hl 0 rfl) ?_
  refine lv_bipush (v := 10) hx hb dX12_moved_283 (by decide) ?_
  refine lv_icmp_ge (tgt := 330) hx hb dX12_moved_285 (by decide) (fun h => absurd h (by decide)) (fun _ => ?_)
  refine lv_aload_n hx hb dX12_moved_288 rfl (lv_at hl 5 rfl) ?_
  refine fg_1467 X hw 1 rfl rfl dX12_moved_289 ?_
  refine lv_bipush (v := 10) hx hb dX12_moved_292 (by decide) ?_
  refine lv_iload_n hx hb dX12_moved_294 rfl (lv_at hl 3 rfl) ?_
  refine kv_imul (v := 0) hx hb (by decide) dX12_moved_295 ?_
  refine lv_iload hx hb dX12_moved_296 (lv_at hl 0 rfl) ?_
  refine kv_iadd (v := 4) hx hb (by decide) dX12_moved_298 ?_
  refine j_iald (j := 4) (v := 1000000000) X hw 0 rfl (by decide) (by decide) (by decide) rfl dX12_moved_299 ?_
  refine lv_iload hx hb dX12_moved_300 (lv_at hl 1 rfl) ?_
  refine lv_icmp_ge (tgt := 320) hx hb dX12_moved_302 (by decide) (fun _ => ?_) (fun h => absurd (by decide) h)
  refine lv_iload hx hb dX12_moved_320 (lv_at hl 1 rfl) ?_
  refine lv_istore (lv' := [(4, .int 0), (5, .int 4), (6, .int 0), (3, .int 0), (2, .int 0), (0, .ref a0), (1, .int 0)]) hx hb dX12_moved_322 hl (by decide) rfl (fun ls hl => ?_)
  refine lv_iinc (v := 5) (lv' := [(5, .int 5), (4, .int 0), (6, .int 0), (3, .int 0), (2, .int 0), (0, .ref a0), (1, .int 0)]) hx hb dX12_moved_324 hl (k := 1) rfl (by decide) (by decide) rfl (fun ls hl => ?_)
  refine lv_goto (tgt := 281) hx hb dX12_moved_327 (by decide) ?_
  refine lv_iload hx hb dX12_moved_281 (lv_at hl 0 rfl) ?_
  refine lv_bipush (v := 10) hx hb dX12_moved_283 (by decide) ?_
  refine lv_icmp_ge (tgt := 330) hx hb dX12_moved_285 (by decide) (fun h => absurd h (by decide)) (fun _ => ?_)
  refine lv_aload_n hx hb dX12_moved_288 rfl (lv_at hl 5 rfl) ?_
  refine fg_1467 X hw 1 rfl rfl dX12_moved_289 ?_
  refine lv_bipush (v := 10) hx hb dX12_moved_292 (by decide) ?_
  refine lv_iload_n hx hb dX12_moved_294 rfl (lv_at hl 3 rfl) ?_
  refine kv_imul (v := 0) hx hb (by decide) dX12_moved_295 ?_
  refine lv_iload hx hb dX12_moved_296 (lv_at hl 0 rfl) ?_
  refine kv_iadd (v := 5) hx hb (by decide) dX12_moved_298 ?_
  refine j_iald (j := 5) (v := 1000000000) X hw 0 rfl (by decide) (by decide) (by decide) rfl dX12_moved_299 ?_
  refine lv_iload hx hb dX12_moved_300 (lv_at hl 1 rfl) ?_
  refine lv_icmp_ge (tgt := 320) hx hb dX12_moved_302 (by decide) (fun _ => ?_) (fun h => absurd (by decide) h)
  refine lv_iload hx hb dX12_moved_320 (lv_at hl 1 rfl) ?_
  refine lv_istore (lv' := [(4, .int 0), (5, .int 5), (6, .int 0), (3, .int 0), (2, .int 0), (0, .ref a0), (1, .int 0)]) hx hb dX12_moved_322 hl (by decide) rfl (fun ls hl => ?_)
  refine lv_iinc (v := 6) (lv' := [(5, .int 6), (4, .int 0), (6, .int 0), (3, .int 0), (2, .int 0), (0, .ref a0), (1, .int 0)]) hx hb dX12_moved_324 hl (k := 1) rfl (by decide) (by decide) rfl (fun ls hl => ?_)
  refine lv_goto (tgt := 281) hx hb dX12_moved_327 (by decide) ?_
  refine lv_iload hx hb dX12_moved_281 (lv_at hl 0 rfl) ?_
  refine lv_bipush (v := 10) hx hb dX12_moved_283 (by decide) ?_
  refine lv_icmp_ge (tgt := 330) hx hb dX12_moved_285 (by decide) (fun h => absurd h (by decide)) (fun _ => ?_)
  refine lv_aload_n hx hb dX12_moved_288 rfl (lv_at hl 5 rfl) ?_
  refine fg_1467 X hw 1 rfl rfl dX12_moved_289 ?_
  refine lv_bipush (v := 10) hx hb dX12_moved_292 (by decide) ?_
  refine lv_iload_n hx hb dX12_moved_294 rfl (lv_at hl 3 rfl) ?_
  refine kv_imul (v := 0) hx hb (by decide) dX12_moved_295 ?_
  refine lv_iload hx hb dX12_moved_296 (lv_at hl 0 rfl) ?_
  refine kv_iadd (v := 6) hx hb (by decide) dX12_moved_298 ?_
  refine j_iald (j := 6) (v := 1000000000) X hw 0 rfl (by decide) (by decide) (by decide) rfl dX12_moved_299 ?_
  refine lv_iload hx hb dX12_moved_300 (lv_at hl 1 rfl) ?_
  refine lv_icmp_ge (tgt := 320) hx hb dX12_moved_302 (by decide) (fun _ => ?_) (fun h => absurd (by decide) h)
  refine lv_iload hx hb dX12_moved_320 (lv_at hl 1 rfl) ?_
  refine lv_istore (lv' := [(4, .int 0), (5, .int 6), (6, .int 0), (3, .int 0), (2, .int 0), (0, .ref a0), (1, .int 0)]) hx hb dX12_moved_322 hl (by decide) rfl (fun ls hl => ?_)
  refine lv_iinc (v := 7) (lv' := [(5, .int 7), (4, .int 0), (6, .int 0), (3, .int 0), (2, .int 0), (0, .ref a0), (1, .int 0)]) hx hb dX12_moved_324 hl (k := 1) rfl (by decide) (by decide) rfl (fun ls hl => ?_)
  refine lv_goto (tgt := 281) hx hb dX12_moved_327 (by decide) ?_
  refine lv_iload hx hb dX12_moved_281 (lv_at hl 0 rfl) ?_
  refine lv_bipush (v := 10) hx hb dX12_moved_283 (by decide) ?_
  refine lv_icmp_ge (tgt := 330) hx hb dX12_moved_285 (by decide) (fun h => absurd h (by decide)) (fun _ => ?_)
  refine lv_aload_n hx hb dX12_moved_288 rfl (lv_at hl 5 rfl) ?_
  refine fg_1467 X hw 1 rfl rfl dX12_moved_289 ?_
  refine lv_bipush (v := 10) hx hb dX12_moved_292 (by decide) ?_
  refine lv_iload_n hx hb dX12_moved_294 rfl (lv_at hl 3 rfl) ?_
  refine kv_imul (v := 0) hx hb (by decide) dX12_moved_295 ?_
  refine lv_iload hx hb dX12_moved_296 (lv_at hl 0 rfl) ?_
  refine kv_iadd (v := 7) hx hb (by decide) dX12_moved_298 ?_
  refine j_iald (j := 7) (v := 1000000000) X hw 0 rfl (by decide) (by decide) (by decide) rfl dX12_moved_299 ?_
  refine lv_iload hx hb dX12_moved_300 (lv_at hl 1 rfl) ?_
  refine lv_icmp_ge (tgt := 320) hx hb dX12_moved_302 (by decide) (fun _ => ?_) (fun h => absurd (by decide) h)
  refine lv_iload hx hb dX12_moved_320 (lv_at hl 1 rfl) ?_
  refine lv_istore (lv' := [(4, .int 0), (5, .int 7), (6, .int 0), (3, .int 0), (2, .int 0), (0, .ref a0), (1, .int 0)]) hx hb dX12_moved_322 hl (by decide) rfl (fun ls hl => ?_)
  refine lv_iinc (v := 8) (lv' := [(5, .int 8), (4, .int 0), (6, .int 0), (3, .int 0), (2, .int 0), (0, .ref a0), (1, .int 0)]) hx hb dX12_moved_324 hl (k := 1) rfl (by decide) (by decide) rfl (fun ls hl => ?_)
  refine lv_goto (tgt := 281) hx hb dX12_moved_327 (by decide) ?_
  refine lv_iload hx hb dX12_moved_281 (lv_at hl 0 rfl) ?_
  refine lv_bipush (v := 10) hx hb dX12_moved_283 (by decide) ?_
  refine lv_icmp_ge (tgt := 330) hx hb dX12_moved_285 (by decide) (fun h => absurd h (by decide)) (fun _ => ?_)
  refine lv_aload_n hx hb dX12_moved_288 rfl (lv_at hl 5 rfl) ?_
  refine fg_1467 X hw 1 rfl rfl dX12_moved_289 ?_
  refine lv_bipush (v := 10) hx hb dX12_moved_292 (by decide) ?_
  refine lv_iload_n hx hb dX12_moved_294 rfl (lv_at hl 3 rfl) ?_
  refine kv_imul (v := 0) hx hb (by decide) dX12_moved_295 ?_
  refine lv_iload hx hb dX12_moved_296 (lv_at hl 0 rfl) ?_
  refine kv_iadd (v := 8) hx hb (by decide) dX12_moved_298 ?_
  refine j_iald (j := 8) (v := 1000000000) X hw 0 rfl (by decide) (by decide) (by decide) rfl dX12_moved_299 ?_
  refine lv_iload hx hb dX12_moved_300 (lv_at hl 1 rfl) ?_
  refine lv_icmp_ge (tgt := 320) hx hb dX12_moved_302 (by decide) (fun _ => ?_) (fun h => absurd (by decide) h)
  refine lv_iload hx hb dX12_moved_320 (lv_at hl 1 rfl) ?_
  refine lv_istore (lv' := [(4, .int 0), (5, .int 8), (6, .int 0), (3, .int 0), (2, .int 0), (0, .ref a0), (1, .int 0)]) hx hb dX12_moved_322 hl (by decide) rfl (fun ls hl => ?_)
  refine lv_iinc (v := 9) (lv' := [(5, .int 9), (4, .int 0), (6, .int 0), (3, .int 0), (2, .int 0), (0, .ref a0), (1, .int 0)]) hx hb dX12_moved_324 hl (k := 1) rfl (by decide) (by decide) rfl (fun ls hl => ?_)
  refine lv_goto (tgt := 281) hx hb dX12_moved_327 (by decide) ?_
  refine lv_iload hx hb dX12_moved_281 (lv_at hl 0 rfl) ?_
  refine lv_bipush (v := 10) hx hb dX12_moved_283 (by decide) ?_
  refine lv_icmp_ge (tgt := 330) hx hb dX12_moved_285 (by decide) (fun h => absurd h (by decide)) (fun _ => ?_)
  refine lv_aload_n hx hb dX12_moved_288 rfl (lv_at hl 5 rfl) ?_
  refine fg_1467 X hw 1 rfl rfl dX12_moved_289 ?_
  refine lv_bipush (v := 10) hx hb dX12_moved_292 (by decide) ?_
  refine lv_iload_n hx hb dX12_moved_294 rfl (lv_at hl 3 rfl) ?_
  refine kv_imul (v := 0) hx hb (by decide) dX12_moved_295 ?_
  refine lv_iload hx hb dX12_moved_296 (lv_at hl 0 rfl) ?_
  refine kv_iadd (v := 9) hx hb (by decide) dX12_moved_298 ?_
  refine j_iald (j := 9) (v := 1000000000) X hw 0 rfl (by decide) (by decide) (by decide) rfl dX12_moved_299 ?_
  refine lv_iload hx hb dX12_moved_300 (lv_at hl 1 rfl) ?_
  refine lv_icmp_ge (tgt := 320) hx hb dX12_moved_302 (by decide) (fun _ => ?_) (fun h => absurd (by decide) h)
  refine lv_iload hx hb dX12_moved_320 (lv_at hl 1 rfl) ?_
  refine lv_istore (lv' := [(4, .int 0), (5, .int 9), (6, .int 0), (3, .int 0), (2, .int 0), (0, .ref a0), (1, .int 0)]) hx hb dX12_moved_322 hl (by decide) rfl (fun ls hl => ?_)
  refine lv_iinc (v := 10) (lv' := [(5, .int 10), (4, .int 0), (6, .int 0), (3, .int 0), (2, .int 0), (0, .ref a0), (1, .int 0)]) hx hb dX12_moved_324 hl (k := 1) rfl (by decide) (by decide) rfl (fun ls hl => ?_)
  refine lv_goto (tgt := 281) hx hb dX12_moved_327 (by decide) ?_
  refine lv_iload hx hb dX12_moved_281 (lv_at hl 0 rfl) ?_
  refine lv_bipush (v := 10) hx hb dX12_moved_283 (by decide) ?_
  refine lv_icmp_ge (tgt := 330) hx hb dX12_moved_285 (by decide) (fun _ => ?_) (fun h => absurd (by decide) h)
  refine lv_iload hx hb dX12_moved_330 (lv_at hl 1 rfl) ?_
  exact r_i X hr hlk hw [0, 1, 2] (fun _ => 0) rfl rfl rfl (by decide) (by decide) dX12_moved_332
set_option maxHeartbeats 4000000 in
set_option maxRecDepth 100000 in
theorem c185_X12_moving (l : Launch) (D : va_G) (ct : Nat → ClassId) (a0 : Nat) (p0 : Int32) (p1 : Int32) (a1 : Nat) (a2 : Nat) (a3 : Nat) (a4 : Nat) (a5 : Nat) (a6 : Nat) (a7 : Nat) (a8 : Nat) (a9 : Nat) (a10 : Nat) (a11 : Nat) (a12 : Nat) (a13 : Nat) (a14 : Nat) (a15 : Nat) (a16 : Nat) : CI l yX12_moving cX12_moving 4 (some .int) { frames := 2, cells := 0, slots := 0, locals := 46 } D ct [.ref a0, .int p0, .int p1] [(a0, .inr (12, [.int 0, .ref a1, .ref a2, .ref a3, .ref a4, .int 0, .int 0, .int 0, .int 0, .int 0, .int 0, .int 0, .int 0, .int 0, .int (-1), .ref a5, .ref a6, .ref a7, .ref a8, .int 0, .ref a9, .ref a10, .int 0, .int 0, .int 0, .ref a11, .ref a12, .ref a13, .ref a14, .ref a15, .ref a16])), (a8, .inl (ct 0, 40320, .inl (fun _ => 0))), (a11, .inl (ct 0, 21870, .inl (fun _ => 0))), (a1, .inl (ct 0, 5310, .inl fx0))] (fun r => (((p1.toInt < 0) ∨ (p1.toInt ≥ 0 ∧ p1.toInt > 1))) ∧ r = (-2) ∨ ((p1.toInt ≥ 0 ∧ p1.toInt ≤ 1 ∧ p0.toInt ≥ 0 ∧ p0.toInt < 1 ∧ p0.toInt = 0 ∧ p1.toInt ≠ 0 ∧ p1.toInt = 1) ∨ (p1.toInt ≥ 0 ∧ p1.toInt ≤ 1 ∧ p0.toInt ≥ 0 ∧ p0.toInt < 1 ∧ p0.toInt = 0 ∧ p1.toInt = 0 ∧ p1.toInt = 0)) ∧ r = 0 ∨ (p1.toInt ≥ 0 ∧ p1.toInt ≤ 1 ∧ p0.toInt ≥ 0 ∧ p0.toInt ≥ 1) ∧ r = (-1) ∨ (p1.toInt ≥ 0 ∧ p1.toInt ≤ 1 ∧ p0.toInt < 0) ∧ r = (-3)) (fun u => []) := by
  refine CI.of (by decide +kernel) (Nat.le_of_ble_eq_true rfl) ?_
  intro p e s m below meth c A ls hE
  obtain ⟨X, hr, hlk, hnm, hw, hl⟩ := hE
  have X : CX p m c cX12_moving 4 s [.ref a0, .int p0, .int p1].toArray RX12 D ct := X
  have hl : lv_has ls 4 [(0, .ref a0), (1, .int p0), (2, .int p1)] := hl
  obtain ⟨⟨hx, hb, hml, hown, hts⟩, hK⟩ := id X
  refine lv_aload_n hx hb dX12_moving_0 rfl (lv_at hl 0 rfl) ?_
  refine lv_iconst (v := 0) hx hb dX12_moving_1 (by decide) ?_
  refine fp_1442 X hw 0 rfl rfl rfl (Nat.le_of_ble_eq_true rfl) dX12_moving_2 [(a0, .inr (12, [.int 0, .ref a1, .ref a2, .ref a3, .ref a4, .int 0, .int 0, .int 0, .int 0, .int 0, .int 0, .int 0, .int 0, .int 0, .int (-1), .ref a5, .ref a6, .ref a7, .ref a8, .int 0, .ref a9, .ref a10, .int 0, .int 0, .int 0, .ref a11, .ref a12, .ref a13, .ref a14, .ref a15, .ref a16])), (a8, .inl (ct 0, 40320, .inl (fun _ => 0))), (a11, .inl (ct 0, 21870, .inl (fun _ => 0))), (a1, .inl (ct 0, 5310, .inl fx0))] rfl (fun H locs hw => ?_)
  refine lv_iload_n hx hb dX12_moving_5 rfl (lv_at hl 2 rfl) ?_
  refine lv_i2l (v := p1.toInt64) hx hb dX12_moving_6 rfl ?_
  refine lv_lconst (v := 0) hx hb dX12_moving_7 (by decide) ?_
  refine lv_lconst (v := 1) hx hb dX12_moving_8 (by decide) ?_
  refine m_Si (As := [.long p1.toInt64, .long 0, .long 1]) (rest := []) (c183_X12_within l D ct (p1.toInt64)) X hl.1 kw_1545 kd_yX12_within hw [] [0, 1, 2, 3] rfl rfl rfl rfl (by decide) ⟨by decide, by decide⟩ rfl rfl (Nat.le_of_ble_eq_true rfl) dX12_moving_9 ⟨by decide, by decide⟩ (fun r1 u2 H locs hr3 hw => ?_)
  replace hw : WD D A s.heap _ _ [(a0, .inr (12, [.int 0, .ref a1, .ref a2, .ref a3, .ref a4, .int 0, .int 0, .int 0, .int 0, .int 0, .int 0, .int 0, .int 0, .int 0, .int (-1), .ref a5, .ref a6, .ref a7, .ref a8, .int 0, .ref a9, .ref a10, .int 0, .int 0, .int 0, .ref a11, .ref a12, .ref a13, .ref a14, .ref a15, .ref a16])), (a8, .inl (ct 0, 40320, .inl (fun _ => 0))), (a11, .inl (ct 0, 21870, .inl (fun _ => 0))), (a1, .inl (ct 0, 5310, .inl fx0))] := hw
  rcases hr3 with ⟨h4, rfl⟩ | ⟨⟨h5, h6⟩, rfl⟩
  · skip
    simp only [i64i] at h4
    refine lv_if_ne (tgt := 18) hx hb dX12_moving_12 (by decide) (fun h => absurd rfl h) (fun _ => ?_)
    refine lv_bipush (v := (-2)) hx hb dX12_moving_15 (by decide) ?_
    exact r_i X hr hlk hw [] (fun _ => 0) rfl rfl (Or.inl (⟨h4, rfl⟩)) (by decide) (by decide) dX12_moving_17
  · skip
    rw [i64i] at h5
    rw [i64i] at h6
    refine lv_if_ne (tgt := 18) hx hb dX12_moving_12 (by decide) (fun _ => ?_) (fun h => absurd h (by decide))
    refine lv_iload_n hx hb dX12_moving_18 rfl (lv_at hl 1 rfl) ?_
    refine lv_if_ge (tgt := 25) hx hb dX12_moving_19 (by decide) (fun h7 => ?_) (fun h7 => ?_)
    · have h7 : p0.toInt ≥ 0 := by have q := ci_le (a := 0) (b := p0.toInt) (by decide) rfl h7; omega
      refine lv_aload_n hx hb dX12_moving_25 rfl (lv_at hl 0 rfl) ?_
      refine lv_iconst (v := (-1)) hx hb dX12_moving_26 (by decide) ?_
      refine m_Vv (As := [.int (-1)]) (rest := []) (c71_X12_laysMaps l D ct a0 a1 a2 a3 a4 a5 a6 a7 a8 a9 a10 a11 a12 a13 a14 a15 a16 (fun _ => 0)) X hl.1 kw_1716 kd_yX12_laysMaps hw [0, 1, 3] [2] rfl rfl rfl rfl (by decide) 0 rfl rfl ⟨by decide, by decide⟩ rfl rfl (Nat.le_of_ble_eq_true rfl) dX12_moving_27 ⟨by decide, by decide⟩ (fun u9 H locs hr10 hw => ?_)
      replace hw : WD D A s.heap _ _ [(a11, .inl (ct 0, 21870, .inl (fun _ => 0))), (a8, .inl (ct 0, 40320, .inl (upd (fun _ => 0) 0 0))), (a0, .inr (12, [.int 0, .ref a1, .ref a2, .ref a3, .ref a4, .int 0, .int 0, .int 0, .int 0, .int 0, .int 0, .int 0, .int 0, .int 0, .int (-1), .ref a5, .ref a6, .ref a7, .ref a8, .int 1, .ref a9, .ref a10, .int 0, .int 0, .int 0, .ref a11, .ref a12, .ref a13, .ref a14, .ref a15, .ref a16])), (a1, .inl (ct 0, 5310, .inl fx0))] := hw
      refine lv_iload_n hx hb dX12_moving_30 rfl (lv_at hl 1 rfl) ?_
      refine lv_aload_n hx hb dX12_moving_31 rfl (lv_at hl 0 rfl) ?_
      refine fg_1461 X hw 2 rfl rfl dX12_moving_32 ?_
      refine lv_icmp_lt (tgt := 40) hx hb dX12_moving_35 (by decide) (fun h11 => ?_) (fun h11 => ?_)
      · have h11 : p0.toInt < 1 := by have q := ci_lt (a := p0.toInt) (b := 1) rfl (by decide) h11; omega
        have e12 : p0.toInt = 0 := by omega
        obtain rfl : p0 = 0 := i32_of e12
        refine lv_aload_n hx hb dX12_moving_40 rfl (lv_at hl 0 rfl) ?_
        refine lv_aload_n hx hb dX12_moving_41 rfl (lv_at hl 0 rfl) ?_
        refine fg_1460 X hw 2 rfl rfl dX12_moving_42 ?_
        refine lv_iload_n hx hb dX12_moving_45 rfl (lv_at hl 1 rfl) ?_
        refine j_iald (j := 0) (v := 0) X hw 1 rfl (by decide) (by decide) (by decide) rfl dX12_moving_46 ?_
        refine m_Vi (As := [.int 0]) (rest := []) (c184_X12_moved l D ct a0 a11 a1 a2 a3 a4 a5 a6 a7 a8 a9 a10 a12 a13 a14 a15 a16) X hl.1 kw_1977 kd_yX12_moved hw [0, 2, 3] [1] rfl rfl rfl rfl (by decide) 1 rfl rfl ⟨by decide, by decide⟩ rfl rfl (Nat.le_of_ble_eq_true rfl) dX12_moving_47 ⟨by decide, by decide⟩ (fun r13 u14 H locs hr15 hw => ?_)
        replace hw : WD D A s.heap _ _ [(a8, .inl (ct 0, 40320, .inl (upd (fun _ => 0) 0 0))), (a11, .inl (ct 0, 21870, .inl fx15)), (a0, .inr (12, [.int 0, .ref a1, .ref a2, .ref a3, .ref a4, .int 0, .int 0, .int 0, .int 0, .int 0, .int 0, .int 0, .int 0, .int 0, .int (-1), .ref a5, .ref a6, .ref a7, .ref a8, .int 1, .ref a9, .ref a10, .int 0, .int 0, .int 0, .ref a11, .ref a12, .ref a13, .ref a14, .ref a15, .ref a16])), (a1, .inl (ct 0, 5310, .inl fx0))] := hw
        subst hr15
        refine lv_istore_n (lv' := [(3, .int 0), (0, .ref a0), (1, .int 0), (2, .int p1)]) hx hb dX12_moving_50 rfl hl (by decide) rfl (fun ls hl => ?_)
        refine lv_iload_n hx hb dX12_moving_51 rfl (lv_at hl 3 rfl) ?_
        refine lv_if_ne (tgt := 62) hx hb dX12_moving_52 (by decide) (fun h16 => ?_) (fun h16 => ?_)
        · have h16 : p1.toInt ≠ 0 := by have q := ci_neq (a := p1.toInt) (b := 0) rfl (by decide) h16; omega
          have e17 : p1.toInt = 1 := by omega
          obtain rfl : p1 = 1 := i32_of e17
          refine lv_iload_n hx hb dX12_moving_62 rfl (lv_at hl 0 rfl) ?_
          refine lv_bipush (v := 100) hx hb dX12_moving_63 (by decide) ?_
          refine kv_irem (v := 0) hx hb (by decide) (by decide) dX12_moving_65 ?_
          exact r_i X hr hlk hw [] (fun _ => 0) rfl rfl (Or.inr (Or.inl (⟨Or.inl (⟨h5, h6, h7, h11, e12, h16, e17⟩), rfl⟩))) (by decide) (by decide) dX12_moving_66
        · have h16 : p1.toInt = 0 := by have q := ci_eq (a := p1.toInt) (b := 0) rfl (by decide) h16; omega
          have e18 : p1.toInt = 0 := by omega
          obtain rfl : p1 = 0 := i32_of e18
          refine lv_iload_n hx hb dX12_moving_55 rfl (lv_at hl 0 rfl) ?_
          refine lv_bipush (v := 100) hx hb dX12_moving_56 (by decide) ?_
          refine kv_idiv (v := 0) hx hb (by decide) (by decide) dX12_moving_58 ?_
          refine lv_goto (tgt := 66) hx hb dX12_moving_59 (by decide) ?_
          exact r_i X hr hlk hw [] (fun _ => 0) rfl rfl (Or.inr (Or.inl (⟨Or.inr (⟨h5, h6, h7, h11, e12, h16, e18⟩), rfl⟩))) (by decide) (by decide) dX12_moving_66
      · have h11 : p0.toInt ≥ 1 := by have q := ci_nlt (a := p0.toInt) (b := 1) rfl (by decide) h11; omega
        refine lv_iconst (v := (-1)) hx hb dX12_moving_38 (by decide) ?_
        exact r_i X hr hlk hw [] (fun _ => 0) rfl rfl (Or.inr (Or.inr (Or.inl (⟨⟨h5, h6, h7, h11⟩, rfl⟩)))) (by decide) (by decide) dX12_moving_39
    · have h7 : p0.toInt < 0 := by have q := ci_nle (a := 0) (b := p0.toInt) (by decide) rfl h7; omega
      refine lv_bipush (v := (-3)) hx hb dX12_moving_22 (by decide) ?_
      exact r_i X hr hlk hw [] (fun _ => 0) rfl rfl (Or.inr (Or.inr (Or.inr (⟨⟨h5, h6, h7⟩, rfl⟩)))) (by decide) (by decide) dX12_moving_24
set_option maxHeartbeats 4000000 in
set_option maxRecDepth 100000 in
theorem c186_X11_seekNearest (l : Launch) (D : va_G) (ct : Nat → ClassId) (a0 : Nat) (a1 : Nat) (a2 : Nat) (a3 : Nat) (a4 : Nat) (a5 : Nat) (a6 : Nat) (a7 : Nat) (a8 : Nat) (a9 : Nat) (a10 : Nat) (f0 : Nat → Int32) (a11 : Nat) (a12 : Nat) (a13 : Nat) (a14 : Nat) (a15 : Nat) (a16 : Nat) (a17 : Nat) (a18 : Nat) (a19 : Nat) (a20 : Nat) (a21 : Nat) (a22 : Nat) (a23 : Nat) (a24 : Nat) (a25 : Nat) (a26 : Nat) (a27 : Nat) (a28 : Nat) (a29 : Nat) (a30 : Nat) (a31 : Nat) (a32 : Nat) : CI l yX11_seekNearest cX11_seekNearest 6 (some .int) { frames := 3, cells := 1, slots := 21870, locals := 71 } D ct [.ref a0, .int 1] [(a1, .inr (3, [.ref a2, .int 0, .ref a3, .ref a4, .ref a5, .ref a6, .ref a7, .ref a8, .ref a9, .ref a10])), (a10, .inl (ct 0, 0, .inl f0)), (a0, .inr (11, [.ref a11, .int 0, .ref a2, .ref a12, .ref a13, .ref a14, .ref a15, .ref a16, .ref a1, .ref a17, .ref a18, .ref a19, .ref a20, .ref a21, .ref a22, .ref a23, .int (-1), .int (-1)])), (a2, .inr (2, [.int 0, .int 0, .int 0, .ref a24, .ref a25, .ref a26, .int 0, .int 0, .int 0, .int 0, .int 0, .ref a27, .int 0])), (a14, .inr (5, [.ref a28, .ref a29, .ref a30, .ref a31, .ref a32, .int 0, .int 0]))] (fun r => r = 0) (fun u => [(a0, .inr (11, [.ref a11, .int 0, .ref a2, .ref a12, .ref a13, .ref a14, .ref a15, .ref a16, .ref a1, .ref a17, .ref a18, .ref a19, .ref a20, .ref a21, .ref a22, .ref a23, .int (-1), .int (-1)])), (a14, .inr (5, [.ref a28, .ref a29, .ref a30, .ref a31, .ref a32, .int 0, .int 0])), (a10, .inl (ct 0, 0, .inl f0)), (a2, .inr (2, [.int 0, .int 0, .int 0, .ref a24, .ref a25, .ref a26, .int 0, .int 0, .int 0, .int 0, .int 0, .ref a27, .int 0])), (a1, .inr (3, [.ref a2, .int 0, .ref a3, .ref a4, .ref a5, .ref a6, .ref a7, .ref a8, .ref a9, .ref (u 0)])), ((u 0), .inl (ct 0, 21870, .inl (upd fx14 0 0)))]) := by
  refine CI.of (by decide +kernel) (Nat.le_of_ble_eq_true rfl) ?_
  intro p e s m below meth c A ls hE
  obtain ⟨X, hr, hlk, hnm, hw, hl⟩ := hE
  have X : CX p m c cX11_seekNearest 6 s [.ref a0, .int 1].toArray RX11 D ct := X
  have hl : lv_has ls 6 [(0, .ref a0), (1, .int 1)] := hl
  obtain ⟨⟨hx, hb, hml, hown, hts⟩, hK⟩ := id X
  refine lv_iconst (v := (-1)) hx hb dX11_seekNearest_0 (by decide) ?_
  refine lv_istore_n (lv' := [(2, .int (-1)), (0, .ref a0), (1, .int 1)]) hx hb dX11_seekNearest_1 rfl hl (by decide) rfl (fun ls hl => ?_)
  refine lv_ldcw hx hb hown (hts _ wd_1312) dX11_seekNearest_2 ?_
  refine lv_istore_n (lv' := [(3, .int 1000000), (2, .int (-1)), (0, .ref a0), (1, .int 1)]) hx hb dX11_seekNearest_5 rfl hl (by decide) rfl (fun ls hl => ?_)
  refine lv_iconst (v := 0) hx hb dX11_seekNearest_6 (by decide) ?_
  refine lv_istore (lv' := [(4, .int 0), (3, .int 1000000), (2, .int (-1)), (0, .ref a0), (1, .int 1)]) hx hb dX11_seekNearest_7 hl (by decide) rfl (fun ls hl => ?_)
  refine lv_iload hx hb dX11_seekNearest_9 (lv_at hl 0 rfl) ?_
  refine lv_iload_n hx hb dX11_seekNearest_11 rfl (lv_at hl 4 rfl) ?_
  refine lv_icmp_ge (tgt := 67) hx hb dX11_seekNearest_12 (by decide) (fun h => absurd h (by decide)) (fun _ => ?_)
  refine lv_iload_n hx hb dX11_seekNearest_15 rfl (lv_at hl 1 rfl) ?_
  refine lv_if_le (tgt := 67) hx hb dX11_seekNearest_16 (by decide) (fun h => absurd h (by decide)) (fun _ => ?_)
  refine lv_aload_n hx hb dX11_seekNearest_19 rfl (lv_at hl 3 rfl) ?_
  refine fg_570 X hw 2 rfl rfl dX11_seekNearest_20 ?_
  refine lv_iload hx hb dX11_seekNearest_23 (lv_at hl 0 rfl) ?_
  refine lv_aload_n hx hb dX11_seekNearest_25 rfl (lv_at hl 3 rfl) ?_
  refine fg_580 X hw 2 rfl rfl dX11_seekNearest_26 ?_
  refine m_Vv (As := [.int 0, .ref a23]) (rest := []) (c176_X5_find l D ct a14 a23 a28 a29 a30 a31 a32) X hl.1 kw_1149 kd_yX5_find hw [4] [0, 1, 2, 3] rfl rfl rfl rfl (by decide) 0 rfl rfl ⟨by decide, by decide⟩ rfl rfl (Nat.le_of_ble_eq_true rfl) dX11_seekNearest_29 ⟨by decide, by decide⟩ (fun u2 H locs hr3 hw => ?_)
  replace hw : WD D A s.heap _ _ [(a1, .inr (3, [.ref a2, .int 0, .ref a3, .ref a4, .ref a5, .ref a6, .ref a7, .ref a8, .ref a9, .ref a10])), (a10, .inl (ct 0, 0, .inl f0)), (a0, .inr (11, [.ref a11, .int 0, .ref a2, .ref a12, .ref a13, .ref a14, .ref a15, .ref a16, .ref a1, .ref a17, .ref a18, .ref a19, .ref a20, .ref a21, .ref a22, .ref a23, .int (-1), .int (-1)])), (a2, .inr (2, [.int 0, .int 0, .int 0, .ref a24, .ref a25, .ref a26, .int 0, .int 0, .int 0, .int 0, .int 0, .ref a27, .int 0])), (a14, .inr (5, [.ref a28, .ref a29, .ref a30, .ref a31, .ref a32, .int 0, .int 0]))] := hw
  refine lv_aload_n hx hb dX11_seekNearest_32 rfl (lv_at hl 3 rfl) ?_
  refine fg_573 X hw 2 rfl rfl dX11_seekNearest_33 ?_
  refine lv_aload_n hx hb dX11_seekNearest_36 rfl (lv_at hl 3 rfl) ?_
  refine fg_580 X hw 2 rfl rfl dX11_seekNearest_37 ?_
  refine lv_iload_n hx hb dX11_seekNearest_40 rfl (lv_at hl 1 rfl) ?_
  refine m_Vi (As := [.ref a23, .int 1000000]) (rest := []) (c181_X3_cheapest l D ct a1 a23 a2 a3 a4 a5 a6 a7 a8 a9 a10 f0 a24 a25 a26 a27) X hl.1 kw_1313 kd_yX3_cheapest hw [0, 1, 3] [2, 4] rfl rfl rfl rfl (by decide) 0 rfl rfl ⟨by decide, by decide⟩ rfl rfl (Nat.le_of_ble_eq_true rfl) dX11_seekNearest_41 ⟨by decide, by decide⟩ (fun r4 u5 H locs hr6 hw => ?_)
  replace hw : WD D A s.heap _ _ [(a0, .inr (11, [.ref a11, .int 0, .ref a2, .ref a12, .ref a13, .ref a14, .ref a15, .ref a16, .ref a1, .ref a17, .ref a18, .ref a19, .ref a20, .ref a21, .ref a22, .ref a23, .int (-1), .int (-1)])), (a14, .inr (5, [.ref a28, .ref a29, .ref a30, .ref a31, .ref a32, .int 0, .int 0])), (a10, .inl (ct 0, 0, .inl f0)), (a2, .inr (2, [.int 0, .int 0, .int 0, .ref a24, .ref a25, .ref a26, .int 0, .int 0, .int 0, .int 0, .int 0, .ref a27, .int 0])), (a1, .inr (3, [.ref a2, .int 0, .ref a3, .ref a4, .ref a5, .ref a6, .ref a7, .ref a8, .ref a9, .ref (u5 0)])), ((u5 0), .inl (ct 0, 21870, .inl (upd fx14 0 0)))] := hw
  subst hr6
  refine lv_bipush (v := 32) hx hb dX11_seekNearest_44 (by decide) ?_
  refine kv_idiv (v := 0) hx hb (by decide) (by decide) dX11_seekNearest_46 ?_
  refine lv_istore (lv' := [(5, .int 0), (4, .int 0), (3, .int 1000000), (2, .int (-1)), (0, .ref a0), (1, .int 1)]) hx hb dX11_seekNearest_47 hl (by decide) rfl (fun ls hl => ?_)
  refine lv_iload hx hb dX11_seekNearest_49 (lv_at hl 0 rfl) ?_
  refine lv_iload_n hx hb dX11_seekNearest_51 rfl (lv_at hl 2 rfl) ?_
  refine lv_icmp_ge (tgt := 61) hx hb dX11_seekNearest_52 (by decide) (fun h => absurd h (by decide)) (fun _ => ?_)
  refine lv_iload hx hb dX11_seekNearest_55 (lv_at hl 0 rfl) ?_
  refine lv_istore_n (lv' := [(3, .int 0), (5, .int 0), (4, .int 0), (2, .int (-1)), (0, .ref a0), (1, .int 1)]) hx hb dX11_seekNearest_57 rfl hl (by decide) rfl (fun ls hl => ?_)
  refine lv_iload hx hb dX11_seekNearest_58 (lv_at hl 2 rfl) ?_
  refine lv_istore_n (lv' := [(2, .int 0), (3, .int 0), (5, .int 0), (4, .int 0), (0, .ref a0), (1, .int 1)]) hx hb dX11_seekNearest_60 rfl hl (by decide) rfl (fun ls hl => ?_)
  refine lv_iinc (v := 1) (lv' := [(4, .int 1), (2, .int 0), (3, .int 0), (5, .int 0), (0, .ref a0), (1, .int 1)]) hx hb dX11_seekNearest_61 hl (k := 3) rfl (by decide) (by decide) rfl (fun ls hl => ?_)
  refine lv_goto (tgt := 9) hx hb dX11_seekNearest_64 (by decide) ?_
  refine lv_iload hx hb dX11_seekNearest_9 (lv_at hl 0 rfl) ?_
  refine lv_iload_n hx hb dX11_seekNearest_11 rfl (lv_at hl 5 rfl) ?_
  refine lv_icmp_ge (tgt := 67) hx hb dX11_seekNearest_12 (by decide) (fun _ => ?_) (fun h => absurd (by decide) h)
  refine lv_iload_n hx hb dX11_seekNearest_67 rfl (lv_at hl 1 rfl) ?_
  exact r_i X hr hlk hw [0, 1, 2, 3, 4, 5] (fun k => [(u5 0)].getD k 0) rfl rfl rfl (by decide) (by decide) dX11_seekNearest_68
set_option maxHeartbeats 4000000 in
set_option maxRecDepth 100000 in
theorem c187_X11_nearest (l : Launch) (D : va_G) (ct : Nat → ClassId) (a0 : Nat) (a1 : Nat) (a2 : Nat) (a3 : Nat) (a4 : Nat) (a5 : Nat) (a6 : Nat) (a7 : Nat) (a8 : Nat) (a9 : Nat) (a10 : Nat) (a11 : Nat) (a12 : Nat) (a13 : Nat) (a14 : Nat) (a15 : Nat) (a16 : Nat) (a17 : Nat) (a18 : Nat) (a19 : Nat) (a20 : Nat) (a21 : Nat) (a22 : Nat) (a23 : Nat) (f0 : Nat → Int32) (a24 : Nat) (a25 : Nat) (a26 : Nat) (a27 : Nat) (a28 : Nat) (a29 : Nat) (a30 : Nat) (a31 : Nat) (a32 : Nat) (a33 : Nat) (a34 : Nat) (a35 : Nat) (a36 : Nat) : CI l yX11_nearest cX11_nearest 2 (some .int) { frames := 4, cells := 1, slots := 21870, locals := 104 } D ct [.ref a0] [(a0, .inr (11, [.ref a1, .int 0, .ref a2, .ref a3, .ref a4, .ref a5, .ref a6, .ref a7, .ref a8, .ref a9, .ref a10, .ref a11, .ref a12, .ref a13, .ref a14, .ref a15, .int (-1), .int (-1)])), (a2, .inr (2, [.int 0, .int 0, .int 0, .ref a16, .ref a17, .ref a18, .int 0, .int 0, .int 0, .int 0, .int 0, .ref a19, .int 0])), (a4, .inr (9, [.ref a20, .ref a21, .ref a2, .ref a22, .ref a23, .int (-1)])), (a20, .inl (ct 0, 7, .inl f0)), (a5, .inr (5, [.ref a24, .ref a25, .ref a26, .ref a27, .ref a28, .int 0, .int 0])), (a25, .inl (ct 0, 256, .inl (fun _ => 0))), (a28, .inl (ct 0, 7, .inl f0)), (a8, .inr (3, [.ref a2, .int 0, .ref a29, .ref a30, .ref a31, .ref a32, .ref a33, .ref a34, .ref a35, .ref a36])), (a36, .inl (ct 0, 0, .inl f0))] (fun r => r = 0) (fun u => []) := by
  refine CI.of (by decide +kernel) (Nat.le_of_ble_eq_true rfl) ?_
  intro p e s m below meth c A ls hE
  obtain ⟨X, hr, hlk, hnm, hw, hl⟩ := hE
  have X : CX p m c cX11_nearest 2 s [.ref a0].toArray RX11 D ct := X
  have hl : lv_has ls 2 [(0, .ref a0)] := hl
  obtain ⟨⟨hx, hb, hml, hown, hts⟩, hK⟩ := id X
  refine lv_aload_n hx hb dX11_nearest_0 rfl (lv_at hl 0 rfl) ?_
  refine m_Vi (As := []) (rest := []) (c114_X11_tallyAll l D ct a0 a1 a2 a3 a4 a5 a6 a7 a8 a9 a10 a11 a12 a13 a14 a15 a16 a17 a18 a19 a20 a21 a22 a23 f0 a24 a25 a26 a27 a28) X hl.1 kw_1140 kd_yX11_tallyAll hw [0, 1, 2, 3, 4, 5, 6] [7, 8] rfl rfl rfl rfl (by decide) 0 rfl rfl ⟨by decide, by decide⟩ rfl rfl (Nat.le_of_ble_eq_true rfl) dX11_nearest_1 ⟨by decide, by decide⟩ (fun r1 u2 H locs hr3 hw => ?_)
  replace hw : WD D A s.heap _ _ [(a8, .inr (3, [.ref a2, .int 0, .ref a29, .ref a30, .ref a31, .ref a32, .ref a33, .ref a34, .ref a35, .ref a36])), (a36, .inl (ct 0, 0, .inl f0)), (a0, .inr (11, [.ref a1, .int 0, .ref a2, .ref a3, .ref a4, .ref a5, .ref a6, .ref a7, .ref a8, .ref a9, .ref a10, .ref a11, .ref a12, .ref a13, .ref a14, .ref a15, .int (-1), .int (-1)])), (a2, .inr (2, [.int 0, .int 0, .int 0, .ref a16, .ref a17, .ref a18, .int 0, .int 0, .int 0, .int 0, .int 0, .ref a19, .int 0])), (a4, .inr (9, [.ref a20, .ref a21, .ref a2, .ref a22, .ref a23, .int 0])), (a20, .inl (ct 0, 7, .inl f0)), (a25, .inl (ct 0, 256, .inl (upd (fun _ => 0) 0 1))), (a28, .inl (ct 0, 7, .inl (va_cpy f0 f0 0 0 0))), (a5, .inr (5, [.ref a24, .ref a25, .ref a26, .ref a27, .ref a28, .int 0, .int 0]))] := hw
  subst hr3
  refine lv_istore_n (lv' := [(1, .int 1), (0, .ref a0)]) hx hb dX11_nearest_4 rfl hl (by decide) rfl (fun ls hl => ?_)
  refine lv_iload_n hx hb dX11_nearest_5 rfl (lv_at hl 0 rfl) ?_
  refine lv_bipush (v := 100) hx hb dX11_nearest_6 (by decide) ?_
  refine lv_icmp_le (tgt := 14) hx hb dX11_nearest_8 (by decide) (fun _ => ?_) (fun h => absurd (by decide) h)
  refine lv_aload_n hx hb dX11_nearest_14 rfl (lv_at hl 1 rfl) ?_
  refine fg_582 X hw 2 rfl rfl dX11_nearest_15 ?_
  refine lv_aload_n hx hb dX11_nearest_18 rfl (lv_at hl 1 rfl) ?_
  refine fg_567 X hw 2 rfl rfl dX11_nearest_19 ?_
  refine fg_258 X hw 3 rfl rfl dX11_nearest_22 ?_
  refine lv_icmp_eq (tgt := 48) hx hb dX11_nearest_25 (by decide) (fun h => absurd h (by decide)) (fun _ => ?_)
  refine lv_aload_n hx hb dX11_nearest_28 rfl (lv_at hl 1 rfl) ?_
  refine lv_aload_n hx hb dX11_nearest_29 rfl (lv_at hl 1 rfl) ?_
  refine lv_iload_n hx hb dX11_nearest_30 rfl (lv_at hl 0 rfl) ?_
  refine m_Vi (As := [.int 1]) (rest := [.ref a0]) (c186_X11_seekNearest l D ct a0 a8 a2 a29 a30 a31 a32 a33 a34 a35 a36 f0 a1 a3 a4 a5 a6 a7 a9 a10 a11 a12 a13 a14 a15 a16 a17 a18 a19 a24 a25 a26 a27 a28) X hl.1 kw_1360 kd_yX11_seekNearest hw [0, 1, 2, 3, 8] [4, 5, 6, 7] rfl rfl rfl rfl (by decide) 2 rfl rfl ⟨by decide, by decide⟩ rfl rfl (Nat.le_of_ble_eq_true rfl) dX11_nearest_31 ⟨by decide, by decide⟩ (fun r4 u5 H locs hr6 hw => ?_)
  replace hw : WD D A s.heap _ _ [(a4, .inr (9, [.ref a20, .ref a21, .ref a2, .ref a22, .ref a23, .int 0])), (a20, .inl (ct 0, 7, .inl f0)), (a25, .inl (ct 0, 256, .inl (upd (fun _ => 0) 0 1))), (a28, .inl (ct 0, 7, .inl (va_cpy f0 f0 0 0 0))), (a0, .inr (11, [.ref a1, .int 0, .ref a2, .ref a3, .ref a4, .ref a5, .ref a6, .ref a7, .ref a8, .ref a9, .ref a10, .ref a11, .ref a12, .ref a13, .ref a14, .ref a15, .int (-1), .int (-1)])), (a5, .inr (5, [.ref a24, .ref a25, .ref a26, .ref a27, .ref a28, .int 0, .int 0])), (a36, .inl (ct 0, 0, .inl f0)), (a2, .inr (2, [.int 0, .int 0, .int 0, .ref a16, .ref a17, .ref a18, .int 0, .int 0, .int 0, .int 0, .int 0, .ref a19, .int 0])), (a8, .inr (3, [.ref a2, .int 0, .ref a29, .ref a30, .ref a31, .ref a32, .ref a33, .ref a34, .ref a35, .ref (u5 0)])), ((u5 0), .inl (ct 0, 21870, .inl (upd fx14 0 0)))] := hw
  subst hr6
  refine fp_581 X hw 4 rfl rfl rfl (Nat.le_of_ble_eq_true rfl) dX11_nearest_34 [(a4, .inr (9, [.ref a20, .ref a21, .ref a2, .ref a22, .ref a23, .int 0])), (a20, .inl (ct 0, 7, .inl f0)), (a25, .inl (ct 0, 256, .inl (upd (fun _ => 0) 0 1))), (a28, .inl (ct 0, 7, .inl (va_cpy f0 f0 0 0 0))), (a0, .inr (11, [.ref a1, .int 0, .ref a2, .ref a3, .ref a4, .ref a5, .ref a6, .ref a7, .ref a8, .ref a9, .ref a10, .ref a11, .ref a12, .ref a13, .ref a14, .ref a15, .int 0, .int (-1)])), (a5, .inr (5, [.ref a24, .ref a25, .ref a26, .ref a27, .ref a28, .int 0, .int 0])), (a36, .inl (ct 0, 0, .inl f0)), (a2, .inr (2, [.int 0, .int 0, .int 0, .ref a16, .ref a17, .ref a18, .int 0, .int 0, .int 0, .int 0, .int 0, .ref a19, .int 0])), (a8, .inr (3, [.ref a2, .int 0, .ref a29, .ref a30, .ref a31, .ref a32, .ref a33, .ref a34, .ref a35, .ref (u5 0)])), ((u5 0), .inl (ct 0, 21870, .inl (upd fx14 0 0)))] rfl (fun H locs hw => ?_)
  refine lv_aload_n hx hb dX11_nearest_37 rfl (lv_at hl 1 rfl) ?_
  refine lv_aload_n hx hb dX11_nearest_38 rfl (lv_at hl 1 rfl) ?_
  refine fg_567 X hw 4 rfl rfl dX11_nearest_39 ?_
  refine fg_258 X hw 7 rfl rfl dX11_nearest_42 ?_
  refine fp_582 X hw 4 rfl rfl rfl (Nat.le_of_ble_eq_true rfl) dX11_nearest_45 [(a4, .inr (9, [.ref a20, .ref a21, .ref a2, .ref a22, .ref a23, .int 0])), (a20, .inl (ct 0, 7, .inl f0)), (a25, .inl (ct 0, 256, .inl (upd (fun _ => 0) 0 1))), (a28, .inl (ct 0, 7, .inl (va_cpy f0 f0 0 0 0))), (a0, .inr (11, [.ref a1, .int 0, .ref a2, .ref a3, .ref a4, .ref a5, .ref a6, .ref a7, .ref a8, .ref a9, .ref a10, .ref a11, .ref a12, .ref a13, .ref a14, .ref a15, .int 0, .int 0])), (a5, .inr (5, [.ref a24, .ref a25, .ref a26, .ref a27, .ref a28, .int 0, .int 0])), (a36, .inl (ct 0, 0, .inl f0)), (a2, .inr (2, [.int 0, .int 0, .int 0, .ref a16, .ref a17, .ref a18, .int 0, .int 0, .int 0, .int 0, .int 0, .ref a19, .int 0])), (a8, .inr (3, [.ref a2, .int 0, .ref a29, .ref a30, .ref a31, .ref a32, .ref a33, .ref a34, .ref a35, .ref (u5 0)])), ((u5 0), .inl (ct 0, 21870, .inl (upd fx14 0 0)))] rfl (fun H locs hw => ?_)
  refine lv_aload_n hx hb dX11_nearest_48 rfl (lv_at hl 1 rfl) ?_
  refine fg_581 X hw 4 rfl rfl dX11_nearest_49 ?_
  exact r_i X hr hlk hw [] (fun _ => 0) rfl rfl rfl (by decide) (by decide) dX11_nearest_52
set_option maxHeartbeats 4000000 in
set_option maxRecDepth 100000 in
theorem c188_X12_nearest (l : Launch) (D : va_G) (ct : Nat → ClassId) (a0 : Nat) (a1 : Nat) (a2 : Nat) (a3 : Nat) (a4 : Nat) (a5 : Nat) (a6 : Nat) (a7 : Nat) (a8 : Nat) (a9 : Nat) (a10 : Nat) (a11 : Nat) (a12 : Nat) (a13 : Nat) (a14 : Nat) (a15 : Nat) (a16 : Nat) : CI l yX12_nearest cX12_nearest 5 (some .int) { frames := 2, cells := 0, slots := 0, locals := 46 } D ct [.ref a0] [(a0, .inr (12, [.int 0, .ref a1, .ref a2, .ref a3, .ref a4, .int 0, .int 0, .int 0, .int 0, .int 0, .int 0, .int 0, .int 0, .int 0, .int (-1), .ref a5, .ref a6, .ref a7, .ref a8, .int 0, .ref a9, .ref a10, .int 0, .int 0, .int 0, .ref a11, .ref a12, .ref a13, .ref a14, .ref a15, .ref a16])), (a8, .inl (ct 0, 40320, .inl (fun _ => 0))), (a11, .inl (ct 0, 21870, .inl (fun _ => 0))), (a1, .inl (ct 0, 5310, .inl fx0))] (fun r => r = 0) (fun u => []) := by
  refine CI.of (by decide +kernel) (Nat.le_of_ble_eq_true rfl) ?_
  intro p e s m below meth c A ls hE
  obtain ⟨X, hr, hlk, hnm, hw, hl⟩ := hE
  have X : CX p m c cX12_nearest 5 s [.ref a0].toArray RX12 D ct := X
  have hl : lv_has ls 5 [(0, .ref a0)] := hl
  obtain ⟨⟨hx, hb, hml, hown, hts⟩, hK⟩ := id X
  refine lv_aload_n hx hb dX12_nearest_0 rfl (lv_at hl 0 rfl) ?_
  refine lv_iconst (v := 0) hx hb dX12_nearest_1 (by decide) ?_
  refine fp_1442 X hw 0 rfl rfl rfl (Nat.le_of_ble_eq_true rfl) dX12_nearest_2 [(a0, .inr (12, [.int 0, .ref a1, .ref a2, .ref a3, .ref a4, .int 0, .int 0, .int 0, .int 0, .int 0, .int 0, .int 0, .int 0, .int 0, .int (-1), .ref a5, .ref a6, .ref a7, .ref a8, .int 0, .ref a9, .ref a10, .int 0, .int 0, .int 0, .ref a11, .ref a12, .ref a13, .ref a14, .ref a15, .ref a16])), (a8, .inl (ct 0, 40320, .inl (fun _ => 0))), (a11, .inl (ct 0, 21870, .inl (fun _ => 0))), (a1, .inl (ct 0, 5310, .inl fx0))] rfl (fun H locs hw => ?_)
  refine lv_aload_n hx hb dX12_nearest_5 rfl (lv_at hl 0 rfl) ?_
  refine lv_iconst (v := (-1)) hx hb dX12_nearest_6 (by decide) ?_
  refine m_Vv (As := [.int (-1)]) (rest := []) (c71_X12_laysMaps l D ct a0 a1 a2 a3 a4 a5 a6 a7 a8 a9 a10 a11 a12 a13 a14 a15 a16 (fun _ => 0)) X hl.1 kw_1716 kd_yX12_laysMaps hw [0, 1, 3] [2] rfl rfl rfl rfl (by decide) 0 rfl rfl ⟨by decide, by decide⟩ rfl rfl (Nat.le_of_ble_eq_true rfl) dX12_nearest_7 ⟨by decide, by decide⟩ (fun u2 H locs hr3 hw => ?_)
  replace hw : WD D A s.heap _ _ [(a11, .inl (ct 0, 21870, .inl (fun _ => 0))), (a8, .inl (ct 0, 40320, .inl (upd (fun _ => 0) 0 0))), (a0, .inr (12, [.int 0, .ref a1, .ref a2, .ref a3, .ref a4, .int 0, .int 0, .int 0, .int 0, .int 0, .int 0, .int 0, .int 0, .int 0, .int (-1), .ref a5, .ref a6, .ref a7, .ref a8, .int 1, .ref a9, .ref a10, .int 0, .int 0, .int 0, .ref a11, .ref a12, .ref a13, .ref a14, .ref a15, .ref a16])), (a1, .inl (ct 0, 5310, .inl fx0))] := hw
  refine lv_aload_n hx hb dX12_nearest_10 rfl (lv_at hl 0 rfl) ?_
  refine fg_1461 X hw 2 rfl rfl dX12_nearest_11 ?_
  refine lv_bipush (v := 100) hx hb dX12_nearest_14 (by decide) ?_
  refine lv_icmp_le (tgt := 22) hx hb dX12_nearest_16 (by decide) (fun _ => ?_) (fun h => absurd (by decide) h)
  refine lv_iconst (v := (-1)) hx hb dX12_nearest_22 (by decide) ?_
  refine lv_istore_n (lv' := [(1, .int (-1)), (0, .ref a0)]) hx hb dX12_nearest_23 rfl hl (by decide) rfl (fun ls hl => ?_)
  refine lv_ldcw hx hb hown (hts _ wd_1924) dX12_nearest_24 ?_
  refine lv_istore_n (lv' := [(2, .int 1000000000), (1, .int (-1)), (0, .ref a0)]) hx hb dX12_nearest_27 rfl hl (by decide) rfl (fun ls hl => ?_)
  refine lv_iconst (v := 0) hx hb dX12_nearest_28 (by decide) ?_
  refine lv_istore_n (lv' := [(3, .int 0), (2, .int 1000000000), (1, .int (-1)), (0, .ref a0)]) hx hb dX12_nearest_29 rfl hl (by decide) rfl (fun ls hl => ?_)
  refine lv_iload_n hx hb dX12_nearest_30 rfl (lv_at hl 0 rfl) ?_
  refine lv_aload_n hx hb dX12_nearest_31 rfl (lv_at hl 3 rfl) ?_
  refine fg_1461 X hw 2 rfl rfl dX12_nearest_32 ?_
  refine lv_icmp_ge (tgt := 73) hx hb dX12_nearest_35 (by decide) (fun h => absurd h (by decide)) (fun _ => ?_)
  refine lv_aload_n hx hb dX12_nearest_38 rfl (lv_at hl 3 rfl) ?_
  refine lv_aload_n hx hb dX12_nearest_39 rfl (lv_at hl 3 rfl) ?_
  refine fg_1460 X hw 2 rfl rfl dX12_nearest_40 ?_
  refine lv_iload_n hx hb dX12_nearest_43 rfl (lv_at hl 0 rfl) ?_
  refine j_iald (j := 0) (v := 0) X hw 1 rfl (by decide) (by decide) (by decide) rfl dX12_nearest_44 ?_
  refine m_Vi (As := [.int 0]) (rest := []) (c184_X12_moved l D ct a0 a11 a1 a2 a3 a4 a5 a6 a7 a8 a9 a10 a12 a13 a14 a15 a16) X hl.1 kw_1977 kd_yX12_moved hw [0, 2, 3] [1] rfl rfl rfl rfl (by decide) 1 rfl rfl ⟨by decide, by decide⟩ rfl rfl (Nat.le_of_ble_eq_true rfl) dX12_nearest_45 ⟨by decide, by decide⟩ (fun r4 u5 H locs hr6 hw => ?_)
  replace hw : WD D A s.heap _ _ [(a8, .inl (ct 0, 40320, .inl (upd (fun _ => 0) 0 0))), (a11, .inl (ct 0, 21870, .inl fx15)), (a0, .inr (12, [.int 0, .ref a1, .ref a2, .ref a3, .ref a4, .int 0, .int 0, .int 0, .int 0, .int 0, .int 0, .int 0, .int 0, .int 0, .int (-1), .ref a5, .ref a6, .ref a7, .ref a8, .int 1, .ref a9, .ref a10, .int 0, .int 0, .int 0, .ref a11, .ref a12, .ref a13, .ref a14, .ref a15, .ref a16])), (a1, .inl (ct 0, 5310, .inl fx0))] := hw
  subst hr6
  refine lv_bipush (v := 100) hx hb dX12_nearest_48 (by decide) ?_
  refine kv_idiv (v := 0) hx hb (by decide) (by decide) dX12_nearest_50 ?_
  refine lv_istore (lv' := [(4, .int 0), (3, .int 0), (2, .int 1000000000), (1, .int (-1)), (0, .ref a0)]) hx hb dX12_nearest_51 hl (by decide) rfl (fun ls hl => ?_)
  refine lv_iload hx hb dX12_nearest_53 (lv_at hl 0 rfl) ?_
  refine lv_iload_n hx hb dX12_nearest_55 rfl (lv_at hl 2 rfl) ?_
  refine lv_icmp_lt (tgt := 62) hx hb dX12_nearest_56 (by decide) (fun _ => ?_) (fun h => absurd (by decide) h)
  refine lv_iload_n hx hb dX12_nearest_62 rfl (lv_at hl 1 rfl) ?_
  refine lv_istore_n (lv' := [(1, .int 0), (4, .int 0), (3, .int 0), (2, .int 1000000000), (0, .ref a0)]) hx hb dX12_nearest_63 rfl hl (by decide) rfl (fun ls hl => ?_)
  refine lv_iload hx hb dX12_nearest_64 (lv_at hl 1 rfl) ?_
  refine lv_istore_n (lv' := [(2, .int 0), (1, .int 0), (4, .int 0), (3, .int 0), (0, .ref a0)]) hx hb dX12_nearest_66 rfl hl (by decide) rfl (fun ls hl => ?_)
  refine lv_iinc (v := 1) (lv' := [(3, .int 1), (2, .int 0), (1, .int 0), (4, .int 0), (0, .ref a0)]) hx hb dX12_nearest_67 hl (k := 3) rfl (by decide) (by decide) rfl (fun ls hl => ?_)
  refine lv_goto (tgt := 30) hx hb dX12_nearest_70 (by decide) ?_
  refine lv_iload_n hx hb dX12_nearest_30 rfl (lv_at hl 0 rfl) ?_
  refine lv_aload_n hx hb dX12_nearest_31 rfl (lv_at hl 4 rfl) ?_
  refine fg_1461 X hw 2 rfl rfl dX12_nearest_32 ?_
  refine lv_icmp_ge (tgt := 73) hx hb dX12_nearest_35 (by decide) (fun _ => ?_) (fun h => absurd (by decide) h)
  refine lv_iload_n hx hb dX12_nearest_73 rfl (lv_at hl 2 rfl) ?_
  exact r_i X hr hlk hw [] (fun _ => 0) rfl rfl rfl (by decide) (by decide) dX12_nearest_74
set_option maxHeartbeats 4000000 in
set_option maxRecDepth 100000 in
theorem c189_X11_seenCode (l : Launch) (D : va_G) (ct : Nat → ClassId) (a0 : Nat) (p0 : Int32) (a1 : Nat) (a2 : Nat) (a3 : Nat) (a4 : Nat) (a5 : Nat) (a6 : Nat) (a7 : Nat) (a8 : Nat) (a9 : Nat) (a10 : Nat) (a11 : Nat) (a12 : Nat) (a13 : Nat) (a14 : Nat) (a15 : Nat) (a16 : Nat) (a17 : Nat) (a18 : Nat) (a19 : Nat) (a20 : Nat) (a21 : Nat) (a22 : Nat) (a23 : Nat) : CI l yX11_seenCode cX11_seenCode 6 (some .int) { frames := 2, cells := 0, slots := 0, locals := 41 } D ct [.ref a0, .int p0] [(a0, .inr (11, [.ref a1, .int 0, .ref a2, .ref a3, .ref a4, .ref a5, .ref a6, .ref a7, .ref a8, .ref a9, .ref a10, .ref a11, .ref a12, .ref a13, .ref a14, .ref a15, .int (-1), .int (-1)])), (a12, .inl (ct 5, 4, .inr (.inr (.inr (.inr (va_up (va_up (va_up (va_up (fun _ => none) 0 (some a16)) 1 (some a17)) 2 (some a18)) 3 (some a19))))))), (a16, .inr (10, [.int (-1), .ref a20, .int 0])), (a17, .inr (10, [.int (-1), .ref a21, .int 0])), (a18, .inr (10, [.int (-1), .ref a22, .int 0])), (a19, .inr (10, [.int (-1), .ref a23, .int 0]))] (fun r => (((p0.toInt < 0) ∨ (p0.toInt ≥ 0 ∧ p0.toInt ≥ 4))) ∧ r = (-2) ∨ (((p0.toInt ≥ 0 ∧ p0.toInt < 4 ∧ p0.toInt = 0) ∨ (p0.toInt ≥ 0 ∧ p0.toInt < 4 ∧ p0.toInt = 1) ∨ (p0.toInt ≥ 0 ∧ p0.toInt < 4 ∧ p0.toInt = 2) ∨ (p0.toInt ≥ 0 ∧ p0.toInt < 4 ∧ p0.toInt = 3))) ∧ r = (-6)) (fun u => []) := by
  refine CI.of (by decide +kernel) (Nat.le_of_ble_eq_true rfl) ?_
  intro p e s m below meth c A ls hE
  obtain ⟨X, hr, hlk, hnm, hw, hl⟩ := hE
  have X : CX p m c cX11_seenCode 6 s [.ref a0, .int p0].toArray RX11 D ct := X
  have hl : lv_has ls 6 [(0, .ref a0), (1, .int p0)] := hl
  obtain ⟨⟨hx, hb, hml, hown, hts⟩, hK⟩ := id X
  refine lv_aload_n hx hb dX11_seenCode_0 rfl (lv_at hl 0 rfl) ?_
  refine lv_iload_n hx hb dX11_seenCode_1 rfl (lv_at hl 1 rfl) ?_
  refine m_Vi (As := [.int p0]) (rest := []) (c108_X11_trayCode l D ct a0 p0 a1 a2 a3 a4 a5 a6 a7 a8 a9 a10 a11 a12 a13 a14 a15 a16 a17 a18 a19 a20 a21 a22 a23) X hl.1 kw_1111 kd_yX11_trayCode hw [0, 1, 2, 3, 4, 5] [] rfl rfl rfl rfl (by decide) 0 rfl rfl ⟨by decide, by decide⟩ rfl rfl (Nat.le_of_ble_eq_true rfl) dX11_seenCode_2 ⟨by decide, by decide⟩ (fun r1 u2 H locs hr3 hw => ?_)
  replace hw : WD D A s.heap _ _ [] := hw
  rcases hr3 with ⟨h4, rfl⟩ | ⟨h5, rfl⟩
  · skip
    refine lv_istore_n (lv' := [(2, .int (-2)), (0, .ref a0), (1, .int p0)]) hx hb dX11_seenCode_5 rfl hl (by decide) rfl (fun ls hl => ?_)
    refine lv_iload_n hx hb dX11_seenCode_6 rfl (lv_at hl 0 rfl) ?_
    refine lv_if_eq (tgt := 12) hx hb dX11_seenCode_7 (by decide) (fun h => absurd h (by decide)) (fun _ => ?_)
    refine lv_iload_n hx hb dX11_seenCode_10 rfl (lv_at hl 0 rfl) ?_
    exact r_i X hr hlk hw [] (fun _ => 0) rfl rfl (Or.inl (⟨h4, rfl⟩)) (by decide) (by decide) dX11_seenCode_11
  · skip
    refine lv_istore_n (lv' := [(2, .int (-6)), (0, .ref a0), (1, .int p0)]) hx hb dX11_seenCode_5 rfl hl (by decide) rfl (fun ls hl => ?_)
    refine lv_iload_n hx hb dX11_seenCode_6 rfl (lv_at hl 0 rfl) ?_
    refine lv_if_eq (tgt := 12) hx hb dX11_seenCode_7 (by decide) (fun h => absurd h (by decide)) (fun _ => ?_)
    refine lv_iload_n hx hb dX11_seenCode_10 rfl (lv_at hl 0 rfl) ?_
    exact r_i X hr hlk hw [] (fun _ => 0) rfl rfl (Or.inr (⟨h5, rfl⟩)) (by decide) (by decide) dX11_seenCode_11
set_option maxHeartbeats 4000000 in
set_option maxRecDepth 100000 in
theorem c190_X11_seen (l : Launch) (D : va_G) (ct : Nat → ClassId) (a0 : Nat) (p0 : Int32) (a1 : Nat) (a2 : Nat) (a3 : Nat) (a4 : Nat) (a5 : Nat) (a6 : Nat) (a7 : Nat) (a8 : Nat) (a9 : Nat) (a10 : Nat) (a11 : Nat) (a12 : Nat) (a13 : Nat) (a14 : Nat) (a15 : Nat) (a16 : Nat) (a17 : Nat) (a18 : Nat) (a19 : Nat) (a20 : Nat) (a21 : Nat) (a22 : Nat) (a23 : Nat) : CI l yX11_seen cX11_seen 3 (some .int) { frames := 3, cells := 0, slots := 0, locals := 66 } D ct [.ref a0, .int p0] [(a0, .inr (11, [.ref a1, .int 0, .ref a2, .ref a3, .ref a4, .ref a5, .ref a6, .ref a7, .ref a8, .ref a9, .ref a10, .ref a11, .ref a12, .ref a13, .ref a14, .ref a15, .int (-1), .int (-1)])), (a12, .inl (ct 5, 4, .inr (.inr (.inr (.inr (va_up (va_up (va_up (va_up (fun _ => none) 0 (some a16)) 1 (some a17)) 2 (some a18)) 3 (some a19))))))), (a16, .inr (10, [.int (-1), .ref a20, .int 0])), (a17, .inr (10, [.int (-1), .ref a21, .int 0])), (a18, .inr (10, [.int (-1), .ref a22, .int 0])), (a19, .inr (10, [.int (-1), .ref a23, .int 0]))] (fun r => (((p0.toInt < 0) ∨ (p0.toInt ≥ 0 ∧ p0.toInt ≥ 4))) ∧ r = (-2) ∨ (((p0.toInt ≥ 0 ∧ p0.toInt < 4 ∧ p0.toInt = 0) ∨ (p0.toInt ≥ 0 ∧ p0.toInt < 4 ∧ p0.toInt = 1) ∨ (p0.toInt ≥ 0 ∧ p0.toInt < 4 ∧ p0.toInt = 2) ∨ (p0.toInt ≥ 0 ∧ p0.toInt < 4 ∧ p0.toInt = 3))) ∧ r = (-6)) (fun u => []) := by
  refine CI.of (by decide +kernel) (Nat.le_of_ble_eq_true rfl) ?_
  intro p e s m below meth c A ls hE
  obtain ⟨X, hr, hlk, hnm, hw, hl⟩ := hE
  have X : CX p m c cX11_seen 3 s [.ref a0, .int p0].toArray RX11 D ct := X
  have hl : lv_has ls 3 [(0, .ref a0), (1, .int p0)] := hl
  obtain ⟨⟨hx, hb, hml, hown, hts⟩, hK⟩ := id X
  refine lv_aload_n hx hb dX11_seen_0 rfl (lv_at hl 0 rfl) ?_
  refine lv_iload_n hx hb dX11_seen_1 rfl (lv_at hl 1 rfl) ?_
  refine m_Vi (As := [.int p0]) (rest := []) (c189_X11_seenCode l D ct a0 p0 a1 a2 a3 a4 a5 a6 a7 a8 a9 a10 a11 a12 a13 a14 a15 a16 a17 a18 a19 a20 a21 a22 a23) X hl.1 kw_1368 kd_yX11_seenCode hw [0, 1, 2, 3, 4, 5] [] rfl rfl rfl rfl (by decide) 0 rfl rfl ⟨by decide, by decide⟩ rfl rfl (Nat.le_of_ble_eq_true rfl) dX11_seen_2 ⟨by decide, by decide⟩ (fun r1 u2 H locs hr3 hw => ?_)
  replace hw : WD D A s.heap _ _ [] := hw
  rcases hr3 with ⟨h4, rfl⟩ | ⟨h5, rfl⟩
  · skip
    refine lv_istore_n (lv' := [(2, .int (-2)), (0, .ref a0), (1, .int p0)]) hx hb dX11_seen_5 rfl hl (by decide) rfl (fun ls hl => ?_)
    refine lv_iload_n hx hb dX11_seen_6 rfl (lv_at hl 0 rfl) ?_
    refine lv_if_eq (tgt := 14) hx hb dX11_seen_7 (by decide) (fun h => absurd h (by decide)) (fun _ => ?_)
    refine lv_iload_n hx hb dX11_seen_10 rfl (lv_at hl 0 rfl) ?_
    refine lv_goto (tgt := 24) hx hb dX11_seen_11 (by decide) ?_
    exact r_i X hr hlk hw [] (fun _ => 0) rfl rfl (Or.inl (⟨h4, rfl⟩)) (by decide) (by decide) dX11_seen_24
  · skip
    refine lv_istore_n (lv' := [(2, .int (-6)), (0, .ref a0), (1, .int p0)]) hx hb dX11_seen_5 rfl hl (by decide) rfl (fun ls hl => ?_)
    refine lv_iload_n hx hb dX11_seen_6 rfl (lv_at hl 0 rfl) ?_
    refine lv_if_eq (tgt := 14) hx hb dX11_seen_7 (by decide) (fun h => absurd h (by decide)) (fun _ => ?_)
    refine lv_iload_n hx hb dX11_seen_10 rfl (lv_at hl 0 rfl) ?_
    refine lv_goto (tgt := 24) hx hb dX11_seen_11 (by decide) ?_
    exact r_i X hr hlk hw [] (fun _ => 0) rfl rfl (Or.inr (⟨h5, rfl⟩)) (by decide) (by decide) dX11_seen_24
set_option maxHeartbeats 4000000 in
set_option maxRecDepth 100000 in
theorem c191_X12_noSeen (l : Launch) (D : va_G) (ct : Nat → ClassId) (a0 : Nat) (p0 : Int32) (a1 : Nat) (a2 : Nat) (a3 : Nat) (a4 : Nat) (a5 : Nat) (a6 : Nat) (a7 : Nat) (a8 : Nat) (a9 : Nat) (a10 : Nat) (a11 : Nat) (a12 : Nat) (a13 : Nat) (a14 : Nat) (a15 : Nat) (a16 : Nat) : CI l yX12_noSeen cX12_noSeen 6 (some .int) { frames := 2, cells := 0, slots := 0, locals := 46 } D ct [.ref a0, .int p0] [(a0, .inr (12, [.int 0, .ref a1, .ref a2, .ref a3, .ref a4, .int 0, .int 0, .int 0, .int 0, .int 0, .int 0, .int 0, .int 0, .int 0, .int (-1), .ref a5, .ref a6, .ref a7, .ref a8, .int 0, .ref a9, .ref a10, .int 0, .int 0, .int 0, .ref a11, .ref a12, .ref a13, .ref a14, .ref a15, .ref a16])), (a14, .inl (ct 0, 4, .inl fx2))] (fun r => (((p0.toInt < 0) ∨ (p0.toInt ≥ 0 ∧ p0.toInt > 3))) ∧ r = (-2) ∨ (((p0.toInt ≥ 0 ∧ p0.toInt ≤ 3 ∧ p0.toInt = 0) ∨ (p0.toInt ≥ 0 ∧ p0.toInt ≤ 3 ∧ p0.toInt = 1) ∨ (p0.toInt ≥ 0 ∧ p0.toInt ≤ 3 ∧ p0.toInt = 2) ∨ (p0.toInt ≥ 0 ∧ p0.toInt ≤ 3 ∧ p0.toInt = 3))) ∧ r = (-6)) (fun u => [(a0, .inr (12, [.int 0, .ref a1, .ref a2, .ref a3, .ref a4, .int 0, .int 0, .int 0, .int 0, .int 0, .int 0, .int 0, .int 0, .int 0, .int (-1), .ref a5, .ref a6, .ref a7, .ref a8, .int 0, .ref a9, .ref a10, .int 0, .int 0, .int 0, .ref a11, .ref a12, .ref a13, .ref a14, .ref a15, .ref a16])), (a14, .inl (ct 0, 4, .inl fx2))]) := by
  refine CI.of (by decide +kernel) (Nat.le_of_ble_eq_true rfl) ?_
  intro p e s m below meth c A ls hE
  obtain ⟨X, hr, hlk, hnm, hw, hl⟩ := hE
  have X : CX p m c cX12_noSeen 6 s [.ref a0, .int p0].toArray RX12 D ct := X
  have hl : lv_has ls 6 [(0, .ref a0), (1, .int p0)] := hl
  obtain ⟨⟨hx, hb, hml, hown, hts⟩, hK⟩ := id X
  refine lv_aload_n hx hb dX12_noSeen_0 rfl (lv_at hl 0 rfl) ?_
  refine lv_iload_n hx hb dX12_noSeen_1 rfl (lv_at hl 1 rfl) ?_
  refine m_Vi (As := [.int p0]) (rest := []) (c106_X12_noTray l D ct a0 p0 a1 a2 a3 a4 a5 a6 a7 a8 a9 a10 a11 a12 a13 a14 a15 a16) X hl.1 kw_1806 kd_yX12_noTray hw [0, 1] [] rfl rfl rfl rfl (by decide) 0 rfl rfl ⟨by decide, by decide⟩ rfl rfl (Nat.le_of_ble_eq_true rfl) dX12_noSeen_2 ⟨by decide, by decide⟩ (fun r1 u2 H locs hr3 hw => ?_)
  replace hw : WD D A s.heap _ _ [(a0, .inr (12, [.int 0, .ref a1, .ref a2, .ref a3, .ref a4, .int 0, .int 0, .int 0, .int 0, .int 0, .int 0, .int 0, .int 0, .int 0, .int (-1), .ref a5, .ref a6, .ref a7, .ref a8, .int 0, .ref a9, .ref a10, .int 0, .int 0, .int 0, .ref a11, .ref a12, .ref a13, .ref a14, .ref a15, .ref a16])), (a14, .inl (ct 0, 4, .inl fx2))] := hw
  rcases hr3 with ⟨h4, rfl⟩ | ⟨h5, rfl⟩
  · skip
    refine lv_istore_n (lv' := [(2, .int (-2)), (0, .ref a0), (1, .int p0)]) hx hb dX12_noSeen_5 rfl hl (by decide) rfl (fun ls hl => ?_)
    refine lv_iload_n hx hb dX12_noSeen_6 rfl (lv_at hl 0 rfl) ?_
    refine lv_if_eq (tgt := 12) hx hb dX12_noSeen_7 (by decide) (fun h => absurd h (by decide)) (fun _ => ?_)
    refine lv_iload_n hx hb dX12_noSeen_10 rfl (lv_at hl 0 rfl) ?_
    exact r_i X hr hlk hw [0, 1] (fun _ => 0) rfl rfl (Or.inl (⟨h4, rfl⟩)) (by decide) (by decide) dX12_noSeen_11
  · skip
    refine lv_istore_n (lv' := [(2, .int (-6)), (0, .ref a0), (1, .int p0)]) hx hb dX12_noSeen_5 rfl hl (by decide) rfl (fun ls hl => ?_)
    refine lv_iload_n hx hb dX12_noSeen_6 rfl (lv_at hl 0 rfl) ?_
    refine lv_if_eq (tgt := 12) hx hb dX12_noSeen_7 (by decide) (fun h => absurd h (by decide)) (fun _ => ?_)
    refine lv_iload_n hx hb dX12_noSeen_10 rfl (lv_at hl 0 rfl) ?_
    exact r_i X hr hlk hw [0, 1] (fun _ => 0) rfl rfl (Or.inr (⟨h5, rfl⟩)) (by decide) (by decide) dX12_noSeen_11
set_option maxHeartbeats 4000000 in
set_option maxRecDepth 100000 in
theorem c192_X12_seen (l : Launch) (D : va_G) (ct : Nat → ClassId) (a0 : Nat) (p0 : Int32) (a1 : Nat) (a2 : Nat) (a3 : Nat) (a4 : Nat) (a5 : Nat) (a6 : Nat) (a7 : Nat) (a8 : Nat) (a9 : Nat) (a10 : Nat) (a11 : Nat) (a12 : Nat) (a13 : Nat) (a14 : Nat) (a15 : Nat) (a16 : Nat) : CI l yX12_seen cX12_seen 3 (some .int) { frames := 3, cells := 0, slots := 0, locals := 71 } D ct [.ref a0, .int p0] [(a0, .inr (12, [.int 0, .ref a1, .ref a2, .ref a3, .ref a4, .int 0, .int 0, .int 0, .int 0, .int 0, .int 0, .int 0, .int 0, .int 0, .int (-1), .ref a5, .ref a6, .ref a7, .ref a8, .int 0, .ref a9, .ref a10, .int 0, .int 0, .int 0, .ref a11, .ref a12, .ref a13, .ref a14, .ref a15, .ref a16])), (a14, .inl (ct 0, 4, .inl fx2))] (fun r => (((p0.toInt < 0) ∨ (p0.toInt ≥ 0 ∧ p0.toInt > 3))) ∧ r = (-2) ∨ (((p0.toInt ≥ 0 ∧ p0.toInt ≤ 3 ∧ p0.toInt = 0) ∨ (p0.toInt ≥ 0 ∧ p0.toInt ≤ 3 ∧ p0.toInt = 1) ∨ (p0.toInt ≥ 0 ∧ p0.toInt ≤ 3 ∧ p0.toInt = 2) ∨ (p0.toInt ≥ 0 ∧ p0.toInt ≤ 3 ∧ p0.toInt = 3))) ∧ r = (-6)) (fun u => []) := by
  refine CI.of (by decide +kernel) (Nat.le_of_ble_eq_true rfl) ?_
  intro p e s m below meth c A ls hE
  obtain ⟨X, hr, hlk, hnm, hw, hl⟩ := hE
  have X : CX p m c cX12_seen 3 s [.ref a0, .int p0].toArray RX12 D ct := X
  have hl : lv_has ls 3 [(0, .ref a0), (1, .int p0)] := hl
  obtain ⟨⟨hx, hb, hml, hown, hts⟩, hK⟩ := id X
  refine lv_aload_n hx hb dX12_seen_0 rfl (lv_at hl 0 rfl) ?_
  refine lv_iconst (v := 0) hx hb dX12_seen_1 (by decide) ?_
  refine fp_1442 X hw 0 rfl rfl rfl (Nat.le_of_ble_eq_true rfl) dX12_seen_2 [(a0, .inr (12, [.int 0, .ref a1, .ref a2, .ref a3, .ref a4, .int 0, .int 0, .int 0, .int 0, .int 0, .int 0, .int 0, .int 0, .int 0, .int (-1), .ref a5, .ref a6, .ref a7, .ref a8, .int 0, .ref a9, .ref a10, .int 0, .int 0, .int 0, .ref a11, .ref a12, .ref a13, .ref a14, .ref a15, .ref a16])), (a14, .inl (ct 0, 4, .inl fx2))] rfl (fun H locs hw => ?_)
  refine lv_aload_n hx hb dX12_seen_5 rfl (lv_at hl 0 rfl) ?_
  refine lv_iload_n hx hb dX12_seen_6 rfl (lv_at hl 1 rfl) ?_
  refine m_Vi (As := [.int p0]) (rest := []) (c191_X12_noSeen l D ct a0 p0 a1 a2 a3 a4 a5 a6 a7 a8 a9 a10 a11 a12 a13 a14 a15 a16) X hl.1 kw_1997 kd_yX12_noSeen hw [0, 1] [] rfl rfl rfl rfl (by decide) 0 rfl rfl ⟨by decide, by decide⟩ rfl rfl (Nat.le_of_ble_eq_true rfl) dX12_seen_7 ⟨by decide, by decide⟩ (fun r1 u2 H locs hr3 hw => ?_)
  replace hw : WD D A s.heap _ _ [(a0, .inr (12, [.int 0, .ref a1, .ref a2, .ref a3, .ref a4, .int 0, .int 0, .int 0, .int 0, .int 0, .int 0, .int 0, .int 0, .int 0, .int (-1), .ref a5, .ref a6, .ref a7, .ref a8, .int 0, .ref a9, .ref a10, .int 0, .int 0, .int 0, .ref a11, .ref a12, .ref a13, .ref a14, .ref a15, .ref a16])), (a14, .inl (ct 0, 4, .inl fx2))] := hw
  rcases hr3 with ⟨h4, rfl⟩ | ⟨h5, rfl⟩
  · skip
    refine lv_istore_n (lv' := [(2, .int (-2)), (0, .ref a0), (1, .int p0)]) hx hb dX12_seen_10 rfl hl (by decide) rfl (fun ls hl => ?_)
    refine lv_iload_n hx hb dX12_seen_11 rfl (lv_at hl 0 rfl) ?_
    refine lv_if_eq (tgt := 17) hx hb dX12_seen_12 (by decide) (fun h => absurd h (by decide)) (fun _ => ?_)
    refine lv_iload_n hx hb dX12_seen_15 rfl (lv_at hl 0 rfl) ?_
    exact r_i X hr hlk hw [] (fun _ => 0) rfl rfl (Or.inl (⟨h4, rfl⟩)) (by decide) (by decide) dX12_seen_16
  · skip
    refine lv_istore_n (lv' := [(2, .int (-6)), (0, .ref a0), (1, .int p0)]) hx hb dX12_seen_10 rfl hl (by decide) rfl (fun ls hl => ?_)
    refine lv_iload_n hx hb dX12_seen_11 rfl (lv_at hl 0 rfl) ?_
    refine lv_if_eq (tgt := 17) hx hb dX12_seen_12 (by decide) (fun h => absurd h (by decide)) (fun _ => ?_)
    refine lv_iload_n hx hb dX12_seen_15 rfl (lv_at hl 0 rfl) ?_
    exact r_i X hr hlk hw [] (fun _ => 0) rfl rfl (Or.inr (⟨h5, rfl⟩)) (by decide) (by decide) dX12_seen_16
set_option maxHeartbeats 4000000 in
set_option maxRecDepth 100000 in
theorem c193_X11_had (l : Launch) (D : va_G) (ct : Nat → ClassId) (a0 : Nat) (p0 : Int32) (p1 : Int32) (a1 : Nat) (a2 : Nat) (a3 : Nat) (a4 : Nat) (a5 : Nat) (a6 : Nat) (a7 : Nat) (a8 : Nat) (a9 : Nat) (a10 : Nat) (a11 : Nat) (a12 : Nat) (a13 : Nat) (a14 : Nat) (a15 : Nat) (a16 : Nat) (a17 : Nat) (a18 : Nat) (a19 : Nat) : CI l yX11_had cX11_had 6 (some .int) { frames := 1, cells := 0, slots := 0, locals := 21 } D ct [.ref a0, .int p0, .int p1] [(a0, .inr (11, [.ref a1, .int 0, .ref a2, .ref a3, .ref a4, .ref a5, .ref a6, .ref a7, .ref a8, .ref a9, .ref a10, .ref a11, .ref a12, .ref a13, .ref a14, .ref a15, .int (-1), .int (-1)])), (a2, .inr (2, [.int 0, .int 0, .int 0, .ref a16, .ref a17, .ref a18, .int 0, .int 0, .int 0, .int 0, .int 0, .ref a19, .int 0]))] (fun r => r = (-2)) (fun u => []) := by
  refine CI.of (by decide +kernel) (Nat.le_of_ble_eq_true rfl) ?_
  intro p e s m below meth c A ls hE
  obtain ⟨X, hr, hlk, hnm, hw, hl⟩ := hE
  have X : CX p m c cX11_had 6 s [.ref a0, .int p0, .int p1].toArray RX11 D ct := X
  have hl : lv_has ls 6 [(0, .ref a0), (1, .int p0), (2, .int p1)] := hl
  obtain ⟨⟨hx, hb, hml, hown, hts⟩, hK⟩ := id X
  refine lv_iload_n hx hb dX11_had_0 rfl (lv_at hl 1 rfl) ?_
  refine m_Si (As := [.int p0]) (rest := []) (c102_X11_isTray l D ct p0) X hl.1 kw_1071 kd_yX11_isTray hw [] [0, 1] rfl rfl rfl rfl (by decide) ⟨by decide, by decide⟩ rfl rfl (Nat.le_of_ble_eq_true rfl) dX11_had_1 ⟨by decide, by decide⟩ (fun r1 u2 H locs hr3 hw => ?_)
  replace hw : WD D A s.heap _ _ [(a0, .inr (11, [.ref a1, .int 0, .ref a2, .ref a3, .ref a4, .ref a5, .ref a6, .ref a7, .ref a8, .ref a9, .ref a10, .ref a11, .ref a12, .ref a13, .ref a14, .ref a15, .int (-1), .int (-1)])), (a2, .inr (2, [.int 0, .int 0, .int 0, .ref a16, .ref a17, .ref a18, .int 0, .int 0, .int 0, .int 0, .int 0, .ref a19, .int 0]))] := hw
  rcases hr3 with ⟨h4, rfl⟩ | ⟨⟨h5, h6⟩, rfl⟩
  · skip
    refine lv_if_eq (tgt := 15) hx hb dX11_had_4 (by decide) (fun _ => ?_) (fun h => absurd (by decide) h)
    refine lv_bipush (v := (-2)) hx hb dX11_had_15 (by decide) ?_
    exact r_i X hr hlk hw [] (fun _ => 0) rfl rfl rfl (by decide) (by decide) dX11_had_17
  · skip
    refine lv_if_eq (tgt := 15) hx hb dX11_had_4 (by decide) (fun h => absurd h (by decide)) (fun _ => ?_)
    refine lv_aload_n hx hb dX11_had_7 rfl (lv_at hl 0 rfl) ?_
    refine lv_iload_n hx hb dX11_had_8 rfl (lv_at hl 2 rfl) ?_
    refine m_Vi (As := [.int p1]) (rest := []) (c47_X11_isHousehold l D ct a0 p1 a1 a2 a3 a4 a5 a6 a7 a8 a9 a10 a11 a12 a13 a14 a15 a16 a17 a18 a19) X hl.1 kw_891 kd_yX11_isHousehold hw [0, 1] [] rfl rfl rfl rfl (by decide) 0 rfl rfl ⟨by decide, by decide⟩ rfl rfl (Nat.le_of_ble_eq_true rfl) dX11_had_9 ⟨by decide, by decide⟩ (fun r7 u8 H locs hr9 hw => ?_)
    replace hw : WD D A s.heap _ _ [(a0, .inr (11, [.ref a1, .int 0, .ref a2, .ref a3, .ref a4, .ref a5, .ref a6, .ref a7, .ref a8, .ref a9, .ref a10, .ref a11, .ref a12, .ref a13, .ref a14, .ref a15, .int (-1), .int (-1)])), (a2, .inr (2, [.int 0, .int 0, .int 0, .ref a16, .ref a17, .ref a18, .int 0, .int 0, .int 0, .int 0, .int 0, .ref a19, .int 0]))] := hw
    subst hr9
    refine lv_if_ne (tgt := 18) hx hb dX11_had_12 (by decide) (fun h => absurd rfl h) (fun _ => ?_)
    refine lv_bipush (v := (-2)) hx hb dX11_had_15 (by decide) ?_
    exact r_i X hr hlk hw [] (fun _ => 0) rfl rfl rfl (by decide) (by decide) dX11_had_17
set_option maxHeartbeats 4000000 in
set_option maxRecDepth 100000 in
theorem c194_X12_had (l : Launch) (D : va_G) (ct : Nat → ClassId) (a0 : Nat) (p0 : Int32) (p1 : Int32) (a1 : Nat) (a2 : Nat) (a3 : Nat) (a4 : Nat) (a5 : Nat) (a6 : Nat) (a7 : Nat) (a8 : Nat) (a9 : Nat) (a10 : Nat) (a11 : Nat) (a12 : Nat) (a13 : Nat) (a14 : Nat) (a15 : Nat) (a16 : Nat) : CI l yX12_had cX12_had 4 (some .int) { frames := 2, cells := 0, slots := 0, locals := 47 } D ct [.ref a0, .int p0, .int p1] [(a0, .inr (12, [.int 0, .ref a1, .ref a2, .ref a3, .ref a4, .int 0, .int 0, .int 0, .int 0, .int 0, .int 0, .int 0, .int 0, .int 0, .int (-1), .ref a5, .ref a6, .ref a7, .ref a8, .int 0, .ref a9, .ref a10, .int 0, .int 0, .int 0, .ref a11, .ref a12, .ref a13, .ref a14, .ref a15, .ref a16])), (a1, .inl (ct 0, 5310, .inl fx0))] (fun r => r = (-2)) (fun u => []) := by
  refine CI.of (by decide +kernel) (Nat.le_of_ble_eq_true rfl) ?_
  intro p e s m below meth c A ls hE
  obtain ⟨X, hr, hlk, hnm, hw, hl⟩ := hE
  have X : CX p m c cX12_had 4 s [.ref a0, .int p0, .int p1].toArray RX12 D ct := X
  have hl : lv_has ls 4 [(0, .ref a0), (1, .int p0), (2, .int p1)] := hl
  obtain ⟨⟨hx, hb, hml, hown, hts⟩, hK⟩ := id X
  refine lv_aload_n hx hb dX12_had_0 rfl (lv_at hl 0 rfl) ?_
  refine lv_iconst (v := 0) hx hb dX12_had_1 (by decide) ?_
  refine fp_1442 X hw 0 rfl rfl rfl (Nat.le_of_ble_eq_true rfl) dX12_had_2 [(a0, .inr (12, [.int 0, .ref a1, .ref a2, .ref a3, .ref a4, .int 0, .int 0, .int 0, .int 0, .int 0, .int 0, .int 0, .int 0, .int 0, .int (-1), .ref a5, .ref a6, .ref a7, .ref a8, .int 0, .ref a9, .ref a10, .int 0, .int 0, .int 0, .ref a11, .ref a12, .ref a13, .ref a14, .ref a15, .ref a16])), (a1, .inl (ct 0, 5310, .inl fx0))] rfl (fun H locs hw => ?_)
  refine lv_iload_n hx hb dX12_had_5 rfl (lv_at hl 1 rfl) ?_
  refine lv_i2l (v := p0.toInt64) hx hb dX12_had_6 rfl ?_
  refine lv_lconst (v := 0) hx hb dX12_had_7 (by decide) ?_
  refine lv_ldc2 hx hb hown (hts _ wd_1658) dX12_had_8 ?_
  refine m_Si (As := [.long p0.toInt64, .long 0, .long 3]) (rest := []) (c105_X12_within l D ct (p0.toInt64)) X hl.1 kw_1545 kd_yX12_within hw [] [0, 1] rfl rfl rfl rfl (by decide) ⟨by decide, by decide⟩ rfl rfl (Nat.le_of_ble_eq_true rfl) dX12_had_11 ⟨by decide, by decide⟩ (fun r1 u2 H locs hr3 hw => ?_)
  replace hw : WD D A s.heap _ _ [(a0, .inr (12, [.int 0, .ref a1, .ref a2, .ref a3, .ref a4, .int 0, .int 0, .int 0, .int 0, .int 0, .int 0, .int 0, .int 0, .int 0, .int (-1), .ref a5, .ref a6, .ref a7, .ref a8, .int 0, .ref a9, .ref a10, .int 0, .int 0, .int 0, .ref a11, .ref a12, .ref a13, .ref a14, .ref a15, .ref a16])), (a1, .inl (ct 0, 5310, .inl fx0))] := hw
  rcases hr3 with ⟨h4, rfl⟩ | ⟨⟨h5, h6⟩, rfl⟩
  · skip
    simp only [i64i] at h4
    refine lv_if_eq (tgt := 26) hx hb dX12_had_14 (by decide) (fun _ => ?_) (fun h => absurd (by decide) h)
    refine lv_bipush (v := (-2)) hx hb dX12_had_26 (by decide) ?_
    exact r_i X hr hlk hw [] (fun _ => 0) rfl rfl rfl (by decide) (by decide) dX12_had_28
  · skip
    rw [i64i] at h5
    rw [i64i] at h6
    refine lv_if_eq (tgt := 26) hx hb dX12_had_14 (by decide) (fun h => absurd h (by decide)) (fun _ => ?_)
    refine lv_aload_n hx hb dX12_had_17 rfl (lv_at hl 0 rfl) ?_
    refine lv_iload_n hx hb dX12_had_18 rfl (lv_at hl 2 rfl) ?_
    refine lv_i2l (v := p1.toInt64) hx hb dX12_had_19 rfl ?_
    refine m_Vi (As := [.long p1.toInt64]) (rest := []) (c49_X12_isHousehold l D ct a0 (p1.toInt64) a1 a2 a3 a4 a5 a6 a7 a8 a9 a10 a11 a12 a13 a14 a15 a16) X hl.1 kw_1667 kd_yX12_isHousehold hw [0, 1] [] rfl rfl rfl rfl (by decide) 0 rfl rfl ⟨by decide, by decide⟩ rfl rfl (Nat.le_of_ble_eq_true rfl) dX12_had_20 ⟨by decide, by decide⟩ (fun r7 u8 H locs hr9 hw => ?_)
    replace hw : WD D A s.heap _ _ [(a0, .inr (12, [.int 0, .ref a1, .ref a2, .ref a3, .ref a4, .int 0, .int 0, .int 0, .int 0, .int 0, .int 0, .int 0, .int 0, .int 0, .int (-1), .ref a5, .ref a6, .ref a7, .ref a8, .int 0, .ref a9, .ref a10, .int 0, .int 0, .int 0, .ref a11, .ref a12, .ref a13, .ref a14, .ref a15, .ref a16])), (a1, .inl (ct 0, 5310, .inl fx0))] := hw
    subst hr9
    refine lv_if_ne (tgt := 29) hx hb dX12_had_23 (by decide) (fun h => absurd rfl h) (fun _ => ?_)
    refine lv_bipush (v := (-2)) hx hb dX12_had_26 (by decide) ?_
    exact r_i X hr hlk hw [] (fun _ => 0) rfl rfl rfl (by decide) (by decide) dX12_had_28
set_option maxHeartbeats 4000000 in
set_option maxRecDepth 100000 in
theorem c195_X11_wall (l : Launch) (D : va_G) (ct : Nat → ClassId) (a0 : Nat) (p0 : Int32) (a1 : Nat) (a2 : Nat) (a3 : Nat) (a4 : Nat) (a5 : Nat) (a6 : Nat) (a7 : Nat) (a8 : Nat) (a9 : Nat) (a10 : Nat) (a11 : Nat) (a12 : Nat) (a13 : Nat) (a14 : Nat) (a15 : Nat) (a16 : Nat) (a17 : Nat) (a18 : Nat) (a19 : Nat) (a20 : Nat) (a21 : Nat) (a22 : Nat) (a23 : Nat) : CI l yX11_wall cX11_wall 8 (some .int) { frames := 3, cells := 0, slots := 0, locals := 66 } D ct [.ref a0, .int p0] [(a0, .inr (11, [.ref a1, .int 0, .ref a2, .ref a3, .ref a4, .ref a5, .ref a6, .ref a7, .ref a8, .ref a9, .ref a10, .ref a11, .ref a12, .ref a13, .ref a14, .ref a15, .int (-1), .int (-1)])), (a12, .inl (ct 5, 4, .inr (.inr (.inr (.inr (va_up (va_up (va_up (va_up (fun _ => none) 0 (some a16)) 1 (some a17)) 2 (some a18)) 3 (some a19))))))), (a16, .inr (10, [.int (-1), .ref a20, .int 0])), (a17, .inr (10, [.int (-1), .ref a21, .int 0])), (a18, .inr (10, [.int (-1), .ref a22, .int 0])), (a19, .inr (10, [.int (-1), .ref a23, .int 0]))] (fun r => (((p0.toInt < 0) ∨ (p0.toInt ≥ 0 ∧ p0.toInt ≥ 4))) ∧ r = (-2) ∨ (((p0.toInt ≥ 0 ∧ p0.toInt < 4 ∧ p0.toInt = 0) ∨ (p0.toInt ≥ 0 ∧ p0.toInt < 4 ∧ p0.toInt = 1) ∨ (p0.toInt ≥ 0 ∧ p0.toInt < 4 ∧ p0.toInt = 2) ∨ (p0.toInt ≥ 0 ∧ p0.toInt < 4 ∧ p0.toInt = 3))) ∧ r = (-6)) (fun u => []) := by
  refine CI.of (by decide +kernel) (Nat.le_of_ble_eq_true rfl) ?_
  intro p e s m below meth c A ls hE
  obtain ⟨X, hr, hlk, hnm, hw, hl⟩ := hE
  have X : CX p m c cX11_wall 8 s [.ref a0, .int p0].toArray RX11 D ct := X
  have hl : lv_has ls 8 [(0, .ref a0), (1, .int p0)] := hl
  obtain ⟨⟨hx, hb, hml, hown, hts⟩, hK⟩ := id X
  refine lv_aload_n hx hb dX11_wall_0 rfl (lv_at hl 0 rfl) ?_
  refine lv_iload_n hx hb dX11_wall_1 rfl (lv_at hl 1 rfl) ?_
  refine m_Vi (As := [.int p0]) (rest := []) (c189_X11_seenCode l D ct a0 p0 a1 a2 a3 a4 a5 a6 a7 a8 a9 a10 a11 a12 a13 a14 a15 a16 a17 a18 a19 a20 a21 a22 a23) X hl.1 kw_1368 kd_yX11_seenCode hw [0, 1, 2, 3, 4, 5] [] rfl rfl rfl rfl (by decide) 0 rfl rfl ⟨by decide, by decide⟩ rfl rfl (Nat.le_of_ble_eq_true rfl) dX11_wall_2 ⟨by decide, by decide⟩ (fun r1 u2 H locs hr3 hw => ?_)
  replace hw : WD D A s.heap _ _ [] := hw
  rcases hr3 with ⟨h4, rfl⟩ | ⟨h5, rfl⟩
  · skip
    refine lv_istore_n (lv' := [(2, .int (-2)), (0, .ref a0), (1, .int p0)]) hx hb dX11_wall_5 rfl hl (by decide) rfl (fun ls hl => ?_)
    refine lv_iload_n hx hb dX11_wall_6 rfl (lv_at hl 0 rfl) ?_
    refine lv_if_eq (tgt := 12) hx hb dX11_wall_7 (by decide) (fun h => absurd h (by decide)) (fun _ => ?_)
    refine lv_iload_n hx hb dX11_wall_10 rfl (lv_at hl 0 rfl) ?_
    exact r_i X hr hlk hw [] (fun _ => 0) rfl rfl (Or.inl (⟨h4, rfl⟩)) (by decide) (by decide) dX11_wall_11
  · skip
    refine lv_istore_n (lv' := [(2, .int (-6)), (0, .ref a0), (1, .int p0)]) hx hb dX11_wall_5 rfl hl (by decide) rfl (fun ls hl => ?_)
    refine lv_iload_n hx hb dX11_wall_6 rfl (lv_at hl 0 rfl) ?_
    refine lv_if_eq (tgt := 12) hx hb dX11_wall_7 (by decide) (fun h => absurd h (by decide)) (fun _ => ?_)
    refine lv_iload_n hx hb dX11_wall_10 rfl (lv_at hl 0 rfl) ?_
    exact r_i X hr hlk hw [] (fun _ => 0) rfl rfl (Or.inr (⟨h5, rfl⟩)) (by decide) (by decide) dX11_wall_11
set_option maxHeartbeats 4000000 in
set_option maxRecDepth 100000 in
theorem c196_X12_wall (l : Launch) (D : va_G) (ct : Nat → ClassId) (a0 : Nat) (p0 : Int32) (a1 : Nat) (a2 : Nat) (a3 : Nat) (a4 : Nat) (a5 : Nat) (a6 : Nat) (a7 : Nat) (a8 : Nat) (a9 : Nat) (a10 : Nat) (a11 : Nat) (a12 : Nat) (a13 : Nat) (a14 : Nat) (a15 : Nat) (a16 : Nat) : CI l yX12_wall cX12_wall 7 (some .int) { frames := 3, cells := 0, slots := 0, locals := 71 } D ct [.ref a0, .int p0] [(a0, .inr (12, [.int 0, .ref a1, .ref a2, .ref a3, .ref a4, .int 0, .int 0, .int 0, .int 0, .int 0, .int 0, .int 0, .int 0, .int 0, .int (-1), .ref a5, .ref a6, .ref a7, .ref a8, .int 0, .ref a9, .ref a10, .int 0, .int 0, .int 0, .ref a11, .ref a12, .ref a13, .ref a14, .ref a15, .ref a16])), (a14, .inl (ct 0, 4, .inl fx2))] (fun r => (((p0.toInt < 0) ∨ (p0.toInt ≥ 0 ∧ p0.toInt > 3))) ∧ r = (-2) ∨ (((p0.toInt ≥ 0 ∧ p0.toInt ≤ 3 ∧ p0.toInt = 0) ∨ (p0.toInt ≥ 0 ∧ p0.toInt ≤ 3 ∧ p0.toInt = 1) ∨ (p0.toInt ≥ 0 ∧ p0.toInt ≤ 3 ∧ p0.toInt = 2) ∨ (p0.toInt ≥ 0 ∧ p0.toInt ≤ 3 ∧ p0.toInt = 3))) ∧ r = (-6)) (fun u => []) := by
  refine CI.of (by decide +kernel) (Nat.le_of_ble_eq_true rfl) ?_
  intro p e s m below meth c A ls hE
  obtain ⟨X, hr, hlk, hnm, hw, hl⟩ := hE
  have X : CX p m c cX12_wall 7 s [.ref a0, .int p0].toArray RX12 D ct := X
  have hl : lv_has ls 7 [(0, .ref a0), (1, .int p0)] := hl
  obtain ⟨⟨hx, hb, hml, hown, hts⟩, hK⟩ := id X
  refine lv_aload_n hx hb dX12_wall_0 rfl (lv_at hl 0 rfl) ?_
  refine lv_iconst (v := 0) hx hb dX12_wall_1 (by decide) ?_
  refine fp_1442 X hw 0 rfl rfl rfl (Nat.le_of_ble_eq_true rfl) dX12_wall_2 [(a0, .inr (12, [.int 0, .ref a1, .ref a2, .ref a3, .ref a4, .int 0, .int 0, .int 0, .int 0, .int 0, .int 0, .int 0, .int 0, .int 0, .int (-1), .ref a5, .ref a6, .ref a7, .ref a8, .int 0, .ref a9, .ref a10, .int 0, .int 0, .int 0, .ref a11, .ref a12, .ref a13, .ref a14, .ref a15, .ref a16])), (a14, .inl (ct 0, 4, .inl fx2))] rfl (fun H locs hw => ?_)
  refine lv_aload_n hx hb dX12_wall_5 rfl (lv_at hl 0 rfl) ?_
  refine lv_iload_n hx hb dX12_wall_6 rfl (lv_at hl 1 rfl) ?_
  refine m_Vi (As := [.int p0]) (rest := []) (c191_X12_noSeen l D ct a0 p0 a1 a2 a3 a4 a5 a6 a7 a8 a9 a10 a11 a12 a13 a14 a15 a16) X hl.1 kw_1997 kd_yX12_noSeen hw [0, 1] [] rfl rfl rfl rfl (by decide) 0 rfl rfl ⟨by decide, by decide⟩ rfl rfl (Nat.le_of_ble_eq_true rfl) dX12_wall_7 ⟨by decide, by decide⟩ (fun r1 u2 H locs hr3 hw => ?_)
  replace hw : WD D A s.heap _ _ [(a0, .inr (12, [.int 0, .ref a1, .ref a2, .ref a3, .ref a4, .int 0, .int 0, .int 0, .int 0, .int 0, .int 0, .int 0, .int 0, .int 0, .int (-1), .ref a5, .ref a6, .ref a7, .ref a8, .int 0, .ref a9, .ref a10, .int 0, .int 0, .int 0, .ref a11, .ref a12, .ref a13, .ref a14, .ref a15, .ref a16])), (a14, .inl (ct 0, 4, .inl fx2))] := hw
  rcases hr3 with ⟨h4, rfl⟩ | ⟨h5, rfl⟩
  · skip
    refine lv_istore_n (lv' := [(2, .int (-2)), (0, .ref a0), (1, .int p0)]) hx hb dX12_wall_10 rfl hl (by decide) rfl (fun ls hl => ?_)
    refine lv_iload_n hx hb dX12_wall_11 rfl (lv_at hl 0 rfl) ?_
    refine lv_if_eq (tgt := 17) hx hb dX12_wall_12 (by decide) (fun h => absurd h (by decide)) (fun _ => ?_)
    refine lv_iload_n hx hb dX12_wall_15 rfl (lv_at hl 0 rfl) ?_
    exact r_i X hr hlk hw [] (fun _ => 0) rfl rfl (Or.inl (⟨h4, rfl⟩)) (by decide) (by decide) dX12_wall_16
  · skip
    refine lv_istore_n (lv' := [(2, .int (-6)), (0, .ref a0), (1, .int p0)]) hx hb dX12_wall_10 rfl hl (by decide) rfl (fun ls hl => ?_)
    refine lv_iload_n hx hb dX12_wall_11 rfl (lv_at hl 0 rfl) ?_
    refine lv_if_eq (tgt := 17) hx hb dX12_wall_12 (by decide) (fun h => absurd h (by decide)) (fun _ => ?_)
    refine lv_iload_n hx hb dX12_wall_15 rfl (lv_at hl 0 rfl) ?_
    exact r_i X hr hlk hw [] (fun _ => 0) rfl rfl (Or.inr (⟨h5, rfl⟩)) (by decide) (by decide) dX12_wall_16
