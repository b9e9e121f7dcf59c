set_option maxHeartbeats 4000000 in
set_option maxRecDepth 100000 in
theorem ylp14 {p : Program} {l : Launch} {e : Env} {R : Room} {s : State} {m : MethodId} {args : Array Value} {below : List Frame} {meth : Method} {c : Code} {cells slots : Nat} {Q : State → Prop} {D : va_G} {ct : Nat → ClassId} {A : Nat → Prop} {a0 : Nat} {k0 : Nat → Int64} (X : CX p m c cJ7_fill_d0a16 5 s args RJ7 D ct) (kk : ∀ (g : Nat → Int64), g = (va_cpy (fun _ => 0) k0 0 0 40) → ∀ (H : Heap) (locs : List Loc) (ls : Array Slot), WD D A s.heap H locs [(a0, .inl (ct 2, 40, .inr (.inl g)))] → lv_has ls 5 [(4, .int 40), (3, .int (nI 40)), (0, .ref a0), (1, .long 0)] → W p l e R s m args below meth c H locs cells slots Q (F0 m 22 ls [])) : ∀ (n k : Nat), k + n = 40 → ∀ (g : Nat → Int64), g = (va_cpy (fun _ => 0) k0 0 0 k) → ∀ (H : Heap) (locs : List Loc) (ls : Array Slot), WD D A s.heap H locs [(a0, .inl (ct 2, 40, .inr (.inl g)))] → lv_has ls 5 [(4, .int 40), (3, .int (nI k)), (0, .ref a0), (1, .long 0)] → W p l e R s m args below meth c H locs cells slots Q (F0 m 6 ls []) := by
  obtain ⟨⟨hx, hb, hml, hown, hts⟩, hK⟩ := id X
  intro n
  induction n with
  | zero =>
    intro k hk g hg H locs ls hw hl
    obtain rfl : k = 40 := by omega
    refine lv_iload_n hx hb dJ7_fill_d0a16_6 rfl (lv_at hl 1 rfl) ?_
    refine lv_iload hx hb dJ7_fill_d0a16_7 (lv_at hl 0 rfl) ?_
    refine lv_icmp_ge (tgt := 22) hx hb dJ7_fill_d0a16_9 (by decide) (fun _ => ?_) (fun h => absurd (nI_le (a := 40) (b := 40) (Nat.le_refl _) (by omega)) h)
    exact kk g hg _ _ _ hw hl
  | succ n ih =>
    intro k hk g hg H locs ls hw hl
    refine lv_iload_n hx hb dJ7_fill_d0a16_6 rfl (lv_at hl 1 rfl) ?_
    refine lv_iload hx hb dJ7_fill_d0a16_7 (lv_at hl 0 rfl) ?_
    refine lv_icmp_ge (tgt := 22) hx hb dJ7_fill_d0a16_9 (by decide) (fun h => absurd h (nI_ge (a := k) (b := 40) (by omega) (by omega))) (fun _ => ?_)
    refine lv_aload_n hx hb dJ7_fill_d0a16_12 rfl (lv_at hl 2 rfl) ?_
    refine lv_iload_n hx hb dJ7_fill_d0a16_13 rfl (lv_at hl 1 rfl) ?_
    refine lv_lload_n hx hb dJ7_fill_d0a16_14 rfl (lv_at hl 3 rfl) ?_
    refine j_last (j := (k)) X hw 0 rfl (nI_pos (by omega)) (nI_clamp (by omega)) (by omega) dJ7_fill_d0a16_15 [(a0, .inl (ct 2, 40, .inr (.inl (vp_updL g (k) 0))))] rfl (fun H locs hw => ?_)
    refine lv_iinc (v := (nI (k + 1))) (lv' := [(3, .int (nI (k + 1))), (4, .int 40), (0, .ref a0), (1, .long 0)]) hx hb dJ7_fill_d0a16_16 hl (k := 1) rfl (nI_add _ _) (by decide) rfl (fun ls hl => ?_)
    refine lv_goto (tgt := 6) hx hb dJ7_fill_d0a16_19 (by decide) ?_
    exact ih (k + 1) (by omega) _ (by rw [hg]; exact cpy_sL _ _ _ _ _ _ _ (by omega) (by first | rfl | rw [Nat.zero_add])) _ _ _ hw (lv_sub hl [1, 0, 2, 3] rfl)
set_option maxHeartbeats 4000000 in
set_option maxRecDepth 100000 in
theorem c197_J7_fill_d0a16 (l : Launch) (D : va_G) (ct : Nat → ClassId) (a0 : Nat) (k0 : Nat → Int64) : CV l yJ7_fill_d0a16 cJ7_fill_d0a16 5 none { frames := 0, cells := 0, slots := 0, locals := 0 } D ct [.ref a0, .long 0] [(a0, .inl (ct 2, 40, .inr (.inl k0)))] True (fun u => [(a0, .inl (ct 2, 40, .inr (.inl (va_cpy (fun _ => 0) k0 0 0 40))))]) := by
  refine CV.of (by decide +kernel) (Nat.le_of_ble_eq_true rfl) ?_
  intro p e s m below meth c A ls hE
  obtain ⟨X, hr, hlk, hnm, hw, hl⟩ := hE
  have X : CX p m c cJ7_fill_d0a16 5 s [.ref a0, .long 0].toArray RJ7 D ct := X
  have hl : lv_has ls 5 [(0, .ref a0), (1, .long 0)] := hl
  obtain ⟨⟨hx, hb, hml, hown, hts⟩, hK⟩ := id X
  refine lv_iconst (v := 0) hx hb dJ7_fill_d0a16_0 (by decide) ?_
  refine lv_istore_n (lv' := [(3, .int 0), (0, .ref a0), (1, .long 0)]) hx hb dJ7_fill_d0a16_1 rfl hl (by decide) rfl (fun ls hl => ?_)
  refine lv_aload_n hx hb dJ7_fill_d0a16_2 rfl (lv_at hl 1 rfl) ?_
  refine k_alen (v := 40) X hw 0 2 rfl rfl rfl dJ7_fill_d0a16_3 ?_
  refine lv_istore (lv' := [(4, .int 40), (3, .int 0), (0, .ref a0), (1, .long 0)]) hx hb dJ7_fill_d0a16_4 hl (by decide) rfl (fun ls hl => ?_)
  refine ylp14 X (fun g hg H locs ls hw hl => ?_) 40 0 (by omega) _ (cpy_0 _ _ _ _) _ _ _ hw hl
  subst hg
  replace hw : WD D A s.heap _ _ [(a0, .inl (ct 2, 40, .inr (.inl (va_cpy (fun _ => 0) k0 0 0 40))))] := hw
  replace hl : lv_has ls 5 [(4, .int 40), (3, .int 40), (0, .ref a0), (1, .long 0)] := hl
  exact r_v X hr hlk hw [0] (fun _ => 0) rfl rfl trivial (by decide) (by decide) dJ7_fill_d0a16_22
set_option maxHeartbeats 4000000 in
set_option maxRecDepth 100000 in
theorem c198_X10_lay (l : Launch) (D : va_G) (ct : Nat → ClassId) (a0 : Nat) (p0 : Int32) (p1 : Int32) (a1 : Nat) (k0 : Nat → Int64) : CV l yX10_lay cX10_lay 3 none { frames := 1, cells := 0, slots := 0, locals := 24 } D ct [.ref a0, .int p0, .int p1] [(a0, .inr (10, [.int (-1), .ref a1, .int 0])), (a1, .inl (ct 2, 40, .inr (.inl k0)))] True (fun u => [(a0, .inr (10, [.int p1, .ref a1, .int p0])), (a1, .inl (ct 2, 40, .inr (.inl (va_cpy (fun _ => 0) k0 0 0 40))))]) := by
  refine CV.of (by decide +kernel) (Nat.le_of_ble_eq_true rfl) ?_
  intro p e s m below meth c A ls hE
  obtain ⟨X, hr, hlk, hnm, hw, hl⟩ := hE
  have X : CX p m c cX10_lay 3 s [.ref a0, .int p0, .int p1].toArray RX10 D ct := X
  have hl : lv_has ls 3 [(0, .ref a0), (1, .int p0), (2, .int p1)] := hl
  obtain ⟨⟨hx, hb, hml, hown, hts⟩, hK⟩ := id X
  refine lv_aload_n hx hb dX10_lay_0 rfl (lv_at hl 0 rfl) ?_
  refine lv_iload_n hx hb dX10_lay_1 rfl (lv_at hl 1 rfl) ?_
  refine fp_556 X hw 0 rfl rfl rfl (Nat.le_of_ble_eq_true rfl) dX10_lay_2 [(a0, .inr (10, [.int (-1), .ref a1, .int p0])), (a1, .inl (ct 2, 40, .inr (.inl k0)))] rfl (fun H locs hw => ?_)
  refine lv_aload_n hx hb dX10_lay_5 rfl (lv_at hl 0 rfl) ?_
  refine lv_iload_n hx hb dX10_lay_6 rfl (lv_at hl 2 rfl) ?_
  refine fp_550 X hw 0 rfl rfl rfl (Nat.le_of_ble_eq_true rfl) dX10_lay_7 [(a0, .inr (10, [.int p1, .ref a1, .int p0])), (a1, .inl (ct 2, 40, .inr (.inl k0)))] rfl (fun H locs hw => ?_)
  refine lv_aload_n hx hb dX10_lay_10 rfl (lv_at hl 0 rfl) ?_
  refine fg_553 X hw 0 rfl rfl dX10_lay_11 ?_
  refine lv_lconst (v := 0) hx hb dX10_lay_14 (by decide) ?_
  refine m_Sv (As := [.ref a1, .long 0]) (rest := []) (c197_J7_fill_d0a16 l D ct a1 k0) X hl.1 kw_1399 kd_yJ7_fill_d0a16 hw [1] [0] rfl rfl rfl rfl (by decide) ⟨by decide, by decide⟩ rfl rfl (Nat.le_of_ble_eq_true rfl) dX10_lay_15 ⟨by decide, by decide⟩ (fun u2 H locs hr3 hw => ?_)
  replace hw : WD D A s.heap _ _ [(a0, .inr (10, [.int p1, .ref a1, .int p0])), (a1, .inl (ct 2, 40, .inr (.inl (va_cpy (fun _ => 0) k0 0 0 40))))] := hw
  exact r_v X hr hlk hw [0, 1] (fun _ => 0) rfl rfl trivial (by decide) (by decide) dX10_lay_18
set_option maxHeartbeats 4000000 in
set_option maxRecDepth 100000 in
theorem c199_X11_numbers (l : Launch) (D : va_G) (ct : Nat → ClassId) (a0 : Nat) (p0 : Int32) (p1 : Int32) (p2 : Int32) (a1 : Nat) (a2 : Nat) (a3 : Nat) (a4 : Nat) (a5 : Nat) (a6 : Nat) (a7 : Nat) (a8 : Nat) (a9 : Nat) (a10 : Nat) (a11 : Nat) (a12 : Nat) (a13 : Nat) (a14 : Nat) (a15 : Nat) (a16 : Nat) (a17 : Nat) (a18 : Nat) (a19 : Nat) (a20 : Nat) (k0 : Nat → Int64) (a21 : Nat) (a22 : Nat) (a23 : Nat) : CI l yX11_numbers cX11_numbers 4 (some .int) { frames := 2, cells := 0, slots := 0, locals := 46 } D ct [.ref a0, .int p0, .int p1, .int p2] [(a0, .inr (11, [.ref a1, .int 0, .ref a2, .ref a3, .ref a4, .ref a5, .ref a6, .ref a7, .ref a8, .ref a9, .ref a10, .ref a11, .ref a12, .ref a13, .ref a14, .ref a15, .int (-1), .int (-1)])), (a12, .inl (ct 5, 4, .inr (.inr (.inr (.inr (va_up (va_up (va_up (va_up (fun _ => none) 0 (some a16)) 1 (some a17)) 2 (some a18)) 3 (some a19))))))), (a16, .inr (10, [.int (-1), .ref a20, .int 0])), (a20, .inl (ct 2, 40, .inr (.inl k0))), (a17, .inr (10, [.int (-1), .ref a21, .int 0])), (a21, .inl (ct 2, 40, .inr (.inl k0))), (a18, .inr (10, [.int (-1), .ref a22, .int 0])), (a22, .inl (ct 2, 40, .inr (.inl k0))), (a19, .inr (10, [.int (-1), .ref a23, .int 0])), (a23, .inl (ct 2, 40, .inr (.inl k0)))] (fun r => ((((p0.toInt < 0) ∨ (p0.toInt ≥ 0 ∧ p0.toInt ≥ 4))) ∨ (p0.toInt ≥ 0 ∧ p0.toInt < 4 ∧ p1.toInt < 0) ∨ (p0.toInt ≥ 0 ∧ p0.toInt < 4 ∧ p1.toInt ≥ 0 ∧ p1.toInt ≥ 4)) ∧ r = (-2) ∨ ((p0.toInt ≥ 0 ∧ p0.toInt < 4 ∧ p1.toInt ≥ 0 ∧ p1.toInt < 4 ∧ p2.toInt < 0) ∨ (p0.toInt ≥ 0 ∧ p0.toInt < 4 ∧ p1.toInt ≥ 0 ∧ p1.toInt < 4 ∧ p2.toInt ≥ 0 ∧ p2.toInt > 40)) ∧ r = (-3) ∨ ((p0.toInt ≥ 0 ∧ p0.toInt < 4 ∧ p1.toInt ≥ 0 ∧ p1.toInt < 4 ∧ p2.toInt ≥ 0 ∧ p2.toInt ≤ 40 ∧ p0.toInt = 0) ∨ (p0.toInt ≥ 0 ∧ p0.toInt < 4 ∧ p1.toInt ≥ 0 ∧ p1.toInt < 4 ∧ p2.toInt ≥ 0 ∧ p2.toInt ≤ 40 ∧ p0.toInt = 1) ∨ (p0.toInt ≥ 0 ∧ p0.toInt < 4 ∧ p1.toInt ≥ 0 ∧ p1.toInt < 4 ∧ p2.toInt ≥ 0 ∧ p2.toInt ≤ 40 ∧ p0.toInt = 2) ∨ (p0.toInt ≥ 0 ∧ p0.toInt < 4 ∧ p1.toInt ≥ 0 ∧ p1.toInt < 4 ∧ p2.toInt ≥ 0 ∧ p2.toInt ≤ 40 ∧ p0.toInt = 3)) ∧ r = 0) (fun u => []) := by
  refine CI.of (by decide +kernel) (Nat.le_of_ble_eq_true rfl) ?_
  intro p e s m below meth c A ls hE
  obtain ⟨X, hr, hlk, hnm, hw, hl⟩ := hE
  have X : CX p m c cX11_numbers 4 s [.ref a0, .int p0, .int p1, .int p2].toArray RX11 D ct := X
  have hl : lv_has ls 4 [(0, .ref a0), (1, .int p0), (2, .int p1), (3, .int p2)] := hl
  obtain ⟨⟨hx, hb, hml, hown, hts⟩, hK⟩ := id X
  refine lv_iload_n hx hb dX11_numbers_0 rfl (lv_at hl 1 rfl) ?_
  refine m_Si (As := [.int p0]) (rest := []) (c102_X11_isTray l D ct p0) X hl.1 kw_1071 kd_yX11_isTray hw [] [0, 1, 2, 3, 4, 5, 6, 7, 8, 9] rfl rfl rfl rfl (by decide) ⟨by decide, by decide⟩ rfl rfl (Nat.le_of_ble_eq_true rfl) dX11_numbers_1 ⟨by decide, by decide⟩ (fun r1 u2 H locs hr3 hw => ?_)
  replace hw : WD D A s.heap _ _ [(a0, .inr (11, [.ref a1, .int 0, .ref a2, .ref a3, .ref a4, .ref a5, .ref a6, .ref a7, .ref a8, .ref a9, .ref a10, .ref a11, .ref a12, .ref a13, .ref a14, .ref a15, .int (-1), .int (-1)])), (a12, .inl (ct 5, 4, .inr (.inr (.inr (.inr (va_up (va_up (va_up (va_up (fun _ => none) 0 (some a16)) 1 (some a17)) 2 (some a18)) 3 (some a19))))))), (a16, .inr (10, [.int (-1), .ref a20, .int 0])), (a20, .inl (ct 2, 40, .inr (.inl k0))), (a17, .inr (10, [.int (-1), .ref a21, .int 0])), (a21, .inl (ct 2, 40, .inr (.inl k0))), (a18, .inr (10, [.int (-1), .ref a22, .int 0])), (a22, .inl (ct 2, 40, .inr (.inl k0))), (a19, .inr (10, [.int (-1), .ref a23, .int 0])), (a23, .inl (ct 2, 40, .inr (.inl k0)))] := hw
  rcases hr3 with ⟨h4, rfl⟩ | ⟨⟨h5, h6⟩, rfl⟩
  · skip
    refine lv_if_eq (tgt := 16) hx hb dX11_numbers_4 (by decide) (fun _ => ?_) (fun h => absurd (by decide) h)
    refine lv_bipush (v := (-2)) hx hb dX11_numbers_16 (by decide) ?_
    exact r_i X hr hlk hw [] (fun _ => 0) rfl rfl (Or.inl (⟨Or.inl (h4), rfl⟩)) (by decide) (by decide) dX11_numbers_18
  · skip
    refine lv_if_eq (tgt := 16) hx hb dX11_numbers_4 (by decide) (fun h => absurd h (by decide)) (fun _ => ?_)
    refine lv_iload_n hx hb dX11_numbers_7 rfl (lv_at hl 2 rfl) ?_
    refine lv_if_lt (tgt := 16) hx hb dX11_numbers_8 (by decide) (fun h7 => ?_) (fun h7 => ?_)
    · have h7 : p1.toInt < 0 := by have q := ci_lt (a := p1.toInt) (b := 0) rfl (by decide) h7; omega
      refine lv_bipush (v := (-2)) hx hb dX11_numbers_16 (by decide) ?_
      exact r_i X hr hlk hw [] (fun _ => 0) rfl rfl (Or.inl (⟨Or.inr (Or.inl (⟨h5, h6, h7⟩)), rfl⟩)) (by decide) (by decide) dX11_numbers_18
    · have h7 : p1.toInt ≥ 0 := by have q := ci_nlt (a := p1.toInt) (b := 0) rfl (by decide) h7; omega
      refine lv_iload_n hx hb dX11_numbers_11 rfl (lv_at hl 2 rfl) ?_
      refine lv_iconst (v := 4) hx hb dX11_numbers_12 (by decide) ?_
      refine lv_icmp_lt (tgt := 19) hx hb dX11_numbers_13 (by decide) (fun h8 => ?_) (fun h8 => ?_)
      · have h8 : p1.toInt < 4 := by have q := ci_lt (a := p1.toInt) (b := 4) rfl (by decide) h8; omega
        refine lv_iload_n hx hb dX11_numbers_19 rfl (lv_at hl 3 rfl) ?_
        refine lv_if_lt (tgt := 29) hx hb dX11_numbers_20 (by decide) (fun h9 => ?_) (fun h9 => ?_)
        · have h9 : p2.toInt < 0 := by have q := ci_lt (a := p2.toInt) (b := 0) rfl (by decide) h9; omega
          refine lv_bipush (v := (-3)) hx hb dX11_numbers_29 (by decide) ?_
          exact r_i X hr hlk hw [] (fun _ => 0) rfl rfl (Or.inr (Or.inl (⟨Or.inl (⟨h5, h6, h7, h8, h9⟩), rfl⟩))) (by decide) (by decide) dX11_numbers_31
        · have h9 : p2.toInt ≥ 0 := by have q := ci_nlt (a := p2.toInt) (b := 0) rfl (by decide) h9; omega
          refine lv_iload_n hx hb dX11_numbers_23 rfl (lv_at hl 3 rfl) ?_
          refine lv_bipush (v := 40) hx hb dX11_numbers_24 (by decide) ?_
          refine lv_icmp_le (tgt := 32) hx hb dX11_numbers_26 (by decide) (fun h10 => ?_) (fun h10 => ?_)
          · have h10 : p2.toInt ≤ 40 := by have q := ci_le (a := p2.toInt) (b := 40) rfl (by decide) h10; omega
            refine lv_aload_n hx hb dX11_numbers_32 rfl (lv_at hl 0 rfl) ?_
            refine fg_577 X hw 0 rfl rfl dX11_numbers_33 ?_
            refine lv_iload_n hx hb dX11_numbers_36 rfl (lv_at hl 1 rfl) ?_
            rcases (show p0.toInt = 0 ∨ p0.toInt = 1 ∨ p0.toInt = 2 ∨ p0.toInt = 3 by omega) with e11 | e11 | e11 | e11
            · skip
              obtain rfl : p0 = 0 := i32_of e11
              refine j_aldq (j := 0) (v := .ref a16) X hw 1 5 rfl rfl (by decide) (by decide) (by decide) rfl dX11_numbers_37 ?_
              refine lv_iload_n hx hb dX11_numbers_38 rfl (lv_at hl 2 rfl) ?_
              refine lv_iload_n hx hb dX11_numbers_39 rfl (lv_at hl 3 rfl) ?_
              refine m_Vv (As := [.int p1, .int p2]) (rest := []) (c198_X10_lay l D ct a16 p1 p2 a20 k0) X hl.1 kw_1395 kd_yX10_lay hw [2, 3] [0, 1, 4, 5, 6, 7, 8, 9] rfl rfl rfl rfl (by decide) 0 rfl rfl ⟨by decide, by decide⟩ rfl rfl (Nat.le_of_ble_eq_true rfl) dX11_numbers_40 ⟨by decide, by decide⟩ (fun u13 H locs hr14 hw => ?_)
              replace hw : WD D A s.heap _ _ [(a0, .inr (11, [.ref a1, .int 0, .ref a2, .ref a3, .ref a4, .ref a5, .ref a6, .ref a7, .ref a8, .ref a9, .ref a10, .ref a11, .ref a12, .ref a13, .ref a14, .ref a15, .int (-1), .int (-1)])), (a12, .inl (ct 5, 4, .inr (.inr (.inr (.inr (va_up (va_up (va_up (va_up (fun _ => none) 0 (some a16)) 1 (some a17)) 2 (some a18)) 3 (some a19))))))), (a17, .inr (10, [.int (-1), .ref a21, .int 0])), (a21, .inl (ct 2, 40, .inr (.inl k0))), (a18, .inr (10, [.int (-1), .ref a22, .int 0])), (a22, .inl (ct 2, 40, .inr (.inl k0))), (a19, .inr (10, [.int (-1), .ref a23, .int 0])), (a23, .inl (ct 2, 40, .inr (.inl k0))), (a16, .inr (10, [.int p2, .ref a20, .int p1])), (a20, .inl (ct 2, 40, .inr (.inl (va_cpy (fun _ => 0) k0 0 0 40))))] := hw
              refine lv_iconst (v := 0) hx hb dX11_numbers_43 (by decide) ?_
              exact r_i X hr hlk hw [] (fun _ => 0) rfl rfl (Or.inr (Or.inr (⟨Or.inl (⟨h5, h6, h7, h8, h9, h10, e11⟩), rfl⟩))) (by decide) (by decide) dX11_numbers_44
            · skip
              obtain rfl : p0 = 1 := i32_of e11
              refine j_aldq (j := 1) (v := .ref a17) X hw 1 5 rfl rfl (by decide) (by decide) (by decide) rfl dX11_numbers_37 ?_
              refine lv_iload_n hx hb dX11_numbers_38 rfl (lv_at hl 2 rfl) ?_
              refine lv_iload_n hx hb dX11_numbers_39 rfl (lv_at hl 3 rfl) ?_
              refine m_Vv (As := [.int p1, .int p2]) (rest := []) (c198_X10_lay l D ct a17 p1 p2 a21 k0) X hl.1 kw_1395 kd_yX10_lay hw [4, 5] [0, 1, 2, 3, 6, 7, 8, 9] rfl rfl rfl rfl (by decide) 0 rfl rfl ⟨by decide, by decide⟩ rfl rfl (Nat.le_of_ble_eq_true rfl) dX11_numbers_40 ⟨by decide, by decide⟩ (fun u16 H locs hr17 hw => ?_)
              replace hw : WD D A s.heap _ _ [(a0, .inr (11, [.ref a1, .int 0, .ref a2, .ref a3, .ref a4, .ref a5, .ref a6, .ref a7, .ref a8, .ref a9, .ref a10, .ref a11, .ref a12, .ref a13, .ref a14, .ref a15, .int (-1), .int (-1)])), (a12, .inl (ct 5, 4, .inr (.inr (.inr (.inr (va_up (va_up (va_up (va_up (fun _ => none) 0 (some a16)) 1 (some a17)) 2 (some a18)) 3 (some a19))))))), (a16, .inr (10, [.int (-1), .ref a20, .int 0])), (a20, .inl (ct 2, 40, .inr (.inl k0))), (a18, .inr (10, [.int (-1), .ref a22, .int 0])), (a22, .inl (ct 2, 40, .inr (.inl k0))), (a19, .inr (10, [.int (-1), .ref a23, .int 0])), (a23, .inl (ct 2, 40, .inr (.inl k0))), (a17, .inr (10, [.int p2, .ref a21, .int p1])), (a21, .inl (ct 2, 40, .inr (.inl (va_cpy (fun _ => 0) k0 0 0 40))))] := hw
              refine lv_iconst (v := 0) hx hb dX11_numbers_43 (by decide) ?_
              exact r_i X hr hlk hw [] (fun _ => 0) rfl rfl (Or.inr (Or.inr (⟨Or.inr (Or.inl (⟨h5, h6, h7, h8, h9, h10, e11⟩)), rfl⟩))) (by decide) (by decide) dX11_numbers_44
            · skip
              obtain rfl : p0 = 2 := i32_of e11
              refine j_aldq (j := 2) (v := .ref a18) X hw 1 5 rfl rfl (by decide) (by decide) (by decide) rfl dX11_numbers_37 ?_
              refine lv_iload_n hx hb dX11_numbers_38 rfl (lv_at hl 2 rfl) ?_
              refine lv_iload_n hx hb dX11_numbers_39 rfl (lv_at hl 3 rfl) ?_
              refine m_Vv (As := [.int p1, .int p2]) (rest := []) (c198_X10_lay l D ct a18 p1 p2 a22 k0) X hl.1 kw_1395 kd_yX10_lay hw [6, 7] [0, 1, 2, 3, 4, 5, 8, 9] rfl rfl rfl rfl (by decide) 0 rfl rfl ⟨by decide, by decide⟩ rfl rfl (Nat.le_of_ble_eq_true rfl) dX11_numbers_40 ⟨by decide, by decide⟩ (fun u19 H locs hr20 hw => ?_)
              replace hw : WD D A s.heap _ _ [(a0, .inr (11, [.ref a1, .int 0, .ref a2, .ref a3, .ref a4, .ref a5, .ref a6, .ref a7, .ref a8, .ref a9, .ref a10, .ref a11, .ref a12, .ref a13, .ref a14, .ref a15, .int (-1), .int (-1)])), (a12, .inl (ct 5, 4, .inr (.inr (.inr (.inr (va_up (va_up (va_up (va_up (fun _ => none) 0 (some a16)) 1 (some a17)) 2 (some a18)) 3 (some a19))))))), (a16, .inr (10, [.int (-1), .ref a20, .int 0])), (a20, .inl (ct 2, 40, .inr (.inl k0))), (a17, .inr (10, [.int (-1), .ref a21, .int 0])), (a21, .inl (ct 2, 40, .inr (.inl k0))), (a19, .inr (10, [.int (-1), .ref a23, .int 0])), (a23, .inl (ct 2, 40, .inr (.inl k0))), (a18, .inr (10, [.int p2, .ref a22, .int p1])), (a22, .inl (ct 2, 40, .inr (.inl (va_cpy (fun _ => 0) k0 0 0 40))))] := hw
              refine lv_iconst (v := 0) hx hb dX11_numbers_43 (by decide) ?_
              exact r_i X hr hlk hw [] (fun _ => 0) rfl rfl (Or.inr (Or.inr (⟨Or.inr (Or.inr (Or.inl (⟨h5, h6, h7, h8, h9, h10, e11⟩))), rfl⟩))) (by decide) (by decide) dX11_numbers_44
            · skip
              obtain rfl : p0 = 3 := i32_of e11
              refine j_aldq (j := 3) (v := .ref a19) X hw 1 5 rfl rfl (by decide) (by decide) (by decide) rfl dX11_numbers_37 ?_
              refine lv_iload_n hx hb dX11_numbers_38 rfl (lv_at hl 2 rfl) ?_
              refine lv_iload_n hx hb dX11_numbers_39 rfl (lv_at hl 3 rfl) ?_
              refine m_Vv (As := [.int p1, .int p2]) (rest := []) (c198_X10_lay l D ct a19 p1 p2 a23 k0) X hl.1 kw_1395 kd_yX10_lay hw [8, 9] [0, 1, 2, 3, 4, 5, 6, 7] rfl rfl rfl rfl (by decide) 0 rfl rfl ⟨by decide, by decide⟩ rfl rfl (Nat.le_of_ble_eq_true rfl) dX11_numbers_40 ⟨by decide, by decide⟩ (fun u22 H locs hr23 hw => ?_)
              replace hw : WD D A s.heap _ _ [(a0, .inr (11, [.ref a1, .int 0, .ref a2, .ref a3, .ref a4, .ref a5, .ref a6, .ref a7, .ref a8, .ref a9, .ref a10, .ref a11, .ref a12, .ref a13, .ref a14, .ref a15, .int (-1), .int (-1)])), (a12, .inl (ct 5, 4, .inr (.inr (.inr (.inr (va_up (va_up (va_up (va_up (fun _ => none) 0 (some a16)) 1 (some a17)) 2 (some a18)) 3 (some a19))))))), (a16, .inr (10, [.int (-1), .ref a20, .int 0])), (a20, .inl (ct 2, 40, .inr (.inl k0))), (a17, .inr (10, [.int (-1), .ref a21, .int 0])), (a21, .inl (ct 2, 40, .inr (.inl k0))), (a18, .inr (10, [.int (-1), .ref a22, .int 0])), (a22, .inl (ct 2, 40, .inr (.inl k0))), (a19, .inr (10, [.int p2, .ref a23, .int p1])), (a23, .inl (ct 2, 40, .inr (.inl (va_cpy (fun _ => 0) k0 0 0 40))))] := hw
              refine lv_iconst (v := 0) hx hb dX11_numbers_43 (by decide) ?_
              exact r_i X hr hlk hw [] (fun _ => 0) rfl rfl (Or.inr (Or.inr (⟨Or.inr (Or.inr (Or.inr (⟨h5, h6, h7, h8, h9, h10, e11⟩))), rfl⟩))) (by decide) (by decide) dX11_numbers_44
          · have h10 : p2.toInt > 40 := by have q := ci_nle (a := p2.toInt) (b := 40) rfl (by decide) h10; omega
            refine lv_bipush (v := (-3)) hx hb dX11_numbers_29 (by decide) ?_
            exact r_i X hr hlk hw [] (fun _ => 0) rfl rfl (Or.inr (Or.inl (⟨Or.inr (⟨h5, h6, h7, h8, h9, h10⟩), rfl⟩))) (by decide) (by decide) dX11_numbers_31
      · have h8 : p1.toInt ≥ 4 := by have q := ci_nlt (a := p1.toInt) (b := 4) rfl (by decide) h8; omega
        refine lv_bipush (v := (-2)) hx hb dX11_numbers_16 (by decide) ?_
        exact r_i X hr hlk hw [] (fun _ => 0) rfl rfl (Or.inl (⟨Or.inr (Or.inr (⟨h5, h6, h7, h8⟩)), rfl⟩)) (by decide) (by decide) dX11_numbers_18
set_option maxHeartbeats 4000000 in
set_option maxRecDepth 100000 in
theorem c200_X12_within (l : Launch) (D : va_G) (ct : Nat → ClassId) (w0 : Int64) : CI l yX12_within cX12_within 6 (some .boolean) { frames := 0, cells := 0, slots := 0, locals := 0 } D ct [.long w0, .long 0, .long 40] [] (fun r => ((w0.toInt < 0) ∨ (w0.toInt ≥ 0 ∧ w0.toInt > 40)) ∧ r = 0 ∨ (w0.toInt ≥ 0 ∧ w0.toInt ≤ 40) ∧ r = 1) (fun u => []) := by
  refine CI.of (by decide +kernel) (Nat.le_of_ble_eq_true rfl) ?_
  intro p e s m below meth c A ls hE
  obtain ⟨X, hr, hlk, hnm, hw, hl⟩ := hE
  have X : CX p m c cX12_within 6 s [.long w0, .long 0, .long 40].toArray RX12 D ct := X
  have hl : lv_has ls 6 [(0, .long w0), (2, .long 0), (4, .long 40)] := hl
  obtain ⟨⟨hx, hb, hml, hown, hts⟩, hK⟩ := id X
  refine lv_lload_n hx hb dX12_within_0 rfl (lv_at hl 0 rfl) ?_
  refine lv_lload_n hx hb dX12_within_1 rfl (lv_at hl 1 rfl) ?_
  refine W.lcmp hx hb dX12_within_2 ?_
  refine lv_if_lt (tgt := 17) hx hb dX12_within_3 (by decide) (fun h1 => ?_) (fun h1 => ?_)
  · have h1 : w0.toInt < 0 := by have q := cl_lt (a := w0.toInt) (b := 0) rfl (by decide) h1; omega
    refine lv_iconst (v := 0) hx hb dX12_within_17 (by decide) ?_
    exact r_z X hr hlk hw [] (fun _ => 0) rfl rfl (Or.inl (⟨Or.inl (h1), rfl⟩)) (by decide) (by decide) (by decide) dX12_within_18
  · have h1 : w0.toInt ≥ 0 := by have q := cl_nlt (a := w0.toInt) (b := 0) rfl (by decide) h1; omega
    refine lv_lload_n hx hb dX12_within_6 rfl (lv_at hl 0 rfl) ?_
    refine lv_lload hx hb dX12_within_7 (lv_at hl 2 rfl) ?_
    refine W.lcmp hx hb dX12_within_9 ?_
    refine lv_if_gt (tgt := 17) hx hb dX12_within_10 (by decide) (fun h2 => ?_) (fun h2 => ?_)
    · have h2 : w0.toInt > 40 := by have q := cl_gt (a := w0.toInt) (b := 40) rfl (by decide) h2; omega
      refine lv_iconst (v := 0) hx hb dX12_within_17 (by decide) ?_
      exact r_z X hr hlk hw [] (fun _ => 0) rfl rfl (Or.inl (⟨Or.inr (⟨h1, h2⟩), rfl⟩)) (by decide) (by decide) (by decide) dX12_within_18
    · have h2 : w0.toInt ≤ 40 := by have q := cl_ngt (a := w0.toInt) (b := 40) rfl (by decide) h2; omega
      refine lv_iconst (v := 1) hx hb dX12_within_13 (by decide) ?_
      refine lv_goto (tgt := 18) hx hb dX12_within_14 (by decide) ?_
      exact r_z X hr hlk hw [] (fun _ => 0) rfl rfl (Or.inr (⟨⟨h1, h2⟩, rfl⟩)) (by decide) (by decide) (by decide) dX12_within_18
set_option maxHeartbeats 4000000 in
set_option maxRecDepth 100000 in
theorem ylp15 {p : Program} {l : Launch} {e : Env} {R : Room} {s : State} {m : MethodId} {args : Array Value} {below : List Frame} {meth : Method} {c : Code} {cells slots : Nat} {Q : State → Prop} {D : va_G} {ct : Nat → ClassId} {A : Nat → Prop} {a0 : Nat} {a1 : Nat} {a2 : Nat} {a3 : Nat} {a4 : Nat} {a5 : Nat} {a6 : Nat} {a7 : Nat} {a8 : Nat} {a9 : Nat} {a10 : Nat} {a11 : Nat} {a12 : Nat} {a13 : Nat} {a14 : Nat} {a15 : Nat} {a16 : Nat} {f0 : Nat → Int32} {p1 : Int32} {f1 : Nat → Int32} {j : Nat} (hN : j ≤ 40) (X : CX p m c cX12_numbers 5 s args RX12 D ct) (kk : ∀ (g : Nat → Int64) (H : Heap) (locs : List Loc) (ls : Array Slot), WD D A s.heap H locs [(a0, .inr (12, [.int 0, .ref a1, .ref a2, .ref a3, .ref a4, .int 0, .int 0, .int 0, .int 0, .int 0, .int 0, .int 0, .int 0, .int 0, .int (-1), .ref a5, .ref a6, .ref a7, .ref a8, .int 0, .ref a9, .ref a10, .int 0, .int 0, .int 0, .ref a11, .ref a12, .ref a13, .ref a14, .ref a15, .ref a16])), (a14, .inl (ct 0, 4, .inl (upd f0 0 p1))), (a15, .inl (ct 0, 4, .inl (upd f1 0 (nI j)))), (a16, .inl (ct 2, 160, .inr (.inl g)))] → lv_has ls 5 [(4, .int (nI j)), (0, .ref a0), (1, .int 0), (2, .int p1), (3, .int (nI j))] → W p l e R s m args below meth c H locs cells slots Q (F0 m 89 ls [])) : ∀ (n k : Nat), k + n = j → ∀ (g : Nat → Int64) (H : Heap) (locs : List Loc) (ls : Array Slot), WD D A s.heap H locs [(a0, .inr (12, [.int 0, .ref a1, .ref a2, .ref a3, .ref a4, .int 0, .int 0, .int 0, .int 0, .int 0, .int 0, .int 0, .int 0, .int 0, .int (-1), .ref a5, .ref a6, .ref a7, .ref a8, .int 0, .ref a9, .ref a10, .int 0, .int 0, .int 0, .ref a11, .ref a12, .ref a13, .ref a14, .ref a15, .ref a16])), (a14, .inl (ct 0, 4, .inl (upd f0 0 p1))), (a15, .inl (ct 0, 4, .inl (upd f1 0 (nI j)))), (a16, .inl (ct 2, 160, .inr (.inl g)))] → lv_has ls 5 [(4, .int (nI k)), (0, .ref a0), (1, .int 0), (2, .int p1), (3, .int (nI j))] → W p l e R s m args below meth c H locs cells slots Q (F0 m 64 ls []) := by
  obtain ⟨⟨hx, hb, hml, hown, hts⟩, hK⟩ := id X
  intro n
  induction n with
  | zero =>
    intro k hk g H locs ls hw hl
    obtain rfl : j = k := by omega
    refine lv_iload hx hb dX12_numbers_64 (lv_at hl 0 rfl) ?_
    refine lv_iload_n hx hb dX12_numbers_66 rfl (lv_at hl 4 rfl) ?_
    refine lv_icmp_ge (tgt := 89) hx hb dX12_numbers_67 (by decide) (fun _ => ?_) (fun h => absurd (nI_le (a := j) (b := j) (Nat.le_refl _) (by omega)) h)
    exact kk g _ _ _ hw hl
  | succ n ih =>
    intro k hk g H locs ls hw hl
    refine lv_iload hx hb dX12_numbers_64 (lv_at hl 0 rfl) ?_
    refine lv_iload_n hx hb dX12_numbers_66 rfl (lv_at hl 4 rfl) ?_
    refine lv_icmp_ge (tgt := 89) hx hb dX12_numbers_67 (by decide) (fun h => absurd h (nI_ge (a := k) (b := j) (by omega) (by omega))) (fun _ => ?_)
    refine lv_aload_n hx hb dX12_numbers_70 rfl (lv_at hl 1 rfl) ?_
    refine fg_1472 X hw 0 rfl rfl dX12_numbers_71 ?_
    refine lv_bipush (v := 40) hx hb dX12_numbers_74 (by decide) ?_
    refine lv_iload_n hx hb dX12_numbers_76 rfl (lv_at hl 2 rfl) ?_
    refine kv_imul (v := 0) hx hb (by decide) dX12_numbers_77 ?_
    refine lv_iload hx hb dX12_numbers_78 (lv_at hl 0 rfl) ?_
    refine kv_iadd (v := (nI (0 + k))) hx hb (nI_add (0) (k)) dX12_numbers_80 ?_
    refine lv_lconst (v := 0) hx hb dX12_numbers_81 (by decide) ?_
    refine j_lastA (j := (0 + k)) X hw 3 rfl (nI_pos (by omega)) (nI_clamp (by omega)) (by omega) dX12_numbers_82 (fun g101898 H locs hw => ?_)
    replace hw : WD D A s.heap _ _ [(a0, .inr (12, [.int 0, .ref a1, .ref a2, .ref a3, .ref a4, .int 0, .int 0, .int 0, .int 0, .int 0, .int 0, .int 0, .int 0, .int 0, .int (-1), .ref a5, .ref a6, .ref a7, .ref a8, .int 0, .ref a9, .ref a10, .int 0, .int 0, .int 0, .ref a11, .ref a12, .ref a13, .ref a14, .ref a15, .ref a16])), (a14, .inl (ct 0, 4, .inl (upd f0 0 p1))), (a15, .inl (ct 0, 4, .inl (upd f1 0 (nI j)))), (a16, .inl (ct 2, 160, .inr (.inl g101898)))] := hw
    refine lv_iinc (v := (nI (k + 1))) (lv' := [(4, .int (nI (k + 1))), (0, .ref a0), (1, .int 0), (2, .int p1), (3, .int (nI j))]) hx hb dX12_numbers_83 hl (k := 0) rfl (nI_add _ _) (by decide) rfl (fun ls hl => ?_)
    refine lv_goto (tgt := 64) hx hb dX12_numbers_86 (by decide) ?_
    exact ih (k + 1) (by omega) _ _ _ _ hw (lv_sub hl [0, 1, 2, 3, 4] rfl)
set_option maxHeartbeats 4000000 in
set_option maxRecDepth 100000 in
theorem ylp16 {p : Program} {l : Launch} {e : Env} {R : Room} {s : State} {m : MethodId} {args : Array Value} {below : List Frame} {meth : Method} {c : Code} {cells slots : Nat} {Q : State → Prop} {D : va_G} {ct : Nat → ClassId} {A : Nat → Prop} {a0 : Nat} {a1 : Nat} {a2 : Nat} {a3 : Nat} {a4 : Nat} {a5 : Nat} {a6 : Nat} {a7 : Nat} {a8 : Nat} {a9 : Nat} {a10 : Nat} {a11 : Nat} {a12 : Nat} {a13 : Nat} {a14 : Nat} {a15 : Nat} {a16 : Nat} {f0 : Nat → Int32} {p1 : Int32} {f1 : Nat → Int32} {j : Nat} (hN : j ≤ 40) (X : CX p m c cX12_numbers 5 s args RX12 D ct) (kk : ∀ (g : Nat → Int64) (H : Heap) (locs : List Loc) (ls : Array Slot), WD D A s.heap H locs [(a0, .inr (12, [.int 0, .ref a1, .ref a2, .ref a3, .ref a4, .int 0, .int 0, .int 0, .int 0, .int 0, .int 0, .int 0, .int 0, .int 0, .int (-1), .ref a5, .ref a6, .ref a7, .ref a8, .int 0, .ref a9, .ref a10, .int 0, .int 0, .int 0, .ref a11, .ref a12, .ref a13, .ref a14, .ref a15, .ref a16])), (a14, .inl (ct 0, 4, .inl (upd f0 1 p1))), (a15, .inl (ct 0, 4, .inl (upd f1 1 (nI j)))), (a16, .inl (ct 2, 160, .inr (.inl g)))] → lv_has ls 5 [(4, .int (nI j)), (0, .ref a0), (1, .int 1), (2, .int p1), (3, .int (nI j))] → W p l e R s m args below meth c H locs cells slots Q (F0 m 89 ls [])) : ∀ (n k : Nat), k + n = j → ∀ (g : Nat → Int64) (H : Heap) (locs : List Loc) (ls : Array Slot), WD D A s.heap H locs [(a0, .inr (12, [.int 0, .ref a1, .ref a2, .ref a3, .ref a4, .int 0, .int 0, .int 0, .int 0, .int 0, .int 0, .int 0, .int 0, .int 0, .int (-1), .ref a5, .ref a6, .ref a7, .ref a8, .int 0, .ref a9, .ref a10, .int 0, .int 0, .int 0, .ref a11, .ref a12, .ref a13, .ref a14, .ref a15, .ref a16])), (a14, .inl (ct 0, 4, .inl (upd f0 1 p1))), (a15, .inl (ct 0, 4, .inl (upd f1 1 (nI j)))), (a16, .inl (ct 2, 160, .inr (.inl g)))] → lv_has ls 5 [(4, .int (nI k)), (0, .ref a0), (1, .int 1), (2, .int p1), (3, .int (nI j))] → W p l e R s m args below meth c H locs cells slots Q (F0 m 64 ls []) := by
  obtain ⟨⟨hx, hb, hml, hown, hts⟩, hK⟩ := id X
  intro n
  induction n with
  | zero =>
    intro k hk g H locs ls hw hl
    obtain rfl : j = k := by omega
    refine lv_iload hx hb dX12_numbers_64 (lv_at hl 0 rfl) ?_
    refine lv_iload_n hx hb dX12_numbers_66 rfl (lv_at hl 4 rfl) ?_
    refine lv_icmp_ge (tgt := 89) hx hb dX12_numbers_67 (by decide) (fun _ => ?_) (fun h => absurd (nI_le (a := j) (b := j) (Nat.le_refl _) (by omega)) h)
    exact kk g _ _ _ hw hl
  | succ n ih =>
    intro k hk g H locs ls hw hl
    refine lv_iload hx hb dX12_numbers_64 (lv_at hl 0 rfl) ?_
    refine lv_iload_n hx hb dX12_numbers_66 rfl (lv_at hl 4 rfl) ?_
    refine lv_icmp_ge (tgt := 89) hx hb dX12_numbers_67 (by decide) (fun h => absurd h (nI_ge (a := k) (b := j) (by omega) (by omega))) (fun _ => ?_)
    refine lv_aload_n hx hb dX12_numbers_70 rfl (lv_at hl 1 rfl) ?_
    refine fg_1472 X hw 0 rfl rfl dX12_numbers_71 ?_
    refine lv_bipush (v := 40) hx hb dX12_numbers_74 (by decide) ?_
    refine lv_iload_n hx hb dX12_numbers_76 rfl (lv_at hl 2 rfl) ?_
    refine kv_imul (v := 40) hx hb (by decide) dX12_numbers_77 ?_
    refine lv_iload hx hb dX12_numbers_78 (lv_at hl 0 rfl) ?_
    refine kv_iadd (v := (nI (40 + k))) hx hb (nI_add (40) (k)) dX12_numbers_80 ?_
    refine lv_lconst (v := 0) hx hb dX12_numbers_81 (by decide) ?_
    refine j_lastA (j := (40 + k)) X hw 3 rfl (nI_pos (by omega)) (nI_clamp (by omega)) (by omega) dX12_numbers_82 (fun g101899 H locs hw => ?_)
    replace hw : WD D A s.heap _ _ [(a0, .inr (12, [.int 0, .ref a1, .ref a2, .ref a3, .ref a4, .int 0, .int 0, .int 0, .int 0, .int 0, .int 0, .int 0, .int 0, .int 0, .int (-1), .ref a5, .ref a6, .ref a7, .ref a8, .int 0, .ref a9, .ref a10, .int 0, .int 0, .int 0, .ref a11, .ref a12, .ref a13, .ref a14, .ref a15, .ref a16])), (a14, .inl (ct 0, 4, .inl (upd f0 1 p1))), (a15, .inl (ct 0, 4, .inl (upd f1 1 (nI j)))), (a16, .inl (ct 2, 160, .inr (.inl g101899)))] := hw
    refine lv_iinc (v := (nI (k + 1))) (lv' := [(4, .int (nI (k + 1))), (0, .ref a0), (1, .int 1), (2, .int p1), (3, .int (nI j))]) hx hb dX12_numbers_83 hl (k := 0) rfl (nI_add _ _) (by decide) rfl (fun ls hl => ?_)
    refine lv_goto (tgt := 64) hx hb dX12_numbers_86 (by decide) ?_
    exact ih (k + 1) (by omega) _ _ _ _ hw (lv_sub hl [0, 1, 2, 3, 4] rfl)
set_option maxHeartbeats 4000000 in
set_option maxRecDepth 100000 in
theorem ylp17 {p : Program} {l : Launch} {e : Env} {R : Room} {s : State} {m : MethodId} {args : Array Value} {below : List Frame} {meth : Method} {c : Code} {cells slots : Nat} {Q : State → Prop} {D : va_G} {ct : Nat → ClassId} {A : Nat → Prop} {a0 : Nat} {a1 : Nat} {a2 : Nat} {a3 : Nat} {a4 : Nat} {a5 : Nat} {a6 : Nat} {a7 : Nat} {a8 : Nat} {a9 : Nat} {a10 : Nat} {a11 : Nat} {a12 : Nat} {a13 : Nat} {a14 : Nat} {a15 : Nat} {a16 : Nat} {f0 : Nat → Int32} {p1 : Int32} {f1 : Nat → Int32} {j : Nat} (hN : j ≤ 40) (X : CX p m c cX12_numbers 5 s args RX12 D ct) (kk : ∀ (g : Nat → Int64) (H : Heap) (locs : List Loc) (ls : Array Slot), WD D A s.heap H locs [(a0, .inr (12, [.int 0, .ref a1, .ref a2, .ref a3, .ref a4, .int 0, .int 0, .int 0, .int 0, .int 0, .int 0, .int 0, .int 0, .int 0, .int (-1), .ref a5, .ref a6, .ref a7, .ref a8, .int 0, .ref a9, .ref a10, .int 0, .int 0, .int 0, .ref a11, .ref a12, .ref a13, .ref a14, .ref a15, .ref a16])), (a14, .inl (ct 0, 4, .inl (upd f0 2 p1))), (a15, .inl (ct 0, 4, .inl (upd f1 2 (nI j)))), (a16, .inl (ct 2, 160, .inr (.inl g)))] → lv_has ls 5 [(4, .int (nI j)), (0, .ref a0), (1, .int 2), (2, .int p1), (3, .int (nI j))] → W p l e R s m args below meth c H locs cells slots Q (F0 m 89 ls [])) : ∀ (n k : Nat), k + n = j → ∀ (g : Nat → Int64) (H : Heap) (locs : List Loc) (ls : Array Slot), WD D A s.heap H locs [(a0, .inr (12, [.int 0, .ref a1, .ref a2, .ref a3, .ref a4, .int 0, .int 0, .int 0, .int 0, .int 0, .int 0, .int 0, .int 0, .int 0, .int (-1), .ref a5, .ref a6, .ref a7, .ref a8, .int 0, .ref a9, .ref a10, .int 0, .int 0, .int 0, .ref a11, .ref a12, .ref a13, .ref a14, .ref a15, .ref a16])), (a14, .inl (ct 0, 4, .inl (upd f0 2 p1))), (a15, .inl (ct 0, 4, .inl (upd f1 2 (nI j)))), (a16, .inl (ct 2, 160, .inr (.inl g)))] → lv_has ls 5 [(4, .int (nI k)), (0, .ref a0), (1, .int 2), (2, .int p1), (3, .int (nI j))] → W p l e R s m args below meth c H locs cells slots Q (F0 m 64 ls []) := by
  obtain ⟨⟨hx, hb, hml, hown, hts⟩, hK⟩ := id X
  intro n
  induction n with
  | zero =>
    intro k hk g H locs ls hw hl
    obtain rfl : j = k := by omega
    refine lv_iload hx hb dX12_numbers_64 (lv_at hl 0 rfl) ?_
    refine lv_iload_n hx hb dX12_numbers_66 rfl (lv_at hl 4 rfl) ?_
    refine lv_icmp_ge (tgt := 89) hx hb dX12_numbers_67 (by decide) (fun _ => ?_) (fun h => absurd (nI_le (a := j) (b := j) (Nat.le_refl _) (by omega)) h)
    exact kk g _ _ _ hw hl
  | succ n ih =>
    intro k hk g H locs ls hw hl
    refine lv_iload hx hb dX12_numbers_64 (lv_at hl 0 rfl) ?_
    refine lv_iload_n hx hb dX12_numbers_66 rfl (lv_at hl 4 rfl) ?_
    refine lv_icmp_ge (tgt := 89) hx hb dX12_numbers_67 (by decide) (fun h => absurd h (nI_ge (a := k) (b := j) (by omega) (by omega))) (fun _ => ?_)
    refine lv_aload_n hx hb dX12_numbers_70 rfl (lv_at hl 1 rfl) ?_
    refine fg_1472 X hw 0 rfl rfl dX12_numbers_71 ?_
    refine lv_bipush (v := 40) hx hb dX12_numbers_74 (by decide) ?_
    refine lv_iload_n hx hb dX12_numbers_76 rfl (lv_at hl 2 rfl) ?_
    refine kv_imul (v := 80) hx hb (by decide) dX12_numbers_77 ?_
    refine lv_iload hx hb dX12_numbers_78 (lv_at hl 0 rfl) ?_
    refine kv_iadd (v := (nI (80 + k))) hx hb (nI_add (80) (k)) dX12_numbers_80 ?_
    refine lv_lconst (v := 0) hx hb dX12_numbers_81 (by decide) ?_
    refine j_lastA (j := (80 + k)) X hw 3 rfl (nI_pos (by omega)) (nI_clamp (by omega)) (by omega) dX12_numbers_82 (fun g101900 H locs hw => ?_)
    replace hw : WD D A s.heap _ _ [(a0, .inr (12, [.int 0, .ref a1, .ref a2, .ref a3, .ref a4, .int 0, .int 0, .int 0, .int 0, .int 0, .int 0, .int 0, .int 0, .int 0, .int (-1), .ref a5, .ref a6, .ref a7, .ref a8, .int 0, .ref a9, .ref a10, .int 0, .int 0, .int 0, .ref a11, .ref a12, .ref a13, .ref a14, .ref a15, .ref a16])), (a14, .inl (ct 0, 4, .inl (upd f0 2 p1))), (a15, .inl (ct 0, 4, .inl (upd f1 2 (nI j)))), (a16, .inl (ct 2, 160, .inr (.inl g101900)))] := hw
    refine lv_iinc (v := (nI (k + 1))) (lv' := [(4, .int (nI (k + 1))), (0, .ref a0), (1, .int 2), (2, .int p1), (3, .int (nI j))]) hx hb dX12_numbers_83 hl (k := 0) rfl (nI_add _ _) (by decide) rfl (fun ls hl => ?_)
    refine lv_goto (tgt := 64) hx hb dX12_numbers_86 (by decide) ?_
    exact ih (k + 1) (by omega) _ _ _ _ hw (lv_sub hl [0, 1, 2, 3, 4] rfl)
set_option maxHeartbeats 4000000 in
set_option maxRecDepth 100000 in
theorem ylp18 {p : Program} {l : Launch} {e : Env} {R : Room} {s : State} {m : MethodId} {args : Array Value} {below : List Frame} {meth : Method} {c : Code} {cells slots : Nat} {Q : State → Prop} {D : va_G} {ct : Nat → ClassId} {A : Nat → Prop} {a0 : Nat} {a1 : Nat} {a2 : Nat} {a3 : Nat} {a4 : Nat} {a5 : Nat} {a6 : Nat} {a7 : Nat} {a8 : Nat} {a9 : Nat} {a10 : Nat} {a11 : Nat} {a12 : Nat} {a13 : Nat} {a14 : Nat} {a15 : Nat} {a16 : Nat} {f0 : Nat → Int32} {p1 : Int32} {f1 : Nat → Int32} {j : Nat} (hN : j ≤ 40) (X : CX p m c cX12_numbers 5 s args RX12 D ct) (kk : ∀ (g : Nat → Int64) (H : Heap) (locs : List Loc) (ls : Array Slot), WD D A s.heap H locs [(a0, .inr (12, [.int 0, .ref a1, .ref a2, .ref a3, .ref a4, .int 0, .int 0, .int 0, .int 0, .int 0, .int 0, .int 0, .int 0, .int 0, .int (-1), .ref a5, .ref a6, .ref a7, .ref a8, .int 0, .ref a9, .ref a10, .int 0, .int 0, .int 0, .ref a11, .ref a12, .ref a13, .ref a14, .ref a15, .ref a16])), (a14, .inl (ct 0, 4, .inl (upd f0 3 p1))), (a15, .inl (ct 0, 4, .inl (upd f1 3 (nI j)))), (a16, .inl (ct 2, 160, .inr (.inl g)))] → lv_has ls 5 [(4, .int (nI j)), (0, .ref a0), (1, .int 3), (2, .int p1), (3, .int (nI j))] → W p l e R s m args below meth c H locs cells slots Q (F0 m 89 ls [])) : ∀ (n k : Nat), k + n = j → ∀ (g : Nat → Int64) (H : Heap) (locs : List Loc) (ls : Array Slot), WD D A s.heap H locs [(a0, .inr (12, [.int 0, .ref a1, .ref a2, .ref a3, .ref a4, .int 0, .int 0, .int 0, .int 0, .int 0, .int 0, .int 0, .int 0, .int 0, .int (-1), .ref a5, .ref a6, .ref a7, .ref a8, .int 0, .ref a9, .ref a10, .int 0, .int 0, .int 0, .ref a11, .ref a12, .ref a13, .ref a14, .ref a15, .ref a16])), (a14, .inl (ct 0, 4, .inl (upd f0 3 p1))), (a15, .inl (ct 0, 4, .inl (upd f1 3 (nI j)))), (a16, .inl (ct 2, 160, .inr (.inl g)))] → lv_has ls 5 [(4, .int (nI k)), (0, .ref a0), (1, .int 3), (2, .int p1), (3, .int (nI j))] → W p l e R s m args below meth c H locs cells slots Q (F0 m 64 ls []) := by
  obtain ⟨⟨hx, hb, hml, hown, hts⟩, hK⟩ := id X
  intro n
  induction n with
  | zero =>
    intro k hk g H locs ls hw hl
    obtain rfl : j = k := by omega
    refine lv_iload hx hb dX12_numbers_64 (lv_at hl 0 rfl) ?_
    refine lv_iload_n hx hb dX12_numbers_66 rfl (lv_at hl 4 rfl) ?_
    refine lv_icmp_ge (tgt := 89) hx hb dX12_numbers_67 (by decide) (fun _ => ?_) (fun h => absurd (nI_le (a := j) (b := j) (Nat.le_refl _) (by omega)) h)
    exact kk g _ _ _ hw hl
  | succ n ih =>
    intro k hk g H locs ls hw hl
    refine lv_iload hx hb dX12_numbers_64 (lv_at hl 0 rfl) ?_
    refine lv_iload_n hx hb dX12_numbers_66 rfl (lv_at hl 4 rfl) ?_
    refine lv_icmp_ge (tgt := 89) hx hb dX12_numbers_67 (by decide) (fun h => absurd h (nI_ge (a := k) (b := j) (by omega) (by omega))) (fun _ => ?_)
    refine lv_aload_n hx hb dX12_numbers_70 rfl (lv_at hl 1 rfl) ?_
    refine fg_1472 X hw 0 rfl rfl dX12_numbers_71 ?_
    refine lv_bipush (v := 40) hx hb dX12_numbers_74 (by decide) ?_
    refine lv_iload_n hx hb dX12_numbers_76 rfl (lv_at hl 2 rfl) ?_
    refine kv_imul (v := 120) hx hb (by decide) dX12_numbers_77 ?_
    refine lv_iload hx hb dX12_numbers_78 (lv_at hl 0 rfl) ?_
    refine kv_iadd (v := (nI (120 + k))) hx hb (nI_add (120) (k)) dX12_numbers_80 ?_
    refine lv_lconst (v := 0) hx hb dX12_numbers_81 (by decide) ?_
    refine j_lastA (j := (120 + k)) X hw 3 rfl (nI_pos (by omega)) (nI_clamp (by omega)) (by omega) dX12_numbers_82 (fun g101901 H locs hw => ?_)
    replace hw : WD D A s.heap _ _ [(a0, .inr (12, [.int 0, .ref a1, .ref a2, .ref a3, .ref a4, .int 0, .int 0, .int 0, .int 0, .int 0, .int 0, .int 0, .int 0, .int 0, .int (-1), .ref a5, .ref a6, .ref a7, .ref a8, .int 0, .ref a9, .ref a10, .int 0, .int 0, .int 0, .ref a11, .ref a12, .ref a13, .ref a14, .ref a15, .ref a16])), (a14, .inl (ct 0, 4, .inl (upd f0 3 p1))), (a15, .inl (ct 0, 4, .inl (upd f1 3 (nI j)))), (a16, .inl (ct 2, 160, .inr (.inl g101901)))] := hw
    refine lv_iinc (v := (nI (k + 1))) (lv' := [(4, .int (nI (k + 1))), (0, .ref a0), (1, .int 3), (2, .int p1), (3, .int (nI j))]) hx hb dX12_numbers_83 hl (k := 0) rfl (nI_add _ _) (by decide) rfl (fun ls hl => ?_)
    refine lv_goto (tgt := 64) hx hb dX12_numbers_86 (by decide) ?_
    exact ih (k + 1) (by omega) _ _ _ _ hw (lv_sub hl [0, 1, 2, 3, 4] rfl)
set_option maxHeartbeats 4000000 in
set_option maxRecDepth 100000 in
theorem c201_X12_numbers (l : Launch) (D : va_G) (ct : Nat → ClassId) (a0 : Nat) (p0 : Int32) (p1 : Int32) (p2 : Int32) (a1 : Nat) (a2 : Nat) (a3 : Nat) (a4 : Nat) (a5 : Nat) (a6 : Nat) (a7 : Nat) (a8 : Nat) (a9 : Nat) (a10 : Nat) (a11 : Nat) (a12 : Nat) (a13 : Nat) (a14 : Nat) (a15 : Nat) (a16 : Nat) (f0 : Nat → Int32) (f1 : Nat → Int32) (k2 : Nat → Int64) : CI l yX12_numbers cX12_numbers 5 (some .int) { frames := 1, cells := 0, slots := 0, locals := 25 } D ct [.ref a0, .int p0, .int p1, .int p2] [(a0, .inr (12, [.int 0, .ref a1, .ref a2, .ref a3, .ref a4, .int 0, .int 0, .int 0, .int 0, .int 0, .int 0, .int 0, .int 0, .int 0, .int (-1), .ref a5, .ref a6, .ref a7, .ref a8, .int 0, .ref a9, .ref a10, .int 0, .int 0, .int 0, .ref a11, .ref a12, .ref a13, .ref a14, .ref a15, .ref a16])), (a14, .inl (ct 0, 4, .inl f0)), (a15, .inl (ct 0, 4, .inl f1)), (a16, .inl (ct 2, 160, .inr (.inl k2)))] (fun r => ((((p0.toInt < 0) ∨ (p0.toInt ≥ 0 ∧ p0.toInt > 3))) ∨ (p0.toInt ≥ 0 ∧ p0.toInt ≤ 3 ∧ ((p1.toInt < 0) ∨ (p1.toInt ≥ 0 ∧ p1.toInt > 3)))) ∧ r = (-2) ∨ (p0.toInt ≥ 0 ∧ p0.toInt ≤ 3 ∧ p1.toInt ≥ 0 ∧ p1.toInt ≤ 3 ∧ ((p2.toInt < 0) ∨ (p2.toInt ≥ 0 ∧ p2.toInt > 40))) ∧ r = (-3) ∨ ((p0.toInt ≥ 0 ∧ p0.toInt ≤ 3 ∧ p1.toInt ≥ 0 ∧ p1.toInt ≤ 3 ∧ p2.toInt ≥ 0 ∧ p2.toInt ≤ 40 ∧ p0.toInt = 0) ∨ (p0.toInt ≥ 0 ∧ p0.toInt ≤ 3 ∧ p1.toInt ≥ 0 ∧ p1.toInt ≤ 3 ∧ p2.toInt ≥ 0 ∧ p2.toInt ≤ 40 ∧ p0.toInt = 1) ∨ (p0.toInt ≥ 0 ∧ p0.toInt ≤ 3 ∧ p1.toInt ≥ 0 ∧ p1.toInt ≤ 3 ∧ p2.toInt ≥ 0 ∧ p2.toInt ≤ 40 ∧ p0.toInt = 2) ∨ (p0.toInt ≥ 0 ∧ p0.toInt ≤ 3 ∧ p1.toInt ≥ 0 ∧ p1.toInt ≤ 3 ∧ p2.toInt ≥ 0 ∧ p2.toInt ≤ 40 ∧ p0.toInt = 3)) ∧ r = 0) (fun u => []) := by
  refine CI.of (by decide +kernel) (Nat.le_of_ble_eq_true rfl) ?_
  intro p e s m below meth c A ls hE
  obtain ⟨X, hr, hlk, hnm, hw, hl⟩ := hE
  have X : CX p m c cX12_numbers 5 s [.ref a0, .int p0, .int p1, .int p2].toArray RX12 D ct := X
  have hl : lv_has ls 5 [(0, .ref a0), (1, .int p0), (2, .int p1), (3, .int p2)] := hl
  obtain ⟨⟨hx, hb, hml, hown, hts⟩, hK⟩ := id X
  refine lv_aload_n hx hb dX12_numbers_0 rfl (lv_at hl 0 rfl) ?_
  refine lv_iconst (v := 0) hx hb dX12_numbers_1 (by decide) ?_
  refine fp_1442 X hw 0 rfl rfl rfl (Nat.le_of_ble_eq_true rfl) dX12_numbers_2 [(a0, .inr (12, [.int 0, .ref a1, .ref a2, .ref a3, .ref a4, .int 0, .int 0, .int 0, .int 0, .int 0, .int 0, .int 0, .int 0, .int 0, .int (-1), .ref a5, .ref a6, .ref a7, .ref a8, .int 0, .ref a9, .ref a10, .int 0, .int 0, .int 0, .ref a11, .ref a12, .ref a13, .ref a14, .ref a15, .ref a16])), (a14, .inl (ct 0, 4, .inl f0)), (a15, .inl (ct 0, 4, .inl f1)), (a16, .inl (ct 2, 160, .inr (.inl k2)))] rfl (fun H locs hw => ?_)
  refine lv_iload_n hx hb dX12_numbers_5 rfl (lv_at hl 1 rfl) ?_
  refine lv_i2l (v := p0.toInt64) hx hb dX12_numbers_6 rfl ?_
  refine lv_lconst (v := 0) hx hb dX12_numbers_7 (by decide) ?_
  refine lv_ldc2 hx hb hown (hts _ wd_1658) dX12_numbers_8 ?_
  refine m_Si (As := [.long p0.toInt64, .long 0, .long 3]) (rest := []) (c105_X12_within l D ct (p0.toInt64)) X hl.1 kw_1545 kd_yX12_within hw [] [0, 1, 2, 3] rfl rfl rfl rfl (by decide) ⟨by decide, by decide⟩ rfl rfl (Nat.le_of_ble_eq_true rfl) dX12_numbers_11 ⟨by decide, by decide⟩ (fun r1 u2 H locs hr3 hw => ?_)
  replace hw : WD D A s.heap _ _ [(a0, .inr (12, [.int 0, .ref a1, .ref a2, .ref a3, .ref a4, .int 0, .int 0, .int 0, .int 0, .int 0, .int 0, .int 0, .int 0, .int 0, .int (-1), .ref a5, .ref a6, .ref a7, .ref a8, .int 0, .ref a9, .ref a10, .int 0, .int 0, .int 0, .ref a11, .ref a12, .ref a13, .ref a14, .ref a15, .ref a16])), (a14, .inl (ct 0, 4, .inl f0)), (a15, .inl (ct 0, 4, .inl f1)), (a16, .inl (ct 2, 160, .inr (.inl k2)))] := hw
  rcases hr3 with ⟨h4, rfl⟩ | ⟨⟨h5, h6⟩, rfl⟩
  · skip
    simp only [i64i] at h4
    refine lv_if_eq (tgt := 29) hx hb dX12_numbers_14 (by decide) (fun _ => ?_) (fun h => absurd (by decide) h)
    refine lv_bipush (v := (-2)) hx hb dX12_numbers_29 (by decide) ?_
    exact r_i X hr hlk hw [] (fun _ => 0) rfl rfl (Or.inl (⟨Or.inl (h4), rfl⟩)) (by decide) (by decide) dX12_numbers_31
  · skip
    rw [i64i] at h5
    rw [i64i] at h6
    refine lv_if_eq (tgt := 29) hx hb dX12_numbers_14 (by decide) (fun h => absurd h (by decide)) (fun _ => ?_)
    refine lv_iload_n hx hb dX12_numbers_17 rfl (lv_at hl 2 rfl) ?_
    refine lv_i2l (v := p1.toInt64) hx hb dX12_numbers_18 rfl ?_
    refine lv_lconst (v := 0) hx hb dX12_numbers_19 (by decide) ?_
    refine lv_ldc2 hx hb hown (hts _ wd_1658) dX12_numbers_20 ?_
    refine m_Si (As := [.long p1.toInt64, .long 0, .long 3]) (rest := []) (c105_X12_within l D ct (p1.toInt64)) X hl.1 kw_1545 kd_yX12_within hw [] [0, 1, 2, 3] rfl rfl rfl rfl (by decide) ⟨by decide, by decide⟩ rfl rfl (Nat.le_of_ble_eq_true rfl) dX12_numbers_23 ⟨by decide, by decide⟩ (fun r7 u8 H locs hr9 hw => ?_)
    replace hw : WD D A s.heap _ _ [(a0, .inr (12, [.int 0, .ref a1, .ref a2, .ref a3, .ref a4, .int 0, .int 0, .int 0, .int 0, .int 0, .int 0, .int 0, .int 0, .int 0, .int (-1), .ref a5, .ref a6, .ref a7, .ref a8, .int 0, .ref a9, .ref a10, .int 0, .int 0, .int 0, .ref a11, .ref a12, .ref a13, .ref a14, .ref a15, .ref a16])), (a14, .inl (ct 0, 4, .inl f0)), (a15, .inl (ct 0, 4, .inl f1)), (a16, .inl (ct 2, 160, .inr (.inl k2)))] := hw
    rcases hr9 with ⟨h10, rfl⟩ | ⟨⟨h11, h12⟩, rfl⟩
    · skip
      simp only [i64i] at h10
      refine lv_if_ne (tgt := 32) hx hb dX12_numbers_26 (by decide) (fun h => absurd rfl h) (fun _ => ?_)
      refine lv_bipush (v := (-2)) hx hb dX12_numbers_29 (by decide) ?_
      exact r_i X hr hlk hw [] (fun _ => 0) rfl rfl (Or.inl (⟨Or.inr (⟨h5, h6, h10⟩), rfl⟩)) (by decide) (by decide) dX12_numbers_31
    · skip
      rw [i64i] at h11
      rw [i64i] at h12
      refine lv_if_ne (tgt := 32) hx hb dX12_numbers_26 (by decide) (fun _ => ?_) (fun h => absurd h (by decide))
      refine lv_iload_n hx hb dX12_numbers_32 rfl (lv_at hl 3 rfl) ?_
      refine lv_i2l (v := p2.toInt64) hx hb dX12_numbers_33 rfl ?_
      refine lv_lconst (v := 0) hx hb dX12_numbers_34 (by decide) ?_
      refine lv_ldc2 hx hb hown (hts _ wd_2031) dX12_numbers_35 ?_
      refine m_Si (As := [.long p2.toInt64, .long 0, .long 40]) (rest := []) (c200_X12_within l D ct (p2.toInt64)) X hl.1 kw_1545 kd_yX12_within hw [] [0, 1, 2, 3] rfl rfl rfl rfl (by decide) ⟨by decide, by decide⟩ rfl rfl (Nat.le_of_ble_eq_true rfl) dX12_numbers_38 ⟨by decide, by decide⟩ (fun r13 u14 H locs hr15 hw => ?_)
      replace hw : WD D A s.heap _ _ [(a0, .inr (12, [.int 0, .ref a1, .ref a2, .ref a3, .ref a4, .int 0, .int 0, .int 0, .int 0, .int 0, .int 0, .int 0, .int 0, .int 0, .int (-1), .ref a5, .ref a6, .ref a7, .ref a8, .int 0, .ref a9, .ref a10, .int 0, .int 0, .int 0, .ref a11, .ref a12, .ref a13, .ref a14, .ref a15, .ref a16])), (a14, .inl (ct 0, 4, .inl f0)), (a15, .inl (ct 0, 4, .inl f1)), (a16, .inl (ct 2, 160, .inr (.inl k2)))] := hw
      rcases hr15 with ⟨h16, rfl⟩ | ⟨⟨h17, h18⟩, rfl⟩
      · skip
        simp only [i64i] at h16
        refine lv_if_ne (tgt := 47) hx hb dX12_numbers_41 (by decide) (fun h => absurd rfl h) (fun _ => ?_)
        refine lv_bipush (v := (-3)) hx hb dX12_numbers_44 (by decide) ?_
        exact r_i X hr hlk hw [] (fun _ => 0) rfl rfl (Or.inr (Or.inl (⟨⟨h5, h6, h11, h12, h16⟩, rfl⟩))) (by decide) (by decide) dX12_numbers_46
      · skip
        rw [i64i] at h17
        rw [i64i] at h18
        refine lv_if_ne (tgt := 47) hx hb dX12_numbers_41 (by decide) (fun _ => ?_) (fun h => absurd h (by decide))
        refine lv_aload_n hx hb dX12_numbers_47 rfl (lv_at hl 0 rfl) ?_
        refine fg_1470 X hw 0 rfl rfl dX12_numbers_48 ?_
        refine lv_iload_n hx hb dX12_numbers_51 rfl (lv_at hl 1 rfl) ?_
        refine lv_iload_n hx hb dX12_numbers_52 rfl (lv_at hl 2 rfl) ?_
        rcases (show p0.toInt = 0 ∨ p0.toInt = 1 ∨ p0.toInt = 2 ∨ p0.toInt = 3 by omega) with e19 | e19 | e19 | e19
        · skip
          obtain rfl : p0 = 0 := i32_of e19
          refine j_iast (j := 0) X hw 1 rfl (by decide) (by decide) (by decide) dX12_numbers_53 [(a0, .inr (12, [.int 0, .ref a1, .ref a2, .ref a3, .ref a4, .int 0, .int 0, .int 0, .int 0, .int 0, .int 0, .int 0, .int 0, .int 0, .int (-1), .ref a5, .ref a6, .ref a7, .ref a8, .int 0, .ref a9, .ref a10, .int 0, .int 0, .int 0, .ref a11, .ref a12, .ref a13, .ref a14, .ref a15, .ref a16])), (a14, .inl (ct 0, 4, .inl (upd f0 0 p1))), (a15, .inl (ct 0, 4, .inl f1)), (a16, .inl (ct 2, 160, .inr (.inl k2)))] rfl (fun H locs hw => ?_)
          refine lv_aload_n hx hb dX12_numbers_54 rfl (lv_at hl 0 rfl) ?_
          refine fg_1471 X hw 0 rfl rfl dX12_numbers_55 ?_
          refine lv_iload_n hx hb dX12_numbers_58 rfl (lv_at hl 1 rfl) ?_
          refine lv_iload_n hx hb dX12_numbers_59 rfl (lv_at hl 3 rfl) ?_
          refine j_iast (j := 0) X hw 2 rfl (by decide) (by decide) (by decide) dX12_numbers_60 [(a0, .inr (12, [.int 0, .ref a1, .ref a2, .ref a3, .ref a4, .int 0, .int 0, .int 0, .int 0, .int 0, .int 0, .int 0, .int 0, .int 0, .int (-1), .ref a5, .ref a6, .ref a7, .ref a8, .int 0, .ref a9, .ref a10, .int 0, .int 0, .int 0, .ref a11, .ref a12, .ref a13, .ref a14, .ref a15, .ref a16])), (a14, .inl (ct 0, 4, .inl (upd f0 0 p1))), (a15, .inl (ct 0, 4, .inl (upd f1 0 p2))), (a16, .inl (ct 2, 160, .inr (.inl k2)))] rfl (fun H locs hw => ?_)
          refine lv_iconst (v := 0) hx hb dX12_numbers_61 (by decide) ?_
          refine lv_istore (lv' := [(4, .int 0), (0, .ref a0), (1, .int 0), (2, .int p1), (3, .int p2)]) hx hb dX12_numbers_62 hl (by decide) rfl (fun ls hl => ?_)
          obtain ⟨j, hN, rfl⟩ : ∃ j : Nat, j ≤ 40 ∧ p2 = nI j := i32_nat (by omega) (by omega)
          replace hw : WD D A s.heap _ _ [(a0, .inr (12, [.int 0, .ref a1, .ref a2, .ref a3, .ref a4, .int 0, .int 0, .int 0, .int 0, .int 0, .int 0, .int 0, .int 0, .int 0, .int (-1), .ref a5, .ref a6, .ref a7, .ref a8, .int 0, .ref a9, .ref a10, .int 0, .int 0, .int 0, .ref a11, .ref a12, .ref a13, .ref a14, .ref a15, .ref a16])), (a14, .inl (ct 0, 4, .inl (upd f0 0 p1))), (a15, .inl (ct 0, 4, .inl (upd f1 0 (nI j)))), (a16, .inl (ct 2, 160, .inr (.inl k2)))] := hw
          replace hl : lv_has ls 5 [(4, .int 0), (0, .ref a0), (1, .int 0), (2, .int p1), (3, .int (nI j))] := hl
          refine ylp15 hN X (fun g20 H locs ls hw hl => ?_) j 0 (by omega) _ _ _ _ hw hl
          replace hw : WD D A s.heap _ _ [(a0, .inr (12, [.int 0, .ref a1, .ref a2, .ref a3, .ref a4, .int 0, .int 0, .int 0, .int 0, .int 0, .int 0, .int 0, .int 0, .int 0, .int (-1), .ref a5, .ref a6, .ref a7, .ref a8, .int 0, .ref a9, .ref a10, .int 0, .int 0, .int 0, .ref a11, .ref a12, .ref a13, .ref a14, .ref a15, .ref a16])), (a14, .inl (ct 0, 4, .inl (upd f0 0 p1))), (a15, .inl (ct 0, 4, .inl (upd f1 0 (nI j)))), (a16, .inl (ct 2, 160, .inr (.inl g20)))] := hw
          replace hl : lv_has ls 5 [(4, .int (nI j)), (0, .ref a0), (1, .int 0), (2, .int p1), (3, .int (nI j))] := hl
          refine lv_iconst (v := 0) hx hb dX12_numbers_89 (by decide) ?_
          exact r_i X hr hlk hw [] (fun _ => 0) rfl rfl (Or.inr (Or.inr (⟨Or.inl (⟨h5, h6, h11, h12, h17, h18, e19⟩), rfl⟩))) (by decide) (by decide) dX12_numbers_90
        · skip
          obtain rfl : p0 = 1 := i32_of e19
          refine j_iast (j := 1) X hw 1 rfl (by decide) (by decide) (by decide) dX12_numbers_53 [(a0, .inr (12, [.int 0, .ref a1, .ref a2, .ref a3, .ref a4, .int 0, .int 0, .int 0, .int 0, .int 0, .int 0, .int 0, .int 0, .int 0, .int (-1), .ref a5, .ref a6, .ref a7, .ref a8, .int 0, .ref a9, .ref a10, .int 0, .int 0, .int 0, .ref a11, .ref a12, .ref a13, .ref a14, .ref a15, .ref a16])), (a14, .inl (ct 0, 4, .inl (upd f0 1 p1))), (a15, .inl (ct 0, 4, .inl f1)), (a16, .inl (ct 2, 160, .inr (.inl k2)))] rfl (fun H locs hw => ?_)
          refine lv_aload_n hx hb dX12_numbers_54 rfl (lv_at hl 0 rfl) ?_
          refine fg_1471 X hw 0 rfl rfl dX12_numbers_55 ?_
          refine lv_iload_n hx hb dX12_numbers_58 rfl (lv_at hl 1 rfl) ?_
          refine lv_iload_n hx hb dX12_numbers_59 rfl (lv_at hl 3 rfl) ?_
          refine j_iast (j := 1) X hw 2 rfl (by decide) (by decide) (by decide) dX12_numbers_60 [(a0, .inr (12, [.int 0, .ref a1, .ref a2, .ref a3, .ref a4, .int 0, .int 0, .int 0, .int 0, .int 0, .int 0, .int 0, .int 0, .int 0, .int (-1), .ref a5, .ref a6, .ref a7, .ref a8, .int 0, .ref a9, .ref a10, .int 0, .int 0, .int 0, .ref a11, .ref a12, .ref a13, .ref a14, .ref a15, .ref a16])), (a14, .inl (ct 0, 4, .inl (upd f0 1 p1))), (a15, .inl (ct 0, 4, .inl (upd f1 1 p2))), (a16, .inl (ct 2, 160, .inr (.inl k2)))] rfl (fun H locs hw => ?_)
          refine lv_iconst (v := 0) hx hb dX12_numbers_61 (by decide) ?_
          refine lv_istore (lv' := [(4, .int 0), (0, .ref a0), (1, .int 1), (2, .int p1), (3, .int p2)]) hx hb dX12_numbers_62 hl (by decide) rfl (fun ls hl => ?_)
          obtain ⟨j, hN, rfl⟩ : ∃ j : Nat, j ≤ 40 ∧ p2 = nI j := i32_nat (by omega) (by omega)
          replace hw : WD D A s.heap _ _ [(a0, .inr (12, [.int 0, .ref a1, .ref a2, .ref a3, .ref a4, .int 0, .int 0, .int 0, .int 0, .int 0, .int 0, .int 0, .int 0, .int 0, .int (-1), .ref a5, .ref a6, .ref a7, .ref a8, .int 0, .ref a9, .ref a10, .int 0, .int 0, .int 0, .ref a11, .ref a12, .ref a13, .ref a14, .ref a15, .ref a16])), (a14, .inl (ct 0, 4, .inl (upd f0 1 p1))), (a15, .inl (ct 0, 4, .inl (upd f1 1 (nI j)))), (a16, .inl (ct 2, 160, .inr (.inl k2)))] := hw
          replace hl : lv_has ls 5 [(4, .int 0), (0, .ref a0), (1, .int 1), (2, .int p1), (3, .int (nI j))] := hl
          refine ylp16 hN X (fun g21 H locs ls hw hl => ?_) j 0 (by omega) _ _ _ _ hw hl
          replace hw : WD D A s.heap _ _ [(a0, .inr (12, [.int 0, .ref a1, .ref a2, .ref a3, .ref a4, .int 0, .int 0, .int 0, .int 0, .int 0, .int 0, .int 0, .int 0, .int 0, .int (-1), .ref a5, .ref a6, .ref a7, .ref a8, .int 0, .ref a9, .ref a10, .int 0, .int 0, .int 0, .ref a11, .ref a12, .ref a13, .ref a14, .ref a15, .ref a16])), (a14, .inl (ct 0, 4, .inl (upd f0 1 p1))), (a15, .inl (ct 0, 4, .inl (upd f1 1 (nI j)))), (a16, .inl (ct 2, 160, .inr (.inl g21)))] := hw
          replace hl : lv_has ls 5 [(4, .int (nI j)), (0, .ref a0), (1, .int 1), (2, .int p1), (3, .int (nI j))] := hl
          refine lv_iconst (v := 0) hx hb dX12_numbers_89 (by decide) ?_
          exact r_i X hr hlk hw [] (fun _ => 0) rfl rfl (Or.inr (Or.inr (⟨Or.inr (Or.inl (⟨h5, h6, h11, h12, h17, h18, e19⟩)), rfl⟩))) (by decide) (by decide) dX12_numbers_90
        · skip
          obtain rfl : p0 = 2 := i32_of e19
          refine j_iast (j := 2) X hw 1 rfl (by decide) (by decide) (by decide) dX12_numbers_53 [(a0, .inr (12, [.int 0, .ref a1, .ref a2, .ref a3, .ref a4, .int 0, .int 0, .int 0, .int 0, .int 0, .int 0, .int 0, .int 0, .int 0, .int (-1), .ref a5, .ref a6, .ref a7, .ref a8, .int 0, .ref a9, .ref a10, .int 0, .int 0, .int 0, .ref a11, .ref a12, .ref a13, .ref a14, .ref a15, .ref a16])), (a14, .inl (ct 0, 4, .inl (upd f0 2 p1))), (a15, .inl (ct 0, 4, .inl f1)), (a16, .inl (ct 2, 160, .inr (.inl k2)))] rfl (fun H locs hw => ?_)
          refine lv_aload_n hx hb dX12_numbers_54 rfl (lv_at hl 0 rfl) ?_
          refine fg_1471 X hw 0 rfl rfl dX12_numbers_55 ?_
          refine lv_iload_n hx hb dX12_numbers_58 rfl (lv_at hl 1 rfl) ?_
          refine lv_iload_n hx hb dX12_numbers_59 rfl (lv_at hl 3 rfl) ?_
          refine j_iast (j := 2) X hw 2 rfl (by decide) (by decide) (by decide) dX12_numbers_60 [(a0, .inr (12, [.int 0, .ref a1, .ref a2, .ref a3, .ref a4, .int 0, .int 0, .int 0, .int 0, .int 0, .int 0, .int 0, .int 0, .int 0, .int (-1), .ref a5, .ref a6, .ref a7, .ref a8, .int 0, .ref a9, .ref a10, .int 0, .int 0, .int 0, .ref a11, .ref a12, .ref a13, .ref a14, .ref a15, .ref a16])), (a14, .inl (ct 0, 4, .inl (upd f0 2 p1))), (a15, .inl (ct 0, 4, .inl (upd f1 2 p2))), (a16, .inl (ct 2, 160, .inr (.inl k2)))] rfl (fun H locs hw => ?_)
          refine lv_iconst (v := 0) hx hb dX12_numbers_61 (by decide) ?_
          refine lv_istore (lv' := [(4, .int 0), (0, .ref a0), (1, .int 2), (2, .int p1), (3, .int p2)]) hx hb dX12_numbers_62 hl (by decide) rfl (fun ls hl => ?_)
          obtain ⟨j, hN, rfl⟩ : ∃ j : Nat, j ≤ 40 ∧ p2 = nI j := i32_nat (by omega) (by omega)
          replace hw : WD D A s.heap _ _ [(a0, .inr (12, [.int 0, .ref a1, .ref a2, .ref a3, .ref a4, .int 0, .int 0, .int 0, .int 0, .int 0, .int 0, .int 0, .int 0, .int 0, .int (-1), .ref a5, .ref a6, .ref a7, .ref a8, .int 0, .ref a9, .ref a10, .int 0, .int 0, .int 0, .ref a11, .ref a12, .ref a13, .ref a14, .ref a15, .ref a16])), (a14, .inl (ct 0, 4, .inl (upd f0 2 p1))), (a15, .inl (ct 0, 4, .inl (upd f1 2 (nI j)))), (a16, .inl (ct 2, 160, .inr (.inl k2)))] := hw
          replace hl : lv_has ls 5 [(4, .int 0), (0, .ref a0), (1, .int 2), (2, .int p1), (3, .int (nI j))] := hl
          refine ylp17 hN X (fun g22 H locs ls hw hl => ?_) j 0 (by omega) _ _ _ _ hw hl
          replace hw : WD D A s.heap _ _ [(a0, .inr (12, [.int 0, .ref a1, .ref a2, .ref a3, .ref a4, .int 0, .int 0, .int 0, .int 0, .int 0, .int 0, .int 0, .int 0, .int 0, .int (-1), .ref a5, .ref a6, .ref a7, .ref a8, .int 0, .ref a9, .ref a10, .int 0, .int 0, .int 0, .ref a11, .ref a12, .ref a13, .ref a14, .ref a15, .ref a16])), (a14, .inl (ct 0, 4, .inl (upd f0 2 p1))), (a15, .inl (ct 0, 4, .inl (upd f1 2 (nI j)))), (a16, .inl (ct 2, 160, .inr (.inl g22)))] := hw
          replace hl : lv_has ls 5 [(4, .int (nI j)), (0, .ref a0), (1, .int 2), (2, .int p1), (3, .int (nI j))] := hl
          refine lv_iconst (v := 0) hx hb dX12_numbers_89 (by decide) ?_
          exact r_i X hr hlk hw [] (fun _ => 0) rfl rfl (Or.inr (Or.inr (⟨Or.inr (Or.inr (Or.inl (⟨h5, h6, h11, h12, h17, h18, e19⟩))), rfl⟩))) (by decide) (by decide) dX12_numbers_90
        · skip
          obtain rfl : p0 = 3 := i32_of e19
          refine j_iast (j := 3) X hw 1 rfl (by decide) (by decide) (by decide) dX12_numbers_53 [(a0, .inr (12, [.int 0, .ref a1, .ref a2, .ref a3, .ref a4, .int 0, .int 0, .int 0, .int 0, .int 0, .int 0, .int 0, .int 0, .int 0, .int (-1), .ref a5, .ref a6, .ref a7, .ref a8, .int 0, .ref a9, .ref a10, .int 0, .int 0, .int 0, .ref a11, .ref a12, .ref a13, .ref a14, .ref a15, .ref a16])), (a14, .inl (ct 0, 4, .inl (upd f0 3 p1))), (a15, .inl (ct 0, 4, .inl f1)), (a16, .inl (ct 2, 160, .inr (.inl k2)))] rfl (fun H locs hw => ?_)
          refine lv_aload_n hx hb dX12_numbers_54 rfl (lv_at hl 0 rfl) ?_
          refine fg_1471 X hw 0 rfl rfl dX12_numbers_55 ?_
          refine lv_iload_n hx hb dX12_numbers_58 rfl (lv_at hl 1 rfl) ?_
          refine lv_iload_n hx hb dX12_numbers_59 rfl (lv_at hl 3 rfl) ?_
          refine j_iast (j := 3) X hw 2 rfl (by decide) (by decide) (by decide) dX12_numbers_60 [(a0, .inr (12, [.int 0, .ref a1, .ref a2, .ref a3, .ref a4, .int 0, .int 0, .int 0, .int 0, .int 0, .int 0, .int 0, .int 0, .int 0, .int (-1), .ref a5, .ref a6, .ref a7, .ref a8, .int 0, .ref a9, .ref a10, .int 0, .int 0, .int 0, .ref a11, .ref a12, .ref a13, .ref a14, .ref a15, .ref a16])), (a14, .inl (ct 0, 4, .inl (upd f0 3 p1))), (a15, .inl (ct 0, 4, .inl (upd f1 3 p2))), (a16, .inl (ct 2, 160, .inr (.inl k2)))] rfl (fun H locs hw => ?_)
          refine lv_iconst (v := 0) hx hb dX12_numbers_61 (by decide) ?_
          refine lv_istore (lv' := [(4, .int 0), (0, .ref a0), (1, .int 3), (2, .int p1), (3, .int p2)]) hx hb dX12_numbers_62 hl (by decide) rfl (fun ls hl => ?_)
          obtain ⟨j, hN, rfl⟩ : ∃ j : Nat, j ≤ 40 ∧ p2 = nI j := i32_nat (by omega) (by omega)
          replace hw : WD D A s.heap _ _ [(a0, .inr (12, [.int 0, .ref a1, .ref a2, .ref a3, .ref a4, .int 0, .int 0, .int 0, .int 0, .int 0, .int 0, .int 0, .int 0, .int 0, .int (-1), .ref a5, .ref a6, .ref a7, .ref a8, .int 0, .ref a9, .ref a10, .int 0, .int 0, .int 0, .ref a11, .ref a12, .ref a13, .ref a14, .ref a15, .ref a16])), (a14, .inl (ct 0, 4, .inl (upd f0 3 p1))), (a15, .inl (ct 0, 4, .inl (upd f1 3 (nI j)))), (a16, .inl (ct 2, 160, .inr (.inl k2)))] := hw
          replace hl : lv_has ls 5 [(4, .int 0), (0, .ref a0), (1, .int 3), (2, .int p1), (3, .int (nI j))] := hl
          refine ylp18 hN X (fun g23 H locs ls hw hl => ?_) j 0 (by omega) _ _ _ _ hw hl
          replace hw : WD D A s.heap _ _ [(a0, .inr (12, [.int 0, .ref a1, .ref a2, .ref a3, .ref a4, .int 0, .int 0, .int 0, .int 0, .int 0, .int 0, .int 0, .int 0, .int 0, .int (-1), .ref a5, .ref a6, .ref a7, .ref a8, .int 0, .ref a9, .ref a10, .int 0, .int 0, .int 0, .ref a11, .ref a12, .ref a13, .ref a14, .ref a15, .ref a16])), (a14, .inl (ct 0, 4, .inl (upd f0 3 p1))), (a15, .inl (ct 0, 4, .inl (upd f1 3 (nI j)))), (a16, .inl (ct 2, 160, .inr (.inl g23)))] := hw
          replace hl : lv_has ls 5 [(4, .int (nI j)), (0, .ref a0), (1, .int 3), (2, .int p1), (3, .int (nI j))] := hl
          refine lv_iconst (v := 0) hx hb dX12_numbers_89 (by decide) ?_
          exact r_i X hr hlk hw [] (fun _ => 0) rfl rfl (Or.inr (Or.inr (⟨Or.inr (Or.inr (Or.inr (⟨h5, h6, h11, h12, h17, h18, e19⟩))), rfl⟩))) (by decide) (by decide) dX12_numbers_90
set_option maxHeartbeats 4000000 in
set_option maxRecDepth 100000 in
theorem c202_X11_write (l : Launch) (D : va_G) (ct : Nat → ClassId) (a0 : Nat) (p0 : Int32) (p1 : Int32) (w2 : Int64) (a1 : Nat) (a2 : Nat) (a3 : Nat) (a4 : Nat) (a5 : Nat) (a6 : Nat) (a7 : Nat) (a8 : Nat) (a9 : Nat) (a10 : Nat) (a11 : Nat) (a12 : Nat) (a13 : Nat) (a14 : Nat) (a15 : Nat) (a16 : Nat) (a17 : Nat) (a18 : Nat) (a19 : Nat) (a20 : Nat) (a21 : Nat) (a22 : Nat) (a23 : Nat) : CL l yX11_write cX11_write 6 (some .long) { frames := 2, cells := 0, slots := 0, locals := 41 } D ct [.ref a0, .int p0, .int p1, .long w2] [(a0, .inr (11, [.ref a1, .int 0, .ref a2, .ref a3, .ref a4, .ref a5, .ref a6, .ref a7, .ref a8, .ref a9, .ref a10, .ref a11, .ref a12, .ref a13, .ref a14, .ref a15, .int (-1), .int (-1)])), (a12, .inl (ct 5, 4, .inr (.inr (.inr (.inr (va_up (va_up (va_up (va_up (fun _ => none) 0 (some a16)) 1 (some a17)) 2 (some a18)) 3 (some a19))))))), (a16, .inr (10, [.int (-1), .ref a20, .int 0])), (a17, .inr (10, [.int (-1), .ref a21, .int 0])), (a18, .inr (10, [.int (-1), .ref a22, .int 0])), (a19, .inr (10, [.int (-1), .ref a23, .int 0]))] (fun r => (((p0.toInt < 0) ∨ (p0.toInt ≥ 0 ∧ p0.toInt ≥ 4))) ∧ r = (-2) ∨ (((p0.toInt ≥ 0 ∧ p0.toInt < 4 ∧ p0.toInt = 0) ∨ (p0.toInt ≥ 0 ∧ p0.toInt < 4 ∧ p0.toInt = 1) ∨ (p0.toInt ≥ 0 ∧ p0.toInt < 4 ∧ p0.toInt = 2) ∨ (p0.toInt ≥ 0 ∧ p0.toInt < 4 ∧ p0.toInt = 3))) ∧ r = (-6)) (fun u => []) := by
  refine CL.of (by decide +kernel) (Nat.le_of_ble_eq_true rfl) ?_
  intro p e s m below meth c A ls hE
  obtain ⟨X, hr, hlk, hnm, hw, hl⟩ := hE
  have X : CX p m c cX11_write 6 s [.ref a0, .int p0, .int p1, .long w2].toArray RX11 D ct := X
  have hl : lv_has ls 6 [(0, .ref a0), (1, .int p0), (2, .int p1), (3, .long w2)] := hl
  obtain ⟨⟨hx, hb, hml, hown, hts⟩, hK⟩ := id X
  refine lv_aload_n hx hb dX11_write_0 rfl (lv_at hl 0 rfl) ?_
  refine lv_iload_n hx hb dX11_write_1 rfl (lv_at hl 1 rfl) ?_
  refine m_Vi (As := [.int p0]) (rest := []) (c108_X11_trayCode l D ct a0 p0 a1 a2 a3 a4 a5 a6 a7 a8 a9 a10 a11 a12 a13 a14 a15 a16 a17 a18 a19 a20 a21 a22 a23) X hl.1 kw_1111 kd_yX11_trayCode hw [0, 1, 2, 3, 4, 5] [] rfl rfl rfl rfl (by decide) 0 rfl rfl ⟨by decide, by decide⟩ rfl rfl (Nat.le_of_ble_eq_true rfl) dX11_write_2 ⟨by decide, by decide⟩ (fun r1 u2 H locs hr3 hw => ?_)
  replace hw : WD D A s.heap _ _ [] := hw
  rcases hr3 with ⟨h4, rfl⟩ | ⟨h5, rfl⟩
  · skip
    refine lv_istore (lv' := [(5, .int (-2)), (0, .ref a0), (1, .int p0), (2, .int p1), (3, .long w2)]) hx hb dX11_write_5 hl (by decide) rfl (fun ls hl => ?_)
    refine lv_iload hx hb dX11_write_7 (lv_at hl 0 rfl) ?_
    refine lv_if_eq (tgt := 16) hx hb dX11_write_9 (by decide) (fun h => absurd h (by decide)) (fun _ => ?_)
    refine lv_iload hx hb dX11_write_12 (lv_at hl 0 rfl) ?_
    refine lv_i2l (v := (-2)) hx hb dX11_write_14 (by decide) ?_
    exact r_l X hr hlk hw [] (fun _ => 0) rfl rfl (Or.inl (⟨h4, rfl⟩)) (by decide) (by decide) dX11_write_15
  · skip
    refine lv_istore (lv' := [(5, .int (-6)), (0, .ref a0), (1, .int p0), (2, .int p1), (3, .long w2)]) hx hb dX11_write_5 hl (by decide) rfl (fun ls hl => ?_)
    refine lv_iload hx hb dX11_write_7 (lv_at hl 0 rfl) ?_
    refine lv_if_eq (tgt := 16) hx hb dX11_write_9 (by decide) (fun h => absurd h (by decide)) (fun _ => ?_)
    refine lv_iload hx hb dX11_write_12 (lv_at hl 0 rfl) ?_
    refine lv_i2l (v := (-6)) hx hb dX11_write_14 (by decide) ?_
    exact r_l X hr hlk hw [] (fun _ => 0) rfl rfl (Or.inr (⟨h5, rfl⟩)) (by decide) (by decide) dX11_write_15
set_option maxHeartbeats 4000000 in
set_option maxRecDepth 100000 in
theorem c203_X12_write (l : Launch) (D : va_G) (ct : Nat → ClassId) (a0 : Nat) (p0 : Int32) (p1 : Int32) (w2 : Int64) (a1 : Nat) (a2 : Nat) (a3 : Nat) (a4 : Nat) (a5 : Nat) (a6 : Nat) (a7 : Nat) (a8 : Nat) (a9 : Nat) (a10 : Nat) (a11 : Nat) (a12 : Nat) (a13 : Nat) (a14 : Nat) (a15 : Nat) (a16 : Nat) : CL l yX12_write cX12_write 6 (some .long) { frames := 2, cells := 0, slots := 0, locals := 46 } D ct [.ref a0, .int p0, .int p1, .long w2] [(a0, .inr (12, [.int 0, .ref a1, .ref a2, .ref a3, .ref a4, .int 0, .int 0, .int 0, .int 0, .int 0, .int 0, .int 0, .int 0, .int 0, .int (-1), .ref a5, .ref a6, .ref a7, .ref a8, .int 0, .ref a9, .ref a10, .int 0, .int 0, .int 0, .ref a11, .ref a12, .ref a13, .ref a14, .ref a15, .ref a16])), (a14, .inl (ct 0, 4, .inl fx2))] (fun r => (((p0.toInt < 0) ∨ (p0.toInt ≥ 0 ∧ p0.toInt > 3))) ∧ r = (-2) ∨ (((p0.toInt ≥ 0 ∧ p0.toInt ≤ 3 ∧ p0.toInt = 0) ∨ (p0.toInt ≥ 0 ∧ p0.toInt ≤ 3 ∧ p0.toInt = 1) ∨ (p0.toInt ≥ 0 ∧ p0.toInt ≤ 3 ∧ p0.toInt = 2) ∨ (p0.toInt ≥ 0 ∧ p0.toInt ≤ 3 ∧ p0.toInt = 3))) ∧ r = (-6)) (fun u => []) := by
  refine CL.of (by decide +kernel) (Nat.le_of_ble_eq_true rfl) ?_
  intro p e s m below meth c A ls hE
  obtain ⟨X, hr, hlk, hnm, hw, hl⟩ := hE
  have X : CX p m c cX12_write 6 s [.ref a0, .int p0, .int p1, .long w2].toArray RX12 D ct := X
  have hl : lv_has ls 6 [(0, .ref a0), (1, .int p0), (2, .int p1), (3, .long w2)] := hl
  obtain ⟨⟨hx, hb, hml, hown, hts⟩, hK⟩ := id X
  refine lv_aload_n hx hb dX12_write_0 rfl (lv_at hl 0 rfl) ?_
  refine lv_iconst (v := 0) hx hb dX12_write_1 (by decide) ?_
  refine fp_1442 X hw 0 rfl rfl rfl (Nat.le_of_ble_eq_true rfl) dX12_write_2 [(a0, .inr (12, [.int 0, .ref a1, .ref a2, .ref a3, .ref a4, .int 0, .int 0, .int 0, .int 0, .int 0, .int 0, .int 0, .int 0, .int 0, .int (-1), .ref a5, .ref a6, .ref a7, .ref a8, .int 0, .ref a9, .ref a10, .int 0, .int 0, .int 0, .ref a11, .ref a12, .ref a13, .ref a14, .ref a15, .ref a16])), (a14, .inl (ct 0, 4, .inl fx2))] rfl (fun H locs hw => ?_)
  refine lv_aload_n hx hb dX12_write_5 rfl (lv_at hl 0 rfl) ?_
  refine lv_iload_n hx hb dX12_write_6 rfl (lv_at hl 1 rfl) ?_
  refine m_Vi (As := [.int p0]) (rest := []) (c106_X12_noTray l D ct a0 p0 a1 a2 a3 a4 a5 a6 a7 a8 a9 a10 a11 a12 a13 a14 a15 a16) X hl.1 kw_1806 kd_yX12_noTray hw [0, 1] [] rfl rfl rfl rfl (by decide) 0 rfl rfl ⟨by decide, by decide⟩ rfl rfl (Nat.le_of_ble_eq_true rfl) dX12_write_7 ⟨by decide, by decide⟩ (fun r1 u2 H locs hr3 hw => ?_)
  replace hw : WD D A s.heap _ _ [(a0, .inr (12, [.int 0, .ref a1, .ref a2, .ref a3, .ref a4, .int 0, .int 0, .int 0, .int 0, .int 0, .int 0, .int 0, .int 0, .int 0, .int (-1), .ref a5, .ref a6, .ref a7, .ref a8, .int 0, .ref a9, .ref a10, .int 0, .int 0, .int 0, .ref a11, .ref a12, .ref a13, .ref a14, .ref a15, .ref a16])), (a14, .inl (ct 0, 4, .inl fx2))] := hw
  rcases hr3 with ⟨h4, rfl⟩ | ⟨h5, rfl⟩
  · skip
    refine lv_istore (lv' := [(5, .int (-2)), (0, .ref a0), (1, .int p0), (2, .int p1), (3, .long w2)]) hx hb dX12_write_10 hl (by decide) rfl (fun ls hl => ?_)
    refine lv_iload hx hb dX12_write_12 (lv_at hl 0 rfl) ?_
    refine lv_if_eq (tgt := 21) hx hb dX12_write_14 (by decide) (fun h => absurd h (by decide)) (fun _ => ?_)
    refine lv_iload hx hb dX12_write_17 (lv_at hl 0 rfl) ?_
    refine lv_i2l (v := (-2)) hx hb dX12_write_19 (by decide) ?_
    exact r_l X hr hlk hw [] (fun _ => 0) rfl rfl (Or.inl (⟨h4, rfl⟩)) (by decide) (by decide) dX12_write_20
  · skip
    refine lv_istore (lv' := [(5, .int (-6)), (0, .ref a0), (1, .int p0), (2, .int p1), (3, .long w2)]) hx hb dX12_write_10 hl (by decide) rfl (fun ls hl => ?_)
    refine lv_iload hx hb dX12_write_12 (lv_at hl 0 rfl) ?_
    refine lv_if_eq (tgt := 21) hx hb dX12_write_14 (by decide) (fun h => absurd h (by decide)) (fun _ => ?_)
    refine lv_iload hx hb dX12_write_17 (lv_at hl 0 rfl) ?_
    refine lv_i2l (v := (-6)) hx hb dX12_write_19 (by decide) ?_
    exact r_l X hr hlk hw [] (fun _ => 0) rfl rfl (Or.inr (⟨h5, rfl⟩)) (by decide) (by decide) dX12_write_20
set_option maxHeartbeats 4000000 in
set_option maxRecDepth 100000 in
theorem c204_X11_lists (l : Launch) (D : va_G) (ct : Nat → ClassId) (a0 : Nat) (p0 : Int32) (a1 : Nat) (a2 : Nat) (a3 : Nat) (a4 : Nat) (a5 : Nat) (a6 : Nat) (a7 : Nat) (a8 : Nat) (a9 : Nat) (a10 : Nat) (a11 : Nat) (a12 : Nat) (a13 : Nat) (a14 : Nat) (a15 : Nat) (a16 : Nat) (a17 : Nat) (a18 : Nat) (a19 : Nat) (a20 : Nat) (a21 : Nat) (a22 : Nat) (a23 : Nat) : CI l yX11_lists cX11_lists 6 (some .int) { frames := 2, cells := 0, slots := 0, locals := 41 } D ct [.ref a0, .int p0] [(a0, .inr (11, [.ref a1, .int 0, .ref a2, .ref a3, .ref a4, .ref a5, .ref a6, .ref a7, .ref a8, .ref a9, .ref a10, .ref a11, .ref a12, .ref a13, .ref a14, .ref a15, .int (-1), .int (-1)])), (a12, .inl (ct 5, 4, .inr (.inr (.inr (.inr (va_up (va_up (va_up (va_up (fun _ => none) 0 (some a16)) 1 (some a17)) 2 (some a18)) 3 (some a19))))))), (a16, .inr (10, [.int (-1), .ref a20, .int 0])), (a17, .inr (10, [.int (-1), .ref a21, .int 0])), (a18, .inr (10, [.int (-1), .ref a22, .int 0])), (a19, .inr (10, [.int (-1), .ref a23, .int 0]))] (fun r => (((p0.toInt < 0) ∨ (p0.toInt ≥ 0 ∧ p0.toInt ≥ 4))) ∧ r = (-2) ∨ (((p0.toInt ≥ 0 ∧ p0.toInt < 4 ∧ p0.toInt = 0) ∨ (p0.toInt ≥ 0 ∧ p0.toInt < 4 ∧ p0.toInt = 1) ∨ (p0.toInt ≥ 0 ∧ p0.toInt < 4 ∧ p0.toInt = 2) ∨ (p0.toInt ≥ 0 ∧ p0.toInt < 4 ∧ p0.toInt = 3))) ∧ r = (-6)) (fun u => []) := by
  refine CI.of (by decide +kernel) (Nat.le_of_ble_eq_true rfl) ?_
  intro p e s m below meth c A ls hE
  obtain ⟨X, hr, hlk, hnm, hw, hl⟩ := hE
  have X : CX p m c cX11_lists 6 s [.ref a0, .int p0].toArray RX11 D ct := X
  have hl : lv_has ls 6 [(0, .ref a0), (1, .int p0)] := hl
  obtain ⟨⟨hx, hb, hml, hown, hts⟩, hK⟩ := id X
  refine lv_aload_n hx hb dX11_lists_0 rfl (lv_at hl 0 rfl) ?_
  refine lv_iload_n hx hb dX11_lists_1 rfl (lv_at hl 1 rfl) ?_
  refine m_Vi (As := [.int p0]) (rest := []) (c108_X11_trayCode l D ct a0 p0 a1 a2 a3 a4 a5 a6 a7 a8 a9 a10 a11 a12 a13 a14 a15 a16 a17 a18 a19 a20 a21 a22 a23) X hl.1 kw_1111 kd_yX11_trayCode hw [0, 1, 2, 3, 4, 5] [] rfl rfl rfl rfl (by decide) 0 rfl rfl ⟨by decide, by decide⟩ rfl rfl (Nat.le_of_ble_eq_true rfl) dX11_lists_2 ⟨by decide, by decide⟩ (fun r1 u2 H locs hr3 hw => ?_)
  replace hw : WD D A s.heap _ _ [] := hw
  rcases hr3 with ⟨h4, rfl⟩ | ⟨h5, rfl⟩
  · skip
    refine lv_istore_n (lv' := [(2, .int (-2)), (0, .ref a0), (1, .int p0)]) hx hb dX11_lists_5 rfl hl (by decide) rfl (fun ls hl => ?_)
    refine lv_iload_n hx hb dX11_lists_6 rfl (lv_at hl 0 rfl) ?_
    refine lv_if_eq (tgt := 12) hx hb dX11_lists_7 (by decide) (fun h => absurd h (by decide)) (fun _ => ?_)
    refine lv_iload_n hx hb dX11_lists_10 rfl (lv_at hl 0 rfl) ?_
    exact r_i X hr hlk hw [] (fun _ => 0) rfl rfl (Or.inl (⟨h4, rfl⟩)) (by decide) (by decide) dX11_lists_11
  · skip
    refine lv_istore_n (lv' := [(2, .int (-6)), (0, .ref a0), (1, .int p0)]) hx hb dX11_lists_5 rfl hl (by decide) rfl (fun ls hl => ?_)
    refine lv_iload_n hx hb dX11_lists_6 rfl (lv_at hl 0 rfl) ?_
    refine lv_if_eq (tgt := 12) hx hb dX11_lists_7 (by decide) (fun h => absurd h (by decide)) (fun _ => ?_)
    refine lv_iload_n hx hb dX11_lists_10 rfl (lv_at hl 0 rfl) ?_
    exact r_i X hr hlk hw [] (fun _ => 0) rfl rfl (Or.inr (⟨h5, rfl⟩)) (by decide) (by decide) dX11_lists_11
set_option maxHeartbeats 4000000 in
set_option maxRecDepth 100000 in
theorem c205_X12_lists (l : Launch) (D : va_G) (ct : Nat → ClassId) (a0 : Nat) (p0 : Int32) (a1 : Nat) (a2 : Nat) (a3 : Nat) (a4 : Nat) (a5 : Nat) (a6 : Nat) (a7 : Nat) (a8 : Nat) (a9 : Nat) (a10 : Nat) (a11 : Nat) (a12 : Nat) (a13 : Nat) (a14 : Nat) (a15 : Nat) (a16 : Nat) : CI l yX12_lists cX12_lists 5 (some .int) { frames := 2, cells := 0, slots := 0, locals := 46 } D ct [.ref a0, .int p0] [(a0, .inr (12, [.int 0, .ref a1, .ref a2, .ref a3, .ref a4, .int 0, .int 0, .int 0, .int 0, .int 0, .int 0, .int 0, .int 0, .int 0, .int (-1), .ref a5, .ref a6, .ref a7, .ref a8, .int 0, .ref a9, .ref a10, .int 0, .int 0, .int 0, .ref a11, .ref a12, .ref a13, .ref a14, .ref a15, .ref a16])), (a14, .inl (ct 0, 4, .inl fx2))] (fun r => (((p0.toInt < 0) ∨ (p0.toInt ≥ 0 ∧ p0.toInt > 3))) ∧ r = (-2) ∨ (((p0.toInt ≥ 0 ∧ p0.toInt ≤ 3 ∧ p0.toInt = 0) ∨ (p0.toInt ≥ 0 ∧ p0.toInt ≤ 3 ∧ p0.toInt = 1) ∨ (p0.toInt ≥ 0 ∧ p0.toInt ≤ 3 ∧ p0.toInt = 2) ∨ (p0.toInt ≥ 0 ∧ p0.toInt ≤ 3 ∧ p0.toInt = 3))) ∧ r = (-6)) (fun u => []) := by
  refine CI.of (by decide +kernel) (Nat.le_of_ble_eq_true rfl) ?_
  intro p e s m below meth c A ls hE
  obtain ⟨X, hr, hlk, hnm, hw, hl⟩ := hE
  have X : CX p m c cX12_lists 5 s [.ref a0, .int p0].toArray RX12 D ct := X
  have hl : lv_has ls 5 [(0, .ref a0), (1, .int p0)] := hl
  obtain ⟨⟨hx, hb, hml, hown, hts⟩, hK⟩ := id X
  refine lv_aload_n hx hb dX12_lists_0 rfl (lv_at hl 0 rfl) ?_
  refine lv_iconst (v := 0) hx hb dX12_lists_1 (by decide) ?_
  refine fp_1442 X hw 0 rfl rfl rfl (Nat.le_of_ble_eq_true rfl) dX12_lists_2 [(a0, .inr (12, [.int 0, .ref a1, .ref a2, .ref a3, .ref a4, .int 0, .int 0, .int 0, .int 0, .int 0, .int 0, .int 0, .int 0, .int 0, .int (-1), .ref a5, .ref a6, .ref a7, .ref a8, .int 0, .ref a9, .ref a10, .int 0, .int 0, .int 0, .ref a11, .ref a12, .ref a13, .ref a14, .ref a15, .ref a16])), (a14, .inl (ct 0, 4, .inl fx2))] rfl (fun H locs hw => ?_)
  refine lv_aload_n hx hb dX12_lists_5 rfl (lv_at hl 0 rfl) ?_
  refine lv_iload_n hx hb dX12_lists_6 rfl (lv_at hl 1 rfl) ?_
  refine m_Vi (As := [.int p0]) (rest := []) (c106_X12_noTray l D ct a0 p0 a1 a2 a3 a4 a5 a6 a7 a8 a9 a10 a11 a12 a13 a14 a15 a16) X hl.1 kw_1806 kd_yX12_noTray hw [0, 1] [] rfl rfl rfl rfl (by decide) 0 rfl rfl ⟨by decide, by decide⟩ rfl rfl (Nat.le_of_ble_eq_true rfl) dX12_lists_7 ⟨by decide, by decide⟩ (fun r1 u2 H locs hr3 hw => ?_)
  replace hw : WD D A s.heap _ _ [(a0, .inr (12, [.int 0, .ref a1, .ref a2, .ref a3, .ref a4, .int 0, .int 0, .int 0, .int 0, .int 0, .int 0, .int 0, .int 0, .int 0, .int (-1), .ref a5, .ref a6, .ref a7, .ref a8, .int 0, .ref a9, .ref a10, .int 0, .int 0, .int 0, .ref a11, .ref a12, .ref a13, .ref a14, .ref a15, .ref a16])), (a14, .inl (ct 0, 4, .inl fx2))] := hw
  rcases hr3 with ⟨h4, rfl⟩ | ⟨h5, rfl⟩
  · skip
    refine lv_istore_n (lv' := [(2, .int (-2)), (0, .ref a0), (1, .int p0)]) hx hb dX12_lists_10 rfl hl (by decide) rfl (fun ls hl => ?_)
    refine lv_iload_n hx hb dX12_lists_11 rfl (lv_at hl 0 rfl) ?_
    refine lv_if_eq (tgt := 17) hx hb dX12_lists_12 (by decide) (fun h => absurd h (by decide)) (fun _ => ?_)
    refine lv_iload_n hx hb dX12_lists_15 rfl (lv_at hl 0 rfl) ?_
    exact r_i X hr hlk hw [] (fun _ => 0) rfl rfl (Or.inl (⟨h4, rfl⟩)) (by decide) (by decide) dX12_lists_16
  · skip
    refine lv_istore_n (lv' := [(2, .int (-6)), (0, .ref a0), (1, .int p0)]) hx hb dX12_lists_10 rfl hl (by decide) rfl (fun ls hl => ?_)
    refine lv_iload_n hx hb dX12_lists_11 rfl (lv_at hl 0 rfl) ?_
    refine lv_if_eq (tgt := 17) hx hb dX12_lists_12 (by decide) (fun h => absurd h (by decide)) (fun _ => ?_)
    refine lv_iload_n hx hb dX12_lists_15 rfl (lv_at hl 0 rfl) ?_
    exact r_i X hr hlk hw [] (fun _ => 0) rfl rfl (Or.inr (⟨h5, rfl⟩)) (by decide) (by decide) dX12_lists_16
set_option maxHeartbeats 4000000 in
set_option maxRecDepth 100000 in
theorem c206_X2_copyFrom (l : Launch) (D : va_G) (ct : Nat → ClassId) (a0 : Nat) (a1 : Nat) (a2 : Nat) (a3 : Nat) (a4 : Nat) (a5 : Nat) (f0 : Nat → Int32) (a6 : Nat) (a7 : Nat) (a8 : Nat) (f1 : Nat → Int32) (a9 : Nat) (a10 : Nat) (a11 : Nat) (a12 : Nat) (a13 : Nat) (a14 : Nat) (a15 : Nat) : CV l yX2_copyFrom cX2_copyFrom 2 none { frames := 2, cells := 0, slots := 0, locals := 81 } D ct [.ref a0, .ref a1] [(a1, .inr (2, [.int 0, .int 0, .int 0, .ref a2, .ref a3, .ref a4, .int 0, .int 0, .int 0, .int 0, .int 0, .ref a5, .int 0])), (a2, .inl (ct 0, 32, .inl f0)), (a3, .inl (ct 0, 35, .inl f0)), (a4, .inl (ct 0, 900, .inl f0)), (a5, .inr (4, [.ref a6, .ref a7, .ref a8, .int 0])), (a7, .inl (ct 0, 56, .inl f0)), (a8, .inl (ct 0, 8, .inl f0)), (a6, .inl (ct 0, 7, .inl f1)), (a0, .inr (2, [.int 0, .int 0, .int 0, .ref a9, .ref a10, .ref a11, .int 0, .int 0, .int 0, .int 0, .int 0, .ref a12, .int 0])), (a9, .inl (ct 0, 32, .inl f0)), (a10, .inl (ct 0, 35, .inl f0)), (a11, .inl (ct 0, 900, .inl f0)), (a12, .inr (4, [.ref a13, .ref a14, .ref a15, .int 0])), (a14, .inl (ct 0, 56, .inl f0)), (a15, .inl (ct 0, 8, .inl f0)), (a13, .inl (ct 0, 7, .inl f1))] True (fun u => [(a1, .inr (2, [.int 0, .int 0, .int 0, .ref a2, .ref a3, .ref a4, .int 0, .int 0, .int 0, .int 0, .int 0, .ref a5, .int 0])), (a2, .inl (ct 0, 32, .inl f0)), (a3, .inl (ct 0, 35, .inl f0)), (a4, .inl (ct 0, 900, .inl f0)), (a0, .inr (2, [.int 0, .int 0, .int 0, .ref a9, .ref a10, .ref a11, .int 0, .int 0, .int 0, .int 0, .int 0, .ref a12, .int 1])), (a9, .inl (ct 0, 32, .inl (va_cpy f0 f0 0 0 32))), (a10, .inl (ct 0, 35, .inl (va_cpy f0 f0 0 0 35))), (a11, .inl (ct 0, 900, .inl (va_cpy f0 f0 0 0 0))), (a5, .inr (4, [.ref a6, .ref a7, .ref a8, .int 0])), (a7, .inl (ct 0, 56, .inl f0)), (a8, .inl (ct 0, 8, .inl f0)), (a6, .inl (ct 0, 7, .inl f1)), (a12, .inr (4, [.ref a13, .ref a14, .ref a15, .int 0])), (a14, .inl (ct 0, 56, .inl (va_cpy f0 f0 0 0 56))), (a15, .inl (ct 0, 8, .inl (va_cpy f0 f0 0 0 8))), (a13, .inl (ct 0, 7, .inl (va_cpy f1 f1 0 0 7)))]) := by
  refine CV.of (by decide +kernel) (Nat.le_of_ble_eq_true rfl) ?_
  intro p e s m below meth c A ls hE
  obtain ⟨X, hr, hlk, hnm, hw, hl⟩ := hE
  have X : CX p m c cX2_copyFrom 2 s [.ref a0, .ref a1].toArray RX2 D ct := X
  have hl : lv_has ls 2 [(0, .ref a0), (1, .ref a1)] := hl
  obtain ⟨⟨hx, hb, hml, hown, hts⟩, hK⟩ := id X
  refine lv_aload_n hx hb dX2_copyFrom_0 rfl (lv_at hl 0 rfl) ?_
  refine lv_aload_n hx hb dX2_copyFrom_1 rfl (lv_at hl 1 rfl) ?_
  refine fg_208 X hw 0 rfl rfl dX2_copyFrom_2 ?_
  refine fp_208 X hw 8 rfl rfl rfl (Nat.le_of_ble_eq_true rfl) dX2_copyFrom_5 [(a1, .inr (2, [.int 0, .int 0, .int 0, .ref a2, .ref a3, .ref a4, .int 0, .int 0, .int 0, .int 0, .int 0, .ref a5, .int 0])), (a2, .inl (ct 0, 32, .inl f0)), (a3, .inl (ct 0, 35, .inl f0)), (a4, .inl (ct 0, 900, .inl f0)), (a5, .inr (4, [.ref a6, .ref a7, .ref a8, .int 0])), (a7, .inl (ct 0, 56, .inl f0)), (a8, .inl (ct 0, 8, .inl f0)), (a6, .inl (ct 0, 7, .inl f1)), (a0, .inr (2, [.int 0, .int 0, .int 0, .ref a9, .ref a10, .ref a11, .int 0, .int 0, .int 0, .int 0, .int 0, .ref a12, .int 0])), (a9, .inl (ct 0, 32, .inl f0)), (a10, .inl (ct 0, 35, .inl f0)), (a11, .inl (ct 0, 900, .inl f0)), (a12, .inr (4, [.ref a13, .ref a14, .ref a15, .int 0])), (a14, .inl (ct 0, 56, .inl f0)), (a15, .inl (ct 0, 8, .inl f0)), (a13, .inl (ct 0, 7, .inl f1))] rfl (fun H locs hw => ?_)
  refine lv_aload_n hx hb dX2_copyFrom_8 rfl (lv_at hl 0 rfl) ?_
  refine lv_aload_n hx hb dX2_copyFrom_9 rfl (lv_at hl 1 rfl) ?_
  refine fg_211 X hw 0 rfl rfl dX2_copyFrom_10 ?_
  refine fp_211 X hw 8 rfl rfl rfl (Nat.le_of_ble_eq_true rfl) dX2_copyFrom_13 [(a1, .inr (2, [.int 0, .int 0, .int 0, .ref a2, .ref a3, .ref a4, .int 0, .int 0, .int 0, .int 0, .int 0, .ref a5, .int 0])), (a2, .inl (ct 0, 32, .inl f0)), (a3, .inl (ct 0, 35, .inl f0)), (a4, .inl (ct 0, 900, .inl f0)), (a5, .inr (4, [.ref a6, .ref a7, .ref a8, .int 0])), (a7, .inl (ct 0, 56, .inl f0)), (a8, .inl (ct 0, 8, .inl f0)), (a6, .inl (ct 0, 7, .inl f1)), (a0, .inr (2, [.int 0, .int 0, .int 0, .ref a9, .ref a10, .ref a11, .int 0, .int 0, .int 0, .int 0, .int 0, .ref a12, .int 0])), (a9, .inl (ct 0, 32, .inl f0)), (a10, .inl (ct 0, 35, .inl f0)), (a11, .inl (ct 0, 900, .inl f0)), (a12, .inr (4, [.ref a13, .ref a14, .ref a15, .int 0])), (a14, .inl (ct 0, 56, .inl f0)), (a15, .inl (ct 0, 8, .inl f0)), (a13, .inl (ct 0, 7, .inl f1))] rfl (fun H locs hw => ?_)
  refine lv_aload_n hx hb dX2_copyFrom_16 rfl (lv_at hl 0 rfl) ?_
  refine lv_aload_n hx hb dX2_copyFrom_17 rfl (lv_at hl 1 rfl) ?_
  refine fg_218 X hw 0 rfl rfl dX2_copyFrom_18 ?_
  refine fp_218 X hw 8 rfl rfl rfl (Nat.le_of_ble_eq_true rfl) dX2_copyFrom_21 [(a1, .inr (2, [.int 0, .int 0, .int 0, .ref a2, .ref a3, .ref a4, .int 0, .int 0, .int 0, .int 0, .int 0, .ref a5, .int 0])), (a2, .inl (ct 0, 32, .inl f0)), (a3, .inl (ct 0, 35, .inl f0)), (a4, .inl (ct 0, 900, .inl f0)), (a5, .inr (4, [.ref a6, .ref a7, .ref a8, .int 0])), (a7, .inl (ct 0, 56, .inl f0)), (a8, .inl (ct 0, 8, .inl f0)), (a6, .inl (ct 0, 7, .inl f1)), (a0, .inr (2, [.int 0, .int 0, .int 0, .ref a9, .ref a10, .ref a11, .int 0, .int 0, .int 0, .int 0, .int 0, .ref a12, .int 0])), (a9, .inl (ct 0, 32, .inl f0)), (a10, .inl (ct 0, 35, .inl f0)), (a11, .inl (ct 0, 900, .inl f0)), (a12, .inr (4, [.ref a13, .ref a14, .ref a15, .int 0])), (a14, .inl (ct 0, 56, .inl f0)), (a15, .inl (ct 0, 8, .inl f0)), (a13, .inl (ct 0, 7, .inl f1))] rfl (fun H locs hw => ?_)
  refine lv_aload_n hx hb dX2_copyFrom_24 rfl (lv_at hl 1 rfl) ?_
  refine fg_226 X hw 0 rfl rfl dX2_copyFrom_25 ?_
  refine lv_iconst (v := 0) hx hb dX2_copyFrom_28 (by decide) ?_
  refine lv_aload_n hx hb dX2_copyFrom_29 rfl (lv_at hl 0 rfl) ?_
  refine fg_226 X hw 8 rfl rfl dX2_copyFrom_30 ?_
  refine lv_iconst (v := 0) hx hb dX2_copyFrom_33 (by decide) ?_
  refine lv_aload_n hx hb dX2_copyFrom_34 rfl (lv_at hl 0 rfl) ?_
  refine fg_226 X hw 8 rfl rfl dX2_copyFrom_35 ?_
  refine k_alen (v := 32) X hw 9 0 rfl rfl rfl dX2_copyFrom_38 ?_
  refine k_copyi X hl.1 wd_861 wd_863 wd_862 wd_149 hw 1 9 rfl rfl (by decide) (by decide) (by decide) (by decide) (by decide) (by decide) (Nat.le_of_ble_eq_true rfl) dX2_copyFrom_39 [(a1, .inr (2, [.int 0, .int 0, .int 0, .ref a2, .ref a3, .ref a4, .int 0, .int 0, .int 0, .int 0, .int 0, .ref a5, .int 0])), (a2, .inl (ct 0, 32, .inl f0)), (a3, .inl (ct 0, 35, .inl f0)), (a4, .inl (ct 0, 900, .inl f0)), (a5, .inr (4, [.ref a6, .ref a7, .ref a8, .int 0])), (a7, .inl (ct 0, 56, .inl f0)), (a8, .inl (ct 0, 8, .inl f0)), (a6, .inl (ct 0, 7, .inl f1)), (a0, .inr (2, [.int 0, .int 0, .int 0, .ref a9, .ref a10, .ref a11, .int 0, .int 0, .int 0, .int 0, .int 0, .ref a12, .int 0])), (a9, .inl (ct 0, 32, .inl (va_cpy f0 f0 0 0 32))), (a10, .inl (ct 0, 35, .inl f0)), (a11, .inl (ct 0, 900, .inl f0)), (a12, .inr (4, [.ref a13, .ref a14, .ref a15, .int 0])), (a14, .inl (ct 0, 56, .inl f0)), (a15, .inl (ct 0, 8, .inl f0)), (a13, .inl (ct 0, 7, .inl f1))] rfl (fun H locs hw => ?_)
  refine lv_aload_n hx hb dX2_copyFrom_42 rfl (lv_at hl 1 rfl) ?_
  refine fg_228 X hw 0 rfl rfl dX2_copyFrom_43 ?_
  refine lv_iconst (v := 0) hx hb dX2_copyFrom_46 (by decide) ?_
  refine lv_aload_n hx hb dX2_copyFrom_47 rfl (lv_at hl 0 rfl) ?_
  refine fg_228 X hw 8 rfl rfl dX2_copyFrom_48 ?_
  refine lv_iconst (v := 0) hx hb dX2_copyFrom_51 (by decide) ?_
  refine lv_aload_n hx hb dX2_copyFrom_52 rfl (lv_at hl 0 rfl) ?_
  refine fg_228 X hw 8 rfl rfl dX2_copyFrom_53 ?_
  refine k_alen (v := 35) X hw 10 0 rfl rfl rfl dX2_copyFrom_56 ?_
  refine k_copyi X hl.1 wd_861 wd_863 wd_862 wd_149 hw 2 10 rfl rfl (by decide) (by decide) (by decide) (by decide) (by decide) (by decide) (Nat.le_of_ble_eq_true rfl) dX2_copyFrom_57 [(a1, .inr (2, [.int 0, .int 0, .int 0, .ref a2, .ref a3, .ref a4, .int 0, .int 0, .int 0, .int 0, .int 0, .ref a5, .int 0])), (a2, .inl (ct 0, 32, .inl f0)), (a3, .inl (ct 0, 35, .inl f0)), (a4, .inl (ct 0, 900, .inl f0)), (a5, .inr (4, [.ref a6, .ref a7, .ref a8, .int 0])), (a7, .inl (ct 0, 56, .inl f0)), (a8, .inl (ct 0, 8, .inl f0)), (a6, .inl (ct 0, 7, .inl f1)), (a0, .inr (2, [.int 0, .int 0, .int 0, .ref a9, .ref a10, .ref a11, .int 0, .int 0, .int 0, .int 0, .int 0, .ref a12, .int 0])), (a9, .inl (ct 0, 32, .inl (va_cpy f0 f0 0 0 32))), (a10, .inl (ct 0, 35, .inl (va_cpy f0 f0 0 0 35))), (a11, .inl (ct 0, 900, .inl f0)), (a12, .inr (4, [.ref a13, .ref a14, .ref a15, .int 0])), (a14, .inl (ct 0, 56, .inl f0)), (a15, .inl (ct 0, 8, .inl f0)), (a13, .inl (ct 0, 7, .inl f1))] rfl (fun H locs hw => ?_)
  refine lv_aload_n hx hb dX2_copyFrom_60 rfl (lv_at hl 1 rfl) ?_
  refine fg_230 X hw 0 rfl rfl dX2_copyFrom_61 ?_
  refine lv_iconst (v := 0) hx hb dX2_copyFrom_64 (by decide) ?_
  refine lv_aload_n hx hb dX2_copyFrom_65 rfl (lv_at hl 0 rfl) ?_
  refine fg_230 X hw 8 rfl rfl dX2_copyFrom_66 ?_
  refine lv_iconst (v := 0) hx hb dX2_copyFrom_69 (by decide) ?_
  refine lv_aload_n hx hb dX2_copyFrom_70 rfl (lv_at hl 1 rfl) ?_
  refine fg_233 X hw 0 rfl rfl dX2_copyFrom_71 ?_
  refine k_copyi X hl.1 wd_861 wd_863 wd_862 wd_149 hw 3 11 rfl rfl (by decide) (by decide) (by decide) (by decide) (by decide) (by decide) (Nat.le_of_ble_eq_true rfl) dX2_copyFrom_74 [(a1, .inr (2, [.int 0, .int 0, .int 0, .ref a2, .ref a3, .ref a4, .int 0, .int 0, .int 0, .int 0, .int 0, .ref a5, .int 0])), (a2, .inl (ct 0, 32, .inl f0)), (a3, .inl (ct 0, 35, .inl f0)), (a4, .inl (ct 0, 900, .inl f0)), (a5, .inr (4, [.ref a6, .ref a7, .ref a8, .int 0])), (a7, .inl (ct 0, 56, .inl f0)), (a8, .inl (ct 0, 8, .inl f0)), (a6, .inl (ct 0, 7, .inl f1)), (a0, .inr (2, [.int 0, .int 0, .int 0, .ref a9, .ref a10, .ref a11, .int 0, .int 0, .int 0, .int 0, .int 0, .ref a12, .int 0])), (a9, .inl (ct 0, 32, .inl (va_cpy f0 f0 0 0 32))), (a10, .inl (ct 0, 35, .inl (va_cpy f0 f0 0 0 35))), (a11, .inl (ct 0, 900, .inl (va_cpy f0 f0 0 0 0))), (a12, .inr (4, [.ref a13, .ref a14, .ref a15, .int 0])), (a14, .inl (ct 0, 56, .inl f0)), (a15, .inl (ct 0, 8, .inl f0)), (a13, .inl (ct 0, 7, .inl f1))] rfl (fun H locs hw => ?_)
  refine lv_aload_n hx hb dX2_copyFrom_77 rfl (lv_at hl 0 rfl) ?_
  refine lv_aload_n hx hb dX2_copyFrom_78 rfl (lv_at hl 1 rfl) ?_
  refine fg_233 X hw 0 rfl rfl dX2_copyFrom_79 ?_
  refine fp_233 X hw 8 rfl rfl rfl (Nat.le_of_ble_eq_true rfl) dX2_copyFrom_82 [(a1, .inr (2, [.int 0, .int 0, .int 0, .ref a2, .ref a3, .ref a4, .int 0, .int 0, .int 0, .int 0, .int 0, .ref a5, .int 0])), (a2, .inl (ct 0, 32, .inl f0)), (a3, .inl (ct 0, 35, .inl f0)), (a4, .inl (ct 0, 900, .inl f0)), (a5, .inr (4, [.ref a6, .ref a7, .ref a8, .int 0])), (a7, .inl (ct 0, 56, .inl f0)), (a8, .inl (ct 0, 8, .inl f0)), (a6, .inl (ct 0, 7, .inl f1)), (a0, .inr (2, [.int 0, .int 0, .int 0, .ref a9, .ref a10, .ref a11, .int 0, .int 0, .int 0, .int 0, .int 0, .ref a12, .int 0])), (a9, .inl (ct 0, 32, .inl (va_cpy f0 f0 0 0 32))), (a10, .inl (ct 0, 35, .inl (va_cpy f0 f0 0 0 35))), (a11, .inl (ct 0, 900, .inl (va_cpy f0 f0 0 0 0))), (a12, .inr (4, [.ref a13, .ref a14, .ref a15, .int 0])), (a14, .inl (ct 0, 56, .inl f0)), (a15, .inl (ct 0, 8, .inl f0)), (a13, .inl (ct 0, 7, .inl f1))] rfl (fun H locs hw => ?_)
  refine lv_aload_n hx hb dX2_copyFrom_85 rfl (lv_at hl 0 rfl) ?_
  refine lv_aload_n hx hb dX2_copyFrom_86 rfl (lv_at hl 1 rfl) ?_
  refine fg_235 X hw 0 rfl rfl dX2_copyFrom_87 ?_
  refine fp_235 X hw 8 rfl rfl rfl (Nat.le_of_ble_eq_true rfl) dX2_copyFrom_90 [(a1, .inr (2, [.int 0, .int 0, .int 0, .ref a2, .ref a3, .ref a4, .int 0, .int 0, .int 0, .int 0, .int 0, .ref a5, .int 0])), (a2, .inl (ct 0, 32, .inl f0)), (a3, .inl (ct 0, 35, .inl f0)), (a4, .inl (ct 0, 900, .inl f0)), (a5, .inr (4, [.ref a6, .ref a7, .ref a8, .int 0])), (a7, .inl (ct 0, 56, .inl f0)), (a8, .inl (ct 0, 8, .inl f0)), (a6, .inl (ct 0, 7, .inl f1)), (a0, .inr (2, [.int 0, .int 0, .int 0, .ref a9, .ref a10, .ref a11, .int 0, .int 0, .int 0, .int 0, .int 0, .ref a12, .int 0])), (a9, .inl (ct 0, 32, .inl (va_cpy f0 f0 0 0 32))), (a10, .inl (ct 0, 35, .inl (va_cpy f0 f0 0 0 35))), (a11, .inl (ct 0, 900, .inl (va_cpy f0 f0 0 0 0))), (a12, .inr (4, [.ref a13, .ref a14, .ref a15, .int 0])), (a14, .inl (ct 0, 56, .inl f0)), (a15, .inl (ct 0, 8, .inl f0)), (a13, .inl (ct 0, 7, .inl f1))] rfl (fun H locs hw => ?_)
  refine lv_aload_n hx hb dX2_copyFrom_93 rfl (lv_at hl 0 rfl) ?_
  refine lv_aload_n hx hb dX2_copyFrom_94 rfl (lv_at hl 1 rfl) ?_
  refine fg_238 X hw 0 rfl rfl dX2_copyFrom_95 ?_
  refine fp_238 X hw 8 rfl rfl rfl (Nat.le_of_ble_eq_true rfl) dX2_copyFrom_98 [(a1, .inr (2, [.int 0, .int 0, .int 0, .ref a2, .ref a3, .ref a4, .int 0, .int 0, .int 0, .int 0, .int 0, .ref a5, .int 0])), (a2, .inl (ct 0, 32, .inl f0)), (a3, .inl (ct 0, 35, .inl f0)), (a4, .inl (ct 0, 900, .inl f0)), (a5, .inr (4, [.ref a6, .ref a7, .ref a8, .int 0])), (a7, .inl (ct 0, 56, .inl f0)), (a8, .inl (ct 0, 8, .inl f0)), (a6, .inl (ct 0, 7, .inl f1)), (a0, .inr (2, [.int 0, .int 0, .int 0, .ref a9, .ref a10, .ref a11, .int 0, .int 0, .int 0, .int 0, .int 0, .ref a12, .int 0])), (a9, .inl (ct 0, 32, .inl (va_cpy f0 f0 0 0 32))), (a10, .inl (ct 0, 35, .inl (va_cpy f0 f0 0 0 35))), (a11, .inl (ct 0, 900, .inl (va_cpy f0 f0 0 0 0))), (a12, .inr (4, [.ref a13, .ref a14, .ref a15, .int 0])), (a14, .inl (ct 0, 56, .inl f0)), (a15, .inl (ct 0, 8, .inl f0)), (a13, .inl (ct 0, 7, .inl f1))] rfl (fun H locs hw => ?_)
  refine lv_aload_n hx hb dX2_copyFrom_101 rfl (lv_at hl 0 rfl) ?_
  refine lv_aload_n hx hb dX2_copyFrom_102 rfl (lv_at hl 1 rfl) ?_
  refine fg_241 X hw 0 rfl rfl dX2_copyFrom_103 ?_
  refine fp_241 X hw 8 rfl rfl rfl (Nat.le_of_ble_eq_true rfl) dX2_copyFrom_106 [(a1, .inr (2, [.int 0, .int 0, .int 0, .ref a2, .ref a3, .ref a4, .int 0, .int 0, .int 0, .int 0, .int 0, .ref a5, .int 0])), (a2, .inl (ct 0, 32, .inl f0)), (a3, .inl (ct 0, 35, .inl f0)), (a4, .inl (ct 0, 900, .inl f0)), (a5, .inr (4, [.ref a6, .ref a7, .ref a8, .int 0])), (a7, .inl (ct 0, 56, .inl f0)), (a8, .inl (ct 0, 8, .inl f0)), (a6, .inl (ct 0, 7, .inl f1)), (a0, .inr (2, [.int 0, .int 0, .int 0, .ref a9, .ref a10, .ref a11, .int 0, .int 0, .int 0, .int 0, .int 0, .ref a12, .int 0])), (a9, .inl (ct 0, 32, .inl (va_cpy f0 f0 0 0 32))), (a10, .inl (ct 0, 35, .inl (va_cpy f0 f0 0 0 35))), (a11, .inl (ct 0, 900, .inl (va_cpy f0 f0 0 0 0))), (a12, .inr (4, [.ref a13, .ref a14, .ref a15, .int 0])), (a14, .inl (ct 0, 56, .inl f0)), (a15, .inl (ct 0, 8, .inl f0)), (a13, .inl (ct 0, 7, .inl f1))] rfl (fun H locs hw => ?_)
  refine lv_aload_n hx hb dX2_copyFrom_109 rfl (lv_at hl 0 rfl) ?_
  refine lv_aload_n hx hb dX2_copyFrom_110 rfl (lv_at hl 1 rfl) ?_
  refine fg_244 X hw 0 rfl rfl dX2_copyFrom_111 ?_
  refine fp_244 X hw 8 rfl rfl rfl (Nat.le_of_ble_eq_true rfl) dX2_copyFrom_114 [(a1, .inr (2, [.int 0, .int 0, .int 0, .ref a2, .ref a3, .ref a4, .int 0, .int 0, .int 0, .int 0, .int 0, .ref a5, .int 0])), (a2, .inl (ct 0, 32, .inl f0)), (a3, .inl (ct 0, 35, .inl f0)), (a4, .inl (ct 0, 900, .inl f0)), (a5, .inr (4, [.ref a6, .ref a7, .ref a8, .int 0])), (a7, .inl (ct 0, 56, .inl f0)), (a8, .inl (ct 0, 8, .inl f0)), (a6, .inl (ct 0, 7, .inl f1)), (a0, .inr (2, [.int 0, .int 0, .int 0, .ref a9, .ref a10, .ref a11, .int 0, .int 0, .int 0, .int 0, .int 0, .ref a12, .int 0])), (a9, .inl (ct 0, 32, .inl (va_cpy f0 f0 0 0 32))), (a10, .inl (ct 0, 35, .inl (va_cpy f0 f0 0 0 35))), (a11, .inl (ct 0, 900, .inl (va_cpy f0 f0 0 0 0))), (a12, .inr (4, [.ref a13, .ref a14, .ref a15, .int 0])), (a14, .inl (ct 0, 56, .inl f0)), (a15, .inl (ct 0, 8, .inl f0)), (a13, .inl (ct 0, 7, .inl f1))] rfl (fun H locs hw => ?_)
  refine lv_aload_n hx hb dX2_copyFrom_117 rfl (lv_at hl 0 rfl) ?_
  refine fg_247 X hw 8 rfl rfl dX2_copyFrom_118 ?_
  refine lv_aload_n hx hb dX2_copyFrom_121 rfl (lv_at hl 1 rfl) ?_
  refine fg_247 X hw 0 rfl rfl dX2_copyFrom_122 ?_
  refine m_Vv (As := [.ref a5]) (rest := []) (c59_X4_copyFrom l D ct a12 a5 a6 a7 a8 f0 f1 a13 a14 a15) X hl.1 kw_864 kd_yX4_copyFrom hw [4, 5, 6, 7, 12, 13, 14, 15] [0, 1, 2, 3, 8, 9, 10, 11] rfl rfl rfl rfl (by decide) 4 rfl rfl ⟨by decide, by decide⟩ rfl rfl (Nat.le_of_ble_eq_true rfl) dX2_copyFrom_125 ⟨by decide, by decide⟩ (fun u2 H locs hr3 hw => ?_)
  replace hw : WD D A s.heap _ _ [(a1, .inr (2, [.int 0, .int 0, .int 0, .ref a2, .ref a3, .ref a4, .int 0, .int 0, .int 0, .int 0, .int 0, .ref a5, .int 0])), (a2, .inl (ct 0, 32, .inl f0)), (a3, .inl (ct 0, 35, .inl f0)), (a4, .inl (ct 0, 900, .inl f0)), (a0, .inr (2, [.int 0, .int 0, .int 0, .ref a9, .ref a10, .ref a11, .int 0, .int 0, .int 0, .int 0, .int 0, .ref a12, .int 0])), (a9, .inl (ct 0, 32, .inl (va_cpy f0 f0 0 0 32))), (a10, .inl (ct 0, 35, .inl (va_cpy f0 f0 0 0 35))), (a11, .inl (ct 0, 900, .inl (va_cpy f0 f0 0 0 0))), (a5, .inr (4, [.ref a6, .ref a7, .ref a8, .int 0])), (a7, .inl (ct 0, 56, .inl f0)), (a8, .inl (ct 0, 8, .inl f0)), (a6, .inl (ct 0, 7, .inl f1)), (a12, .inr (4, [.ref a13, .ref a14, .ref a15, .int 0])), (a14, .inl (ct 0, 56, .inl (va_cpy f0 f0 0 0 56))), (a15, .inl (ct 0, 8, .inl (va_cpy f0 f0 0 0 8))), (a13, .inl (ct 0, 7, .inl (va_cpy f1 f1 0 0 7)))] := hw
  refine lv_aload_n hx hb dX2_copyFrom_128 rfl (lv_at hl 0 rfl) ?_
  refine lv_dup hx hb dX2_copyFrom_129 rfl ?_
  refine fg_254 X hw 4 rfl rfl dX2_copyFrom_130 ?_
  refine lv_iconst (v := 1) hx hb dX2_copyFrom_133 (by decide) ?_
  refine kv_iadd (v := 1) hx hb (by decide) dX2_copyFrom_134 ?_
  refine fp_254 X hw 4 rfl rfl rfl (Nat.le_of_ble_eq_true rfl) dX2_copyFrom_135 [(a1, .inr (2, [.int 0, .int 0, .int 0, .ref a2, .ref a3, .ref a4, .int 0, .int 0, .int 0, .int 0, .int 0, .ref a5, .int 0])), (a2, .inl (ct 0, 32, .inl f0)), (a3, .inl (ct 0, 35, .inl f0)), (a4, .inl (ct 0, 900, .inl f0)), (a0, .inr (2, [.int 0, .int 0, .int 0, .ref a9, .ref a10, .ref a11, .int 0, .int 0, .int 0, .int 0, .int 0, .ref a12, .int 1])), (a9, .inl (ct 0, 32, .inl (va_cpy f0 f0 0 0 32))), (a10, .inl (ct 0, 35, .inl (va_cpy f0 f0 0 0 35))), (a11, .inl (ct 0, 900, .inl (va_cpy f0 f0 0 0 0))), (a5, .inr (4, [.ref a6, .ref a7, .ref a8, .int 0])), (a7, .inl (ct 0, 56, .inl f0)), (a8, .inl (ct 0, 8, .inl f0)), (a6, .inl (ct 0, 7, .inl f1)), (a12, .inr (4, [.ref a13, .ref a14, .ref a15, .int 0])), (a14, .inl (ct 0, 56, .inl (va_cpy f0 f0 0 0 56))), (a15, .inl (ct 0, 8, .inl (va_cpy f0 f0 0 0 8))), (a13, .inl (ct 0, 7, .inl (va_cpy f1 f1 0 0 7)))] rfl (fun H locs hw => ?_)
  exact r_v X hr hlk hw [0, 1, 2, 3, 4, 5, 6, 7, 8, 9, 10, 11, 12, 13, 14, 15] (fun _ => 0) rfl rfl trivial (by decide) (by decide) dX2_copyFrom_138
set_option maxHeartbeats 4000000 in
set_option maxRecDepth 100000 in
theorem c207_X4_copyFrom (l : Launch) (D : va_G) (ct : Nat → ClassId) (a0 : Nat) (a1 : Nat) (a2 : Nat) (a3 : Nat) (a4 : Nat) (f0 : Nat → Int32) (f1 : Nat → Int32) (a5 : Nat) (a6 : Nat) (a7 : Nat) (f2 : Nat → Int32) (f3 : Nat → Int32) : CV l yX4_copyFrom cX4_copyFrom 2 none { frames := 1, cells := 0, slots := 0, locals := 60 } D ct [.ref a0, .ref a1] [(a1, .inr (4, [.ref a2, .ref a3, .ref a4, .int 0])), (a3, .inl (ct 0, 56, .inl f0)), (a4, .inl (ct 0, 8, .inl f0)), (a2, .inl (ct 0, 7, .inl f1)), (a0, .inr (4, [.ref a5, .ref a6, .ref a7, .int 0])), (a6, .inl (ct 0, 56, .inl f2)), (a7, .inl (ct 0, 8, .inl f2)), (a5, .inl (ct 0, 7, .inl f3))] True (fun u => [(a1, .inr (4, [.ref a2, .ref a3, .ref a4, .int 0])), (a3, .inl (ct 0, 56, .inl f0)), (a4, .inl (ct 0, 8, .inl f0)), (a2, .inl (ct 0, 7, .inl f1)), (a0, .inr (4, [.ref a5, .ref a6, .ref a7, .int 0])), (a6, .inl (ct 0, 56, .inl (va_cpy f0 f2 0 0 56))), (a7, .inl (ct 0, 8, .inl (va_cpy f0 f2 0 0 8))), (a5, .inl (ct 0, 7, .inl (va_cpy f1 f3 0 0 7)))]) := by
  refine CV.of (by decide +kernel) (Nat.le_of_ble_eq_true rfl) ?_
  intro p e s m below meth c A ls hE
  obtain ⟨X, hr, hlk, hnm, hw, hl⟩ := hE
  have X : CX p m c cX4_copyFrom 2 s [.ref a0, .ref a1].toArray RX4 D ct := X
  have hl : lv_has ls 2 [(0, .ref a0), (1, .ref a1)] := hl
  obtain ⟨⟨hx, hb, hml, hown, hts⟩, hK⟩ := id X
  refine lv_aload_n hx hb dX4_copyFrom_0 rfl (lv_at hl 1 rfl) ?_
  refine fg_174 X hw 0 rfl rfl dX4_copyFrom_1 ?_
  refine lv_iconst (v := 0) hx hb dX4_copyFrom_4 (by decide) ?_
  refine lv_aload_n hx hb dX4_copyFrom_5 rfl (lv_at hl 0 rfl) ?_
  refine fg_174 X hw 4 rfl rfl dX4_copyFrom_6 ?_
  refine lv_iconst (v := 0) hx hb dX4_copyFrom_9 (by decide) ?_
  refine lv_bipush (v := 7) hx hb dX4_copyFrom_10 (by decide) ?_
  refine k_copyi X hl.1 wd_868 wd_863 wd_862 wd_149 hw 3 7 rfl rfl (by decide) (by decide) (by decide) (by decide) (by decide) (by decide) (Nat.le_of_ble_eq_true rfl) dX4_copyFrom_12 [(a1, .inr (4, [.ref a2, .ref a3, .ref a4, .int 0])), (a3, .inl (ct 0, 56, .inl f0)), (a4, .inl (ct 0, 8, .inl f0)), (a2, .inl (ct 0, 7, .inl f1)), (a0, .inr (4, [.ref a5, .ref a6, .ref a7, .int 0])), (a6, .inl (ct 0, 56, .inl f2)), (a7, .inl (ct 0, 8, .inl f2)), (a5, .inl (ct 0, 7, .inl (va_cpy f1 f3 0 0 7)))] rfl (fun H locs hw => ?_)
  refine lv_aload_n hx hb dX4_copyFrom_15 rfl (lv_at hl 1 rfl) ?_
  refine fg_182 X hw 0 rfl rfl dX4_copyFrom_16 ?_
  refine lv_iconst (v := 0) hx hb dX4_copyFrom_19 (by decide) ?_
  refine lv_aload_n hx hb dX4_copyFrom_20 rfl (lv_at hl 0 rfl) ?_
  refine fg_182 X hw 4 rfl rfl dX4_copyFrom_21 ?_
  refine lv_iconst (v := 0) hx hb dX4_copyFrom_24 (by decide) ?_
  refine lv_bipush (v := 56) hx hb dX4_copyFrom_25 (by decide) ?_
  refine k_copyi X hl.1 wd_868 wd_863 wd_862 wd_149 hw 1 5 rfl rfl (by decide) (by decide) (by decide) (by decide) (by decide) (by decide) (Nat.le_of_ble_eq_true rfl) dX4_copyFrom_27 [(a1, .inr (4, [.ref a2, .ref a3, .ref a4, .int 0])), (a3, .inl (ct 0, 56, .inl f0)), (a4, .inl (ct 0, 8, .inl f0)), (a2, .inl (ct 0, 7, .inl f1)), (a0, .inr (4, [.ref a5, .ref a6, .ref a7, .int 0])), (a6, .inl (ct 0, 56, .inl (va_cpy f0 f2 0 0 56))), (a7, .inl (ct 0, 8, .inl f2)), (a5, .inl (ct 0, 7, .inl (va_cpy f1 f3 0 0 7)))] rfl (fun H locs hw => ?_)
  refine lv_aload_n hx hb dX4_copyFrom_30 rfl (lv_at hl 1 rfl) ?_
  refine fg_186 X hw 0 rfl rfl dX4_copyFrom_31 ?_
  refine lv_iconst (v := 0) hx hb dX4_copyFrom_34 (by decide) ?_
  refine lv_aload_n hx hb dX4_copyFrom_35 rfl (lv_at hl 0 rfl) ?_
  refine fg_186 X hw 4 rfl rfl dX4_copyFrom_36 ?_
  refine lv_iconst (v := 0) hx hb dX4_copyFrom_39 (by decide) ?_
  refine lv_bipush (v := 8) hx hb dX4_copyFrom_40 (by decide) ?_
  refine k_copyi X hl.1 wd_868 wd_863 wd_862 wd_149 hw 2 6 rfl rfl (by decide) (by decide) (by decide) (by decide) (by decide) (by decide) (Nat.le_of_ble_eq_true rfl) dX4_copyFrom_42 [(a1, .inr (4, [.ref a2, .ref a3, .ref a4, .int 0])), (a3, .inl (ct 0, 56, .inl f0)), (a4, .inl (ct 0, 8, .inl f0)), (a2, .inl (ct 0, 7, .inl f1)), (a0, .inr (4, [.ref a5, .ref a6, .ref a7, .int 0])), (a6, .inl (ct 0, 56, .inl (va_cpy f0 f2 0 0 56))), (a7, .inl (ct 0, 8, .inl (va_cpy f0 f2 0 0 8))), (a5, .inl (ct 0, 7, .inl (va_cpy f1 f3 0 0 7)))] rfl (fun H locs hw => ?_)
  refine lv_aload_n hx hb dX4_copyFrom_45 rfl (lv_at hl 0 rfl) ?_
  refine lv_aload_n hx hb dX4_copyFrom_46 rfl (lv_at hl 1 rfl) ?_
  refine fg_192 X hw 0 rfl rfl dX4_copyFrom_47 ?_
  refine fp_192 X hw 4 rfl rfl rfl (Nat.le_of_ble_eq_true rfl) dX4_copyFrom_50 [(a1, .inr (4, [.ref a2, .ref a3, .ref a4, .int 0])), (a3, .inl (ct 0, 56, .inl f0)), (a4, .inl (ct 0, 8, .inl f0)), (a2, .inl (ct 0, 7, .inl f1)), (a0, .inr (4, [.ref a5, .ref a6, .ref a7, .int 0])), (a6, .inl (ct 0, 56, .inl (va_cpy f0 f2 0 0 56))), (a7, .inl (ct 0, 8, .inl (va_cpy f0 f2 0 0 8))), (a5, .inl (ct 0, 7, .inl (va_cpy f1 f3 0 0 7)))] rfl (fun H locs hw => ?_)
  exact r_v X hr hlk hw [0, 1, 2, 3, 4, 5, 6, 7] (fun _ => 0) rfl rfl trivial (by decide) (by decide) dX4_copyFrom_53
set_option maxHeartbeats 4000000 in
set_option maxRecDepth 100000 in
theorem c208_X2_copyFrom (l : Launch) (D : va_G) (ct : Nat → ClassId) (a0 : Nat) (a1 : Nat) (a2 : Nat) (a3 : Nat) (a4 : Nat) (a5 : Nat) (f0 : Nat → Int32) (a6 : Nat) (a7 : Nat) (a8 : Nat) (f1 : Nat → Int32) (a9 : Nat) (a10 : Nat) (a11 : Nat) (a12 : Nat) (f2 : Nat → Int32) (a13 : Nat) (a14 : Nat) (a15 : Nat) (f3 : Nat → Int32) : CV l yX2_copyFrom cX2_copyFrom 2 none { frames := 2, cells := 0, slots := 0, locals := 81 } D ct [.ref a0, .ref a1] [(a1, .inr (2, [.int 0, .int 0, .int 0, .ref a2, .ref a3, .ref a4, .int 0, .int 0, .int 0, .int 0, .int 0, .ref a5, .int 0])), (a2, .inl (ct 0, 32, .inl f0)), (a3, .inl (ct 0, 35, .inl f0)), (a4, .inl (ct 0, 900, .inl f0)), (a5, .inr (4, [.ref a6, .ref a7, .ref a8, .int 0])), (a7, .inl (ct 0, 56, .inl f0)), (a8, .inl (ct 0, 8, .inl f0)), (a6, .inl (ct 0, 7, .inl f1)), (a0, .inr (2, [.int 0, .int 0, .int 0, .ref a9, .ref a10, .ref a11, .int 0, .int 0, .int 0, .int 0, .int 0, .ref a12, .int 0])), (a9, .inl (ct 0, 32, .inl f2)), (a10, .inl (ct 0, 35, .inl f2)), (a11, .inl (ct 0, 900, .inl f2)), (a12, .inr (4, [.ref a13, .ref a14, .ref a15, .int 0])), (a14, .inl (ct 0, 56, .inl f2)), (a15, .inl (ct 0, 8, .inl f2)), (a13, .inl (ct 0, 7, .inl f3))] True (fun u => [(a1, .inr (2, [.int 0, .int 0, .int 0, .ref a2, .ref a3, .ref a4, .int 0, .int 0, .int 0, .int 0, .int 0, .ref a5, .int 0])), (a2, .inl (ct 0, 32, .inl f0)), (a3, .inl (ct 0, 35, .inl f0)), (a4, .inl (ct 0, 900, .inl f0)), (a0, .inr (2, [.int 0, .int 0, .int 0, .ref a9, .ref a10, .ref a11, .int 0, .int 0, .int 0, .int 0, .int 0, .ref a12, .int 1])), (a9, .inl (ct 0, 32, .inl (va_cpy f0 f2 0 0 32))), (a10, .inl (ct 0, 35, .inl (va_cpy f0 f2 0 0 35))), (a11, .inl (ct 0, 900, .inl (va_cpy f0 f2 0 0 0))), (a5, .inr (4, [.ref a6, .ref a7, .ref a8, .int 0])), (a7, .inl (ct 0, 56, .inl f0)), (a8, .inl (ct 0, 8, .inl f0)), (a6, .inl (ct 0, 7, .inl f1)), (a12, .inr (4, [.ref a13, .ref a14, .ref a15, .int 0])), (a14, .inl (ct 0, 56, .inl (va_cpy f0 f2 0 0 56))), (a15, .inl (ct 0, 8, .inl (va_cpy f0 f2 0 0 8))), (a13, .inl (ct 0, 7, .inl (va_cpy f1 f3 0 0 7)))]) := by
  refine CV.of (by decide +kernel) (Nat.le_of_ble_eq_true rfl) ?_
  intro p e s m below meth c A ls hE
  obtain ⟨X, hr, hlk, hnm, hw, hl⟩ := hE
  have X : CX p m c cX2_copyFrom 2 s [.ref a0, .ref a1].toArray RX2 D ct := X
  have hl : lv_has ls 2 [(0, .ref a0), (1, .ref a1)] := hl
  obtain ⟨⟨hx, hb, hml, hown, hts⟩, hK⟩ := id X
  refine lv_aload_n hx hb dX2_copyFrom_0 rfl (lv_at hl 0 rfl) ?_
  refine lv_aload_n hx hb dX2_copyFrom_1 rfl (lv_at hl 1 rfl) ?_
  refine fg_208 X hw 0 rfl rfl dX2_copyFrom_2 ?_
  refine fp_208 X hw 8 rfl rfl rfl (Nat.le_of_ble_eq_true rfl) dX2_copyFrom_5 [(a1, .inr (2, [.int 0, .int 0, .int 0, .ref a2, .ref a3, .ref a4, .int 0, .int 0, .int 0, .int 0, .int 0, .ref a5, .int 0])), (a2, .inl (ct 0, 32, .inl f0)), (a3, .inl (ct 0, 35, .inl f0)), (a4, .inl (ct 0, 900, .inl f0)), (a5, .inr (4, [.ref a6, .ref a7, .ref a8, .int 0])), (a7, .inl (ct 0, 56, .inl f0)), (a8, .inl (ct 0, 8, .inl f0)), (a6, .inl (ct 0, 7, .inl f1)), (a0, .inr (2, [.int 0, .int 0, .int 0, .ref a9, .ref a10, .ref a11, .int 0, .int 0, .int 0, .int 0, .int 0, .ref a12, .int 0])), (a9, .inl (ct 0, 32, .inl f2)), (a10, .inl (ct 0, 35, .inl f2)), (a11, .inl (ct 0, 900, .inl f2)), (a12, .inr (4, [.ref a13, .ref a14, .ref a15, .int 0])), (a14, .inl (ct 0, 56, .inl f2)), (a15, .inl (ct 0, 8, .inl f2)), (a13, .inl (ct 0, 7, .inl f3))] rfl (fun H locs hw => ?_)
  refine lv_aload_n hx hb dX2_copyFrom_8 rfl (lv_at hl 0 rfl) ?_
  refine lv_aload_n hx hb dX2_copyFrom_9 rfl (lv_at hl 1 rfl) ?_
  refine fg_211 X hw 0 rfl rfl dX2_copyFrom_10 ?_
  refine fp_211 X hw 8 rfl rfl rfl (Nat.le_of_ble_eq_true rfl) dX2_copyFrom_13 [(a1, .inr (2, [.int 0, .int 0, .int 0, .ref a2, .ref a3, .ref a4, .int 0, .int 0, .int 0, .int 0, .int 0, .ref a5, .int 0])), (a2, .inl (ct 0, 32, .inl f0)), (a3, .inl (ct 0, 35, .inl f0)), (a4, .inl (ct 0, 900, .inl f0)), (a5, .inr (4, [.ref a6, .ref a7, .ref a8, .int 0])), (a7, .inl (ct 0, 56, .inl f0)), (a8, .inl (ct 0, 8, .inl f0)), (a6, .inl (ct 0, 7, .inl f1)), (a0, .inr (2, [.int 0, .int 0, .int 0, .ref a9, .ref a10, .ref a11, .int 0, .int 0, .int 0, .int 0, .int 0, .ref a12, .int 0])), (a9, .inl (ct 0, 32, .inl f2)), (a10, .inl (ct 0, 35, .inl f2)), (a11, .inl (ct 0, 900, .inl f2)), (a12, .inr (4, [.ref a13, .ref a14, .ref a15, .int 0])), (a14, .inl (ct 0, 56, .inl f2)), (a15, .inl (ct 0, 8, .inl f2)), (a13, .inl (ct 0, 7, .inl f3))] rfl (fun H locs hw => ?_)
  refine lv_aload_n hx hb dX2_copyFrom_16 rfl (lv_at hl 0 rfl) ?_
  refine lv_aload_n hx hb dX2_copyFrom_17 rfl (lv_at hl 1 rfl) ?_
  refine fg_218 X hw 0 rfl rfl dX2_copyFrom_18 ?_
  refine fp_218 X hw 8 rfl rfl rfl (Nat.le_of_ble_eq_true rfl) dX2_copyFrom_21 [(a1, .inr (2, [.int 0, .int 0, .int 0, .ref a2, .ref a3, .ref a4, .int 0, .int 0, .int 0, .int 0, .int 0, .ref a5, .int 0])), (a2, .inl (ct 0, 32, .inl f0)), (a3, .inl (ct 0, 35, .inl f0)), (a4, .inl (ct 0, 900, .inl f0)), (a5, .inr (4, [.ref a6, .ref a7, .ref a8, .int 0])), (a7, .inl (ct 0, 56, .inl f0)), (a8, .inl (ct 0, 8, .inl f0)), (a6, .inl (ct 0, 7, .inl f1)), (a0, .inr (2, [.int 0, .int 0, .int 0, .ref a9, .ref a10, .ref a11, .int 0, .int 0, .int 0, .int 0, .int 0, .ref a12, .int 0])), (a9, .inl (ct 0, 32, .inl f2)), (a10, .inl (ct 0, 35, .inl f2)), (a11, .inl (ct 0, 900, .inl f2)), (a12, .inr (4, [.ref a13, .ref a14, .ref a15, .int 0])), (a14, .inl (ct 0, 56, .inl f2)), (a15, .inl (ct 0, 8, .inl f2)), (a13, .inl (ct 0, 7, .inl f3))] rfl (fun H locs hw => ?_)
  refine lv_aload_n hx hb dX2_copyFrom_24 rfl (lv_at hl 1 rfl) ?_
  refine fg_226 X hw 0 rfl rfl dX2_copyFrom_25 ?_
  refine lv_iconst (v := 0) hx hb dX2_copyFrom_28 (by decide) ?_
  refine lv_aload_n hx hb dX2_copyFrom_29 rfl (lv_at hl 0 rfl) ?_
  refine fg_226 X hw 8 rfl rfl dX2_copyFrom_30 ?_
  refine lv_iconst (v := 0) hx hb dX2_copyFrom_33 (by decide) ?_
  refine lv_aload_n hx hb dX2_copyFrom_34 rfl (lv_at hl 0 rfl) ?_
  refine fg_226 X hw 8 rfl rfl dX2_copyFrom_35 ?_
  refine k_alen (v := 32) X hw 9 0 rfl rfl rfl dX2_copyFrom_38 ?_
  refine k_copyi X hl.1 wd_861 wd_863 wd_862 wd_149 hw 1 9 rfl rfl (by decide) (by decide) (by decide) (by decide) (by decide) (by decide) (Nat.le_of_ble_eq_true rfl) dX2_copyFrom_39 [(a1, .inr (2, [.int 0, .int 0, .int 0, .ref a2, .ref a3, .ref a4, .int 0, .int 0, .int 0, .int 0, .int 0, .ref a5, .int 0])), (a2, .inl (ct 0, 32, .inl f0)), (a3, .inl (ct 0, 35, .inl f0)), (a4, .inl (ct 0, 900, .inl f0)), (a5, .inr (4, [.ref a6, .ref a7, .ref a8, .int 0])), (a7, .inl (ct 0, 56, .inl f0)), (a8, .inl (ct 0, 8, .inl f0)), (a6, .inl (ct 0, 7, .inl f1)), (a0, .inr (2, [.int 0, .int 0, .int 0, .ref a9, .ref a10, .ref a11, .int 0, .int 0, .int 0, .int 0, .int 0, .ref a12, .int 0])), (a9, .inl (ct 0, 32, .inl (va_cpy f0 f2 0 0 32))), (a10, .inl (ct 0, 35, .inl f2)), (a11, .inl (ct 0, 900, .inl f2)), (a12, .inr (4, [.ref a13, .ref a14, .ref a15, .int 0])), (a14, .inl (ct 0, 56, .inl f2)), (a15, .inl (ct 0, 8, .inl f2)), (a13, .inl (ct 0, 7, .inl f3))] rfl (fun H locs hw => ?_)
  refine lv_aload_n hx hb dX2_copyFrom_42 rfl (lv_at hl 1 rfl) ?_
  refine fg_228 X hw 0 rfl rfl dX2_copyFrom_43 ?_
  refine lv_iconst (v := 0) hx hb dX2_copyFrom_46 (by decide) ?_
  refine lv_aload_n hx hb dX2_copyFrom_47 rfl (lv_at hl 0 rfl) ?_
  refine fg_228 X hw 8 rfl rfl dX2_copyFrom_48 ?_
  refine lv_iconst (v := 0) hx hb dX2_copyFrom_51 (by decide) ?_
  refine lv_aload_n hx hb dX2_copyFrom_52 rfl (lv_at hl 0 rfl) ?_
  refine fg_228 X hw 8 rfl rfl dX2_copyFrom_53 ?_
  refine k_alen (v := 35) X hw 10 0 rfl rfl rfl dX2_copyFrom_56 ?_
  refine k_copyi X hl.1 wd_861 wd_863 wd_862 wd_149 hw 2 10 rfl rfl (by decide) (by decide) (by decide) (by decide) (by decide) (by decide) (Nat.le_of_ble_eq_true rfl) dX2_copyFrom_57 [(a1, .inr (2, [.int 0, .int 0, .int 0, .ref a2, .ref a3, .ref a4, .int 0, .int 0, .int 0, .int 0, .int 0, .ref a5, .int 0])), (a2, .inl (ct 0, 32, .inl f0)), (a3, .inl (ct 0, 35, .inl f0)), (a4, .inl (ct 0, 900, .inl f0)), (a5, .inr (4, [.ref a6, .ref a7, .ref a8, .int 0])), (a7, .inl (ct 0, 56, .inl f0)), (a8, .inl (ct 0, 8, .inl f0)), (a6, .inl (ct 0, 7, .inl f1)), (a0, .inr (2, [.int 0, .int 0, .int 0, .ref a9, .ref a10, .ref a11, .int 0, .int 0, .int 0, .int 0, .int 0, .ref a12, .int 0])), (a9, .inl (ct 0, 32, .inl (va_cpy f0 f2 0 0 32))), (a10, .inl (ct 0, 35, .inl (va_cpy f0 f2 0 0 35))), (a11, .inl (ct 0, 900, .inl f2)), (a12, .inr (4, [.ref a13, .ref a14, .ref a15, .int 0])), (a14, .inl (ct 0, 56, .inl f2)), (a15, .inl (ct 0, 8, .inl f2)), (a13, .inl (ct 0, 7, .inl f3))] rfl (fun H locs hw => ?_)
  refine lv_aload_n hx hb dX2_copyFrom_60 rfl (lv_at hl 1 rfl) ?_
  refine fg_230 X hw 0 rfl rfl dX2_copyFrom_61 ?_
  refine lv_iconst (v := 0) hx hb dX2_copyFrom_64 (by decide) ?_
  refine lv_aload_n hx hb dX2_copyFrom_65 rfl (lv_at hl 0 rfl) ?_
  refine fg_230 X hw 8 rfl rfl dX2_copyFrom_66 ?_
  refine lv_iconst (v := 0) hx hb dX2_copyFrom_69 (by decide) ?_
  refine lv_aload_n hx hb dX2_copyFrom_70 rfl (lv_at hl 1 rfl) ?_
  refine fg_233 X hw 0 rfl rfl dX2_copyFrom_71 ?_
  refine k_copyi X hl.1 wd_861 wd_863 wd_862 wd_149 hw 3 11 rfl rfl (by decide) (by decide) (by decide) (by decide) (by decide) (by decide) (Nat.le_of_ble_eq_true rfl) dX2_copyFrom_74 [(a1, .inr (2, [.int 0, .int 0, .int 0, .ref a2, .ref a3, .ref a4, .int 0, .int 0, .int 0, .int 0, .int 0, .ref a5, .int 0])), (a2, .inl (ct 0, 32, .inl f0)), (a3, .inl (ct 0, 35, .inl f0)), (a4, .inl (ct 0, 900, .inl f0)), (a5, .inr (4, [.ref a6, .ref a7, .ref a8, .int 0])), (a7, .inl (ct 0, 56, .inl f0)), (a8, .inl (ct 0, 8, .inl f0)), (a6, .inl (ct 0, 7, .inl f1)), (a0, .inr (2, [.int 0, .int 0, .int 0, .ref a9, .ref a10, .ref a11, .int 0, .int 0, .int 0, .int 0, .int 0, .ref a12, .int 0])), (a9, .inl (ct 0, 32, .inl (va_cpy f0 f2 0 0 32))), (a10, .inl (ct 0, 35, .inl (va_cpy f0 f2 0 0 35))), (a11, .inl (ct 0, 900, .inl (va_cpy f0 f2 0 0 0))), (a12, .inr (4, [.ref a13, .ref a14, .ref a15, .int 0])), (a14, .inl (ct 0, 56, .inl f2)), (a15, .inl (ct 0, 8, .inl f2)), (a13, .inl (ct 0, 7, .inl f3))] rfl (fun H locs hw => ?_)
  refine lv_aload_n hx hb dX2_copyFrom_77 rfl (lv_at hl 0 rfl) ?_
  refine lv_aload_n hx hb dX2_copyFrom_78 rfl (lv_at hl 1 rfl) ?_
  refine fg_233 X hw 0 rfl rfl dX2_copyFrom_79 ?_
  refine fp_233 X hw 8 rfl rfl rfl (Nat.le_of_ble_eq_true rfl) dX2_copyFrom_82 [(a1, .inr (2, [.int 0, .int 0, .int 0, .ref a2, .ref a3, .ref a4, .int 0, .int 0, .int 0, .int 0, .int 0, .ref a5, .int 0])), (a2, .inl (ct 0, 32, .inl f0)), (a3, .inl (ct 0, 35, .inl f0)), (a4, .inl (ct 0, 900, .inl f0)), (a5, .inr (4, [.ref a6, .ref a7, .ref a8, .int 0])), (a7, .inl (ct 0, 56, .inl f0)), (a8, .inl (ct 0, 8, .inl f0)), (a6, .inl (ct 0, 7, .inl f1)), (a0, .inr (2, [.int 0, .int 0, .int 0, .ref a9, .ref a10, .ref a11, .int 0, .int 0, .int 0, .int 0, .int 0, .ref a12, .int 0])), (a9, .inl (ct 0, 32, .inl (va_cpy f0 f2 0 0 32))), (a10, .inl (ct 0, 35, .inl (va_cpy f0 f2 0 0 35))), (a11, .inl (ct 0, 900, .inl (va_cpy f0 f2 0 0 0))), (a12, .inr (4, [.ref a13, .ref a14, .ref a15, .int 0])), (a14, .inl (ct 0, 56, .inl f2)), (a15, .inl (ct 0, 8, .inl f2)), (a13, .inl (ct 0, 7, .inl f3))] rfl (fun H locs hw => ?_)
  refine lv_aload_n hx hb dX2_copyFrom_85 rfl (lv_at hl 0 rfl) ?_
  refine lv_aload_n hx hb dX2_copyFrom_86 rfl (lv_at hl 1 rfl) ?_
  refine fg_235 X hw 0 rfl rfl dX2_copyFrom_87 ?_
  refine fp_235 X hw 8 rfl rfl rfl (Nat.le_of_ble_eq_true rfl) dX2_copyFrom_90 [(a1, .inr (2, [.int 0, .int 0, .int 0, .ref a2, .ref a3, .ref a4, .int 0, .int 0, .int 0, .int 0, .int 0, .ref a5, .int 0])), (a2, .inl (ct 0, 32, .inl f0)), (a3, .inl (ct 0, 35, .inl f0)), (a4, .inl (ct 0, 900, .inl f0)), (a5, .inr (4, [.ref a6, .ref a7, .ref a8, .int 0])), (a7, .inl (ct 0, 56, .inl f0)), (a8, .inl (ct 0, 8, .inl f0)), (a6, .inl (ct 0, 7, .inl f1)), (a0, .inr (2, [.int 0, .int 0, .int 0, .ref a9, .ref a10, .ref a11, .int 0, .int 0, .int 0, .int 0, .int 0, .ref a12, .int 0])), (a9, .inl (ct 0, 32, .inl (va_cpy f0 f2 0 0 32))), (a10, .inl (ct 0, 35, .inl (va_cpy f0 f2 0 0 35))), (a11, .inl (ct 0, 900, .inl (va_cpy f0 f2 0 0 0))), (a12, .inr (4, [.ref a13, .ref a14, .ref a15, .int 0])), (a14, .inl (ct 0, 56, .inl f2)), (a15, .inl (ct 0, 8, .inl f2)), (a13, .inl (ct 0, 7, .inl f3))] rfl (fun H locs hw => ?_)
  refine lv_aload_n hx hb dX2_copyFrom_93 rfl (lv_at hl 0 rfl) ?_
  refine lv_aload_n hx hb dX2_copyFrom_94 rfl (lv_at hl 1 rfl) ?_
  refine fg_238 X hw 0 rfl rfl dX2_copyFrom_95 ?_
  refine fp_238 X hw 8 rfl rfl rfl (Nat.le_of_ble_eq_true rfl) dX2_copyFrom_98 [(a1, .inr (2, [.int 0, .int 0, .int 0, .ref a2, .ref a3, .ref a4, .int 0, .int 0, .int 0, .int 0, .int 0, .ref a5, .int 0])), (a2, .inl (ct 0, 32, .inl f0)), (a3, .inl (ct 0, 35, .inl f0)), (a4, .inl (ct 0, 900, .inl f0)), (a5, .inr (4, [.ref a6, .ref a7, .ref a8, .int 0])), (a7, .inl (ct 0, 56, .inl f0)), (a8, .inl (ct 0, 8, .inl f0)), (a6, .inl (ct 0, 7, .inl f1)), (a0, .inr (2, [.int 0, .int 0, .int 0, .ref a9, .ref a10, .ref a11, .int 0, .int 0, .int 0, .int 0, .int 0, .ref a12, .int 0])), (a9, .inl (ct 0, 32, .inl (va_cpy f0 f2 0 0 32))), (a10, .inl (ct 0, 35, .inl (va_cpy f0 f2 0 0 35))), (a11, .inl (ct 0, 900, .inl (va_cpy f0 f2 0 0 0))), (a12, .inr (4, [.ref a13, .ref a14, .ref a15, .int 0])), (a14, .inl (ct 0, 56, .inl f2)), (a15, .inl (ct 0, 8, .inl f2)), (a13, .inl (ct 0, 7, .inl f3))] rfl (fun H locs hw => ?_)
  refine lv_aload_n hx hb dX2_copyFrom_101 rfl (lv_at hl 0 rfl) ?_
  refine lv_aload_n hx hb dX2_copyFrom_102 rfl (lv_at hl 1 rfl) ?_
  refine fg_241 X hw 0 rfl rfl dX2_copyFrom_103 ?_
  refine fp_241 X hw 8 rfl rfl rfl (Nat.le_of_ble_eq_true rfl) dX2_copyFrom_106 [(a1, .inr (2, [.int 0, .int 0, .int 0, .ref a2, .ref a3, .ref a4, .int 0, .int 0, .int 0, .int 0, .int 0, .ref a5, .int 0])), (a2, .inl (ct 0, 32, .inl f0)), (a3, .inl (ct 0, 35, .inl f0)), (a4, .inl (ct 0, 900, .inl f0)), (a5, .inr (4, [.ref a6, .ref a7, .ref a8, .int 0])), (a7, .inl (ct 0, 56, .inl f0)), (a8, .inl (ct 0, 8, .inl f0)), (a6, .inl (ct 0, 7, .inl f1)), (a0, .inr (2, [.int 0, .int 0, .int 0, .ref a9, .ref a10, .ref a11, .int 0, .int 0, .int 0, .int 0, .int 0, .ref a12, .int 0])), (a9, .inl (ct 0, 32, .inl (va_cpy f0 f2 0 0 32))), (a10, .inl (ct 0, 35, .inl (va_cpy f0 f2 0 0 35))), (a11, .inl (ct 0, 900, .inl (va_cpy f0 f2 0 0 0))), (a12, .inr (4, [.ref a13, .ref a14, .ref a15, .int 0])), (a14, .inl (ct 0, 56, .inl f2)), (a15, .inl (ct 0, 8, .inl f2)), (a13, .inl (ct 0, 7, .inl f3))] rfl (fun H locs hw => ?_)
  refine lv_aload_n hx hb dX2_copyFrom_109 rfl (lv_at hl 0 rfl) ?_
  refine lv_aload_n hx hb dX2_copyFrom_110 rfl (lv_at hl 1 rfl) ?_
  refine fg_244 X hw 0 rfl rfl dX2_copyFrom_111 ?_
  refine fp_244 X hw 8 rfl rfl rfl (Nat.le_of_ble_eq_true rfl) dX2_copyFrom_114 [(a1, .inr (2, [.int 0, .int 0, .int 0, .ref a2, .ref a3, .ref a4, .int 0, .int 0, .int 0, .int 0, .int 0, .ref a5, .int 0])), (a2, .inl (ct 0, 32, .inl f0)), (a3, .inl (ct 0, 35, .inl f0)), (a4, .inl (ct 0, 900, .inl f0)), (a5, .inr (4, [.ref a6, .ref a7, .ref a8, .int 0])), (a7, .inl (ct 0, 56, .inl f0)), (a8, .inl (ct 0, 8, .inl f0)), (a6, .inl (ct 0, 7, .inl f1)), (a0, .inr (2, [.int 0, .int 0, .int 0, .ref a9, .ref a10, .ref a11, .int 0, .int 0, .int 0, .int 0, .int 0, .ref a12, .int 0])), (a9, .inl (ct 0, 32, .inl (va_cpy f0 f2 0 0 32))), (a10, .inl (ct 0, 35, .inl (va_cpy f0 f2 0 0 35))), (a11, .inl (ct 0, 900, .inl (va_cpy f0 f2 0 0 0))), (a12, .inr (4, [.ref a13, .ref a14, .ref a15, .int 0])), (a14, .inl (ct 0, 56, .inl f2)), (a15, .inl (ct 0, 8, .inl f2)), (a13, .inl (ct 0, 7, .inl f3))] rfl (fun H locs hw => ?_)
  refine lv_aload_n hx hb dX2_copyFrom_117 rfl (lv_at hl 0 rfl) ?_
  refine fg_247 X hw 8 rfl rfl dX2_copyFrom_118 ?_
  refine lv_aload_n hx hb dX2_copyFrom_121 rfl (lv_at hl 1 rfl) ?_
  refine fg_247 X hw 0 rfl rfl dX2_copyFrom_122 ?_
  refine m_Vv (As := [.ref a5]) (rest := []) (c207_X4_copyFrom l D ct a12 a5 a6 a7 a8 f0 f1 a13 a14 a15 f2 f3) X hl.1 kw_864 kd_yX4_copyFrom hw [4, 5, 6, 7, 12, 13, 14, 15] [0, 1, 2, 3, 8, 9, 10, 11] rfl rfl rfl rfl (by decide) 4 rfl rfl ⟨by decide, by decide⟩ rfl rfl (Nat.le_of_ble_eq_true rfl) dX2_copyFrom_125 ⟨by decide, by decide⟩ (fun u2 H locs hr3 hw => ?_)
  replace hw : WD D A s.heap _ _ [(a1, .inr (2, [.int 0, .int 0, .int 0, .ref a2, .ref a3, .ref a4, .int 0, .int 0, .int 0, .int 0, .int 0, .ref a5, .int 0])), (a2, .inl (ct 0, 32, .inl f0)), (a3, .inl (ct 0, 35, .inl f0)), (a4, .inl (ct 0, 900, .inl f0)), (a0, .inr (2, [.int 0, .int 0, .int 0, .ref a9, .ref a10, .ref a11, .int 0, .int 0, .int 0, .int 0, .int 0, .ref a12, .int 0])), (a9, .inl (ct 0, 32, .inl (va_cpy f0 f2 0 0 32))), (a10, .inl (ct 0, 35, .inl (va_cpy f0 f2 0 0 35))), (a11, .inl (ct 0, 900, .inl (va_cpy f0 f2 0 0 0))), (a5, .inr (4, [.ref a6, .ref a7, .ref a8, .int 0])), (a7, .inl (ct 0, 56, .inl f0)), (a8, .inl (ct 0, 8, .inl f0)), (a6, .inl (ct 0, 7, .inl f1)), (a12, .inr (4, [.ref a13, .ref a14, .ref a15, .int 0])), (a14, .inl (ct 0, 56, .inl (va_cpy f0 f2 0 0 56))), (a15, .inl (ct 0, 8, .inl (va_cpy f0 f2 0 0 8))), (a13, .inl (ct 0, 7, .inl (va_cpy f1 f3 0 0 7)))] := hw
  refine lv_aload_n hx hb dX2_copyFrom_128 rfl (lv_at hl 0 rfl) ?_
  refine lv_dup hx hb dX2_copyFrom_129 rfl ?_
  refine fg_254 X hw 4 rfl rfl dX2_copyFrom_130 ?_
  refine lv_iconst (v := 1) hx hb dX2_copyFrom_133 (by decide) ?_
  refine kv_iadd (v := 1) hx hb (by decide) dX2_copyFrom_134 ?_
  refine fp_254 X hw 4 rfl rfl rfl (Nat.le_of_ble_eq_true rfl) dX2_copyFrom_135 [(a1, .inr (2, [.int 0, .int 0, .int 0, .ref a2, .ref a3, .ref a4, .int 0, .int 0, .int 0, .int 0, .int 0, .ref a5, .int 0])), (a2, .inl (ct 0, 32, .inl f0)), (a3, .inl (ct 0, 35, .inl f0)), (a4, .inl (ct 0, 900, .inl f0)), (a0, .inr (2, [.int 0, .int 0, .int 0, .ref a9, .ref a10, .ref a11, .int 0, .int 0, .int 0, .int 0, .int 0, .ref a12, .int 1])), (a9, .inl (ct 0, 32, .inl (va_cpy f0 f2 0 0 32))), (a10, .inl (ct 0, 35, .inl (va_cpy f0 f2 0 0 35))), (a11, .inl (ct 0, 900, .inl (va_cpy f0 f2 0 0 0))), (a5, .inr (4, [.ref a6, .ref a7, .ref a8, .int 0])), (a7, .inl (ct 0, 56, .inl f0)), (a8, .inl (ct 0, 8, .inl f0)), (a6, .inl (ct 0, 7, .inl f1)), (a12, .inr (4, [.ref a13, .ref a14, .ref a15, .int 0])), (a14, .inl (ct 0, 56, .inl (va_cpy f0 f2 0 0 56))), (a15, .inl (ct 0, 8, .inl (va_cpy f0 f2 0 0 8))), (a13, .inl (ct 0, 7, .inl (va_cpy f1 f3 0 0 7)))] rfl (fun H locs hw => ?_)
  exact r_v X hr hlk hw [0, 1, 2, 3, 4, 5, 6, 7, 8, 9, 10, 11, 12, 13, 14, 15] (fun _ => 0) rfl rfl trivial (by decide) (by decide) dX2_copyFrom_138
set_option maxHeartbeats 4000000 in
set_option maxRecDepth 100000 in
theorem c209_X11_image (l : Launch) (D : va_G) (ct : Nat → ClassId) (a0 : Nat) (p0 : Int32) (a1 : Nat) (a2 : Nat) (a3 : Nat) (a4 : Nat) (a5 : Nat) (a6 : Nat) (a7 : Nat) (a8 : Nat) (a9 : Nat) (a10 : Nat) (a11 : Nat) (a12 : Nat) (a13 : Nat) (a14 : Nat) (a15 : Nat) (a16 : Nat) (a17 : Nat) (a18 : Nat) (a19 : Nat) (f0 : Nat → Int32) (a20 : Nat) (a21 : Nat) (a22 : Nat) (f1 : Nat → Int32) : CI l yX11_image cX11_image 2 (some .int) { frames := 3, cells := 8, slots := 1055, locals := 102 } D ct [.ref a0, .int p0] [(a0, .inr (11, [.ref a1, .int 0, .ref a2, .ref a3, .ref a4, .ref a5, .ref a6, .ref a7, .ref a8, .ref a9, .ref a10, .ref a11, .ref a12, .ref a13, .ref a14, .ref a15, .int (-1), .int (-1)])), (a2, .inr (2, [.int 0, .int 0, .int 0, .ref a16, .ref a17, .ref a18, .int 0, .int 0, .int 0, .int 0, .int 0, .ref a19, .int 0])), (a16, .inl (ct 0, 32, .inl f0)), (a17, .inl (ct 0, 35, .inl f0)), (a18, .inl (ct 0, 900, .inl f0)), (a19, .inr (4, [.ref a20, .ref a21, .ref a22, .int 0])), (a21, .inl (ct 0, 56, .inl f0)), (a22, .inl (ct 0, 8, .inl f0)), (a20, .inl (ct 0, 7, .inl f1)), (a13, .inl (ct 6, 2, .inr (.inr (.inr (.inr (fun _ => none))))))] (fun r => ((p0.toInt < 0) ∨ (p0.toInt ≥ 0 ∧ p0.toInt ≥ 2)) ∧ r = (-2) ∨ ((p0.toInt ≥ 0 ∧ p0.toInt < 2 ∧ p0.toInt = 0) ∨ (p0.toInt ≥ 0 ∧ p0.toInt < 2 ∧ p0.toInt = 1)) ∧ r = 0) (fun u => []) := by
  refine CI.of (by decide +kernel) (Nat.le_of_ble_eq_true rfl) ?_
  intro p e s m below meth c A ls hE
  obtain ⟨X, hr, hlk, hnm, hw, hl⟩ := hE
  have X : CX p m c cX11_image 2 s [.ref a0, .int p0].toArray RX11 D ct := X
  have hl : lv_has ls 2 [(0, .ref a0), (1, .int p0)] := hl
  obtain ⟨⟨hx, hb, hml, hown, hts⟩, hK⟩ := id X
  refine lv_iload_n hx hb dX11_image_0 rfl (lv_at hl 1 rfl) ?_
  refine lv_if_lt (tgt := 9) hx hb dX11_image_1 (by decide) (fun h1 => ?_) (fun h1 => ?_)
  · have h1 : p0.toInt < 0 := by have q := ci_lt (a := p0.toInt) (b := 0) rfl (by decide) h1; omega
    refine lv_bipush (v := (-2)) hx hb dX11_image_9 (by decide) ?_
    exact r_i X hr hlk hw [] (fun _ => 0) rfl rfl (Or.inl (⟨Or.inl (h1), rfl⟩)) (by decide) (by decide) dX11_image_11
  · have h1 : p0.toInt ≥ 0 := by have q := ci_nlt (a := p0.toInt) (b := 0) rfl (by decide) h1; omega
    refine lv_iload_n hx hb dX11_image_4 rfl (lv_at hl 1 rfl) ?_
    refine lv_iconst (v := 2) hx hb dX11_image_5 (by decide) ?_
    refine lv_icmp_lt (tgt := 12) hx hb dX11_image_6 (by decide) (fun h2 => ?_) (fun h2 => ?_)
    · have h2 : p0.toInt < 2 := by have q := ci_lt (a := p0.toInt) (b := 2) rfl (by decide) h2; omega
      refine lv_aload_n hx hb dX11_image_12 rfl (lv_at hl 0 rfl) ?_
      refine fg_578 X hw 0 rfl rfl dX11_image_13 ?_
      refine lv_iload_n hx hb dX11_image_16 rfl (lv_at hl 1 rfl) ?_
      rcases (show p0.toInt = 0 ∨ p0.toInt = 1 by omega) with e3 | e3
      · skip
        obtain rfl : p0 = 0 := i32_of e3
        refine j_aldq (j := 0) (v := .null) X hw 9 6 rfl rfl (by decide) (by decide) (by decide) rfl dX11_image_17 ?_
        refine lv_ifnonnullN hx hb dX11_image_18 ?_
        refine lv_aload_n hx hb dX11_image_21 rfl (lv_at hl 0 rfl) ?_
        refine fg_578 X hw 0 rfl rfl dX11_image_22 ?_
        refine lv_iload_n hx hb dX11_image_25 rfl (lv_at hl 1 rfl) ?_
        refine k_new (ci := 2) (fs := [.int 0, .int 0, .int 0, .null, .null, .null, .int 0, .int 0, .int 0, .int 0, .int 0, .null, .int 0]) X hw inT2 tyX2 tyX2_ok wd_159 wd_160 wd_130 rfl (by decide) (by decide) (by decide) dX11_image_26 (fun q4 H hw => ?_)
        replace hw : WD D A s.heap _ _ [(a0, .inr (11, [.ref a1, .int 0, .ref a2, .ref a3, .ref a4, .ref a5, .ref a6, .ref a7, .ref a8, .ref a9, .ref a10, .ref a11, .ref a12, .ref a13, .ref a14, .ref a15, .int (-1), .int (-1)])), (a2, .inr (2, [.int 0, .int 0, .int 0, .ref a16, .ref a17, .ref a18, .int 0, .int 0, .int 0, .int 0, .int 0, .ref a19, .int 0])), (a16, .inl (ct 0, 32, .inl f0)), (a17, .inl (ct 0, 35, .inl f0)), (a18, .inl (ct 0, 900, .inl f0)), (a19, .inr (4, [.ref a20, .ref a21, .ref a22, .int 0])), (a21, .inl (ct 0, 56, .inl f0)), (a22, .inl (ct 0, 8, .inl f0)), (a20, .inl (ct 0, 7, .inl f1)), (a13, .inl (ct 6, 2, .inr (.inr (.inr (.inr (fun _ => none)))))), (q4, .inr (2, [.int 0, .int 0, .int 0, .null, .null, .null, .int 0, .int 0, .int 0, .int 0, .int 0, .null, .int 0]))] := hw
        refine lv_dup hx hb dX11_image_29 rfl ?_
        refine m_Nv (As := []) (rest := [.ref q4, .int 0, .ref a13]) (c3_X2_init l D ct q4) X hl.1 wd_163 wd_130 hK.2.2.1 wd_162 rfl kd_yX2_init hw [10] [0, 1, 2, 3, 4, 5, 6, 7, 8, 9] rfl rfl rfl rfl (by decide) ⟨by decide, by decide⟩ rfl rfl (Nat.le_of_ble_eq_true rfl) dX11_image_30 ⟨by decide, by decide⟩ (fun u6 H locs hr7 hw => ?_)
        replace hw : WD D A s.heap _ _ [(a0, .inr (11, [.ref a1, .int 0, .ref a2, .ref a3, .ref a4, .ref a5, .ref a6, .ref a7, .ref a8, .ref a9, .ref a10, .ref a11, .ref a12, .ref a13, .ref a14, .ref a15, .int (-1), .int (-1)])), (a2, .inr (2, [.int 0, .int 0, .int 0, .ref a16, .ref a17, .ref a18, .int 0, .int 0, .int 0, .int 0, .int 0, .ref a19, .int 0])), (a16, .inl (ct 0, 32, .inl f0)), (a17, .inl (ct 0, 35, .inl f0)), (a18, .inl (ct 0, 900, .inl f0)), (a19, .inr (4, [.ref a20, .ref a21, .ref a22, .int 0])), (a21, .inl (ct 0, 56, .inl f0)), (a22, .inl (ct 0, 8, .inl f0)), (a20, .inl (ct 0, 7, .inl f1)), (a13, .inl (ct 6, 2, .inr (.inr (.inr (.inr (fun _ => none)))))), (q4, .inr (2, [.int 0, .int 0, .int 0, .ref (u6 0), .ref (u6 1), .ref (u6 2), .int 0, .int 0, .int 0, .int 0, .int 0, .ref (u6 3), .int 0])), ((u6 0), .inl (ct 0, 32, .inl (fun _ => 0))), ((u6 1), .inl (ct 0, 35, .inl (fun _ => 0))), ((u6 2), .inl (ct 0, 900, .inl (fun _ => 0))), ((u6 3), .inr (4, [.ref (u6 6), .ref (u6 4), .ref (u6 5), .int 0])), ((u6 4), .inl (ct 0, 56, .inl (fun _ => 0))), ((u6 5), .inl (ct 0, 8, .inl (fun _ => 0))), ((u6 6), .inl (ct 0, 7, .inl (va_cpy (fun _ => (-1)) (fun _ => 0) 0 0 7)))] := hw
        refine j_astq (j := 0) X hw 9 6 10 2 rfl rfl rfl rfl (by decide) (by decide) (by decide) dX11_image_33 [(a0, .inr (11, [.ref a1, .int 0, .ref a2, .ref a3, .ref a4, .ref a5, .ref a6, .ref a7, .ref a8, .ref a9, .ref a10, .ref a11, .ref a12, .ref a13, .ref a14, .ref a15, .int (-1), .int (-1)])), (a2, .inr (2, [.int 0, .int 0, .int 0, .ref a16, .ref a17, .ref a18, .int 0, .int 0, .int 0, .int 0, .int 0, .ref a19, .int 0])), (a16, .inl (ct 0, 32, .inl f0)), (a17, .inl (ct 0, 35, .inl f0)), (a18, .inl (ct 0, 900, .inl f0)), (a19, .inr (4, [.ref a20, .ref a21, .ref a22, .int 0])), (a21, .inl (ct 0, 56, .inl f0)), (a22, .inl (ct 0, 8, .inl f0)), (a20, .inl (ct 0, 7, .inl f1)), (a13, .inl (ct 6, 2, .inr (.inr (.inr (.inr (va_up (fun _ => none) 0 (some q4))))))), (q4, .inr (2, [.int 0, .int 0, .int 0, .ref (u6 0), .ref (u6 1), .ref (u6 2), .int 0, .int 0, .int 0, .int 0, .int 0, .ref (u6 3), .int 0])), ((u6 0), .inl (ct 0, 32, .inl (fun _ => 0))), ((u6 1), .inl (ct 0, 35, .inl (fun _ => 0))), ((u6 2), .inl (ct 0, 900, .inl (fun _ => 0))), ((u6 3), .inr (4, [.ref (u6 6), .ref (u6 4), .ref (u6 5), .int 0])), ((u6 4), .inl (ct 0, 56, .inl (fun _ => 0))), ((u6 5), .inl (ct 0, 8, .inl (fun _ => 0))), ((u6 6), .inl (ct 0, 7, .inl (va_cpy (fun _ => (-1)) (fun _ => 0) 0 0 7)))] rfl (fun H locs hw => ?_)
        refine lv_aload_n hx hb dX11_image_34 rfl (lv_at hl 0 rfl) ?_
        refine fg_578 X hw 0 rfl rfl dX11_image_35 ?_
        refine lv_iload_n hx hb dX11_image_38 rfl (lv_at hl 1 rfl) ?_
        refine j_aldq (j := 0) (v := .ref q4) X hw 9 6 rfl rfl (by decide) (by decide) (by decide) rfl dX11_image_39 ?_
        refine lv_aload_n hx hb dX11_image_40 rfl (lv_at hl 0 rfl) ?_
        refine fg_567 X hw 0 rfl rfl dX11_image_41 ?_
        refine m_Vv (As := [.ref a2]) (rest := []) (c208_X2_copyFrom l D ct q4 a2 a16 a17 a18 a19 f0 a20 a21 a22 f1 ((u6 0)) ((u6 1)) ((u6 2)) ((u6 3)) (fun _ => 0) ((u6 6)) ((u6 4)) ((u6 5)) (va_cpy (fun _ => (-1)) (fun _ => 0) 0 0 7)) X hl.1 kw_857 kd_yX2_copyFrom hw [1, 2, 3, 4, 5, 6, 7, 8, 10, 11, 12, 13, 14, 15, 16, 17] [0, 9] rfl rfl rfl rfl (by decide) 8 rfl rfl ⟨by decide, by decide⟩ rfl rfl (Nat.le_of_ble_eq_true rfl) dX11_image_44 ⟨by decide, by decide⟩ (fun u9 H locs hr10 hw => ?_)
        replace hw : WD D A s.heap _ _ [(a0, .inr (11, [.ref a1, .int 0, .ref a2, .ref a3, .ref a4, .ref a5, .ref a6, .ref a7, .ref a8, .ref a9, .ref a10, .ref a11, .ref a12, .ref a13, .ref a14, .ref a15, .int (-1), .int (-1)])), (a13, .inl (ct 6, 2, .inr (.inr (.inr (.inr (va_up (fun _ => none) 0 (some q4))))))), (a2, .inr (2, [.int 0, .int 0, .int 0, .ref a16, .ref a17, .ref a18, .int 0, .int 0, .int 0, .int 0, .int 0, .ref a19, .int 0])), (a16, .inl (ct 0, 32, .inl f0)), (a17, .inl (ct 0, 35, .inl f0)), (a18, .inl (ct 0, 900, .inl f0)), (q4, .inr (2, [.int 0, .int 0, .int 0, .ref (u6 0), .ref (u6 1), .ref (u6 2), .int 0, .int 0, .int 0, .int 0, .int 0, .ref (u6 3), .int 1])), ((u6 0), .inl (ct 0, 32, .inl (va_cpy f0 (fun _ => 0) 0 0 32))), ((u6 1), .inl (ct 0, 35, .inl (va_cpy f0 (fun _ => 0) 0 0 35))), ((u6 2), .inl (ct 0, 900, .inl (va_cpy f0 (fun _ => 0) 0 0 0))), (a19, .inr (4, [.ref a20, .ref a21, .ref a22, .int 0])), (a21, .inl (ct 0, 56, .inl f0)), (a22, .inl (ct 0, 8, .inl f0)), (a20, .inl (ct 0, 7, .inl f1)), ((u6 3), .inr (4, [.ref (u6 6), .ref (u6 4), .ref (u6 5), .int 0])), ((u6 4), .inl (ct 0, 56, .inl (va_cpy f0 (fun _ => 0) 0 0 56))), ((u6 5), .inl (ct 0, 8, .inl (va_cpy f0 (fun _ => 0) 0 0 8))), ((u6 6), .inl (ct 0, 7, .inl (va_cpy f1 (va_cpy (fun _ => (-1)) (fun _ => 0) 0 0 7) 0 0 7)))] := hw
        refine lv_iconst (v := 0) hx hb dX11_image_47 (by decide) ?_
        exact r_i X hr hlk hw [] (fun _ => 0) rfl rfl (Or.inr (⟨Or.inl (⟨h1, h2, e3⟩), rfl⟩)) (by decide) (by decide) dX11_image_48
      · skip
        obtain rfl : p0 = 1 := i32_of e3
        refine j_aldq (j := 1) (v := .null) X hw 9 6 rfl rfl (by decide) (by decide) (by decide) rfl dX11_image_17 ?_
        refine lv_ifnonnullN hx hb dX11_image_18 ?_
        refine lv_aload_n hx hb dX11_image_21 rfl (lv_at hl 0 rfl) ?_
        refine fg_578 X hw 0 rfl rfl dX11_image_22 ?_
        refine lv_iload_n hx hb dX11_image_25 rfl (lv_at hl 1 rfl) ?_
        refine k_new (ci := 2) (fs := [.int 0, .int 0, .int 0, .null, .null, .null, .int 0, .int 0, .int 0, .int 0, .int 0, .null, .int 0]) X hw inT2 tyX2 tyX2_ok wd_159 wd_160 wd_130 rfl (by decide) (by decide) (by decide) dX11_image_26 (fun q11 H hw => ?_)
        replace hw : WD D A s.heap _ _ [(a0, .inr (11, [.ref a1, .int 0, .ref a2, .ref a3, .ref a4, .ref a5, .ref a6, .ref a7, .ref a8, .ref a9, .ref a10, .ref a11, .ref a12, .ref a13, .ref a14, .ref a15, .int (-1), .int (-1)])), (a2, .inr (2, [.int 0, .int 0, .int 0, .ref a16, .ref a17, .ref a18, .int 0, .int 0, .int 0, .int 0, .int 0, .ref a19, .int 0])), (a16, .inl (ct 0, 32, .inl f0)), (a17, .inl (ct 0, 35, .inl f0)), (a18, .inl (ct 0, 900, .inl f0)), (a19, .inr (4, [.ref a20, .ref a21, .ref a22, .int 0])), (a21, .inl (ct 0, 56, .inl f0)), (a22, .inl (ct 0, 8, .inl f0)), (a20, .inl (ct 0, 7, .inl f1)), (a13, .inl (ct 6, 2, .inr (.inr (.inr (.inr (fun _ => none)))))), (q11, .inr (2, [.int 0, .int 0, .int 0, .null, .null, .null, .int 0, .int 0, .int 0, .int 0, .int 0, .null, .int 0]))] := hw
        refine lv_dup hx hb dX11_image_29 rfl ?_
        refine m_Nv (As := []) (rest := [.ref q11, .int 1, .ref a13]) (c3_X2_init l D ct q11) X hl.1 wd_163 wd_130 hK.2.2.1 wd_162 rfl kd_yX2_init hw [10] [0, 1, 2, 3, 4, 5, 6, 7, 8, 9] rfl rfl rfl rfl (by decide) ⟨by decide, by decide⟩ rfl rfl (Nat.le_of_ble_eq_true rfl) dX11_image_30 ⟨by decide, by decide⟩ (fun u13 H locs hr14 hw => ?_)
        replace hw : WD D A s.heap _ _ [(a0, .inr (11, [.ref a1, .int 0, .ref a2, .ref a3, .ref a4, .ref a5, .ref a6, .ref a7, .ref a8, .ref a9, .ref a10, .ref a11, .ref a12, .ref a13, .ref a14, .ref a15, .int (-1), .int (-1)])), (a2, .inr (2, [.int 0, .int 0, .int 0, .ref a16, .ref a17, .ref a18, .int 0, .int 0, .int 0, .int 0, .int 0, .ref a19, .int 0])), (a16, .inl (ct 0, 32, .inl f0)), (a17, .inl (ct 0, 35, .inl f0)), (a18, .inl (ct 0, 900, .inl f0)), (a19, .inr (4, [.ref a20, .ref a21, .ref a22, .int 0])), (a21, .inl (ct 0, 56, .inl f0)), (a22, .inl (ct 0, 8, .inl f0)), (a20, .inl (ct 0, 7, .inl f1)), (a13, .inl (ct 6, 2, .inr (.inr (.inr (.inr (fun _ => none)))))), (q11, .inr (2, [.int 0, .int 0, .int 0, .ref (u13 0), .ref (u13 1), .ref (u13 2), .int 0, .int 0, .int 0, .int 0, .int 0, .ref (u13 3), .int 0])), ((u13 0), .inl (ct 0, 32, .inl (fun _ => 0))), ((u13 1), .inl (ct 0, 35, .inl (fun _ => 0))), ((u13 2), .inl (ct 0, 900, .inl (fun _ => 0))), ((u13 3), .inr (4, [.ref (u13 6), .ref (u13 4), .ref (u13 5), .int 0])), ((u13 4), .inl (ct 0, 56, .inl (fun _ => 0))), ((u13 5), .inl (ct 0, 8, .inl (fun _ => 0))), ((u13 6), .inl (ct 0, 7, .inl (va_cpy (fun _ => (-1)) (fun _ => 0) 0 0 7)))] := hw
        refine j_astq (j := 1) X hw 9 6 10 2 rfl rfl rfl rfl (by decide) (by decide) (by decide) dX11_image_33 [(a0, .inr (11, [.ref a1, .int 0, .ref a2, .ref a3, .ref a4, .ref a5, .ref a6, .ref a7, .ref a8, .ref a9, .ref a10, .ref a11, .ref a12, .ref a13, .ref a14, .ref a15, .int (-1), .int (-1)])), (a2, .inr (2, [.int 0, .int 0, .int 0, .ref a16, .ref a17, .ref a18, .int 0, .int 0, .int 0, .int 0, .int 0, .ref a19, .int 0])), (a16, .inl (ct 0, 32, .inl f0)), (a17, .inl (ct 0, 35, .inl f0)), (a18, .inl (ct 0, 900, .inl f0)), (a19, .inr (4, [.ref a20, .ref a21, .ref a22, .int 0])), (a21, .inl (ct 0, 56, .inl f0)), (a22, .inl (ct 0, 8, .inl f0)), (a20, .inl (ct 0, 7, .inl f1)), (a13, .inl (ct 6, 2, .inr (.inr (.inr (.inr (va_up (fun _ => none) 1 (some q11))))))), (q11, .inr (2, [.int 0, .int 0, .int 0, .ref (u13 0), .ref (u13 1), .ref (u13 2), .int 0, .int 0, .int 0, .int 0, .int 0, .ref (u13 3), .int 0])), ((u13 0), .inl (ct 0, 32, .inl (fun _ => 0))), ((u13 1), .inl (ct 0, 35, .inl (fun _ => 0))), ((u13 2), .inl (ct 0, 900, .inl (fun _ => 0))), ((u13 3), .inr (4, [.ref (u13 6), .ref (u13 4), .ref (u13 5), .int 0])), ((u13 4), .inl (ct 0, 56, .inl (fun _ => 0))), ((u13 5), .inl (ct 0, 8, .inl (fun _ => 0))), ((u13 6), .inl (ct 0, 7, .inl (va_cpy (fun _ => (-1)) (fun _ => 0) 0 0 7)))] rfl (fun H locs hw => ?_)
        refine lv_aload_n hx hb dX11_image_34 rfl (lv_at hl 0 rfl) ?_
        refine fg_578 X hw 0 rfl rfl dX11_image_35 ?_
        refine lv_iload_n hx hb dX11_image_38 rfl (lv_at hl 1 rfl) ?_
        refine j_aldq (j := 1) (v := .ref q11) X hw 9 6 rfl rfl (by decide) (by decide) (by decide) rfl dX11_image_39 ?_
        refine lv_aload_n hx hb dX11_image_40 rfl (lv_at hl 0 rfl) ?_
        refine fg_567 X hw 0 rfl rfl dX11_image_41 ?_
        refine m_Vv (As := [.ref a2]) (rest := []) (c208_X2_copyFrom l D ct q11 a2 a16 a17 a18 a19 f0 a20 a21 a22 f1 ((u13 0)) ((u13 1)) ((u13 2)) ((u13 3)) (fun _ => 0) ((u13 6)) ((u13 4)) ((u13 5)) (va_cpy (fun _ => (-1)) (fun _ => 0) 0 0 7)) X hl.1 kw_857 kd_yX2_copyFrom hw [1, 2, 3, 4, 5, 6, 7, 8, 10, 11, 12, 13, 14, 15, 16, 17] [0, 9] rfl rfl rfl rfl (by decide) 8 rfl rfl ⟨by decide, by decide⟩ rfl rfl (Nat.le_of_ble_eq_true rfl) dX11_image_44 ⟨by decide, by decide⟩ (fun u16 H locs hr17 hw => ?_)
        replace hw : WD D A s.heap _ _ [(a0, .inr (11, [.ref a1, .int 0, .ref a2, .ref a3, .ref a4, .ref a5, .ref a6, .ref a7, .ref a8, .ref a9, .ref a10, .ref a11, .ref a12, .ref a13, .ref a14, .ref a15, .int (-1), .int (-1)])), (a13, .inl (ct 6, 2, .inr (.inr (.inr (.inr (va_up (fun _ => none) 1 (some q11))))))), (a2, .inr (2, [.int 0, .int 0, .int 0, .ref a16, .ref a17, .ref a18, .int 0, .int 0, .int 0, .int 0, .int 0, .ref a19, .int 0])), (a16, .inl (ct 0, 32, .inl f0)), (a17, .inl (ct 0, 35, .inl f0)), (a18, .inl (ct 0, 900, .inl f0)), (q11, .inr (2, [.int 0, .int 0, .int 0, .ref (u13 0), .ref (u13 1), .ref (u13 2), .int 0, .int 0, .int 0, .int 0, .int 0, .ref (u13 3), .int 1])), ((u13 0), .inl (ct 0, 32, .inl (va_cpy f0 (fun _ => 0) 0 0 32))), ((u13 1), .inl (ct 0, 35, .inl (va_cpy f0 (fun _ => 0) 0 0 35))), ((u13 2), .inl (ct 0, 900, .inl (va_cpy f0 (fun _ => 0) 0 0 0))), (a19, .inr (4, [.ref a20, .ref a21, .ref a22, .int 0])), (a21, .inl (ct 0, 56, .inl f0)), (a22, .inl (ct 0, 8, .inl f0)), (a20, .inl (ct 0, 7, .inl f1)), ((u13 3), .inr (4, [.ref (u13 6), .ref (u13 4), .ref (u13 5), .int 0])), ((u13 4), .inl (ct 0, 56, .inl (va_cpy f0 (fun _ => 0) 0 0 56))), ((u13 5), .inl (ct 0, 8, .inl (va_cpy f0 (fun _ => 0) 0 0 8))), ((u13 6), .inl (ct 0, 7, .inl (va_cpy f1 (va_cpy (fun _ => (-1)) (fun _ => 0) 0 0 7) 0 0 7)))] := hw
        refine lv_iconst (v := 0) hx hb dX11_image_47 (by decide) ?_
        exact r_i X hr hlk hw [] (fun _ => 0) rfl rfl (Or.inr (⟨Or.inr (⟨h1, h2, e3⟩), rfl⟩)) (by decide) (by decide) dX11_image_48
    · have h2 : p0.toInt ≥ 2 := by have q := ci_nlt (a := p0.toInt) (b := 2) rfl (by decide) h2; omega
      refine lv_bipush (v := (-2)) hx hb dX11_image_9 (by decide) ?_
      exact r_i X hr hlk hw [] (fun _ => 0) rfl rfl (Or.inl (⟨Or.inr (⟨h1, h2⟩), rfl⟩)) (by decide) (by decide) dX11_image_11
set_option maxHeartbeats 4000000 in
set_option maxRecDepth 100000 in
theorem ylp19 {p : Program} {l : Launch} {e : Env} {R : Room} {s : State} {m : MethodId} {args : Array Value} {below : List Frame} {meth : Method} {c : Code} {cells slots : Nat} {Q : State → Prop} {D : va_G} {ct : Nat → ClassId} {A : Nat → Prop} {a0 : Nat} {a1 : Nat} {a2 : Nat} {a3 : Nat} {a4 : Nat} {a5 : Nat} {a6 : Nat} {a7 : Nat} {a8 : Nat} {a9 : Nat} {a10 : Nat} {a11 : Nat} {a12 : Nat} {a13 : Nat} {a14 : Nat} {a15 : Nat} {a16 : Nat} {f0 : Nat → Int32} (X : CX p m c cX12_image 3 s args RX12 D ct) (kk : ∀ (g : Nat → Int32) (H : Heap) (locs : List Loc) (ls : Array Slot), WD D A s.heap H locs [(a0, .inr (12, [.int 0, .ref a1, .ref a2, .ref a3, .ref a4, .int 0, .int 0, .int 0, .int 0, .int 0, .int 0, .int 0, .int 0, .int 0, .int (-1), .ref a5, .ref a6, .ref a7, .ref a8, .int 0, .ref a9, .ref a10, .int 0, .int 0, .int 0, .ref a11, .ref a12, .ref a13, .ref a14, .ref a15, .ref a16])), (a2, .inl (ct 3, 2, .inl f0)), (a1, .inl (ct 0, 5310, .inl g))] → lv_has ls 3 [(2, .int (nI 1770)), (0, .ref a0), (1, .int 0)] → W p l e R s m args below meth c H locs cells slots Q (F0 m 53 ls [])) : ∀ (n k : Nat), k + n = 1770 → ∀ (g : Nat → Int32) (H : Heap) (locs : List Loc) (ls : Array Slot), WD D A s.heap H locs [(a0, .inr (12, [.int 0, .ref a1, .ref a2, .ref a3, .ref a4, .int 0, .int 0, .int 0, .int 0, .int 0, .int 0, .int 0, .int 0, .int 0, .int (-1), .ref a5, .ref a6, .ref a7, .ref a8, .int 0, .ref a9, .ref a10, .int 0, .int 0, .int 0, .ref a11, .ref a12, .ref a13, .ref a14, .ref a15, .ref a16])), (a2, .inl (ct 3, 2, .inl f0)), (a1, .inl (ct 0, 5310, .inl g))] → lv_has ls 3 [(2, .int (nI k)), (0, .ref a0), (1, .int 0)] → W p l e R s m args below meth c H locs cells slots Q (F0 m 20 ls []) := by
  obtain ⟨⟨hx, hb, hml, hown, hts⟩, hK⟩ := id X
  intro n
  induction n with
  | zero =>
    intro k hk g H locs ls hw hl
    obtain rfl : k = 1770 := by omega
    refine lv_iload_n hx hb dX12_image_20 rfl (lv_at hl 0 rfl) ?_
    refine lv_sipush (v := 1770) hx hb dX12_image_21 (by decide) ?_
    refine lv_icmp_ge (tgt := 53) hx hb dX12_image_24 (by decide) (fun _ => ?_) (fun h => absurd (nI_le (a := 1770) (b := 1770) (Nat.le_refl _) (by omega)) h)
    exact kk g _ _ _ hw hl
  | succ n ih =>
    intro k hk g H locs ls hw hl
    refine lv_iload_n hx hb dX12_image_20 rfl (lv_at hl 0 rfl) ?_
    refine lv_sipush (v := 1770) hx hb dX12_image_21 (by decide) ?_
    refine lv_icmp_ge (tgt := 53) hx hb dX12_image_24 (by decide) (fun h => absurd h (nI_ge (a := k) (b := 1770) (by omega) (by omega))) (fun _ => ?_)
    refine lv_aload_n hx hb dX12_image_27 rfl (lv_at hl 1 rfl) ?_
    refine fg_1443 X hw 0 rfl rfl dX12_image_28 ?_
    refine lv_sipush (v := 1770) hx hb dX12_image_31 (by decide) ?_
    refine lv_iload_n hx hb dX12_image_34 rfl (lv_at hl 2 rfl) ?_
    refine lv_iconst (v := 1) hx hb dX12_image_35 (by decide) ?_
    refine kv_iadd (v := 1) hx hb (by decide) dX12_image_36 ?_
    refine kv_imul (v := 1770) hx hb (by decide) dX12_image_37 ?_
    refine lv_iload_n hx hb dX12_image_38 rfl (lv_at hl 0 rfl) ?_
    refine kv_iadd (v := (nI (1770 + k))) hx hb (nI_add (1770) (k)) dX12_image_39 ?_
    refine lv_aload_n hx hb dX12_image_40 rfl (lv_at hl 1 rfl) ?_
    refine fg_1443 X hw 0 rfl rfl dX12_image_41 ?_
    refine lv_iload_n hx hb dX12_image_44 rfl (lv_at hl 0 rfl) ?_
    refine j_iald (j := (k)) (v := (g (k))) X hw 2 rfl (nI_pos (by omega)) (nI_clamp (by omega)) (by omega) rfl dX12_image_45 ?_
    refine j_iastA (j := (1770 + k)) X hw 2 rfl (nI_pos (by omega)) (nI_clamp (by omega)) (by omega) dX12_image_46 (fun g102018 H locs hw => ?_)
    replace hw : WD D A s.heap _ _ [(a0, .inr (12, [.int 0, .ref a1, .ref a2, .ref a3, .ref a4, .int 0, .int 0, .int 0, .int 0, .int 0, .int 0, .int 0, .int 0, .int 0, .int (-1), .ref a5, .ref a6, .ref a7, .ref a8, .int 0, .ref a9, .ref a10, .int 0, .int 0, .int 0, .ref a11, .ref a12, .ref a13, .ref a14, .ref a15, .ref a16])), (a2, .inl (ct 3, 2, .inl f0)), (a1, .inl (ct 0, 5310, .inl g102018))] := hw
    refine lv_iinc (v := (nI (k + 1))) (lv' := [(2, .int (nI (k + 1))), (0, .ref a0), (1, .int 0)]) hx hb dX12_image_47 hl (k := 0) rfl (nI_add _ _) (by decide) rfl (fun ls hl => ?_)
    refine lv_goto (tgt := 20) hx hb dX12_image_50 (by decide) ?_
    exact ih (k + 1) (by omega) _ _ _ _ hw (lv_sub hl [0, 1, 2] rfl)
set_option maxHeartbeats 4000000 in
set_option maxRecDepth 100000 in
theorem ylp20 {p : Program} {l : Launch} {e : Env} {R : Room} {s : State} {m : MethodId} {args : Array Value} {below : List Frame} {meth : Method} {c : Code} {cells slots : Nat} {Q : State → Prop} {D : va_G} {ct : Nat → ClassId} {A : Nat → Prop} {a0 : Nat} {a1 : Nat} {a2 : Nat} {a3 : Nat} {a4 : Nat} {a5 : Nat} {a6 : Nat} {a7 : Nat} {a8 : Nat} {a9 : Nat} {a10 : Nat} {a11 : Nat} {a12 : Nat} {a13 : Nat} {a14 : Nat} {a15 : Nat} {a16 : Nat} {f0 : Nat → Int32} (X : CX p m c cX12_image 3 s args RX12 D ct) (kk : ∀ (g : Nat → Int32) (H : Heap) (locs : List Loc) (ls : Array Slot), WD D A s.heap H locs [(a0, .inr (12, [.int 0, .ref a1, .ref a2, .ref a3, .ref a4, .int 0, .int 0, .int 0, .int 0, .int 0, .int 0, .int 0, .int 0, .int 0, .int (-1), .ref a5, .ref a6, .ref a7, .ref a8, .int 0, .ref a9, .ref a10, .int 0, .int 0, .int 0, .ref a11, .ref a12, .ref a13, .ref a14, .ref a15, .ref a16])), (a2, .inl (ct 3, 2, .inl f0)), (a1, .inl (ct 0, 5310, .inl g))] → lv_has ls 3 [(2, .int (nI 1770)), (0, .ref a0), (1, .int 1)] → W p l e R s m args below meth c H locs cells slots Q (F0 m 53 ls [])) : ∀ (n k : Nat), k + n = 1770 → ∀ (g : Nat → Int32) (H : Heap) (locs : List Loc) (ls : Array Slot), WD D A s.heap H locs [(a0, .inr (12, [.int 0, .ref a1, .ref a2, .ref a3, .ref a4, .int 0, .int 0, .int 0, .int 0, .int 0, .int 0, .int 0, .int 0, .int 0, .int (-1), .ref a5, .ref a6, .ref a7, .ref a8, .int 0, .ref a9, .ref a10, .int 0, .int 0, .int 0, .ref a11, .ref a12, .ref a13, .ref a14, .ref a15, .ref a16])), (a2, .inl (ct 3, 2, .inl f0)), (a1, .inl (ct 0, 5310, .inl g))] → lv_has ls 3 [(2, .int (nI k)), (0, .ref a0), (1, .int 1)] → W p l e R s m args below meth c H locs cells slots Q (F0 m 20 ls []) := by
  obtain ⟨⟨hx, hb, hml, hown, hts⟩, hK⟩ := id X
  intro n
  induction n with
  | zero =>
    intro k hk g H locs ls hw hl
    obtain rfl : k = 1770 := by omega
    refine lv_iload_n hx hb dX12_image_20 rfl (lv_at hl 0 rfl) ?_
    refine lv_sipush (v := 1770) hx hb dX12_image_21 (by decide) ?_
    refine lv_icmp_ge (tgt := 53) hx hb dX12_image_24 (by decide) (fun _ => ?_) (fun h => absurd (nI_le (a := 1770) (b := 1770) (Nat.le_refl _) (by omega)) h)
    exact kk g _ _ _ hw hl
  | succ n ih =>
    intro k hk g H locs ls hw hl
    refine lv_iload_n hx hb dX12_image_20 rfl (lv_at hl 0 rfl) ?_
    refine lv_sipush (v := 1770) hx hb dX12_image_21 (by decide) ?_
    refine lv_icmp_ge (tgt := 53) hx hb dX12_image_24 (by decide) (fun h => absurd h (nI_ge (a := k) (b := 1770) (by omega) (by omega))) (fun _ => ?_)
    refine lv_aload_n hx hb dX12_image_27 rfl (lv_at hl 1 rfl) ?_
    refine fg_1443 X hw 0 rfl rfl dX12_image_28 ?_
    refine lv_sipush (v := 1770) hx hb dX12_image_31 (by decide) ?_
    refine lv_iload_n hx hb dX12_image_34 rfl (lv_at hl 2 rfl) ?_
    refine lv_iconst (v := 1) hx hb dX12_image_35 (by decide) ?_
    refine kv_iadd (v := 2) hx hb (by decide) dX12_image_36 ?_
    refine kv_imul (v := 3540) hx hb (by decide) dX12_image_37 ?_
    refine lv_iload_n hx hb dX12_image_38 rfl (lv_at hl 0 rfl) ?_
    refine kv_iadd (v := (nI (3540 + k))) hx hb (nI_add (3540) (k)) dX12_image_39 ?_
    refine lv_aload_n hx hb dX12_image_40 rfl (lv_at hl 1 rfl) ?_
    refine fg_1443 X hw 0 rfl rfl dX12_image_41 ?_
    refine lv_iload_n hx hb dX12_image_44 rfl (lv_at hl 0 rfl) ?_
    refine j_iald (j := (k)) (v := (g (k))) X hw 2 rfl (nI_pos (by omega)) (nI_clamp (by omega)) (by omega) rfl dX12_image_45 ?_
    refine j_iastA (j := (3540 + k)) X hw 2 rfl (nI_pos (by omega)) (nI_clamp (by omega)) (by omega) dX12_image_46 (fun g102019 H locs hw => ?_)
    replace hw : WD D A s.heap _ _ [(a0, .inr (12, [.int 0, .ref a1, .ref a2, .ref a3, .ref a4, .int 0, .int 0, .int 0, .int 0, .int 0, .int 0, .int 0, .int 0, .int 0, .int (-1), .ref a5, .ref a6, .ref a7, .ref a8, .int 0, .ref a9, .ref a10, .int 0, .int 0, .int 0, .ref a11, .ref a12, .ref a13, .ref a14, .ref a15, .ref a16])), (a2, .inl (ct 3, 2, .inl f0)), (a1, .inl (ct 0, 5310, .inl g102019))] := hw
    refine lv_iinc (v := (nI (k + 1))) (lv' := [(2, .int (nI (k + 1))), (0, .ref a0), (1, .int 1)]) hx hb dX12_image_47 hl (k := 0) rfl (nI_add _ _) (by decide) rfl (fun ls hl => ?_)
    refine lv_goto (tgt := 20) hx hb dX12_image_50 (by decide) ?_
    exact ih (k + 1) (by omega) _ _ _ _ hw (lv_sub hl [0, 1, 2] rfl)
set_option maxHeartbeats 4000000 in
set_option maxRecDepth 100000 in
theorem c210_X12_image (l : Launch) (D : va_G) (ct : Nat → ClassId) (a0 : Nat) (p0 : Int32) (a1 : Nat) (a2 : Nat) (a3 : Nat) (a4 : Nat) (a5 : Nat) (a6 : Nat) (a7 : Nat) (a8 : Nat) (a9 : Nat) (a10 : Nat) (a11 : Nat) (a12 : Nat) (a13 : Nat) (a14 : Nat) (a15 : Nat) (a16 : Nat) (f0 : Nat → Int32) : CI l yX12_image cX12_image 3 (some .int) { frames := 1, cells := 0, slots := 0, locals := 25 } D ct [.ref a0, .int p0] [(a0, .inr (12, [.int 0, .ref a1, .ref a2, .ref a3, .ref a4, .int 0, .int 0, .int 0, .int 0, .int 0, .int 0, .int 0, .int 0, .int 0, .int (-1), .ref a5, .ref a6, .ref a7, .ref a8, .int 0, .ref a9, .ref a10, .int 0, .int 0, .int 0, .ref a11, .ref a12, .ref a13, .ref a14, .ref a15, .ref a16])), (a2, .inl (ct 3, 2, .inl f0)), (a1, .inl (ct 0, 5310, .inl fx0))] (fun r => (((p0.toInt < 0) ∨ (p0.toInt ≥ 0 ∧ p0.toInt > 1))) ∧ r = (-2) ∨ ((p0.toInt ≥ 0 ∧ p0.toInt ≤ 1 ∧ p0.toInt = 0) ∨ (p0.toInt ≥ 0 ∧ p0.toInt ≤ 1 ∧ p0.toInt = 1)) ∧ r = 0) (fun u => []) := by
  refine CI.of (by decide +kernel) (Nat.le_of_ble_eq_true rfl) ?_
  intro p e s m below meth c A ls hE
  obtain ⟨X, hr, hlk, hnm, hw, hl⟩ := hE
  have X : CX p m c cX12_image 3 s [.ref a0, .int p0].toArray RX12 D ct := X
  have hl : lv_has ls 3 [(0, .ref a0), (1, .int p0)] := hl
  obtain ⟨⟨hx, hb, hml, hown, hts⟩, hK⟩ := id X
  refine lv_aload_n hx hb dX12_image_0 rfl (lv_at hl 0 rfl) ?_
  refine lv_iconst (v := 0) hx hb dX12_image_1 (by decide) ?_
  refine fp_1442 X hw 0 rfl rfl rfl (Nat.le_of_ble_eq_true rfl) dX12_image_2 [(a0, .inr (12, [.int 0, .ref a1, .ref a2, .ref a3, .ref a4, .int 0, .int 0, .int 0, .int 0, .int 0, .int 0, .int 0, .int 0, .int 0, .int (-1), .ref a5, .ref a6, .ref a7, .ref a8, .int 0, .ref a9, .ref a10, .int 0, .int 0, .int 0, .ref a11, .ref a12, .ref a13, .ref a14, .ref a15, .ref a16])), (a2, .inl (ct 3, 2, .inl f0)), (a1, .inl (ct 0, 5310, .inl fx0))] rfl (fun H locs hw => ?_)
  refine lv_iload_n hx hb dX12_image_5 rfl (lv_at hl 1 rfl) ?_
  refine lv_i2l (v := p0.toInt64) hx hb dX12_image_6 rfl ?_
  refine lv_lconst (v := 0) hx hb dX12_image_7 (by decide) ?_
  refine lv_lconst (v := 1) hx hb dX12_image_8 (by decide) ?_
  refine m_Si (As := [.long p0.toInt64, .long 0, .long 1]) (rest := []) (c183_X12_within l D ct (p0.toInt64)) X hl.1 kw_1545 kd_yX12_within hw [] [0, 1, 2] rfl rfl rfl rfl (by decide) ⟨by decide, by decide⟩ rfl rfl (Nat.le_of_ble_eq_true rfl) dX12_image_9 ⟨by decide, by decide⟩ (fun r1 u2 H locs hr3 hw => ?_)
  replace hw : WD D A s.heap _ _ [(a0, .inr (12, [.int 0, .ref a1, .ref a2, .ref a3, .ref a4, .int 0, .int 0, .int 0, .int 0, .int 0, .int 0, .int 0, .int 0, .int 0, .int (-1), .ref a5, .ref a6, .ref a7, .ref a8, .int 0, .ref a9, .ref a10, .int 0, .int 0, .int 0, .ref a11, .ref a12, .ref a13, .ref a14, .ref a15, .ref a16])), (a2, .inl (ct 3, 2, .inl f0)), (a1, .inl (ct 0, 5310, .inl fx0))] := hw
  rcases hr3 with ⟨h4, rfl⟩ | ⟨⟨h5, h6⟩, rfl⟩
  · skip
    simp only [i64i] at h4
    refine lv_if_ne (tgt := 18) hx hb dX12_image_12 (by decide) (fun h => absurd rfl h) (fun _ => ?_)
    refine lv_bipush (v := (-2)) hx hb dX12_image_15 (by decide) ?_
    exact r_i X hr hlk hw [] (fun _ => 0) rfl rfl (Or.inl (⟨h4, rfl⟩)) (by decide) (by decide) dX12_image_17
  · skip
    rw [i64i] at h5
    rw [i64i] at h6
    refine lv_if_ne (tgt := 18) hx hb dX12_image_12 (by decide) (fun _ => ?_) (fun h => absurd h (by decide))
    refine lv_iconst (v := 0) hx hb dX12_image_18 (by decide) ?_
    refine lv_istore_n (lv' := [(2, .int 0), (0, .ref a0), (1, .int p0)]) hx hb dX12_image_19 rfl hl (by decide) rfl (fun ls hl => ?_)
    rcases (show p0.toInt = 0 ∨ p0.toInt = 1 by omega) with e7 | e7
    · skip
      obtain rfl : p0 = 0 := i32_of e7
      refine ylp19 X (fun g8 H locs ls hw hl => ?_) 1770 0 (by omega) _ _ _ _ hw hl
      replace hw : WD D A s.heap _ _ [(a0, .inr (12, [.int 0, .ref a1, .ref a2, .ref a3, .ref a4, .int 0, .int 0, .int 0, .int 0, .int 0, .int 0, .int 0, .int 0, .int 0, .int (-1), .ref a5, .ref a6, .ref a7, .ref a8, .int 0, .ref a9, .ref a10, .int 0, .int 0, .int 0, .ref a11, .ref a12, .ref a13, .ref a14, .ref a15, .ref a16])), (a2, .inl (ct 3, 2, .inl f0)), (a1, .inl (ct 0, 5310, .inl g8))] := hw
      replace hl : lv_has ls 3 [(2, .int 1770), (0, .ref a0), (1, .int 0)] := hl
      refine lv_aload_n hx hb dX12_image_53 rfl (lv_at hl 1 rfl) ?_
      refine fg_1444 X hw 0 rfl rfl dX12_image_54 ?_
      refine lv_iload_n hx hb dX12_image_57 rfl (lv_at hl 2 rfl) ?_
      refine lv_iconst (v := 1) hx hb dX12_image_58 (by decide) ?_
      refine j_zast (j := 0) X hw 1 rfl (by decide) (by decide) (by decide) dX12_image_59 [(a0, .inr (12, [.int 0, .ref a1, .ref a2, .ref a3, .ref a4, .int 0, .int 0, .int 0, .int 0, .int 0, .int 0, .int 0, .int 0, .int 0, .int (-1), .ref a5, .ref a6, .ref a7, .ref a8, .int 0, .ref a9, .ref a10, .int 0, .int 0, .int 0, .ref a11, .ref a12, .ref a13, .ref a14, .ref a15, .ref a16])), (a2, .inl (ct 3, 2, .inl (upd f0 0 (vp_nar .boolean 1)))), (a1, .inl (ct 0, 5310, .inl g8))] rfl (fun H locs hw => ?_)
      refine lv_iconst (v := 0) hx hb dX12_image_60 (by decide) ?_
      exact r_i X hr hlk hw [] (fun _ => 0) rfl rfl (Or.inr (⟨Or.inl (⟨h5, h6, e7⟩), rfl⟩)) (by decide) (by decide) dX12_image_61
    · skip
      obtain rfl : p0 = 1 := i32_of e7
      refine ylp20 X (fun g9 H locs ls hw hl => ?_) 1770 0 (by omega) _ _ _ _ hw hl
      replace hw : WD D A s.heap _ _ [(a0, .inr (12, [.int 0, .ref a1, .ref a2, .ref a3, .ref a4, .int 0, .int 0, .int 0, .int 0, .int 0, .int 0, .int 0, .int 0, .int 0, .int (-1), .ref a5, .ref a6, .ref a7, .ref a8, .int 0, .ref a9, .ref a10, .int 0, .int 0, .int 0, .ref a11, .ref a12, .ref a13, .ref a14, .ref a15, .ref a16])), (a2, .inl (ct 3, 2, .inl f0)), (a1, .inl (ct 0, 5310, .inl g9))] := hw
      replace hl : lv_has ls 3 [(2, .int 1770), (0, .ref a0), (1, .int 1)] := hl
      refine lv_aload_n hx hb dX12_image_53 rfl (lv_at hl 1 rfl) ?_
      refine fg_1444 X hw 0 rfl rfl dX12_image_54 ?_
      refine lv_iload_n hx hb dX12_image_57 rfl (lv_at hl 2 rfl) ?_
      refine lv_iconst (v := 1) hx hb dX12_image_58 (by decide) ?_
      refine j_zast (j := 1) X hw 1 rfl (by decide) (by decide) (by decide) dX12_image_59 [(a0, .inr (12, [.int 0, .ref a1, .ref a2, .ref a3, .ref a4, .int 0, .int 0, .int 0, .int 0, .int 0, .int 0, .int 0, .int 0, .int 0, .int (-1), .ref a5, .ref a6, .ref a7, .ref a8, .int 0, .ref a9, .ref a10, .int 0, .int 0, .int 0, .ref a11, .ref a12, .ref a13, .ref a14, .ref a15, .ref a16])), (a2, .inl (ct 3, 2, .inl (upd f0 1 (vp_nar .boolean 1)))), (a1, .inl (ct 0, 5310, .inl g9))] rfl (fun H locs hw => ?_)
      refine lv_iconst (v := 0) hx hb dX12_image_60 (by decide) ?_
      exact r_i X hr hlk hw [] (fun _ => 0) rfl rfl (Or.inr (⟨Or.inr (⟨h5, h6, e7⟩), rfl⟩)) (by decide) (by decide) dX12_image_61
set_option maxHeartbeats 4000000 in
set_option maxRecDepth 100000 in
theorem c211_X11_restore (l : Launch) (D : va_G) (ct : Nat → ClassId) (a0 : Nat) (p0 : Int32) (a1 : Nat) (a2 : Nat) (a3 : Nat) (a4 : Nat) (a5 : Nat) (a6 : Nat) (a7 : Nat) (a8 : Nat) (a9 : Nat) (a10 : Nat) (a11 : Nat) (a12 : Nat) (a13 : Nat) (a14 : Nat) (a15 : Nat) : CI l yX11_restore cX11_restore 2 (some .int) { frames := 0, cells := 0, slots := 0, locals := 0 } D ct [.ref a0, .int p0] [(a0, .inr (11, [.ref a1, .int 0, .ref a2, .ref a3, .ref a4, .ref a5, .ref a6, .ref a7, .ref a8, .ref a9, .ref a10, .ref a11, .ref a12, .ref a13, .ref a14, .ref a15, .int (-1), .int (-1)])), (a13, .inl (ct 6, 2, .inr (.inr (.inr (.inr (fun _ => none))))))] (fun r => ((p0.toInt < 0) ∨ (p0.toInt ≥ 0 ∧ p0.toInt ≥ 2)) ∧ r = (-2) ∨ ((p0.toInt ≥ 0 ∧ p0.toInt < 2 ∧ p0.toInt = 0) ∨ (p0.toInt ≥ 0 ∧ p0.toInt < 2 ∧ p0.toInt = 1)) ∧ r = (-5)) (fun u => []) := by
  refine CI.of (by decide +kernel) (Nat.le_of_ble_eq_true rfl) ?_
  intro p e s m below meth c A ls hE
  obtain ⟨X, hr, hlk, hnm, hw, hl⟩ := hE
  have X : CX p m c cX11_restore 2 s [.ref a0, .int p0].toArray RX11 D ct := X
  have hl : lv_has ls 2 [(0, .ref a0), (1, .int p0)] := hl
  obtain ⟨⟨hx, hb, hml, hown, hts⟩, hK⟩ := id X
  refine lv_iload_n hx hb dX11_restore_0 rfl (lv_at hl 1 rfl) ?_
  refine lv_if_lt (tgt := 9) hx hb dX11_restore_1 (by decide) (fun h1 => ?_) (fun h1 => ?_)
  · have h1 : p0.toInt < 0 := by have q := ci_lt (a := p0.toInt) (b := 0) rfl (by decide) h1; omega
    refine lv_bipush (v := (-2)) hx hb dX11_restore_9 (by decide) ?_
    exact r_i X hr hlk hw [] (fun _ => 0) rfl rfl (Or.inl (⟨Or.inl (h1), rfl⟩)) (by decide) (by decide) dX11_restore_11
  · have h1 : p0.toInt ≥ 0 := by have q := ci_nlt (a := p0.toInt) (b := 0) rfl (by decide) h1; omega
    refine lv_iload_n hx hb dX11_restore_4 rfl (lv_at hl 1 rfl) ?_
    refine lv_iconst (v := 2) hx hb dX11_restore_5 (by decide) ?_
    refine lv_icmp_lt (tgt := 12) hx hb dX11_restore_6 (by decide) (fun h2 => ?_) (fun h2 => ?_)
    · have h2 : p0.toInt < 2 := by have q := ci_lt (a := p0.toInt) (b := 2) rfl (by decide) h2; omega
      refine lv_aload_n hx hb dX11_restore_12 rfl (lv_at hl 0 rfl) ?_
      refine fg_578 X hw 0 rfl rfl dX11_restore_13 ?_
      refine lv_iload_n hx hb dX11_restore_16 rfl (lv_at hl 1 rfl) ?_
      rcases (show p0.toInt = 0 ∨ p0.toInt = 1 by omega) with e3 | e3
      · skip
        obtain rfl : p0 = 0 := i32_of e3
        refine j_aldq (j := 0) (v := .null) X hw 1 6 rfl rfl (by decide) (by decide) (by decide) rfl dX11_restore_17 ?_
        refine lv_ifnonnullN hx hb dX11_restore_18 ?_
        refine lv_bipush (v := (-5)) hx hb dX11_restore_21 (by decide) ?_
        exact r_i X hr hlk hw [] (fun _ => 0) rfl rfl (Or.inr (⟨Or.inl (⟨h1, h2, e3⟩), rfl⟩)) (by decide) (by decide) dX11_restore_23
      · skip
        obtain rfl : p0 = 1 := i32_of e3
        refine j_aldq (j := 1) (v := .null) X hw 1 6 rfl rfl (by decide) (by decide) (by decide) rfl dX11_restore_17 ?_
        refine lv_ifnonnullN hx hb dX11_restore_18 ?_
        refine lv_bipush (v := (-5)) hx hb dX11_restore_21 (by decide) ?_
        exact r_i X hr hlk hw [] (fun _ => 0) rfl rfl (Or.inr (⟨Or.inr (⟨h1, h2, e3⟩), rfl⟩)) (by decide) (by decide) dX11_restore_23
    · have h2 : p0.toInt ≥ 2 := by have q := ci_nlt (a := p0.toInt) (b := 2) rfl (by decide) h2; omega
      refine lv_bipush (v := (-2)) hx hb dX11_restore_9 (by decide) ?_
      exact r_i X hr hlk hw [] (fun _ => 0) rfl rfl (Or.inl (⟨Or.inr (⟨h1, h2⟩), rfl⟩)) (by decide) (by decide) dX11_restore_11
set_option maxHeartbeats 4000000 in
set_option maxRecDepth 100000 in
theorem c212_X12_restore (l : Launch) (D : va_G) (ct : Nat → ClassId) (a0 : Nat) (p0 : Int32) (a1 : Nat) (a2 : Nat) (a3 : Nat) (a4 : Nat) (a5 : Nat) (a6 : Nat) (a7 : Nat) (a8 : Nat) (a9 : Nat) (a10 : Nat) (a11 : Nat) (a12 : Nat) (a13 : Nat) (a14 : Nat) (a15 : Nat) (a16 : Nat) : CI l yX12_restore cX12_restore 3 (some .int) { frames := 1, cells := 0, slots := 0, locals := 25 } D ct [.ref a0, .int p0] [(a0, .inr (12, [.int 0, .ref a1, .ref a2, .ref a3, .ref a4, .int 0, .int 0, .int 0, .int 0, .int 0, .int 0, .int 0, .int 0, .int 0, .int (-1), .ref a5, .ref a6, .ref a7, .ref a8, .int 0, .ref a9, .ref a10, .int 0, .int 0, .int 0, .ref a11, .ref a12, .ref a13, .ref a14, .ref a15, .ref a16])), (a2, .inl (ct 3, 2, .inl (fun _ => 0)))] (fun r => (((p0.toInt < 0) ∨ (p0.toInt ≥ 0 ∧ p0.toInt > 1))) ∧ r = (-2) ∨ ((p0.toInt ≥ 0 ∧ p0.toInt ≤ 1 ∧ p0.toInt = 0) ∨ (p0.toInt ≥ 0 ∧ p0.toInt ≤ 1 ∧ p0.toInt = 1)) ∧ r = (-5)) (fun u => []) := by
  refine CI.of (by decide +kernel) (Nat.le_of_ble_eq_true rfl) ?_
  intro p e s m below meth c A ls hE
  obtain ⟨X, hr, hlk, hnm, hw, hl⟩ := hE
  have X : CX p m c cX12_restore 3 s [.ref a0, .int p0].toArray RX12 D ct := X
  have hl : lv_has ls 3 [(0, .ref a0), (1, .int p0)] := hl
  obtain ⟨⟨hx, hb, hml, hown, hts⟩, hK⟩ := id X
  refine lv_aload_n hx hb dX12_restore_0 rfl (lv_at hl 0 rfl) ?_
  refine lv_iconst (v := 0) hx hb dX12_restore_1 (by decide) ?_
  refine fp_1442 X hw 0 rfl rfl rfl (Nat.le_of_ble_eq_true rfl) dX12_restore_2 [(a0, .inr (12, [.int 0, .ref a1, .ref a2, .ref a3, .ref a4, .int 0, .int 0, .int 0, .int 0, .int 0, .int 0, .int 0, .int 0, .int 0, .int (-1), .ref a5, .ref a6, .ref a7, .ref a8, .int 0, .ref a9, .ref a10, .int 0, .int 0, .int 0, .ref a11, .ref a12, .ref a13, .ref a14, .ref a15, .ref a16])), (a2, .inl (ct 3, 2, .inl (fun _ => 0)))] rfl (fun H locs hw => ?_)
  refine lv_iload_n hx hb dX12_restore_5 rfl (lv_at hl 1 rfl) ?_
  refine lv_i2l (v := p0.toInt64) hx hb dX12_restore_6 rfl ?_
  refine lv_lconst (v := 0) hx hb dX12_restore_7 (by decide) ?_
  refine lv_lconst (v := 1) hx hb dX12_restore_8 (by decide) ?_
  refine m_Si (As := [.long p0.toInt64, .long 0, .long 1]) (rest := []) (c183_X12_within l D ct (p0.toInt64)) X hl.1 kw_1545 kd_yX12_within hw [] [0, 1] rfl rfl rfl rfl (by decide) ⟨by decide, by decide⟩ rfl rfl (Nat.le_of_ble_eq_true rfl) dX12_restore_9 ⟨by decide, by decide⟩ (fun r1 u2 H locs hr3 hw => ?_)
  replace hw : WD D A s.heap _ _ [(a0, .inr (12, [.int 0, .ref a1, .ref a2, .ref a3, .ref a4, .int 0, .int 0, .int 0, .int 0, .int 0, .int 0, .int 0, .int 0, .int 0, .int (-1), .ref a5, .ref a6, .ref a7, .ref a8, .int 0, .ref a9, .ref a10, .int 0, .int 0, .int 0, .ref a11, .ref a12, .ref a13, .ref a14, .ref a15, .ref a16])), (a2, .inl (ct 3, 2, .inl (fun _ => 0)))] := hw
  rcases hr3 with ⟨h4, rfl⟩ | ⟨⟨h5, h6⟩, rfl⟩
  · skip
    simp only [i64i] at h4
    refine lv_if_ne (tgt := 18) hx hb dX12_restore_12 (by decide) (fun h => absurd rfl h) (fun _ => ?_)
    refine lv_bipush (v := (-2)) hx hb dX12_restore_15 (by decide) ?_
    exact r_i X hr hlk hw [] (fun _ => 0) rfl rfl (Or.inl (⟨h4, rfl⟩)) (by decide) (by decide) dX12_restore_17
  · skip
    rw [i64i] at h5
    rw [i64i] at h6
    refine lv_if_ne (tgt := 18) hx hb dX12_restore_12 (by decide) (fun _ => ?_) (fun h => absurd h (by decide))
    refine lv_aload_n hx hb dX12_restore_18 rfl (lv_at hl 0 rfl) ?_
    refine fg_1444 X hw 0 rfl rfl dX12_restore_19 ?_
    refine lv_iload_n hx hb dX12_restore_22 rfl (lv_at hl 1 rfl) ?_
    rcases (show p0.toInt = 0 ∨ p0.toInt = 1 by omega) with e7 | e7
    · skip
      obtain rfl : p0 = 0 := i32_of e7
      refine j_zald (j := 0) (v := 0) X hw 1 rfl (by decide) (by decide) (by decide) rfl dX12_restore_23 ?_
      refine lv_if_ne (tgt := 30) hx hb dX12_restore_24 (by decide) (fun h => absurd rfl h) (fun _ => ?_)
      refine lv_bipush (v := (-5)) hx hb dX12_restore_27 (by decide) ?_
      exact r_i X hr hlk hw [] (fun _ => 0) rfl rfl (Or.inr (⟨Or.inl (⟨h5, h6, e7⟩), rfl⟩)) (by decide) (by decide) dX12_restore_29
    · skip
      obtain rfl : p0 = 1 := i32_of e7
      refine j_zald (j := 1) (v := 0) X hw 1 rfl (by decide) (by decide) (by decide) rfl dX12_restore_23 ?_
      refine lv_if_ne (tgt := 30) hx hb dX12_restore_24 (by decide) (fun h => absurd rfl h) (fun _ => ?_)
      refine lv_bipush (v := (-5)) hx hb dX12_restore_27 (by decide) ?_
      exact r_i X hr hlk hw [] (fun _ => 0) rfl rfl (Or.inr (⟨Or.inr (⟨h5, h6, e7⟩), rfl⟩)) (by decide) (by decide) dX12_restore_29
set_option maxHeartbeats 4000000 in
set_option maxRecDepth 100000 in
theorem c213_X2_awayMany (l : Launch) (D : va_G) (ct : Nat → ClassId) (a0 : Nat) (a1 : Nat) (a2 : Nat) (a3 : Nat) (a4 : Nat) : CI l yX2_awayMany cX2_awayMany 3 (some .int) { frames := 0, cells := 0, slots := 0, locals := 0 } D ct [.ref a0] [(a0, .inr (2, [.int 0, .int 0, .int 0, .ref a1, .ref a2, .ref a3, .int 0, .int 0, .int 0, .int 0, .int 0, .ref a4, .int 0]))] (fun r => r = 0) (fun u => [(a0, .inr (2, [.int 0, .int 0, .int 0, .ref a1, .ref a2, .ref a3, .int 0, .int 0, .int 0, .int 0, .int 0, .ref a4, .int 0]))]) := by
  refine CI.of (by decide +kernel) (Nat.le_of_ble_eq_true rfl) ?_
  intro p e s m below meth c A ls hE
  obtain ⟨X, hr, hlk, hnm, hw, hl⟩ := hE
  have X : CX p m c cX2_awayMany 3 s [.ref a0].toArray RX2 D ct := X
  have hl : lv_has ls 3 [(0, .ref a0)] := hl
  obtain ⟨⟨hx, hb, hml, hown, hts⟩, hK⟩ := id X
  refine lv_iconst (v := 0) hx hb dX2_awayMany_0 (by decide) ?_
  refine lv_istore_n (lv' := [(1, .int 0), (0, .ref a0)]) hx hb dX2_awayMany_1 rfl hl (by decide) rfl (fun ls hl => ?_)
  refine lv_iconst (v := 0) hx hb dX2_awayMany_2 (by decide) ?_
  refine lv_istore_n (lv' := [(2, .int 0), (1, .int 0), (0, .ref a0)]) hx hb dX2_awayMany_3 rfl hl (by decide) rfl (fun ls hl => ?_)
  refine lv_iload_n hx hb dX2_awayMany_4 rfl (lv_at hl 0 rfl) ?_
  refine lv_aload_n hx hb dX2_awayMany_5 rfl (lv_at hl 2 rfl) ?_
  refine fg_218 X hw 0 rfl rfl dX2_awayMany_6 ?_
  refine lv_icmp_ge (tgt := 39) hx hb dX2_awayMany_9 (by decide) (fun _ => ?_) (fun h => absurd (by decide) h)
  refine lv_iload_n hx hb dX2_awayMany_39 rfl (lv_at hl 1 rfl) ?_
  exact r_i X hr hlk hw [0] (fun _ => 0) rfl rfl rfl (by decide) (by decide) dX2_awayMany_40
set_option maxHeartbeats 4000000 in
set_option maxRecDepth 100000 in
theorem c214_X2_faultsOfAll (l : Launch) (D : va_G) (ct : Nat → ClassId) (a0 : Nat) (a1 : Nat) (a2 : Nat) (a3 : Nat) (a4 : Nat) : CI l yX2_faultsOfAll cX2_faultsOfAll 3 (some .int) { frames := 0, cells := 0, slots := 0, locals := 0 } D ct [.ref a0] [(a0, .inr (2, [.int 0, .int 0, .int 0, .ref a1, .ref a2, .ref a3, .int 0, .int 0, .int 0, .int 0, .int 0, .ref a4, .int 0]))] (fun r => r = 0) (fun u => [(a0, .inr (2, [.int 0, .int 0, .int 0, .ref a1, .ref a2, .ref a3, .int 0, .int 0, .int 0, .int 0, .int 0, .ref a4, .int 0]))]) := by
  refine CI.of (by decide +kernel) (Nat.le_of_ble_eq_true rfl) ?_
  intro p e s m below meth c A ls hE
  obtain ⟨X, hr, hlk, hnm, hw, hl⟩ := hE
  have X : CX p m c cX2_faultsOfAll 3 s [.ref a0].toArray RX2 D ct := X
  have hl : lv_has ls 3 [(0, .ref a0)] := hl
  obtain ⟨⟨hx, hb, hml, hown, hts⟩, hK⟩ := id X
  refine lv_iconst (v := 0) hx hb dX2_faultsOfAll_0 (by decide) ?_
  refine lv_istore_n (lv' := [(1, .int 0), (0, .ref a0)]) hx hb dX2_faultsOfAll_1 rfl hl (by decide) rfl (fun ls hl => ?_)
  refine lv_iconst (v := 0) hx hb dX2_faultsOfAll_2 (by decide) ?_
  refine lv_istore_n (lv' := [(2, .int 0), (1, .int 0), (0, .ref a0)]) hx hb dX2_faultsOfAll_3 rfl hl (by decide) rfl (fun ls hl => ?_)
  refine lv_iload_n hx hb dX2_faultsOfAll_4 rfl (lv_at hl 0 rfl) ?_
  refine lv_aload_n hx hb dX2_faultsOfAll_5 rfl (lv_at hl 2 rfl) ?_
  refine fg_211 X hw 0 rfl rfl dX2_faultsOfAll_6 ?_
  refine lv_icmp_ge (tgt := 30) hx hb dX2_faultsOfAll_9 (by decide) (fun _ => ?_) (fun h => absurd (by decide) h)
  refine lv_iload_n hx hb dX2_faultsOfAll_30 rfl (lv_at hl 1 rfl) ?_
  exact r_i X hr hlk hw [0] (fun _ => 0) rfl rfl rfl (by decide) (by decide) dX2_faultsOfAll_31
set_option maxHeartbeats 4000000 in
set_option maxRecDepth 100000 in
theorem c215_X11_count (l : Launch) (D : va_G) (ct : Nat → ClassId) (a0 : Nat) (p0 : Int32) (a1 : Nat) (a2 : Nat) (a3 : Nat) (a4 : Nat) (a5 : Nat) (a6 : Nat) (a7 : Nat) (a8 : Nat) (a9 : Nat) (a10 : Nat) (a11 : Nat) (a12 : Nat) (a13 : Nat) (a14 : Nat) (a15 : Nat) (a16 : Nat) (a17 : Nat) (a18 : Nat) (a19 : Nat) (a20 : Nat) (a21 : Nat) (a22 : Nat) (a23 : Nat) : CI l yX11_count cX11_count 2 (some .int) { frames := 1, cells := 0, slots := 0, locals := 22 } D ct [.ref a0, .int p0] [(a0, .inr (11, [.ref a1, .int 0, .ref a2, .ref a3, .ref a4, .ref a5, .ref a6, .ref a7, .ref a8, .ref a9, .ref a10, .ref a11, .ref a12, .ref a13, .ref a14, .ref a15, .int (-1), .int (-1)])), (a2, .inr (2, [.int 0, .int 0, .int 0, .ref a16, .ref a17, .ref a18, .int 0, .int 0, .int 0, .int 0, .int 0, .ref a19, .int 0])), (a19, .inr (4, [.ref a20, .ref a21, .ref a22, .int 0])), (a10, .inr (1, [.int 0, .int 0, .ref a23]))] (fun r => ((p0.toInt = 0) ∨ (p0.toInt ≠ 0 ∧ p0.toInt = 1) ∨ (p0.toInt ≠ 0 ∧ p0.toInt ≠ 1 ∧ p0.toInt = 2) ∨ (p0.toInt ≠ 0 ∧ p0.toInt ≠ 1 ∧ p0.toInt ≠ 2 ∧ p0.toInt = 3) ∨ (p0.toInt ≠ 0 ∧ p0.toInt ≠ 1 ∧ p0.toInt ≠ 2 ∧ p0.toInt ≠ 3 ∧ p0.toInt = 4) ∨ (p0.toInt ≠ 0 ∧ p0.toInt ≠ 1 ∧ p0.toInt ≠ 2 ∧ p0.toInt ≠ 3 ∧ p0.toInt ≠ 4 ∧ p0.toInt = 5) ∨ (p0.toInt ≠ 0 ∧ p0.toInt ≠ 1 ∧ p0.toInt ≠ 2 ∧ p0.toInt ≠ 3 ∧ p0.toInt ≠ 4 ∧ p0.toInt ≠ 5 ∧ p0.toInt = 6) ∨ (p0.toInt ≠ 0 ∧ p0.toInt ≠ 1 ∧ p0.toInt ≠ 2 ∧ p0.toInt ≠ 3 ∧ p0.toInt ≠ 4 ∧ p0.toInt ≠ 5 ∧ p0.toInt ≠ 6 ∧ p0.toInt = 7) ∨ (p0.toInt ≠ 0 ∧ p0.toInt ≠ 1 ∧ p0.toInt ≠ 2 ∧ p0.toInt ≠ 3 ∧ p0.toInt ≠ 4 ∧ p0.toInt ≠ 5 ∧ p0.toInt ≠ 6 ∧ p0.toInt ≠ 7 ∧ p0.toInt = 8)) ∧ r = 0 ∨ (p0.toInt ≠ 0 ∧ p0.toInt ≠ 1 ∧ p0.toInt ≠ 2 ∧ p0.toInt ≠ 3 ∧ p0.toInt ≠ 4 ∧ p0.toInt ≠ 5 ∧ p0.toInt ≠ 6 ∧ p0.toInt ≠ 7 ∧ p0.toInt ≠ 8) ∧ r = (-1)) (fun u => []) := by
  refine CI.of (by decide +kernel) (Nat.le_of_ble_eq_true rfl) ?_
  intro p e s m below meth c A ls hE
  obtain ⟨X, hr, hlk, hnm, hw, hl⟩ := hE
  have X : CX p m c cX11_count 2 s [.ref a0, .int p0].toArray RX11 D ct := X
  have hl : lv_has ls 2 [(0, .ref a0), (1, .int p0)] := hl
  obtain ⟨⟨hx, hb, hml, hown, hts⟩, hK⟩ := id X
  refine lv_iload_n hx hb dX11_count_0 rfl (lv_at hl 1 rfl) ?_
  by_cases e1 : p0.toInt = 0
  · obtain rfl : p0 = 0 := i32_of e1
    refine lv_tableIn (off := 51) (tgt := 52) hx hb dX11_count_1 (by decide) (by decide) (by decide) (by decide) ?_
    refine lv_aload_n hx hb dX11_count_52 rfl (lv_at hl 0 rfl) ?_
    refine fg_567 X hw 0 rfl rfl dX11_count_53 ?_
    refine fg_217 X hw 1 rfl rfl dX11_count_56 ?_
    exact r_i X hr hlk hw [] (fun _ => 0) rfl rfl (Or.inl (⟨Or.inl (e1), rfl⟩)) (by decide) (by decide) dX11_count_59
  by_cases e2 : p0.toInt = 1
  · obtain rfl : p0 = 1 := i32_of e2
    refine lv_tableIn (off := 59) (tgt := 60) hx hb dX11_count_1 (by decide) (by decide) (by decide) (by decide) ?_
    refine lv_aload_n hx hb dX11_count_60 rfl (lv_at hl 0 rfl) ?_
    refine fg_567 X hw 0 rfl rfl dX11_count_61 ?_
    refine fg_225 X hw 1 rfl rfl dX11_count_64 ?_
    exact r_i X hr hlk hw [] (fun _ => 0) rfl rfl (Or.inl (⟨Or.inr (Or.inl (⟨e1, e2⟩)), rfl⟩)) (by decide) (by decide) dX11_count_67
  by_cases e3 : p0.toInt = 2
  · obtain rfl : p0 = 2 := i32_of e3
    refine lv_tableIn (off := 67) (tgt := 68) hx hb dX11_count_1 (by decide) (by decide) (by decide) (by decide) ?_
    refine lv_aload_n hx hb dX11_count_68 rfl (lv_at hl 0 rfl) ?_
    refine fg_567 X hw 0 rfl rfl dX11_count_69 ?_
    refine m_Vi (As := []) (rest := []) (c213_X2_awayMany l D ct a2 a16 a17 a18 a19) X hl.1 kw_1103 kd_yX2_awayMany hw [1] [0, 2, 3] rfl rfl rfl rfl (by decide) 0 rfl rfl ⟨by decide, by decide⟩ rfl rfl (Nat.le_of_ble_eq_true rfl) dX11_count_72 ⟨by decide, by decide⟩ (fun r4 u5 H locs hr6 hw => ?_)
    replace hw : WD D A s.heap _ _ [(a0, .inr (11, [.ref a1, .int 0, .ref a2, .ref a3, .ref a4, .ref a5, .ref a6, .ref a7, .ref a8, .ref a9, .ref a10, .ref a11, .ref a12, .ref a13, .ref a14, .ref a15, .int (-1), .int (-1)])), (a19, .inr (4, [.ref a20, .ref a21, .ref a22, .int 0])), (a10, .inr (1, [.int 0, .int 0, .ref a23])), (a2, .inr (2, [.int 0, .int 0, .int 0, .ref a16, .ref a17, .ref a18, .int 0, .int 0, .int 0, .int 0, .int 0, .ref a19, .int 0]))] := hw
    subst hr6
    exact r_i X hr hlk hw [] (fun _ => 0) rfl rfl (Or.inl (⟨Or.inr (Or.inr (Or.inl (⟨e1, e2, e3⟩))), rfl⟩)) (by decide) (by decide) dX11_count_75
  by_cases e7 : p0.toInt = 3
  · obtain rfl : p0 = 3 := i32_of e7
    refine lv_tableIn (off := 75) (tgt := 76) hx hb dX11_count_1 (by decide) (by decide) (by decide) (by decide) ?_
    refine lv_aload_n hx hb dX11_count_76 rfl (lv_at hl 0 rfl) ?_
    refine fg_567 X hw 0 rfl rfl dX11_count_77 ?_
    refine fg_253 X hw 1 rfl rfl dX11_count_80 ?_
    refine fg_196 X hw 2 rfl rfl dX11_count_83 ?_
    exact r_i X hr hlk hw [] (fun _ => 0) rfl rfl (Or.inl (⟨Or.inr (Or.inr (Or.inr (Or.inl (⟨e1, e2, e3, e7⟩)))), rfl⟩)) (by decide) (by decide) dX11_count_86
  by_cases e8 : p0.toInt = 4
  · obtain rfl : p0 = 4 := i32_of e8
    refine lv_tableIn (off := 86) (tgt := 87) hx hb dX11_count_1 (by decide) (by decide) (by decide) (by decide) ?_
    refine lv_aload_n hx hb dX11_count_87 rfl (lv_at hl 0 rfl) ?_
    refine fg_567 X hw 0 rfl rfl dX11_count_88 ?_
    refine fg_217 X hw 1 rfl rfl dX11_count_91 ?_
    refine lv_aload_n hx hb dX11_count_94 rfl (lv_at hl 0 rfl) ?_
    refine fg_567 X hw 0 rfl rfl dX11_count_95 ?_
    refine fg_225 X hw 1 rfl rfl dX11_count_98 ?_
    refine lv_aload_n hx hb dX11_count_101 rfl (lv_at hl 0 rfl) ?_
    refine fg_567 X hw 0 rfl rfl dX11_count_102 ?_
    refine m_Vi (As := []) (rest := [.int 0, .int 0]) (c213_X2_awayMany l D ct a2 a16 a17 a18 a19) X hl.1 kw_1103 kd_yX2_awayMany hw [1] [0, 2, 3] rfl rfl rfl rfl (by decide) 0 rfl rfl ⟨by decide, by decide⟩ rfl rfl (Nat.le_of_ble_eq_true rfl) dX11_count_105 ⟨by decide, by decide⟩ (fun r9 u10 H locs hr11 hw => ?_)
    replace hw : WD D A s.heap _ _ [(a0, .inr (11, [.ref a1, .int 0, .ref a2, .ref a3, .ref a4, .ref a5, .ref a6, .ref a7, .ref a8, .ref a9, .ref a10, .ref a11, .ref a12, .ref a13, .ref a14, .ref a15, .int (-1), .int (-1)])), (a19, .inr (4, [.ref a20, .ref a21, .ref a22, .int 0])), (a10, .inr (1, [.int 0, .int 0, .ref a23])), (a2, .inr (2, [.int 0, .int 0, .int 0, .ref a16, .ref a17, .ref a18, .int 0, .int 0, .int 0, .int 0, .int 0, .ref a19, .int 0]))] := hw
    subst hr11
    refine kv_isub (v := 0) hx hb (by decide) dX11_count_108 ?_
    refine kv_isub (v := 0) hx hb (by decide) dX11_count_109 ?_
    exact r_i X hr hlk hw [] (fun _ => 0) rfl rfl (Or.inl (⟨Or.inr (Or.inr (Or.inr (Or.inr (Or.inl (⟨e1, e2, e3, e7, e8⟩))))), rfl⟩)) (by decide) (by decide) dX11_count_110
  by_cases e12 : p0.toInt = 5
  · obtain rfl : p0 = 5 := i32_of e12
    refine lv_tableIn (off := 110) (tgt := 111) hx hb dX11_count_1 (by decide) (by decide) (by decide) (by decide) ?_
    refine lv_aload_n hx hb dX11_count_111 rfl (lv_at hl 0 rfl) ?_
    refine fg_567 X hw 0 rfl rfl dX11_count_112 ?_
    refine m_Vi (As := []) (rest := []) (c214_X2_faultsOfAll l D ct a2 a16 a17 a18 a19) X hl.1 kw_1428 kd_yX2_faultsOfAll hw [1] [0, 2, 3] rfl rfl rfl rfl (by decide) 0 rfl rfl ⟨by decide, by decide⟩ rfl rfl (Nat.le_of_ble_eq_true rfl) dX11_count_115 ⟨by decide, by decide⟩ (fun r13 u14 H locs hr15 hw => ?_)
    replace hw : WD D A s.heap _ _ [(a0, .inr (11, [.ref a1, .int 0, .ref a2, .ref a3, .ref a4, .ref a5, .ref a6, .ref a7, .ref a8, .ref a9, .ref a10, .ref a11, .ref a12, .ref a13, .ref a14, .ref a15, .int (-1), .int (-1)])), (a19, .inr (4, [.ref a20, .ref a21, .ref a22, .int 0])), (a10, .inr (1, [.int 0, .int 0, .ref a23])), (a2, .inr (2, [.int 0, .int 0, .int 0, .ref a16, .ref a17, .ref a18, .int 0, .int 0, .int 0, .int 0, .int 0, .ref a19, .int 0]))] := hw
    subst hr15
    exact r_i X hr hlk hw [] (fun _ => 0) rfl rfl (Or.inl (⟨Or.inr (Or.inr (Or.inr (Or.inr (Or.inr (Or.inl (⟨e1, e2, e3, e7, e8, e12⟩)))))), rfl⟩)) (by decide) (by decide) dX11_count_118
  by_cases e16 : p0.toInt = 6
  · obtain rfl : p0 = 6 := i32_of e16
    refine lv_tableIn (off := 118) (tgt := 119) hx hb dX11_count_1 (by decide) (by decide) (by decide) (by decide) ?_
    refine lv_aload_n hx hb dX11_count_119 rfl (lv_at hl 0 rfl) ?_
    refine fg_575 X hw 0 rfl rfl dX11_count_120 ?_
    refine fg_530 X hw 3 rfl rfl dX11_count_123 ?_
    exact r_i X hr hlk hw [] (fun _ => 0) rfl rfl (Or.inl (⟨Or.inr (Or.inr (Or.inr (Or.inr (Or.inr (Or.inr (Or.inl (⟨e1, e2, e3, e7, e8, e12, e16⟩))))))), rfl⟩)) (by decide) (by decide) dX11_count_126
  by_cases e17 : p0.toInt = 7
  · obtain rfl : p0 = 7 := i32_of e17
    refine lv_tableIn (off := 126) (tgt := 127) hx hb dX11_count_1 (by decide) (by decide) (by decide) (by decide) ?_
    refine lv_aload_n hx hb dX11_count_127 rfl (lv_at hl 0 rfl) ?_
    refine fg_566 X hw 0 rfl rfl dX11_count_128 ?_
    exact r_i X hr hlk hw [] (fun _ => 0) rfl rfl (Or.inl (⟨Or.inr (Or.inr (Or.inr (Or.inr (Or.inr (Or.inr (Or.inr (Or.inl (⟨e1, e2, e3, e7, e8, e12, e16, e17⟩)))))))), rfl⟩)) (by decide) (by decide) dX11_count_131
  by_cases e18 : p0.toInt = 8
  · obtain rfl : p0 = 8 := i32_of e18
    refine lv_tableIn (off := 131) (tgt := 132) hx hb dX11_count_1 (by decide) (by decide) (by decide) (by decide) ?_
    refine lv_aload_n hx hb dX11_count_132 rfl (lv_at hl 0 rfl) ?_
    refine fg_567 X hw 0 rfl rfl dX11_count_133 ?_
    refine fg_210 X hw 1 rfl rfl dX11_count_136 ?_
    exact r_i X hr hlk hw [] (fun _ => 0) rfl rfl (Or.inl (⟨Or.inr (Or.inr (Or.inr (Or.inr (Or.inr (Or.inr (Or.inr (Or.inr (⟨e1, e2, e3, e7, e8, e12, e16, e17, e18⟩)))))))), rfl⟩)) (by decide) (by decide) dX11_count_139
  refine lv_tableOut (tgt := 140) hx hb dX11_count_1 (by omega) (by decide) ?_
  refine lv_iconst (v := (-1)) hx hb dX11_count_140 (by decide) ?_
  exact r_i X hr hlk hw [] (fun _ => 0) rfl rfl (Or.inr (⟨⟨e1, e2, e3, e7, e8, e12, e16, e17, e18⟩, rfl⟩)) (by decide) (by decide) dX11_count_141
set_option maxHeartbeats 4000000 in
set_option maxRecDepth 100000 in
theorem c216_X12_away (l : Launch) (D : va_G) (ct : Nat → ClassId) (a0 : Nat) (a1 : Nat) (a2 : Nat) (a3 : Nat) (a4 : Nat) (a5 : Nat) (a6 : Nat) (a7 : Nat) (a8 : Nat) (a9 : Nat) (a10 : Nat) (a11 : Nat) (a12 : Nat) (a13 : Nat) (a14 : Nat) (a15 : Nat) (a16 : Nat) : CI l yX12_away cX12_away 3 (some .int) { frames := 0, cells := 0, slots := 0, locals := 0 } D ct [.ref a0] [(a0, .inr (12, [.int 0, .ref a1, .ref a2, .ref a3, .ref a4, .int 0, .int 0, .int 0, .int 0, .int 0, .int 0, .int 0, .int 0, .int 0, .int (-1), .ref a5, .ref a6, .ref a7, .ref a8, .int 0, .ref a9, .ref a10, .int 0, .int 0, .int 0, .ref a11, .ref a12, .ref a13, .ref a14, .ref a15, .ref a16])), (a1, .inl (ct 0, 5310, .inl fx0))] (fun r => r = 0) (fun u => [(a0, .inr (12, [.int 0, .ref a1, .ref a2, .ref a3, .ref a4, .int 0, .int 0, .int 0, .int 0, .int 0, .int 0, .int 0, .int 0, .int 0, .int (-1), .ref a5, .ref a6, .ref a7, .ref a8, .int 0, .ref a9, .ref a10, .int 0, .int 0, .int 0, .ref a11, .ref a12, .ref a13, .ref a14, .ref a15, .ref a16])), (a1, .inl (ct 0, 5310, .inl fx0))]) := by
  refine CI.of (by decide +kernel) (Nat.le_of_ble_eq_true rfl) ?_
  intro p e s m below meth c A ls hE
  obtain ⟨X, hr, hlk, hnm, hw, hl⟩ := hE
  have X : CX p m c cX12_away 3 s [.ref a0].toArray RX12 D ct := X
  have hl : lv_has ls 3 [(0, .ref a0)] := hl
  obtain ⟨⟨hx, hb, hml, hown, hts⟩, hK⟩ := id X
  refine lv_iconst (v := 0) hx hb dX12_away_0 (by decide) ?_
  refine lv_istore_n (lv' := [(1, .int 0), (0, .ref a0)]) hx hb dX12_away_1 rfl hl (by decide) rfl (fun ls hl => ?_)
  refine lv_iconst (v := 0) hx hb dX12_away_2 (by decide) ?_
  refine lv_istore_n (lv' := [(2, .int 0), (1, .int 0), (0, .ref a0)]) hx hb dX12_away_3 rfl hl (by decide) rfl (fun ls hl => ?_)
  refine lv_iload_n hx hb dX12_away_4 rfl (lv_at hl 0 rfl) ?_
  refine lv_aload_n hx hb dX12_away_5 rfl (lv_at hl 2 rfl) ?_
  refine fg_1443 X hw 0 rfl rfl dX12_away_6 ?_
  refine lv_iconst (v := 2) hx hb dX12_away_9 (by decide) ?_
  refine j_iald (j := 2) (v := 0) X hw 1 rfl (by decide) (by decide) (by decide) rfl dX12_away_10 ?_
  refine lv_icmp_ge (tgt := 41) hx hb dX12_away_11 (by decide) (fun _ => ?_) (fun h => absurd (by decide) h)
  refine lv_iload_n hx hb dX12_away_41 rfl (lv_at hl 1 rfl) ?_
  exact r_i X hr hlk hw [0, 1] (fun _ => 0) rfl rfl rfl (by decide) (by decide) dX12_away_42
set_option maxHeartbeats 4000000 in
set_option maxRecDepth 100000 in
theorem c217_X12_faultsMany (l : Launch) (D : va_G) (ct : Nat → ClassId) (a0 : Nat) (a1 : Nat) (a2 : Nat) (a3 : Nat) (a4 : Nat) (a5 : Nat) (a6 : Nat) (a7 : Nat) (a8 : Nat) (a9 : Nat) (a10 : Nat) (a11 : Nat) (a12 : Nat) (a13 : Nat) (a14 : Nat) (a15 : Nat) (a16 : Nat) : CI l yX12_faultsMany cX12_faultsMany 3 (some .int) { frames := 0, cells := 0, slots := 0, locals := 0 } D ct [.ref a0] [(a0, .inr (12, [.int 0, .ref a1, .ref a2, .ref a3, .ref a4, .int 0, .int 0, .int 0, .int 0, .int 0, .int 0, .int 0, .int 0, .int 0, .int (-1), .ref a5, .ref a6, .ref a7, .ref a8, .int 0, .ref a9, .ref a10, .int 0, .int 0, .int 0, .ref a11, .ref a12, .ref a13, .ref a14, .ref a15, .ref a16])), (a1, .inl (ct 0, 5310, .inl fx0))] (fun r => r = 0) (fun u => [(a0, .inr (12, [.int 0, .ref a1, .ref a2, .ref a3, .ref a4, .int 0, .int 0, .int 0, .int 0, .int 0, .int 0, .int 0, .int 0, .int 0, .int (-1), .ref a5, .ref a6, .ref a7, .ref a8, .int 0, .ref a9, .ref a10, .int 0, .int 0, .int 0, .ref a11, .ref a12, .ref a13, .ref a14, .ref a15, .ref a16])), (a1, .inl (ct 0, 5310, .inl fx0))]) := by
  refine CI.of (by decide +kernel) (Nat.le_of_ble_eq_true rfl) ?_
  intro p e s m below meth c A ls hE
  obtain ⟨X, hr, hlk, hnm, hw, hl⟩ := hE
  have X : CX p m c cX12_faultsMany 3 s [.ref a0].toArray RX12 D ct := X
  have hl : lv_has ls 3 [(0, .ref a0)] := hl
  obtain ⟨⟨hx, hb, hml, hown, hts⟩, hK⟩ := id X
  refine lv_iconst (v := 0) hx hb dX12_faultsMany_0 (by decide) ?_
  refine lv_istore_n (lv' := [(1, .int 0), (0, .ref a0)]) hx hb dX12_faultsMany_1 rfl hl (by decide) rfl (fun ls hl => ?_)
  refine lv_iconst (v := 0) hx hb dX12_faultsMany_2 (by decide) ?_
  refine lv_istore_n (lv' := [(2, .int 0), (1, .int 0), (0, .ref a0)]) hx hb dX12_faultsMany_3 rfl hl (by decide) rfl (fun ls hl => ?_)
  refine lv_iload_n hx hb dX12_faultsMany_4 rfl (lv_at hl 0 rfl) ?_
  refine lv_aload_n hx hb dX12_faultsMany_5 rfl (lv_at hl 2 rfl) ?_
  refine fg_1443 X hw 0 rfl rfl dX12_faultsMany_6 ?_
  refine lv_iconst (v := 1) hx hb dX12_faultsMany_9 (by decide) ?_
  refine j_iald (j := 1) (v := 0) X hw 1 rfl (by decide) (by decide) (by decide) rfl dX12_faultsMany_10 ?_
  refine lv_icmp_ge (tgt := 33) hx hb dX12_faultsMany_11 (by decide) (fun _ => ?_) (fun h => absurd (by decide) h)
  refine lv_iload_n hx hb dX12_faultsMany_33 rfl (lv_at hl 1 rfl) ?_
  exact r_i X hr hlk hw [0, 1] (fun _ => 0) rfl rfl rfl (by decide) (by decide) dX12_faultsMany_34
set_option maxHeartbeats 4000000 in
set_option maxRecDepth 100000 in
theorem c218_X12_count (l : Launch) (D : va_G) (ct : Nat → ClassId) (a0 : Nat) (p0 : Int32) (a1 : Nat) (a2 : Nat) (a3 : Nat) (a4 : Nat) (a5 : Nat) (a6 : Nat) (a7 : Nat) (a8 : Nat) (a9 : Nat) (a10 : Nat) (a11 : Nat) (a12 : Nat) (a13 : Nat) (a14 : Nat) (a15 : Nat) (a16 : Nat) : CI l yX12_count cX12_count 2 (some .int) { frames := 1, cells := 0, slots := 0, locals := 22 } D ct [.ref a0, .int p0] [(a0, .inr (12, [.int 0, .ref a1, .ref a2, .ref a3, .ref a4, .int 0, .int 0, .int 0, .int 0, .int 0, .int 0, .int 0, .int 0, .int 0, .int (-1), .ref a5, .ref a6, .ref a7, .ref a8, .int 0, .ref a9, .ref a10, .int 0, .int 0, .int 0, .ref a11, .ref a12, .ref a13, .ref a14, .ref a15, .ref a16])), (a1, .inl (ct 0, 5310, .inl fx0))] (fun r => ((p0.toInt = 0) ∨ (p0.toInt ≠ 0 ∧ p0.toInt = 1) ∨ (p0.toInt ≠ 0 ∧ p0.toInt ≠ 1 ∧ p0.toInt = 2) ∨ (p0.toInt ≠ 0 ∧ p0.toInt ≠ 1 ∧ p0.toInt ≠ 2 ∧ p0.toInt = 3) ∨ (p0.toInt ≠ 0 ∧ p0.toInt ≠ 1 ∧ p0.toInt ≠ 2 ∧ p0.toInt ≠ 3 ∧ p0.toInt = 4) ∨ (p0.toInt ≠ 0 ∧ p0.toInt ≠ 1 ∧ p0.toInt ≠ 2 ∧ p0.toInt ≠ 3 ∧ p0.toInt ≠ 4 ∧ p0.toInt = 5) ∨ (p0.toInt ≠ 0 ∧ p0.toInt ≠ 1 ∧ p0.toInt ≠ 2 ∧ p0.toInt ≠ 3 ∧ p0.toInt ≠ 4 ∧ p0.toInt ≠ 5 ∧ p0.toInt = 6) ∨ (p0.toInt ≠ 0 ∧ p0.toInt ≠ 1 ∧ p0.toInt ≠ 2 ∧ p0.toInt ≠ 3 ∧ p0.toInt ≠ 4 ∧ p0.toInt ≠ 5 ∧ p0.toInt ≠ 6 ∧ p0.toInt = 7) ∨ (p0.toInt ≠ 0 ∧ p0.toInt ≠ 1 ∧ p0.toInt ≠ 2 ∧ p0.toInt ≠ 3 ∧ p0.toInt ≠ 4 ∧ p0.toInt ≠ 5 ∧ p0.toInt ≠ 6 ∧ p0.toInt ≠ 7 ∧ p0.toInt = 8)) ∧ r = 0 ∨ (p0.toInt ≠ 0 ∧ p0.toInt ≠ 1 ∧ p0.toInt ≠ 2 ∧ p0.toInt ≠ 3 ∧ p0.toInt ≠ 4 ∧ p0.toInt ≠ 5 ∧ p0.toInt ≠ 6 ∧ p0.toInt ≠ 7 ∧ p0.toInt ≠ 8) ∧ r = (-1)) (fun u => []) := by
  refine CI.of (by decide +kernel) (Nat.le_of_ble_eq_true rfl) ?_
  intro p e s m below meth c A ls hE
  obtain ⟨X, hr, hlk, hnm, hw, hl⟩ := hE
  have X : CX p m c cX12_count 2 s [.ref a0, .int p0].toArray RX12 D ct := X
  have hl : lv_has ls 2 [(0, .ref a0), (1, .int p0)] := hl
  obtain ⟨⟨hx, hb, hml, hown, hts⟩, hK⟩ := id X
  refine lv_aload_n hx hb dX12_count_0 rfl (lv_at hl 0 rfl) ?_
  refine lv_iconst (v := 0) hx hb dX12_count_1 (by decide) ?_
  refine fp_1442 X hw 0 rfl rfl rfl (Nat.le_of_ble_eq_true rfl) dX12_count_2 [(a0, .inr (12, [.int 0, .ref a1, .ref a2, .ref a3, .ref a4, .int 0, .int 0, .int 0, .int 0, .int 0, .int 0, .int 0, .int 0, .int 0, .int (-1), .ref a5, .ref a6, .ref a7, .ref a8, .int 0, .ref a9, .ref a10, .int 0, .int 0, .int 0, .ref a11, .ref a12, .ref a13, .ref a14, .ref a15, .ref a16])), (a1, .inl (ct 0, 5310, .inl fx0))] rfl (fun H locs hw => ?_)
  refine lv_iload_n hx hb dX12_count_5 rfl (lv_at hl 1 rfl) ?_
  by_cases e1 : p0.toInt = 0
  · obtain rfl : p0 = 0 := i32_of e1
    refine lv_tableIn (off := 50) (tgt := 56) hx hb dX12_count_6 (by decide) (by decide) (by decide) (by decide) ?_
    refine lv_aload_n hx hb dX12_count_56 rfl (lv_at hl 0 rfl) ?_
    refine fg_1443 X hw 0 rfl rfl dX12_count_57 ?_
    refine lv_iconst (v := 1) hx hb dX12_count_60 (by decide) ?_
    refine j_iald (j := 1) (v := 0) X hw 1 rfl (by decide) (by decide) (by decide) rfl dX12_count_61 ?_
    exact r_i X hr hlk hw [] (fun _ => 0) rfl rfl (Or.inl (⟨Or.inl (e1), rfl⟩)) (by decide) (by decide) dX12_count_62
  by_cases e2 : p0.toInt = 1
  · obtain rfl : p0 = 1 := i32_of e2
    refine lv_tableIn (off := 57) (tgt := 63) hx hb dX12_count_6 (by decide) (by decide) (by decide) (by decide) ?_
    refine lv_aload_n hx hb dX12_count_63 rfl (lv_at hl 0 rfl) ?_
    refine fg_1443 X hw 0 rfl rfl dX12_count_64 ?_
    refine lv_iconst (v := 2) hx hb dX12_count_67 (by decide) ?_
    refine j_iald (j := 2) (v := 0) X hw 1 rfl (by decide) (by decide) (by decide) rfl dX12_count_68 ?_
    exact r_i X hr hlk hw [] (fun _ => 0) rfl rfl (Or.inl (⟨Or.inr (Or.inl (⟨e1, e2⟩)), rfl⟩)) (by decide) (by decide) dX12_count_69
  by_cases e3 : p0.toInt = 2
  · obtain rfl : p0 = 2 := i32_of e3
    refine lv_tableIn (off := 64) (tgt := 70) hx hb dX12_count_6 (by decide) (by decide) (by decide) (by decide) ?_
    refine lv_aload_n hx hb dX12_count_70 rfl (lv_at hl 0 rfl) ?_
    refine m_Vi (As := []) (rest := []) (c216_X12_away l D ct a0 a1 a2 a3 a4 a5 a6 a7 a8 a9 a10 a11 a12 a13 a14 a15 a16) X hl.1 kw_1832 kd_yX12_away hw [0, 1] [] rfl rfl rfl rfl (by decide) 0 rfl rfl ⟨by decide, by decide⟩ rfl rfl (Nat.le_of_ble_eq_true rfl) dX12_count_71 ⟨by decide, by decide⟩ (fun r4 u5 H locs hr6 hw => ?_)
    replace hw : WD D A s.heap _ _ [(a0, .inr (12, [.int 0, .ref a1, .ref a2, .ref a3, .ref a4, .int 0, .int 0, .int 0, .int 0, .int 0, .int 0, .int 0, .int 0, .int 0, .int (-1), .ref a5, .ref a6, .ref a7, .ref a8, .int 0, .ref a9, .ref a10, .int 0, .int 0, .int 0, .ref a11, .ref a12, .ref a13, .ref a14, .ref a15, .ref a16])), (a1, .inl (ct 0, 5310, .inl fx0))] := hw
    subst hr6
    exact r_i X hr hlk hw [] (fun _ => 0) rfl rfl (Or.inl (⟨Or.inr (Or.inr (Or.inl (⟨e1, e2, e3⟩))), rfl⟩)) (by decide) (by decide) dX12_count_74
  by_cases e7 : p0.toInt = 3
  · obtain rfl : p0 = 3 := i32_of e7
    refine lv_tableIn (off := 69) (tgt := 75) hx hb dX12_count_6 (by decide) (by decide) (by decide) (by decide) ?_
    refine lv_aload_n hx hb dX12_count_75 rfl (lv_at hl 0 rfl) ?_
    refine fg_1443 X hw 0 rfl rfl dX12_count_76 ?_
    refine lv_sipush (v := 147) hx hb dX12_count_79 (by decide) ?_
    refine j_iald (j := 147) (v := 0) X hw 1 rfl (by decide) (by decide) (by decide) rfl dX12_count_82 ?_
    exact r_i X hr hlk hw [] (fun _ => 0) rfl rfl (Or.inl (⟨Or.inr (Or.inr (Or.inr (Or.inl (⟨e1, e2, e3, e7⟩)))), rfl⟩)) (by decide) (by decide) dX12_count_83
  by_cases e8 : p0.toInt = 4
  · obtain rfl : p0 = 4 := i32_of e8
    refine lv_tableIn (off := 78) (tgt := 84) hx hb dX12_count_6 (by decide) (by decide) (by decide) (by decide) ?_
    refine lv_aload_n hx hb dX12_count_84 rfl (lv_at hl 0 rfl) ?_
    refine fg_1443 X hw 0 rfl rfl dX12_count_85 ?_
    refine lv_iconst (v := 1) hx hb dX12_count_88 (by decide) ?_
    refine j_iald (j := 1) (v := 0) X hw 1 rfl (by decide) (by decide) (by decide) rfl dX12_count_89 ?_
    refine lv_aload_n hx hb dX12_count_90 rfl (lv_at hl 0 rfl) ?_
    refine fg_1443 X hw 0 rfl rfl dX12_count_91 ?_
    refine lv_iconst (v := 2) hx hb dX12_count_94 (by decide) ?_
    refine j_iald (j := 2) (v := 0) X hw 1 rfl (by decide) (by decide) (by decide) rfl dX12_count_95 ?_
    refine lv_aload_n hx hb dX12_count_96 rfl (lv_at hl 0 rfl) ?_
    refine m_Vi (As := []) (rest := [.int 0, .int 0]) (c216_X12_away l D ct a0 a1 a2 a3 a4 a5 a6 a7 a8 a9 a10 a11 a12 a13 a14 a15 a16) X hl.1 kw_1832 kd_yX12_away hw [0, 1] [] rfl rfl rfl rfl (by decide) 0 rfl rfl ⟨by decide, by decide⟩ rfl rfl (Nat.le_of_ble_eq_true rfl) dX12_count_97 ⟨by decide, by decide⟩ (fun r9 u10 H locs hr11 hw => ?_)
    replace hw : WD D A s.heap _ _ [(a0, .inr (12, [.int 0, .ref a1, .ref a2, .ref a3, .ref a4, .int 0, .int 0, .int 0, .int 0, .int 0, .int 0, .int 0, .int 0, .int 0, .int (-1), .ref a5, .ref a6, .ref a7, .ref a8, .int 0, .ref a9, .ref a10, .int 0, .int 0, .int 0, .ref a11, .ref a12, .ref a13, .ref a14, .ref a15, .ref a16])), (a1, .inl (ct 0, 5310, .inl fx0))] := hw
    subst hr11
    refine kv_isub (v := 0) hx hb (by decide) dX12_count_100 ?_
    refine kv_isub (v := 0) hx hb (by decide) dX12_count_101 ?_
    exact r_i X hr hlk hw [] (fun _ => 0) rfl rfl (Or.inl (⟨Or.inr (Or.inr (Or.inr (Or.inr (Or.inl (⟨e1, e2, e3, e7, e8⟩))))), rfl⟩)) (by decide) (by decide) dX12_count_102
  by_cases e12 : p0.toInt = 5
  · obtain rfl : p0 = 5 := i32_of e12
    refine lv_tableIn (off := 97) (tgt := 103) hx hb dX12_count_6 (by decide) (by decide) (by decide) (by decide) ?_
    refine lv_aload_n hx hb dX12_count_103 rfl (lv_at hl 0 rfl) ?_
    refine m_Vi (As := []) (rest := []) (c217_X12_faultsMany l D ct a0 a1 a2 a3 a4 a5 a6 a7 a8 a9 a10 a11 a12 a13 a14 a15 a16) X hl.1 kw_2056 kd_yX12_faultsMany hw [0, 1] [] rfl rfl rfl rfl (by decide) 0 rfl rfl ⟨by decide, by decide⟩ rfl rfl (Nat.le_of_ble_eq_true rfl) dX12_count_104 ⟨by decide, by decide⟩ (fun r13 u14 H locs hr15 hw => ?_)
    replace hw : WD D A s.heap _ _ [(a0, .inr (12, [.int 0, .ref a1, .ref a2, .ref a3, .ref a4, .int 0, .int 0, .int 0, .int 0, .int 0, .int 0, .int 0, .int 0, .int 0, .int (-1), .ref a5, .ref a6, .ref a7, .ref a8, .int 0, .ref a9, .ref a10, .int 0, .int 0, .int 0, .ref a11, .ref a12, .ref a13, .ref a14, .ref a15, .ref a16])), (a1, .inl (ct 0, 5310, .inl fx0))] := hw
    subst hr15
    exact r_i X hr hlk hw [] (fun _ => 0) rfl rfl (Or.inl (⟨Or.inr (Or.inr (Or.inr (Or.inr (Or.inr (Or.inl (⟨e1, e2, e3, e7, e8, e12⟩)))))), rfl⟩)) (by decide) (by decide) dX12_count_107
  by_cases e16 : p0.toInt = 6
  · obtain rfl : p0 = 6 := i32_of e16
    refine lv_tableIn (off := 102) (tgt := 108) hx hb dX12_count_6 (by decide) (by decide) (by decide) (by decide) ?_
    refine lv_aload_n hx hb dX12_count_108 rfl (lv_at hl 0 rfl) ?_
    refine fg_1443 X hw 0 rfl rfl dX12_count_109 ?_
    refine lv_sipush (v := 148) hx hb dX12_count_112 (by decide) ?_
    refine j_iald (j := 148) (v := 0) X hw 1 rfl (by decide) (by decide) (by decide) rfl dX12_count_115 ?_
    exact r_i X hr hlk hw [] (fun _ => 0) rfl rfl (Or.inl (⟨Or.inr (Or.inr (Or.inr (Or.inr (Or.inr (Or.inr (Or.inl (⟨e1, e2, e3, e7, e8, e12, e16⟩))))))), rfl⟩)) (by decide) (by decide) dX12_count_116
  by_cases e17 : p0.toInt = 7
  · obtain rfl : p0 = 7 := i32_of e17
    refine lv_tableIn (off := 111) (tgt := 117) hx hb dX12_count_6 (by decide) (by decide) (by decide) (by decide) ?_
    refine lv_aload_n hx hb dX12_count_117 rfl (lv_at hl 0 rfl) ?_
    refine fg_1447 X hw 0 rfl rfl dX12_count_118 ?_
    exact r_i X hr hlk hw [] (fun _ => 0) rfl rfl (Or.inl (⟨Or.inr (Or.inr (Or.inr (Or.inr (Or.inr (Or.inr (Or.inr (Or.inl (⟨e1, e2, e3, e7, e8, e12, e16, e17⟩)))))))), rfl⟩)) (by decide) (by decide) dX12_count_121
  by_cases e18 : p0.toInt = 8
  · obtain rfl : p0 = 8 := i32_of e18
    refine lv_tableIn (off := 116) (tgt := 122) hx hb dX12_count_6 (by decide) (by decide) (by decide) (by decide) ?_
    refine lv_aload_n hx hb dX12_count_122 rfl (lv_at hl 0 rfl) ?_
    refine fg_1443 X hw 0 rfl rfl dX12_count_123 ?_
    refine lv_iconst (v := 0) hx hb dX12_count_126 (by decide) ?_
    refine j_iald (j := 0) (v := 0) X hw 1 rfl (by decide) (by decide) (by decide) rfl dX12_count_127 ?_
    exact r_i X hr hlk hw [] (fun _ => 0) rfl rfl (Or.inl (⟨Or.inr (Or.inr (Or.inr (Or.inr (Or.inr (Or.inr (Or.inr (Or.inr (⟨e1, e2, e3, e7, e8, e12, e16, e17, e18⟩)))))))), rfl⟩)) (by decide) (by decide) dX12_count_128
  refine lv_tableOut (tgt := 129) hx hb dX12_count_6 (by omega) (by decide) ?_
  refine lv_iconst (v := (-1)) hx hb dX12_count_129 (by decide) ?_
  exact r_i X hr hlk hw [] (fun _ => 0) rfl rfl (Or.inr (⟨⟨e1, e2, e3, e7, e8, e12, e16, e17, e18⟩, rfl⟩)) (by decide) (by decide) dX12_count_130
