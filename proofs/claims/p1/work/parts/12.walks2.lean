set_option maxHeartbeats 4000000 in
set_option maxRecDepth 100000 in
theorem ylp9 {p : Program} {l : Launch} {e : Env} {R : Room} {s : State} {m : MethodId} {args : Array Value} {below : List Frame} {meth : Method} {c : Code} {cells slots : Nat} {Q : State → Prop} {D : va_G} {ct : Nat → ClassId} {A : Nat → Prop} {a1 : Nat} {a0 : Nat} {a2 : Nat} {a3 : Nat} {a4 : Nat} {a5 : Nat} {a6 : Nat} {a7 : Nat} {a8 : Nat} {a9 : Nat} {a10 : Nat} {a11 : Nat} {a12 : Nat} {a13 : Nat} {a14 : Nat} {a15 : Nat} {a16 : Nat} {f0 : Nat → Int32} (X : CX p m c cX12_keeps 2 s args RX12 D ct) (kk : ∀ (g : Nat → Int32), g = (va_cpy fx0 f0 76 0 72) → ∀ (H : Heap) (locs : List Loc) (ls : Array Slot), WD D A s.heap H locs [(a1, .inl (ct 0, 72, .inl g)), (a0, .inr (12, [.int 0, .ref a2, .ref a3, .ref a4, .ref a5, .int 0, .int 0, .int 0, .int 0, .int 0, .int 0, .int 0, .int 0, .int 0, .int (-1), .ref a6, .ref a7, .ref a8, .ref a9, .int 1, .ref a1, .ref a10, .int 0, .int 0, .int 0, .ref a11, .ref a12, .ref a13, .ref a14, .ref a15, .ref a16])), (a2, .inl (ct 0, 5310, .inl fx0))] → lv_has ls 2 [(1, .int (nI 72)), (0, .ref a0)] → W p l e R s m args below meth c H locs cells slots Q (F0 m 29 ls [])) : ∀ (n k : Nat), k + n = 72 → ∀ (g : Nat → Int32), g = (va_cpy fx0 f0 76 0 k) → ∀ (H : Heap) (locs : List Loc) (ls : Array Slot), WD D A s.heap H locs [(a1, .inl (ct 0, 72, .inl g)), (a0, .inr (12, [.int 0, .ref a2, .ref a3, .ref a4, .ref a5, .int 0, .int 0, .int 0, .int 0, .int 0, .int 0, .int 0, .int 0, .int 0, .int (-1), .ref a6, .ref a7, .ref a8, .ref a9, .int 1, .ref a1, .ref a10, .int 0, .int 0, .int 0, .ref a11, .ref a12, .ref a13, .ref a14, .ref a15, .ref a16])), (a2, .inl (ct 0, 5310, .inl fx0))] → lv_has ls 2 [(1, .int (nI k)), (0, .ref a0)] → W p l e R s m args below meth c H locs cells slots Q (F0 m 2 ls []) := by
  obtain ⟨⟨hx, hb, hml, hown, hts⟩, hK⟩ := id X
  intro n
  induction n with
  | zero =>
    intro k hk g hg H locs ls hw hl
    obtain rfl : k = 72 := by omega
    refine lv_iload_n hx hb dX12_keeps_2 rfl (lv_at hl 0 rfl) ?_
    refine lv_bipush (v := 72) hx hb dX12_keeps_3 (by decide) ?_
    refine lv_icmp_ge (tgt := 29) hx hb dX12_keeps_5 (by decide) (fun _ => ?_) (fun h => absurd (nI_le (a := 72) (b := 72) (Nat.le_refl _) (by omega)) h)
    exact kk g hg _ _ _ hw hl
  | succ n ih =>
    intro k hk g hg H locs ls hw hl
    refine lv_iload_n hx hb dX12_keeps_2 rfl (lv_at hl 0 rfl) ?_
    refine lv_bipush (v := 72) hx hb dX12_keeps_3 (by decide) ?_
    refine lv_icmp_ge (tgt := 29) hx hb dX12_keeps_5 (by decide) (fun h => absurd h (nI_ge (a := k) (b := 72) (by omega) (by omega))) (fun _ => ?_)
    refine lv_aload_n hx hb dX12_keeps_8 rfl (lv_at hl 1 rfl) ?_
    refine fg_1462 X hw 1 rfl rfl dX12_keeps_9 ?_
    refine lv_iload_n hx hb dX12_keeps_12 rfl (lv_at hl 0 rfl) ?_
    refine lv_aload_n hx hb dX12_keeps_13 rfl (lv_at hl 1 rfl) ?_
    refine fg_1443 X hw 1 rfl rfl dX12_keeps_14 ?_
    refine lv_bipush (v := 76) hx hb dX12_keeps_17 (by decide) ?_
    refine lv_iload_n hx hb dX12_keeps_19 rfl (lv_at hl 0 rfl) ?_
    refine kv_iadd (v := (nI (76 + k))) hx hb (nI_add (76) (k)) dX12_keeps_20 ?_
    refine j_iald (j := (76 + k)) (v := (fx0 (76 + k))) X hw 2 rfl (nI_pos (by omega)) (nI_clamp (by omega)) (by omega) rfl dX12_keeps_21 ?_
    refine j_iast (j := (k)) X hw 0 rfl (nI_pos (by omega)) (nI_clamp (by omega)) (by omega) dX12_keeps_22 [(a1, .inl (ct 0, 72, .inl (upd g (k) (fx0 (76 + k))))), (a0, .inr (12, [.int 0, .ref a2, .ref a3, .ref a4, .ref a5, .int 0, .int 0, .int 0, .int 0, .int 0, .int 0, .int 0, .int 0, .int 0, .int (-1), .ref a6, .ref a7, .ref a8, .ref a9, .int 1, .ref a1, .ref a10, .int 0, .int 0, .int 0, .ref a11, .ref a12, .ref a13, .ref a14, .ref a15, .ref a16])), (a2, .inl (ct 0, 5310, .inl fx0))] rfl (fun H locs hw => ?_)
    refine lv_iinc (v := (nI (k + 1))) (lv' := [(1, .int (nI (k + 1))), (0, .ref a0)]) hx hb dX12_keeps_23 hl (k := 0) rfl (nI_add _ _) (by decide) rfl (fun ls hl => ?_)
    refine lv_goto (tgt := 2) hx hb dX12_keeps_26 (by decide) ?_
    exact ih (k + 1) (by omega) _ (by rw [hg]; exact cpy_s _ _ _ _ _ _ _ (by omega) (by first | rfl | rw [Nat.zero_add])) _ _ _ hw (lv_sub hl [0, 1] rfl)
set_option maxHeartbeats 4000000 in
set_option maxRecDepth 100000 in
theorem c72_X12_keeps (l : Launch) (D : va_G) (ct : Nat → ClassId) (a0 : Nat) (f0 : Nat → Int32) (a1 : Nat) (a2 : Nat) (a3 : Nat) (a4 : Nat) (a5 : Nat) (a6 : Nat) (a7 : Nat) (a8 : Nat) (a9 : Nat) (a10 : Nat) (a11 : Nat) (a12 : Nat) (a13 : Nat) (a14 : Nat) (a15 : Nat) (a16 : Nat) : CV l yX12_keeps cX12_keeps 2 none { frames := 0, cells := 0, slots := 0, locals := 0 } D ct [.ref a0] [(a1, .inl (ct 0, 72, .inl f0)), (a0, .inr (12, [.int 0, .ref a2, .ref a3, .ref a4, .ref a5, .int 0, .int 0, .int 0, .int 0, .int 0, .int 0, .int 0, .int 0, .int 0, .int (-1), .ref a6, .ref a7, .ref a8, .ref a9, .int 1, .ref a1, .ref a10, .int 0, .int 0, .int 0, .ref a11, .ref a12, .ref a13, .ref a14, .ref a15, .ref a16])), (a2, .inl (ct 0, 5310, .inl fx0))] True (fun u => [(a1, .inl (ct 0, 72, .inl (va_cpy fx0 f0 76 0 72))), (a0, .inr (12, [.int 0, .ref a2, .ref a3, .ref a4, .ref a5, .int 0, .int 0, .int 0, .int 0, .int 0, .int 0, .int 0, .int 0, .int 0, .int (-1), .ref a6, .ref a7, .ref a8, .ref a9, .int 1, .ref a1, .ref a10, .int 0, .int 0, .int 0, .ref a11, .ref a12, .ref a13, .ref a14, .ref a15, .ref a16])), (a2, .inl (ct 0, 5310, .inl fx0))]) := by
  refine CV.of (by decide +kernel) (Nat.le_of_ble_eq_true rfl) ?_
  intro p e s m below meth c A ls hE
  obtain ⟨X, hr, hlk, hnm, hw, hl⟩ := hE
  have X : CX p m c cX12_keeps 2 s [.ref a0].toArray RX12 D ct := X
  have hl : lv_has ls 2 [(0, .ref a0)] := hl
  obtain ⟨⟨hx, hb, hml, hown, hts⟩, hK⟩ := id X
  refine lv_iconst (v := 0) hx hb dX12_keeps_0 (by decide) ?_
  refine lv_istore_n (lv' := [(1, .int 0), (0, .ref a0)]) hx hb dX12_keeps_1 rfl hl (by decide) rfl (fun ls hl => ?_)
  refine ylp9 X (fun g hg H locs ls hw hl => ?_) 72 0 (by omega) _ (cpy_0 _ _ _ _) _ _ _ hw hl
  subst hg
  replace hw : WD D A s.heap _ _ [(a1, .inl (ct 0, 72, .inl (va_cpy fx0 f0 76 0 72))), (a0, .inr (12, [.int 0, .ref a2, .ref a3, .ref a4, .ref a5, .int 0, .int 0, .int 0, .int 0, .int 0, .int 0, .int 0, .int 0, .int 0, .int (-1), .ref a6, .ref a7, .ref a8, .ref a9, .int 1, .ref a1, .ref a10, .int 0, .int 0, .int 0, .ref a11, .ref a12, .ref a13, .ref a14, .ref a15, .ref a16])), (a2, .inl (ct 0, 5310, .inl fx0))] := hw
  replace hl : lv_has ls 2 [(1, .int 72), (0, .ref a0)] := hl
  exact r_v X hr hlk hw [0, 1, 2] (fun _ => 0) rfl rfl trivial (by decide) (by decide) dX12_keeps_29
set_option maxHeartbeats 4000000 in
set_option maxRecDepth 100000 in
theorem c73_X12_drawsBy (l : Launch) (D : va_G) (ct : Nat → ClassId) (a0 : Nat) (w0 : Int64) (a1 : Nat) (a2 : Nat) (a3 : Nat) (a4 : Nat) (a5 : Nat) (a6 : Nat) (a7 : Nat) (a8 : Nat) (a9 : Nat) (a10 : Nat) (a11 : Nat) (a12 : Nat) (a13 : Nat) (a14 : Nat) (a15 : Nat) (a16 : Nat) : CI l yX12_drawsBy cX12_drawsBy 6 (some .int) { frames := 0, cells := 0, slots := 0, locals := 0 } D ct [.ref a0, .long w0] [(a0, .inr (12, [.int 0, .ref a1, .ref a2, .ref a3, .ref a4, .int 0, .int 0, .int 0, .int 0, .int 0, .int 0, .int 0, .int 0, .int 0, .int (-1), .ref a5, .ref a6, .ref a7, .ref a8, .int 1, .ref a9, .ref a10, .int 0, .int 0, .int 0, .ref a11, .ref a12, .ref a13, .ref a14, .ref a15, .ref a16])), (a1, .inl (ct 0, 5310, .inl fx0))] (fun r => r = (w0 - w0 / 1 * 1).toInt32) (fun u => [(a0, .inr (12, [.int 0, .ref a1, .ref a2, .ref a3, .ref a4, .int 0, .int 0, .int 0, .int 0, .int 0, .int 0, .int 0, .int 0, .int 0, .int (-1), .ref a5, .ref a6, .ref a7, .ref a8, .int 1, .ref a9, .ref a10, .int 0, .int 0, .int 0, .ref a11, .ref a12, .ref a13, .ref a14, .ref a15, .ref a16])), (a1, .inl (ct 0, 5310, .inl (upd fx0 147 1)))]) := by
  refine CI.of (by decide +kernel) (Nat.le_of_ble_eq_true rfl) ?_
  intro p e s m below meth c A ls hE
  obtain ⟨X, hr, hlk, hnm, hw, hl⟩ := hE
  have X : CX p m c cX12_drawsBy 6 s [.ref a0, .long w0].toArray RX12 D ct := X
  have hl : lv_has ls 6 [(0, .ref a0), (1, .long w0)] := hl
  obtain ⟨⟨hx, hb, hml, hown, hts⟩, hK⟩ := id X
  refine lv_lload_n hx hb dX12_drawsBy_0 rfl (lv_at hl 1 rfl) ?_
  refine lv_aload_n hx hb dX12_drawsBy_1 rfl (lv_at hl 0 rfl) ?_
  refine fg_1461 X hw 0 rfl rfl dX12_drawsBy_2 ?_
  refine lv_i2l (v := 1) hx hb dX12_drawsBy_5 (by decide) ?_
  refine kv_lrem (v := (w0 - w0 / 1 * 1)) hx hb rfl (by decide) dX12_drawsBy_6 ?_
  refine lv_l2i (v := (w0 - w0 / 1 * 1).toInt32) hx hb dX12_drawsBy_7 rfl ?_
  refine lv_istore_n (lv' := [(3, .int (w0 - w0 / 1 * 1).toInt32), (0, .ref a0), (1, .long w0)]) hx hb dX12_drawsBy_8 rfl hl (by decide) rfl (fun ls hl => ?_)
  refine lv_iconst (v := 0) hx hb dX12_drawsBy_9 (by decide) ?_
  refine lv_istore (lv' := [(4, .int 0), (3, .int (w0 - w0 / 1 * 1).toInt32), (0, .ref a0), (1, .long w0)]) hx hb dX12_drawsBy_10 hl (by decide) rfl (fun ls hl => ?_)
  refine lv_iload hx hb dX12_drawsBy_12 (lv_at hl 0 rfl) ?_
  refine lv_aload_n hx hb dX12_drawsBy_14 rfl (lv_at hl 2 rfl) ?_
  refine fg_1443 X hw 0 rfl rfl dX12_drawsBy_15 ?_
  refine lv_iconst (v := 2) hx hb dX12_drawsBy_18 (by decide) ?_
  refine j_iald (j := 2) (v := 0) X hw 1 rfl (by decide) (by decide) (by decide) rfl dX12_drawsBy_19 ?_
  refine lv_icmp_ge (tgt := 74) hx hb dX12_drawsBy_20 (by decide) (fun _ => ?_) (fun h => absurd (by decide) h)
  refine lv_aload_n hx hb dX12_drawsBy_74 rfl (lv_at hl 2 rfl) ?_
  refine fg_1443 X hw 0 rfl rfl dX12_drawsBy_75 ?_
  refine lv_sipush (v := 147) hx hb dX12_drawsBy_78 (by decide) ?_
  refine lv_dup2_11 hx hb dX12_drawsBy_81 rfl rfl ?_
  refine j_iald (j := 147) (v := 0) X hw 1 rfl (by decide) (by decide) (by decide) rfl dX12_drawsBy_82 ?_
  refine lv_iconst (v := 1) hx hb dX12_drawsBy_83 (by decide) ?_
  refine kv_iadd (v := 1) hx hb (by decide) dX12_drawsBy_84 ?_
  refine j_iast (j := 147) X hw 1 rfl (by decide) (by decide) (by decide) dX12_drawsBy_85 [(a0, .inr (12, [.int 0, .ref a1, .ref a2, .ref a3, .ref a4, .int 0, .int 0, .int 0, .int 0, .int 0, .int 0, .int 0, .int 0, .int 0, .int (-1), .ref a5, .ref a6, .ref a7, .ref a8, .int 1, .ref a9, .ref a10, .int 0, .int 0, .int 0, .ref a11, .ref a12, .ref a13, .ref a14, .ref a15, .ref a16])), (a1, .inl (ct 0, 5310, .inl (upd fx0 147 1)))] rfl (fun H locs hw => ?_)
  refine lv_iload_n hx hb dX12_drawsBy_86 rfl (lv_at hl 1 rfl) ?_
  exact r_i X hr hlk hw [0, 1] (fun _ => 0) rfl rfl rfl (by decide) (by decide) dX12_drawsBy_87
def fx11 : Nat → Int32 := (va_cpy (va_cpy fx0 (fun _ => 0) 76 0 72) (upd fx0 147 1) 0 149 72)
set_option maxHeartbeats 4000000 in
set_option maxRecDepth 100000 in
theorem ylp10 {p : Program} {l : Launch} {e : Env} {R : Room} {s : State} {m : MethodId} {args : Array Value} {below : List Frame} {meth : Method} {c : Code} {cells slots : Nat} {Q : State → Prop} {D : va_G} {ct : Nat → ClassId} {A : Nat → Prop} {a1 : Nat} {a0 : Nat} {a2 : Nat} {a3 : Nat} {a4 : Nat} {a5 : Nat} {a6 : Nat} {a7 : Nat} {a8 : Nat} {a9 : Nat} {a10 : Nat} {a11 : Nat} {a12 : Nat} {a13 : Nat} {a14 : Nat} {a15 : Nat} {a16 : Nat} (X : CX p m c cX12_notes 2 s args RX12 D ct) (kk : ∀ (g : Nat → Int32), g = (va_cpy (va_cpy fx0 (fun _ => 0) 76 0 72) (upd fx0 147 1) 0 149 72) → ∀ (H : Heap) (locs : List Loc) (ls : Array Slot), WD D A s.heap H locs [(a1, .inl (ct 0, 72, .inl (va_cpy fx0 (fun _ => 0) 76 0 72))), (a0, .inr (12, [.int 0, .ref a2, .ref a3, .ref a4, .ref a5, .int 0, .int 0, .int 0, .int 0, .int 0, .int 0, .int 0, .int 0, .int 0, .int (-1), .ref a6, .ref a7, .ref a8, .ref a9, .int 1, .ref a1, .ref a10, .int 0, .int 0, .int 0, .ref a11, .ref a12, .ref a13, .ref a14, .ref a15, .ref a16])), (a2, .inl (ct 0, 5310, .inl g))] → lv_has ls 2 [(1, .int (nI 72)), (0, .ref a0)] → W p l e R s m args below meth c H locs cells slots Q (F0 m 102 ls [])) : ∀ (n k : Nat), k + n = 72 → ∀ (g : Nat → Int32), g = (va_cpy (va_cpy fx0 (fun _ => 0) 76 0 72) (upd fx0 147 1) 0 149 k) → ∀ (H : Heap) (locs : List Loc) (ls : Array Slot), WD D A s.heap H locs [(a1, .inl (ct 0, 72, .inl (va_cpy fx0 (fun _ => 0) 76 0 72))), (a0, .inr (12, [.int 0, .ref a2, .ref a3, .ref a4, .ref a5, .int 0, .int 0, .int 0, .int 0, .int 0, .int 0, .int 0, .int 0, .int 0, .int (-1), .ref a6, .ref a7, .ref a8, .ref a9, .int 1, .ref a1, .ref a10, .int 0, .int 0, .int 0, .ref a11, .ref a12, .ref a13, .ref a14, .ref a15, .ref a16])), (a2, .inl (ct 0, 5310, .inl g))] → lv_has ls 2 [(1, .int (nI k)), (0, .ref a0)] → W p l e R s m args below meth c H locs cells slots Q (F0 m 62 ls []) := by
  obtain ⟨⟨hx, hb, hml, hown, hts⟩, hK⟩ := id X
  intro n
  induction n with
  | zero =>
    intro k hk g hg H locs ls hw hl
    obtain rfl : k = 72 := by omega
    refine lv_iload_n hx hb dX12_notes_62 rfl (lv_at hl 0 rfl) ?_
    refine lv_bipush (v := 72) hx hb dX12_notes_63 (by decide) ?_
    refine lv_icmp_ge (tgt := 102) hx hb dX12_notes_65 (by decide) (fun _ => ?_) (fun h => absurd (nI_le (a := 72) (b := 72) (Nat.le_refl _) (by omega)) h)
    exact kk g hg _ _ _ hw hl
  | succ n ih =>
    intro k hk g hg H locs ls hw hl
    refine lv_iload_n hx hb dX12_notes_62 rfl (lv_at hl 0 rfl) ?_
    refine lv_bipush (v := 72) hx hb dX12_notes_63 (by decide) ?_
    refine lv_icmp_ge (tgt := 102) hx hb dX12_notes_65 (by decide) (fun h => absurd h (nI_ge (a := k) (b := 72) (by omega) (by omega))) (fun _ => ?_)
    refine lv_aload_n hx hb dX12_notes_68 rfl (lv_at hl 1 rfl) ?_
    refine fg_1443 X hw 1 rfl rfl dX12_notes_69 ?_
    refine lv_sipush (v := 149) hx hb dX12_notes_72 (by decide) ?_
    refine lv_bipush (v := 72) hx hb dX12_notes_75 (by decide) ?_
    refine lv_aload_n hx hb dX12_notes_77 rfl (lv_at hl 1 rfl) ?_
    refine fg_1443 X hw 1 rfl rfl dX12_notes_78 ?_
    refine lv_sipush (v := 148) hx hb dX12_notes_81 (by decide) ?_
    refine j_iald (j := 148) (v := 0) X hw 2 rfl (by decide) (by decide) (by decide) (by rw [hg, pk_cpy_out (by omega)]; rfl) dX12_notes_84 ?_
    refine kv_imul (v := 0) hx hb (by decide) dX12_notes_85 ?_
    refine kv_iadd (v := 149) hx hb (by decide) dX12_notes_86 ?_
    refine lv_iload_n hx hb dX12_notes_87 rfl (lv_at hl 0 rfl) ?_
    refine kv_iadd (v := (nI (149 + k))) hx hb (nI_add (149) (k)) dX12_notes_88 ?_
    refine lv_aload_n hx hb dX12_notes_89 rfl (lv_at hl 1 rfl) ?_
    refine fg_1462 X hw 1 rfl rfl dX12_notes_90 ?_
    refine lv_iload_n hx hb dX12_notes_93 rfl (lv_at hl 0 rfl) ?_
    refine j_iald (j := (k)) (v := ((va_cpy fx0 (fun _ => 0) 76 0 72) (k))) X hw 0 rfl (nI_pos (by omega)) (nI_clamp (by omega)) (by omega) rfl dX12_notes_94 ?_
    refine j_iast (j := (149 + k)) X hw 2 rfl (nI_pos (by omega)) (nI_clamp (by omega)) (by omega) dX12_notes_95 [(a1, .inl (ct 0, 72, .inl (va_cpy fx0 (fun _ => 0) 76 0 72))), (a0, .inr (12, [.int 0, .ref a2, .ref a3, .ref a4, .ref a5, .int 0, .int 0, .int 0, .int 0, .int 0, .int 0, .int 0, .int 0, .int 0, .int (-1), .ref a6, .ref a7, .ref a8, .ref a9, .int 1, .ref a1, .ref a10, .int 0, .int 0, .int 0, .ref a11, .ref a12, .ref a13, .ref a14, .ref a15, .ref a16])), (a2, .inl (ct 0, 5310, .inl (upd g (149 + k) ((va_cpy fx0 (fun _ => 0) 76 0 72) (k)))))] rfl (fun H locs hw => ?_)
    refine lv_iinc (v := (nI (k + 1))) (lv' := [(1, .int (nI (k + 1))), (0, .ref a0)]) hx hb dX12_notes_96 hl (k := 0) rfl (nI_add _ _) (by decide) rfl (fun ls hl => ?_)
    refine lv_goto (tgt := 62) hx hb dX12_notes_99 (by decide) ?_
    exact ih (k + 1) (by omega) _ (by rw [hg]; exact cpy_s _ _ _ _ _ _ _ (by omega) (by first | rfl | rw [Nat.zero_add])) _ _ _ hw (lv_sub hl [0, 1] rfl)
set_option maxHeartbeats 4000000 in
set_option maxRecDepth 100000 in
theorem c74_X12_notes (l : Launch) (D : va_G) (ct : Nat → ClassId) (a0 : Nat) (a1 : Nat) (a2 : Nat) (a3 : Nat) (a4 : Nat) (a5 : Nat) (a6 : Nat) (a7 : Nat) (a8 : Nat) (a9 : Nat) (a10 : Nat) (a11 : Nat) (a12 : Nat) (a13 : Nat) (a14 : Nat) (a15 : Nat) (a16 : Nat) : CV l yX12_notes cX12_notes 2 none { frames := 0, cells := 0, slots := 0, locals := 0 } D ct [.ref a0] [(a1, .inl (ct 0, 72, .inl (va_cpy fx0 (fun _ => 0) 76 0 72))), (a0, .inr (12, [.int 0, .ref a2, .ref a3, .ref a4, .ref a5, .int 0, .int 0, .int 0, .int 0, .int 0, .int 0, .int 0, .int 0, .int 0, .int (-1), .ref a6, .ref a7, .ref a8, .ref a9, .int 1, .ref a1, .ref a10, .int 0, .int 0, .int 0, .ref a11, .ref a12, .ref a13, .ref a14, .ref a15, .ref a16])), (a2, .inl (ct 0, 5310, .inl (upd fx0 147 1)))] True (fun u => [(a1, .inl (ct 0, 72, .inl (va_cpy fx0 (fun _ => 0) 76 0 72))), (a0, .inr (12, [.int 0, .ref a2, .ref a3, .ref a4, .ref a5, .int 0, .int 0, .int 0, .int 0, .int 0, .int 0, .int 0, .int 0, .int 0, .int (-1), .ref a6, .ref a7, .ref a8, .ref a9, .int 1, .ref a1, .ref a10, .int 0, .int 0, .int 0, .ref a11, .ref a12, .ref a13, .ref a14, .ref a15, .ref a16])), (a2, .inl (ct 0, 5310, .inl (upd fx11 148 1)))]) := by
  refine CV.of (by decide +kernel) (Nat.le_of_ble_eq_true rfl) ?_
  intro p e s m below meth c A ls hE
  obtain ⟨X, hr, hlk, hnm, hw, hl⟩ := hE
  have X : CX p m c cX12_notes 2 s [.ref a0].toArray RX12 D ct := X
  have hl : lv_has ls 2 [(0, .ref a0)] := hl
  obtain ⟨⟨hx, hb, hml, hown, hts⟩, hK⟩ := id X
  refine lv_aload_n hx hb dX12_notes_0 rfl (lv_at hl 0 rfl) ?_
  refine fg_1443 X hw 1 rfl rfl dX12_notes_1 ?_
  refine lv_sipush (v := 148) hx hb dX12_notes_4 (by decide) ?_
  refine j_iald (j := 148) (v := 0) X hw 2 rfl (by decide) (by decide) (by decide) rfl dX12_notes_7 ?_
  refine lv_bipush (v := 10) hx hb dX12_notes_8 (by decide) ?_
  refine lv_icmp_ne (tgt := 60) hx hb dX12_notes_10 (by decide) (fun _ => ?_) (fun h => absurd h (by decide))
  refine lv_iconst (v := 0) hx hb dX12_notes_60 (by decide) ?_
  refine lv_istore_n (lv' := [(1, .int 0), (0, .ref a0)]) hx hb dX12_notes_61 rfl hl (by decide) rfl (fun ls hl => ?_)
  refine ylp10 X (fun g hg H locs ls hw hl => ?_) 72 0 (by omega) _ (cpy_0 _ _ _ _) _ _ _ hw hl
  subst hg
  replace hw : WD D A s.heap _ _ [(a1, .inl (ct 0, 72, .inl (va_cpy fx0 (fun _ => 0) 76 0 72))), (a0, .inr (12, [.int 0, .ref a2, .ref a3, .ref a4, .ref a5, .int 0, .int 0, .int 0, .int 0, .int 0, .int 0, .int 0, .int 0, .int 0, .int (-1), .ref a6, .ref a7, .ref a8, .ref a9, .int 1, .ref a1, .ref a10, .int 0, .int 0, .int 0, .ref a11, .ref a12, .ref a13, .ref a14, .ref a15, .ref a16])), (a2, .inl (ct 0, 5310, .inl fx11))] := hw
  replace hl : lv_has ls 2 [(1, .int 72), (0, .ref a0)] := hl
  refine lv_aload_n hx hb dX12_notes_102 rfl (lv_at hl 1 rfl) ?_
  refine fg_1443 X hw 1 rfl rfl dX12_notes_103 ?_
  refine lv_sipush (v := 148) hx hb dX12_notes_106 (by decide) ?_
  refine lv_dup2_11 hx hb dX12_notes_109 rfl rfl ?_
  refine j_iald (j := 148) (v := 0) X hw 2 rfl (by decide) (by decide) (by decide) rfl dX12_notes_110 ?_
  refine lv_iconst (v := 1) hx hb dX12_notes_111 (by decide) ?_
  refine kv_iadd (v := 1) hx hb (by decide) dX12_notes_112 ?_
  refine j_iast (j := 148) X hw 2 rfl (by decide) (by decide) (by decide) dX12_notes_113 [(a1, .inl (ct 0, 72, .inl (va_cpy fx0 (fun _ => 0) 76 0 72))), (a0, .inr (12, [.int 0, .ref a2, .ref a3, .ref a4, .ref a5, .int 0, .int 0, .int 0, .int 0, .int 0, .int 0, .int 0, .int 0, .int 0, .int (-1), .ref a6, .ref a7, .ref a8, .ref a9, .int 1, .ref a1, .ref a10, .int 0, .int 0, .int 0, .ref a11, .ref a12, .ref a13, .ref a14, .ref a15, .ref a16])), (a2, .inl (ct 0, 5310, .inl (upd fx11 148 1)))] rfl (fun H locs hw => ?_)
  exact r_v X hr hlk hw [0, 1, 2] (fun _ => 0) rfl rfl trivial (by decide) (by decide) dX12_notes_114
set_option maxHeartbeats 4000000 in
set_option maxRecDepth 100000 in
theorem c75_X12_draws (l : Launch) (D : va_G) (ct : Nat → ClassId) (a0 : Nat) (p0 : Int32) (a1 : Nat) (a2 : Nat) (a3 : Nat) (a4 : Nat) (a5 : Nat) (a6 : Nat) (a7 : Nat) (a8 : Nat) (a9 : Nat) (a10 : Nat) (a11 : Nat) (a12 : Nat) (a13 : Nat) (a14 : Nat) (a15 : Nat) (a16 : Nat) (f0 : Nat → Int32) : CI l yX12_draws cX12_draws 3 (some .int) { frames := 2, cells := 0, slots := 0, locals := 46 } D ct [.ref a0, .int p0] [(a0, .inr (12, [.int 0, .ref a1, .ref a2, .ref a3, .ref a4, .int 0, .int 0, .int 0, .int 0, .int 0, .int 0, .int 0, .int 0, .int 0, .int (-1), .ref a5, .ref a6, .ref a7, .ref a8, .int 0, .ref a9, .ref a10, .int 0, .int 0, .int 0, .ref a11, .ref a12, .ref a13, .ref a14, .ref a15, .ref a16])), (a8, .inl (ct 0, 40320, .inl f0)), (a9, .inl (ct 0, 72, .inl (fun _ => 0))), (a1, .inl (ct 0, 5310, .inl fx0))] (fun r => (p0.toInt ≥ 0) ∧ r = ((p0.toInt64) - (p0.toInt64) / 1 * 1).toInt32 ∨ (p0.toInt < 0) ∧ r = (-3)) (fun u => []) := by
  refine CI.of (by decide +kernel) (Nat.le_of_ble_eq_true rfl) ?_
  intro p e s m below meth c A ls hE
  obtain ⟨X, hr, hlk, hnm, hw, hl⟩ := hE
  have X : CX p m c cX12_draws 3 s [.ref a0, .int p0].toArray RX12 D ct := X
  have hl : lv_has ls 3 [(0, .ref a0), (1, .int p0)] := hl
  obtain ⟨⟨hx, hb, hml, hown, hts⟩, hK⟩ := id X
  refine lv_aload_n hx hb dX12_draws_0 rfl (lv_at hl 0 rfl) ?_
  refine lv_iconst (v := 0) hx hb dX12_draws_1 (by decide) ?_
  refine fp_1442 X hw 0 rfl rfl rfl (Nat.le_of_ble_eq_true rfl) dX12_draws_2 [(a0, .inr (12, [.int 0, .ref a1, .ref a2, .ref a3, .ref a4, .int 0, .int 0, .int 0, .int 0, .int 0, .int 0, .int 0, .int 0, .int 0, .int (-1), .ref a5, .ref a6, .ref a7, .ref a8, .int 0, .ref a9, .ref a10, .int 0, .int 0, .int 0, .ref a11, .ref a12, .ref a13, .ref a14, .ref a15, .ref a16])), (a8, .inl (ct 0, 40320, .inl f0)), (a9, .inl (ct 0, 72, .inl (fun _ => 0))), (a1, .inl (ct 0, 5310, .inl fx0))] rfl (fun H locs hw => ?_)
  refine lv_iload_n hx hb dX12_draws_5 rfl (lv_at hl 1 rfl) ?_
  refine lv_if_ge (tgt := 12) hx hb dX12_draws_6 (by decide) (fun h1 => ?_) (fun h1 => ?_)
  · have h1 : p0.toInt ≥ 0 := by have q := ci_le (a := 0) (b := p0.toInt) (by decide) rfl h1; omega
    refine lv_aload_n hx hb dX12_draws_12 rfl (lv_at hl 0 rfl) ?_
    refine lv_iconst (v := (-1)) hx hb dX12_draws_13 (by decide) ?_
    refine m_Vv (As := [.int (-1)]) (rest := []) (c71_X12_laysMaps l D ct a0 a1 a2 a3 a4 a5 a6 a7 a8 a9 a10 a11 a12 a13 a14 a15 a16 f0) X hl.1 kw_1716 kd_yX12_laysMaps hw [0, 1, 3] [2] rfl rfl rfl rfl (by decide) 0 rfl rfl ⟨by decide, by decide⟩ rfl rfl (Nat.le_of_ble_eq_true rfl) dX12_draws_14 ⟨by decide, by decide⟩ (fun u3 H locs hr4 hw => ?_)
    replace hw : WD D A s.heap _ _ [(a9, .inl (ct 0, 72, .inl (fun _ => 0))), (a8, .inl (ct 0, 40320, .inl (upd f0 0 0))), (a0, .inr (12, [.int 0, .ref a1, .ref a2, .ref a3, .ref a4, .int 0, .int 0, .int 0, .int 0, .int 0, .int 0, .int 0, .int 0, .int 0, .int (-1), .ref a5, .ref a6, .ref a7, .ref a8, .int 1, .ref a9, .ref a10, .int 0, .int 0, .int 0, .ref a11, .ref a12, .ref a13, .ref a14, .ref a15, .ref a16])), (a1, .inl (ct 0, 5310, .inl fx0))] := hw
    refine lv_aload_n hx hb dX12_draws_17 rfl (lv_at hl 0 rfl) ?_
    refine fg_1461 X hw 2 rfl rfl dX12_draws_18 ?_
    refine lv_if_ne (tgt := 27) hx hb dX12_draws_21 (by decide) (fun _ => ?_) (fun h => absurd h (by decide))
    refine lv_aload_n hx hb dX12_draws_27 rfl (lv_at hl 0 rfl) ?_
    refine m_Vv (As := []) (rest := []) (c72_X12_keeps l D ct a0 (fun _ => 0) a9 a1 a2 a3 a4 a5 a6 a7 a8 a10 a11 a12 a13 a14 a15 a16) X hl.1 kw_1731 kd_yX12_keeps hw [0, 2, 3] [1] rfl rfl rfl rfl (by decide) 1 rfl rfl ⟨by decide, by decide⟩ rfl rfl (Nat.le_of_ble_eq_true rfl) dX12_draws_28 ⟨by decide, by decide⟩ (fun u6 H locs hr7 hw => ?_)
    replace hw : WD D A s.heap _ _ [(a8, .inl (ct 0, 40320, .inl (upd f0 0 0))), (a9, .inl (ct 0, 72, .inl (va_cpy fx0 (fun _ => 0) 76 0 72))), (a0, .inr (12, [.int 0, .ref a1, .ref a2, .ref a3, .ref a4, .int 0, .int 0, .int 0, .int 0, .int 0, .int 0, .int 0, .int 0, .int 0, .int (-1), .ref a5, .ref a6, .ref a7, .ref a8, .int 1, .ref a9, .ref a10, .int 0, .int 0, .int 0, .ref a11, .ref a12, .ref a13, .ref a14, .ref a15, .ref a16])), (a1, .inl (ct 0, 5310, .inl fx0))] := hw
    refine lv_aload_n hx hb dX12_draws_31 rfl (lv_at hl 0 rfl) ?_
    refine lv_iload_n hx hb dX12_draws_32 rfl (lv_at hl 1 rfl) ?_
    refine lv_i2l (v := p0.toInt64) hx hb dX12_draws_33 rfl ?_
    refine m_Vi (As := [.long p0.toInt64]) (rest := []) (c73_X12_drawsBy l D ct a0 (p0.toInt64) a1 a2 a3 a4 a5 a6 a7 a8 a9 a10 a11 a12 a13 a14 a15 a16) X hl.1 kw_1735 kd_yX12_drawsBy hw [2, 3] [0, 1] rfl rfl rfl rfl (by decide) 0 rfl rfl ⟨by decide, by decide⟩ rfl rfl (Nat.le_of_ble_eq_true rfl) dX12_draws_34 ⟨by decide, by decide⟩ (fun r8 u9 H locs hr10 hw => ?_)
    replace hw : WD D A s.heap _ _ [(a8, .inl (ct 0, 40320, .inl (upd f0 0 0))), (a9, .inl (ct 0, 72, .inl (va_cpy fx0 (fun _ => 0) 76 0 72))), (a0, .inr (12, [.int 0, .ref a1, .ref a2, .ref a3, .ref a4, .int 0, .int 0, .int 0, .int 0, .int 0, .int 0, .int 0, .int 0, .int 0, .int (-1), .ref a5, .ref a6, .ref a7, .ref a8, .int 1, .ref a9, .ref a10, .int 0, .int 0, .int 0, .ref a11, .ref a12, .ref a13, .ref a14, .ref a15, .ref a16])), (a1, .inl (ct 0, 5310, .inl (upd fx0 147 1)))] := hw
    subst hr10
    refine lv_istore_n (lv' := [(2, .int ((p0.toInt64) - (p0.toInt64) / 1 * 1).toInt32), (0, .ref a0), (1, .int p0)]) hx hb dX12_draws_37 rfl hl (by decide) rfl (fun ls hl => ?_)
    refine lv_aload_n hx hb dX12_draws_38 rfl (lv_at hl 1 rfl) ?_
    refine m_Vv (As := []) (rest := []) (c74_X12_notes l D ct a0 a9 a1 a2 a3 a4 a5 a6 a7 a8 a10 a11 a12 a13 a14 a15 a16) X hl.1 kw_1742 kd_yX12_notes hw [1, 2, 3] [0] rfl rfl rfl rfl (by decide) 1 rfl rfl ⟨by decide, by decide⟩ rfl rfl (Nat.le_of_ble_eq_true rfl) dX12_draws_39 ⟨by decide, by decide⟩ (fun u12 H locs hr13 hw => ?_)
    replace hw : WD D A s.heap _ _ [(a8, .inl (ct 0, 40320, .inl (upd f0 0 0))), (a9, .inl (ct 0, 72, .inl (va_cpy fx0 (fun _ => 0) 76 0 72))), (a0, .inr (12, [.int 0, .ref a1, .ref a2, .ref a3, .ref a4, .int 0, .int 0, .int 0, .int 0, .int 0, .int 0, .int 0, .int 0, .int 0, .int (-1), .ref a5, .ref a6, .ref a7, .ref a8, .int 1, .ref a9, .ref a10, .int 0, .int 0, .int 0, .ref a11, .ref a12, .ref a13, .ref a14, .ref a15, .ref a16])), (a1, .inl (ct 0, 5310, .inl (upd fx11 148 1)))] := hw
    refine lv_iload_n hx hb dX12_draws_42 rfl (lv_at hl 0 rfl) ?_
    exact r_i X hr hlk hw [] (fun _ => 0) rfl rfl (Or.inl (⟨h1, rfl⟩)) (by decide) (by decide) dX12_draws_43
  · have h1 : p0.toInt < 0 := by have q := ci_nle (a := 0) (b := p0.toInt) (by decide) rfl h1; omega
    refine lv_bipush (v := (-3)) hx hb dX12_draws_9 (by decide) ?_
    exact r_i X hr hlk hw [] (fun _ => 0) rfl rfl (Or.inr (⟨h1, rfl⟩)) (by decide) (by decide) dX12_draws_11
set_option maxHeartbeats 4000000 in
set_option maxRecDepth 100000 in
theorem c76_X8_turn (l : Launch) (D : va_G) (ct : Nat → ClassId) (a0 : Nat) (a1 : Nat) (a2 : Nat) (a3 : Nat) (a4 : Nat) (a5 : Nat) (a6 : Nat) (a7 : Nat) (a8 : Nat) : CV l yX8_turn cX8_turn 4 none { frames := 0, cells := 0, slots := 0, locals := 0 } D ct [.ref a0] [(a0, .inr (8, [.ref a1, .int 0, .int 0, .ref a2, .ref a3, .ref a4])), (a3, .inr (2, [.int 0, .int 0, .int 0, .ref a5, .ref a6, .ref a7, .int 0, .int 0, .int 0, .int 0, .int 0, .ref a8, .int 0]))] True (fun u => [(a0, .inr (8, [.ref a1, .int 0, .int 0, .ref a2, .ref a3, .ref a4])), (a3, .inr (2, [.int 0, .int 0, .int 0, .ref a5, .ref a6, .ref a7, .int 0, .int 0, .int 0, .int 0, .int 0, .ref a8, .int 0]))]) := by
  refine CV.of (by decide +kernel) (Nat.le_of_ble_eq_true rfl) ?_
  intro p e s m below meth c A ls hE
  obtain ⟨X, hr, hlk, hnm, hw, hl⟩ := hE
  have X : CX p m c cX8_turn 4 s [.ref a0].toArray RX8 D ct := X
  have hl : lv_has ls 4 [(0, .ref a0)] := hl
  obtain ⟨⟨hx, hb, hml, hown, hts⟩, hK⟩ := id X
  refine lv_aload_n hx hb dX8_turn_0 rfl (lv_at hl 0 rfl) ?_
  refine lv_iconst (v := 0) hx hb dX8_turn_1 (by decide) ?_
  refine fp_392 X hw 0 rfl rfl rfl (Nat.le_of_ble_eq_true rfl) dX8_turn_2 [(a0, .inr (8, [.ref a1, .int 0, .int 0, .ref a2, .ref a3, .ref a4])), (a3, .inr (2, [.int 0, .int 0, .int 0, .ref a5, .ref a6, .ref a7, .int 0, .int 0, .int 0, .int 0, .int 0, .ref a8, .int 0]))] rfl (fun H locs hw => ?_)
  refine lv_aload_n hx hb dX8_turn_5 rfl (lv_at hl 0 rfl) ?_
  refine lv_iconst (v := 0) hx hb dX8_turn_6 (by decide) ?_
  refine fp_394 X hw 0 rfl rfl rfl (Nat.le_of_ble_eq_true rfl) dX8_turn_7 [(a0, .inr (8, [.ref a1, .int 0, .int 0, .ref a2, .ref a3, .ref a4])), (a3, .inr (2, [.int 0, .int 0, .int 0, .ref a5, .ref a6, .ref a7, .int 0, .int 0, .int 0, .int 0, .int 0, .ref a8, .int 0]))] rfl (fun H locs hw => ?_)
  refine lv_iconst (v := 0) hx hb dX8_turn_10 (by decide) ?_
  refine lv_istore_n (lv' := [(1, .int 0), (0, .ref a0)]) hx hb dX8_turn_11 rfl hl (by decide) rfl (fun ls hl => ?_)
  refine lv_iconst (v := 0) hx hb dX8_turn_12 (by decide) ?_
  refine lv_istore_n (lv' := [(2, .int 0), (1, .int 0), (0, .ref a0)]) hx hb dX8_turn_13 rfl hl (by decide) rfl (fun ls hl => ?_)
  refine lv_iload_n hx hb dX8_turn_14 rfl (lv_at hl 0 rfl) ?_
  refine lv_aload_n hx hb dX8_turn_15 rfl (lv_at hl 2 rfl) ?_
  refine fg_398 X hw 0 rfl rfl dX8_turn_16 ?_
  refine fg_220 X hw 1 rfl rfl dX8_turn_19 ?_
  refine lv_icmp_ge (tgt := 64) hx hb dX8_turn_22 (by decide) (fun _ => ?_) (fun h => absurd (by decide) h)
  refine lv_iconst (v := 0) hx hb dX8_turn_64 (by decide) ?_
  refine lv_istore_n (lv' := [(2, .int 0), (1, .int 0), (0, .ref a0)]) hx hb dX8_turn_65 rfl hl (by decide) rfl (fun ls hl => ?_)
  refine lv_iload_n hx hb dX8_turn_66 rfl (lv_at hl 0 rfl) ?_
  refine lv_bipush (v := 7) hx hb dX8_turn_67 (by decide) ?_
  refine lv_icmp_ge (tgt := 135) hx hb dX8_turn_69 (by decide) (fun h => absurd h (by decide)) (fun _ => ?_)
  refine lv_iload_n hx hb dX8_turn_72 rfl (lv_at hl 1 rfl) ?_
  refine lv_if_eq (tgt := 135) hx hb dX8_turn_73 (by decide) (fun _ => ?_) (fun h => absurd (by decide) h)
  exact r_v X hr hlk hw [0, 1] (fun _ => 0) rfl rfl trivial (by decide) (by decide) dX8_turn_135
set_option maxHeartbeats 4000000 in
set_option maxRecDepth 100000 in
theorem c77_X0_swapByRings (l : Launch) (D : va_G) (ct : Nat → ClassId) (a0 : Nat) (a1 : Nat) (a2 : Nat) (a3 : Nat) (a4 : Nat) (a5 : Nat) (a6 : Nat) (a7 : Nat) (a8 : Nat) (a9 : Nat) (a10 : Nat) (a11 : Nat) (a12 : Nat) (a13 : Nat) (a14 : Nat) (a15 : Nat) : CI l yX0_swapByRings cX0_swapByRings 2 (some .int) { frames := 1, cells := 0, slots := 0, locals := 23 } D ct [.ref a0] [(a1, .inr (2, [.int 0, .int 0, .int 0, .ref a2, .ref a3, .ref a4, .int 0, .int 0, .int 0, .int 0, .int 0, .ref a5, .int 0])), (a6, .inr (9, [.ref a7, .ref a8, .ref a1, .ref a9, .ref a10, .int (-1)])), (a11, .inr (8, [.ref a12, .int 0, .int 0, .ref a13, .ref a1, .ref a6])), (a0, .inr (0, [.int 0, .int 0, .int (-1), .ref a1, .ref a6, .ref a14, .ref a11, .ref a15, .int 0]))] (fun r => r = 0) (fun u => [(a0, .inr (0, [.int 0, .int 0, .int (-1), .ref a1, .ref a6, .ref a14, .ref a11, .ref a15, .int 0])), (a6, .inr (9, [.ref a7, .ref a8, .ref a1, .ref a9, .ref a10, .int 0])), (a11, .inr (8, [.ref a12, .int 0, .int 0, .ref a13, .ref a1, .ref a6])), (a1, .inr (2, [.int 0, .int 0, .int 0, .ref a2, .ref a3, .ref a4, .int 0, .int 0, .int 0, .int 0, .int 0, .ref a5, .int 0]))]) := by
  refine CI.of (by decide +kernel) (Nat.le_of_ble_eq_true rfl) ?_
  intro p e s m below meth c A ls hE
  obtain ⟨X, hr, hlk, hnm, hw, hl⟩ := hE
  have X : CX p m c cX0_swapByRings 2 s [.ref a0].toArray RX0 D ct := X
  have hl : lv_has ls 2 [(0, .ref a0)] := hl
  obtain ⟨⟨hx, hb, hml, hown, hts⟩, hK⟩ := id X
  refine lv_aload_n hx hb dX0_swapByRings_0 rfl (lv_at hl 0 rfl) ?_
  refine fg_496 X hw 3 rfl rfl dX0_swapByRings_1 ?_
  refine m_Vv (As := []) (rest := []) (c60_X9_refresh l D ct a6 a1 a2 a3 a4 a5 a7 a8 a9 a10) X hl.1 kw_954 kd_yX9_refresh hw [0, 1] [2, 3] rfl rfl rfl rfl (by decide) 1 rfl rfl ⟨by decide, by decide⟩ rfl rfl (Nat.le_of_ble_eq_true rfl) dX0_swapByRings_4 ⟨by decide, by decide⟩ (fun u2 H locs hr3 hw => ?_)
  replace hw : WD D A s.heap _ _ [(a11, .inr (8, [.ref a12, .int 0, .int 0, .ref a13, .ref a1, .ref a6])), (a0, .inr (0, [.int 0, .int 0, .int (-1), .ref a1, .ref a6, .ref a14, .ref a11, .ref a15, .int 0])), (a1, .inr (2, [.int 0, .int 0, .int 0, .ref a2, .ref a3, .ref a4, .int 0, .int 0, .int 0, .int 0, .int 0, .ref a5, .int 0])), (a6, .inr (9, [.ref a7, .ref a8, .ref a1, .ref a9, .ref a10, .int 0]))] := hw
  refine lv_aload_n hx hb dX0_swapByRings_7 rfl (lv_at hl 0 rfl) ?_
  refine fg_498 X hw 1 rfl rfl dX0_swapByRings_8 ?_
  refine m_Vv (As := []) (rest := []) (c76_X8_turn l D ct a11 a12 a13 a1 a6 a2 a3 a4 a5) X hl.1 kw_997 kd_yX8_turn hw [0, 2] [1, 3] rfl rfl rfl rfl (by decide) 0 rfl rfl ⟨by decide, by decide⟩ rfl rfl (Nat.le_of_ble_eq_true rfl) dX0_swapByRings_11 ⟨by decide, by decide⟩ (fun u5 H locs hr6 hw => ?_)
  replace hw : WD D A s.heap _ _ [(a0, .inr (0, [.int 0, .int 0, .int (-1), .ref a1, .ref a6, .ref a14, .ref a11, .ref a15, .int 0])), (a6, .inr (9, [.ref a7, .ref a8, .ref a1, .ref a9, .ref a10, .int 0])), (a11, .inr (8, [.ref a12, .int 0, .int 0, .ref a13, .ref a1, .ref a6])), (a1, .inr (2, [.int 0, .int 0, .int 0, .ref a2, .ref a3, .ref a4, .int 0, .int 0, .int 0, .int 0, .int 0, .ref a5, .int 0]))] := hw
  refine lv_iconst (v := 0) hx hb dX0_swapByRings_14 (by decide) ?_
  refine lv_istore_n (lv' := [(1, .int 0), (0, .ref a0)]) hx hb dX0_swapByRings_15 rfl hl (by decide) rfl (fun ls hl => ?_)
  refine lv_iload_n hx hb dX0_swapByRings_16 rfl (lv_at hl 0 rfl) ?_
  refine lv_aload_n hx hb dX0_swapByRings_17 rfl (lv_at hl 1 rfl) ?_
  refine fg_495 X hw 0 rfl rfl dX0_swapByRings_18 ?_
  refine fg_219 X hw 3 rfl rfl dX0_swapByRings_21 ?_
  refine lv_icmp_ge (tgt := 60) hx hb dX0_swapByRings_24 (by decide) (fun _ => ?_) (fun h => absurd (by decide) h)
  refine lv_iconst (v := 0) hx hb dX0_swapByRings_60 (by decide) ?_
  exact r_i X hr hlk hw [0, 1, 2, 3] (fun _ => 0) rfl rfl rfl (by decide) (by decide) dX0_swapByRings_61
set_option maxHeartbeats 4000000 in
set_option maxRecDepth 100000 in
theorem c78_X11_rings (l : Launch) (D : va_G) (ct : Nat → ClassId) (a0 : Nat) (a1 : Nat) (a2 : Nat) (a3 : Nat) (a4 : Nat) (a5 : Nat) (a6 : Nat) (a7 : Nat) (a8 : Nat) (a9 : Nat) (a10 : Nat) (a11 : Nat) (a12 : Nat) (a13 : Nat) (a14 : Nat) (a15 : Nat) (a16 : Nat) (a17 : Nat) (a18 : Nat) (a19 : Nat) (a20 : Nat) (a21 : Nat) (a22 : Nat) (f0 : Nat → Int32) (f1 : Nat → Int32) (a23 : Nat) (a24 : Nat) (a25 : Nat) (a26 : Nat) (a27 : Nat) (a28 : Nat) (a29 : Nat) (a30 : Nat) (a31 : Nat) (a32 : Nat) : CI l yX11_rings cX11_rings 1 (some .int) { frames := 2, cells := 0, slots := 0, locals := 81 } D ct [.ref a0] [(a0, .inr (11, [.ref a1, .int 0, .ref a2, .ref a3, .ref a4, .ref a5, .ref a6, .ref a7, .ref a8, .ref a9, .ref a10, .ref a11, .ref a12, .ref a13, .ref a14, .ref a15, .int (-1), .int (-1)])), (a2, .inr (2, [.int 0, .int 0, .int 0, .ref a16, .ref a17, .ref a18, .int 0, .int 0, .int 0, .int 0, .int 0, .ref a19, .int 0])), (a19, .inr (4, [.ref a20, .ref a21, .ref a22, .int 0])), (a21, .inl (ct 0, 56, .inl f0)), (a22, .inl (ct 0, 8, .inl f0)), (a20, .inl (ct 0, 7, .inl f1)), (a4, .inr (9, [.ref a23, .ref a24, .ref a2, .ref a25, .ref a26, .int (-1)])), (a6, .inr (8, [.ref a27, .int 0, .int 0, .ref a28, .ref a2, .ref a4])), (a9, .inr (0, [.int 0, .int 0, .int (-1), .ref a2, .ref a4, .ref a5, .ref a6, .ref a29, .int 0])), (a11, .inr (4, [.ref a30, .ref a31, .ref a32, .int 0])), (a31, .inl (ct 0, 56, .inl f0)), (a32, .inl (ct 0, 8, .inl f0)), (a30, .inl (ct 0, 7, .inl f1))] (fun r => r = 0) (fun u => []) := by
  refine CI.of (by decide +kernel) (Nat.le_of_ble_eq_true rfl) ?_
  intro p e s m below meth c A ls hE
  obtain ⟨X, hr, hlk, hnm, hw, hl⟩ := hE
  have X : CX p m c cX11_rings 1 s [.ref a0].toArray RX11 D ct := X
  have hl : lv_has ls 1 [(0, .ref a0)] := hl
  obtain ⟨⟨hx, hb, hml, hown, hts⟩, hK⟩ := id X
  refine lv_aload_n hx hb dX11_rings_0 rfl (lv_at hl 0 rfl) ?_
  refine fg_576 X hw 0 rfl rfl dX11_rings_1 ?_
  refine lv_aload_n hx hb dX11_rings_4 rfl (lv_at hl 0 rfl) ?_
  refine fg_567 X hw 0 rfl rfl dX11_rings_5 ?_
  refine fg_253 X hw 1 rfl rfl dX11_rings_8 ?_
  refine m_Vv (As := [.ref a19]) (rest := []) (c59_X4_copyFrom l D ct a11 a19 a20 a21 a22 f0 f1 a30 a31 a32) X hl.1 kw_949 kd_yX4_copyFrom hw [2, 3, 4, 5, 9, 10, 11, 12] [0, 1, 6, 7, 8] rfl rfl rfl rfl (by decide) 4 rfl rfl ⟨by decide, by decide⟩ rfl rfl (Nat.le_of_ble_eq_true rfl) dX11_rings_11 ⟨by decide, by decide⟩ (fun u2 H locs hr3 hw => ?_)
  replace hw : WD D A s.heap _ _ [(a0, .inr (11, [.ref a1, .int 0, .ref a2, .ref a3, .ref a4, .ref a5, .ref a6, .ref a7, .ref a8, .ref a9, .ref a10, .ref a11, .ref a12, .ref a13, .ref a14, .ref a15, .int (-1), .int (-1)])), (a2, .inr (2, [.int 0, .int 0, .int 0, .ref a16, .ref a17, .ref a18, .int 0, .int 0, .int 0, .int 0, .int 0, .ref a19, .int 0])), (a4, .inr (9, [.ref a23, .ref a24, .ref a2, .ref a25, .ref a26, .int (-1)])), (a6, .inr (8, [.ref a27, .int 0, .int 0, .ref a28, .ref a2, .ref a4])), (a9, .inr (0, [.int 0, .int 0, .int (-1), .ref a2, .ref a4, .ref a5, .ref a6, .ref a29, .int 0])), (a19, .inr (4, [.ref a20, .ref a21, .ref a22, .int 0])), (a21, .inl (ct 0, 56, .inl f0)), (a22, .inl (ct 0, 8, .inl f0)), (a20, .inl (ct 0, 7, .inl f1)), (a11, .inr (4, [.ref a30, .ref a31, .ref a32, .int 0])), (a31, .inl (ct 0, 56, .inl (va_cpy f0 f0 0 0 56))), (a32, .inl (ct 0, 8, .inl (va_cpy f0 f0 0 0 8))), (a30, .inl (ct 0, 7, .inl (va_cpy f1 f1 0 0 7)))] := hw
  refine lv_aload_n hx hb dX11_rings_14 rfl (lv_at hl 0 rfl) ?_
  refine fg_574 X hw 0 rfl rfl dX11_rings_15 ?_
  refine m_Vi (As := []) (rest := []) (c77_X0_swapByRings l D ct a9 a2 a16 a17 a18 a19 a4 a23 a24 a25 a26 a6 a27 a28 a5 a29) X hl.1 kw_993 kd_yX0_swapByRings hw [1, 2, 3, 4] [0, 5, 6, 7, 8, 9, 10, 11, 12] rfl rfl rfl rfl (by decide) 3 rfl rfl ⟨by decide, by decide⟩ rfl rfl (Nat.le_of_ble_eq_true rfl) dX11_rings_18 ⟨by decide, by decide⟩ (fun r4 u5 H locs hr6 hw => ?_)
  replace hw : WD D A s.heap _ _ [(a0, .inr (11, [.ref a1, .int 0, .ref a2, .ref a3, .ref a4, .ref a5, .ref a6, .ref a7, .ref a8, .ref a9, .ref a10, .ref a11, .ref a12, .ref a13, .ref a14, .ref a15, .int (-1), .int (-1)])), (a19, .inr (4, [.ref a20, .ref a21, .ref a22, .int 0])), (a21, .inl (ct 0, 56, .inl f0)), (a22, .inl (ct 0, 8, .inl f0)), (a20, .inl (ct 0, 7, .inl f1)), (a11, .inr (4, [.ref a30, .ref a31, .ref a32, .int 0])), (a31, .inl (ct 0, 56, .inl (va_cpy f0 f0 0 0 56))), (a32, .inl (ct 0, 8, .inl (va_cpy f0 f0 0 0 8))), (a30, .inl (ct 0, 7, .inl (va_cpy f1 f1 0 0 7))), (a9, .inr (0, [.int 0, .int 0, .int (-1), .ref a2, .ref a4, .ref a5, .ref a6, .ref a29, .int 0])), (a4, .inr (9, [.ref a23, .ref a24, .ref a2, .ref a25, .ref a26, .int 0])), (a6, .inr (8, [.ref a27, .int 0, .int 0, .ref a28, .ref a2, .ref a4])), (a2, .inr (2, [.int 0, .int 0, .int 0, .ref a16, .ref a17, .ref a18, .int 0, .int 0, .int 0, .int 0, .int 0, .ref a19, .int 0]))] := hw
  subst hr6
  refine lv_pop hx hb dX11_rings_21 rfl ?_
  refine lv_aload_n hx hb dX11_rings_22 rfl (lv_at hl 0 rfl) ?_
  refine fg_571 X hw 0 rfl rfl dX11_rings_23 ?_
  refine fg_396 X hw 11 rfl rfl dX11_rings_26 ?_
  refine lv_if_le (tgt := 43) hx hb dX11_rings_29 (by decide) (fun _ => ?_) (fun h => absurd (by decide) h)
  refine lv_aload_n hx hb dX11_rings_43 rfl (lv_at hl 0 rfl) ?_
  refine fg_571 X hw 0 rfl rfl dX11_rings_44 ?_
  refine fg_396 X hw 11 rfl rfl dX11_rings_47 ?_
  exact r_i X hr hlk hw [] (fun _ => 0) rfl rfl rfl (by decide) (by decide) dX11_rings_50
set_option maxHeartbeats 4000000 in
set_option maxRecDepth 100000 in
theorem ylp11 {p : Program} {l : Launch} {e : Env} {R : Room} {s : State} {m : MethodId} {args : Array Value} {below : List Frame} {meth : Method} {c : Code} {cells slots : Nat} {Q : State → Prop} {D : va_G} {ct : Nat → ClassId} {A : Nat → Prop} {a0 : Nat} {a1 : Nat} {a2 : Nat} {a3 : Nat} {a4 : Nat} {a5 : Nat} {a6 : Nat} {a7 : Nat} {a8 : Nat} {a9 : Nat} {a10 : Nat} {a11 : Nat} {a12 : Nat} {a13 : Nat} {a14 : Nat} {a15 : Nat} {a16 : Nat} {f0 : Nat → Int32} (X : CX p m c cX12_keeps 2 s args RX12 D ct) (kk : ∀ (g : Nat → Int32), g = (va_cpy fx0 f0 76 0 72) → ∀ (H : Heap) (locs : List Loc) (ls : Array Slot), WD D A s.heap H locs [(a0, .inr (12, [.int 0, .ref a1, .ref a2, .ref a3, .ref a4, .int 0, .int 0, .int 0, .int 0, .int 0, .int 0, .int 0, .int 0, .int 0, .int (-1), .ref a5, .ref a6, .ref a7, .ref a8, .int 0, .ref a9, .ref a10, .int 0, .int 0, .int 0, .ref a11, .ref a12, .ref a13, .ref a14, .ref a15, .ref a16])), (a9, .inl (ct 0, 72, .inl g)), (a1, .inl (ct 0, 5310, .inl fx0))] → lv_has ls 2 [(1, .int (nI 72)), (0, .ref a0)] → W p l e R s m args below meth c H locs cells slots Q (F0 m 29 ls [])) : ∀ (n k : Nat), k + n = 72 → ∀ (g : Nat → Int32), g = (va_cpy fx0 f0 76 0 k) → ∀ (H : Heap) (locs : List Loc) (ls : Array Slot), WD D A s.heap H locs [(a0, .inr (12, [.int 0, .ref a1, .ref a2, .ref a3, .ref a4, .int 0, .int 0, .int 0, .int 0, .int 0, .int 0, .int 0, .int 0, .int 0, .int (-1), .ref a5, .ref a6, .ref a7, .ref a8, .int 0, .ref a9, .ref a10, .int 0, .int 0, .int 0, .ref a11, .ref a12, .ref a13, .ref a14, .ref a15, .ref a16])), (a9, .inl (ct 0, 72, .inl g)), (a1, .inl (ct 0, 5310, .inl fx0))] → lv_has ls 2 [(1, .int (nI k)), (0, .ref a0)] → W p l e R s m args below meth c H locs cells slots Q (F0 m 2 ls []) := by
  obtain ⟨⟨hx, hb, hml, hown, hts⟩, hK⟩ := id X
  intro n
  induction n with
  | zero =>
    intro k hk g hg H locs ls hw hl
    obtain rfl : k = 72 := by omega
    refine lv_iload_n hx hb dX12_keeps_2 rfl (lv_at hl 0 rfl) ?_
    refine lv_bipush (v := 72) hx hb dX12_keeps_3 (by decide) ?_
    refine lv_icmp_ge (tgt := 29) hx hb dX12_keeps_5 (by decide) (fun _ => ?_) (fun h => absurd (nI_le (a := 72) (b := 72) (Nat.le_refl _) (by omega)) h)
    exact kk g hg _ _ _ hw hl
  | succ n ih =>
    intro k hk g hg H locs ls hw hl
    refine lv_iload_n hx hb dX12_keeps_2 rfl (lv_at hl 0 rfl) ?_
    refine lv_bipush (v := 72) hx hb dX12_keeps_3 (by decide) ?_
    refine lv_icmp_ge (tgt := 29) hx hb dX12_keeps_5 (by decide) (fun h => absurd h (nI_ge (a := k) (b := 72) (by omega) (by omega))) (fun _ => ?_)
    refine lv_aload_n hx hb dX12_keeps_8 rfl (lv_at hl 1 rfl) ?_
    refine fg_1462 X hw 0 rfl rfl dX12_keeps_9 ?_
    refine lv_iload_n hx hb dX12_keeps_12 rfl (lv_at hl 0 rfl) ?_
    refine lv_aload_n hx hb dX12_keeps_13 rfl (lv_at hl 1 rfl) ?_
    refine fg_1443 X hw 0 rfl rfl dX12_keeps_14 ?_
    refine lv_bipush (v := 76) hx hb dX12_keeps_17 (by decide) ?_
    refine lv_iload_n hx hb dX12_keeps_19 rfl (lv_at hl 0 rfl) ?_
    refine kv_iadd (v := (nI (76 + k))) hx hb (nI_add (76) (k)) dX12_keeps_20 ?_
    refine j_iald (j := (76 + k)) (v := (fx0 (76 + k))) X hw 2 rfl (nI_pos (by omega)) (nI_clamp (by omega)) (by omega) rfl dX12_keeps_21 ?_
    refine j_iast (j := (k)) X hw 1 rfl (nI_pos (by omega)) (nI_clamp (by omega)) (by omega) dX12_keeps_22 [(a0, .inr (12, [.int 0, .ref a1, .ref a2, .ref a3, .ref a4, .int 0, .int 0, .int 0, .int 0, .int 0, .int 0, .int 0, .int 0, .int 0, .int (-1), .ref a5, .ref a6, .ref a7, .ref a8, .int 0, .ref a9, .ref a10, .int 0, .int 0, .int 0, .ref a11, .ref a12, .ref a13, .ref a14, .ref a15, .ref a16])), (a9, .inl (ct 0, 72, .inl (upd g (k) (fx0 (76 + k))))), (a1, .inl (ct 0, 5310, .inl fx0))] rfl (fun H locs hw => ?_)
    refine lv_iinc (v := (nI (k + 1))) (lv' := [(1, .int (nI (k + 1))), (0, .ref a0)]) hx hb dX12_keeps_23 hl (k := 0) rfl (nI_add _ _) (by decide) rfl (fun ls hl => ?_)
    refine lv_goto (tgt := 2) hx hb dX12_keeps_26 (by decide) ?_
    exact ih (k + 1) (by omega) _ (by rw [hg]; exact cpy_s _ _ _ _ _ _ _ (by omega) (by first | rfl | rw [Nat.zero_add])) _ _ _ hw (lv_sub hl [0, 1] rfl)
set_option maxHeartbeats 4000000 in
set_option maxRecDepth 100000 in
theorem c79_X12_keeps (l : Launch) (D : va_G) (ct : Nat → ClassId) (a0 : Nat) (a1 : Nat) (a2 : Nat) (a3 : Nat) (a4 : Nat) (a5 : Nat) (a6 : Nat) (a7 : Nat) (a8 : Nat) (a9 : Nat) (a10 : Nat) (a11 : Nat) (a12 : Nat) (a13 : Nat) (a14 : Nat) (a15 : Nat) (a16 : Nat) (f0 : Nat → Int32) : CV l yX12_keeps cX12_keeps 2 none { frames := 0, cells := 0, slots := 0, locals := 0 } D ct [.ref a0] [(a0, .inr (12, [.int 0, .ref a1, .ref a2, .ref a3, .ref a4, .int 0, .int 0, .int 0, .int 0, .int 0, .int 0, .int 0, .int 0, .int 0, .int (-1), .ref a5, .ref a6, .ref a7, .ref a8, .int 0, .ref a9, .ref a10, .int 0, .int 0, .int 0, .ref a11, .ref a12, .ref a13, .ref a14, .ref a15, .ref a16])), (a9, .inl (ct 0, 72, .inl f0)), (a1, .inl (ct 0, 5310, .inl fx0))] True (fun u => [(a0, .inr (12, [.int 0, .ref a1, .ref a2, .ref a3, .ref a4, .int 0, .int 0, .int 0, .int 0, .int 0, .int 0, .int 0, .int 0, .int 0, .int (-1), .ref a5, .ref a6, .ref a7, .ref a8, .int 0, .ref a9, .ref a10, .int 0, .int 0, .int 0, .ref a11, .ref a12, .ref a13, .ref a14, .ref a15, .ref a16])), (a9, .inl (ct 0, 72, .inl (va_cpy fx0 f0 76 0 72))), (a1, .inl (ct 0, 5310, .inl fx0))]) := by
  refine CV.of (by decide +kernel) (Nat.le_of_ble_eq_true rfl) ?_
  intro p e s m below meth c A ls hE
  obtain ⟨X, hr, hlk, hnm, hw, hl⟩ := hE
  have X : CX p m c cX12_keeps 2 s [.ref a0].toArray RX12 D ct := X
  have hl : lv_has ls 2 [(0, .ref a0)] := hl
  obtain ⟨⟨hx, hb, hml, hown, hts⟩, hK⟩ := id X
  refine lv_iconst (v := 0) hx hb dX12_keeps_0 (by decide) ?_
  refine lv_istore_n (lv' := [(1, .int 0), (0, .ref a0)]) hx hb dX12_keeps_1 rfl hl (by decide) rfl (fun ls hl => ?_)
  refine ylp11 X (fun g hg H locs ls hw hl => ?_) 72 0 (by omega) _ (cpy_0 _ _ _ _) _ _ _ hw hl
  subst hg
  replace hw : WD D A s.heap _ _ [(a0, .inr (12, [.int 0, .ref a1, .ref a2, .ref a3, .ref a4, .int 0, .int 0, .int 0, .int 0, .int 0, .int 0, .int 0, .int 0, .int 0, .int (-1), .ref a5, .ref a6, .ref a7, .ref a8, .int 0, .ref a9, .ref a10, .int 0, .int 0, .int 0, .ref a11, .ref a12, .ref a13, .ref a14, .ref a15, .ref a16])), (a9, .inl (ct 0, 72, .inl (va_cpy fx0 f0 76 0 72))), (a1, .inl (ct 0, 5310, .inl fx0))] := hw
  replace hl : lv_has ls 2 [(1, .int 72), (0, .ref a0)] := hl
  exact r_v X hr hlk hw [0, 1, 2] (fun _ => 0) rfl rfl trivial (by decide) (by decide) dX12_keeps_29
set_option maxHeartbeats 4000000 in
set_option maxRecDepth 100000 in
theorem c80_X12_laysRings (l : Launch) (D : va_G) (ct : Nat → ClassId) (a0 : Nat) (a1 : Nat) (a2 : Nat) (a3 : Nat) (a4 : Nat) (a5 : Nat) (a6 : Nat) (a7 : Nat) (a8 : Nat) (a9 : Nat) (a10 : Nat) (a11 : Nat) (a12 : Nat) (a13 : Nat) (a14 : Nat) (a15 : Nat) (a16 : Nat) : CV l yX12_laysRings cX12_laysRings 5 none { frames := 1, cells := 0, slots := 0, locals := 22 } D ct [.ref a0] [(a0, .inr (12, [.int 0, .ref a1, .ref a2, .ref a3, .ref a4, .int 0, .int 0, .int 0, .int 0, .int 0, .int 0, .int 0, .int 0, .int 0, .int (-1), .ref a5, .ref a6, .ref a7, .ref a8, .int 0, .ref a9, .ref a10, .int 0, .int 0, .int 0, .ref a11, .ref a12, .ref a13, .ref a14, .ref a15, .ref a16])), (a1, .inl (ct 0, 5310, .inl fx0))] True (fun u => [(a0, .inr (12, [.int 0, .ref a1, .ref a2, .ref a3, .ref a4, .int 0, .int 0, .int 0, .int 0, .int 0, .int 0, .int 0, .int 0, .int 0, .int (-1), .ref a5, .ref a6, .ref a7, .ref a8, .int 0, .ref a9, .ref a10, .int 0, .int 0, .int 0, .ref a11, .ref a12, .ref a13, .ref a14, .ref a15, .ref a16])), (a1, .inl (ct 0, 5310, .inl fx0))]) := by
  refine CV.of (by decide +kernel) (Nat.le_of_ble_eq_true rfl) ?_
  intro p e s m below meth c A ls hE
  obtain ⟨X, hr, hlk, hnm, hw, hl⟩ := hE
  have X : CX p m c cX12_laysRings 5 s [.ref a0].toArray RX12 D ct := X
  have hl : lv_has ls 5 [(0, .ref a0)] := hl
  obtain ⟨⟨hx, hb, hml, hown, hts⟩, hK⟩ := id X
  refine lv_aload_n hx hb dX12_laysRings_0 rfl (lv_at hl 0 rfl) ?_
  refine m_Vv (As := []) (rest := []) (c69_X12_laysLaws l D ct a0 a1 a2 a3 a4 a5 a6 a7 a8 a9 a10 a11 a12 a13 a14 a15 a16) X hl.1 kw_1720 kd_yX12_laysLaws hw [0, 1] [] rfl rfl rfl rfl (by decide) 0 rfl rfl ⟨by decide, by decide⟩ rfl rfl (Nat.le_of_ble_eq_true rfl) dX12_laysRings_1 ⟨by decide, by decide⟩ (fun u2 H locs hr3 hw => ?_)
  replace hw : WD D A s.heap _ _ [(a0, .inr (12, [.int 0, .ref a1, .ref a2, .ref a3, .ref a4, .int 0, .int 0, .int 0, .int 0, .int 0, .int 0, .int 0, .int 0, .int 0, .int (-1), .ref a5, .ref a6, .ref a7, .ref a8, .int 0, .ref a9, .ref a10, .int 0, .int 0, .int 0, .ref a11, .ref a12, .ref a13, .ref a14, .ref a15, .ref a16])), (a1, .inl (ct 0, 5310, .inl fx0))] := hw
  refine lv_aload_n hx hb dX12_laysRings_4 rfl (lv_at hl 0 rfl) ?_
  refine lv_iconst (v := 0) hx hb dX12_laysRings_5 (by decide) ?_
  refine fp_1464 X hw 0 rfl rfl rfl (Nat.le_of_ble_eq_true rfl) dX12_laysRings_6 [(a0, .inr (12, [.int 0, .ref a1, .ref a2, .ref a3, .ref a4, .int 0, .int 0, .int 0, .int 0, .int 0, .int 0, .int 0, .int 0, .int 0, .int (-1), .ref a5, .ref a6, .ref a7, .ref a8, .int 0, .ref a9, .ref a10, .int 0, .int 0, .int 0, .ref a11, .ref a12, .ref a13, .ref a14, .ref a15, .ref a16])), (a1, .inl (ct 0, 5310, .inl fx0))] rfl (fun H locs hw => ?_)
  refine lv_iconst (v := 0) hx hb dX12_laysRings_9 (by decide) ?_
  refine lv_istore_n (lv' := [(1, .int 0), (0, .ref a0)]) hx hb dX12_laysRings_10 rfl hl (by decide) rfl (fun ls hl => ?_)
  refine lv_iconst (v := 0) hx hb dX12_laysRings_11 (by decide) ?_
  refine lv_istore_n (lv' := [(2, .int 0), (1, .int 0), (0, .ref a0)]) hx hb dX12_laysRings_12 rfl hl (by decide) rfl (fun ls hl => ?_)
  refine lv_iload_n hx hb dX12_laysRings_13 rfl (lv_at hl 0 rfl) ?_
  refine lv_aload_n hx hb dX12_laysRings_14 rfl (lv_at hl 2 rfl) ?_
  refine fg_1443 X hw 0 rfl rfl dX12_laysRings_15 ?_
  refine lv_iconst (v := 2) hx hb dX12_laysRings_18 (by decide) ?_
  refine j_iald (j := 2) (v := 0) X hw 1 rfl (by decide) (by decide) (by decide) rfl dX12_laysRings_19 ?_
  refine lv_icmp_ge (tgt := 67) hx hb dX12_laysRings_20 (by decide) (fun _ => ?_) (fun h => absurd (by decide) h)
  refine lv_iload_n hx hb dX12_laysRings_67 rfl (lv_at hl 1 rfl) ?_
  refine lv_if_eq (tgt := 186) hx hb dX12_laysRings_68 (by decide) (fun _ => ?_) (fun h => absurd (by decide) h)
  exact r_v X hr hlk hw [0, 1] (fun _ => 0) rfl rfl trivial (by decide) (by decide) dX12_laysRings_186
set_option maxHeartbeats 4000000 in
set_option maxRecDepth 100000 in
theorem c81_X12_goesRings (l : Launch) (D : va_G) (ct : Nat → ClassId) (a0 : Nat) (a1 : Nat) (a2 : Nat) (a3 : Nat) (a4 : Nat) (a5 : Nat) (a6 : Nat) (a7 : Nat) (a8 : Nat) (a9 : Nat) (a10 : Nat) (a11 : Nat) (a12 : Nat) (a13 : Nat) (a14 : Nat) (a15 : Nat) (a16 : Nat) : CI l yX12_goesRings cX12_goesRings 3 (some .int) { frames := 2, cells := 0, slots := 0, locals := 46 } D ct [.ref a0] [(a0, .inr (12, [.int 0, .ref a1, .ref a2, .ref a3, .ref a4, .int 0, .int 0, .int 0, .int 0, .int 0, .int 0, .int 0, .int 0, .int 0, .int (-1), .ref a5, .ref a6, .ref a7, .ref a8, .int 0, .ref a9, .ref a10, .int 0, .int 0, .int 0, .ref a11, .ref a12, .ref a13, .ref a14, .ref a15, .ref a16])), (a1, .inl (ct 0, 5310, .inl fx0))] (fun r => r = 0) (fun u => [(a0, .inr (12, [.int 0, .ref a1, .ref a2, .ref a3, .ref a4, .int 0, .int 0, .int 0, .int 0, .int 0, .int 0, .int 0, .int 0, .int 0, .int (-1), .ref a5, .ref a6, .ref a7, .ref a8, .int 0, .ref a9, .ref a10, .int 0, .int 0, .int 0, .ref a11, .ref a12, .ref a13, .ref a14, .ref a15, .ref a16])), (a1, .inl (ct 0, 5310, .inl fx0))]) := by
  refine CI.of (by decide +kernel) (Nat.le_of_ble_eq_true rfl) ?_
  intro p e s m below meth c A ls hE
  obtain ⟨X, hr, hlk, hnm, hw, hl⟩ := hE
  have X : CX p m c cX12_goesRings 3 s [.ref a0].toArray RX12 D ct := X
  have hl : lv_has ls 3 [(0, .ref a0)] := hl
  obtain ⟨⟨hx, hb, hml, hown, hts⟩, hK⟩ := id X
  refine lv_aload_n hx hb dX12_goesRings_0 rfl (lv_at hl 0 rfl) ?_
  refine m_Vv (As := []) (rest := []) (c80_X12_laysRings l D ct a0 a1 a2 a3 a4 a5 a6 a7 a8 a9 a10 a11 a12 a13 a14 a15 a16) X hl.1 kw_1754 kd_yX12_laysRings hw [0, 1] [] rfl rfl rfl rfl (by decide) 0 rfl rfl ⟨by decide, by decide⟩ rfl rfl (Nat.le_of_ble_eq_true rfl) dX12_goesRings_1 ⟨by decide, by decide⟩ (fun u2 H locs hr3 hw => ?_)
  replace hw : WD D A s.heap _ _ [(a0, .inr (12, [.int 0, .ref a1, .ref a2, .ref a3, .ref a4, .int 0, .int 0, .int 0, .int 0, .int 0, .int 0, .int 0, .int 0, .int 0, .int (-1), .ref a5, .ref a6, .ref a7, .ref a8, .int 0, .ref a9, .ref a10, .int 0, .int 0, .int 0, .ref a11, .ref a12, .ref a13, .ref a14, .ref a15, .ref a16])), (a1, .inl (ct 0, 5310, .inl fx0))] := hw
  refine lv_iconst (v := 0) hx hb dX12_goesRings_4 (by decide) ?_
  refine lv_istore_n (lv' := [(1, .int 0), (0, .ref a0)]) hx hb dX12_goesRings_5 rfl hl (by decide) rfl (fun ls hl => ?_)
  refine lv_iconst (v := 0) hx hb dX12_goesRings_6 (by decide) ?_
  refine lv_istore_n (lv' := [(2, .int 0), (1, .int 0), (0, .ref a0)]) hx hb dX12_goesRings_7 rfl hl (by decide) rfl (fun ls hl => ?_)
  refine lv_iload_n hx hb dX12_goesRings_8 rfl (lv_at hl 0 rfl) ?_
  refine lv_aload_n hx hb dX12_goesRings_9 rfl (lv_at hl 2 rfl) ?_
  refine fg_1443 X hw 0 rfl rfl dX12_goesRings_10 ?_
  refine lv_iconst (v := 2) hx hb dX12_goesRings_13 (by decide) ?_
  refine j_iald (j := 2) (v := 0) X hw 1 rfl (by decide) (by decide) (by decide) rfl dX12_goesRings_14 ?_
  refine lv_icmp_ge (tgt := 65) hx hb dX12_goesRings_15 (by decide) (fun _ => ?_) (fun h => absurd (by decide) h)
  refine lv_iload_n hx hb dX12_goesRings_65 rfl (lv_at hl 1 rfl) ?_
  exact r_i X hr hlk hw [0, 1] (fun _ => 0) rfl rfl rfl (by decide) (by decide) dX12_goesRings_66
set_option maxHeartbeats 4000000 in
set_option maxRecDepth 100000 in
theorem c82_X12_rings (l : Launch) (D : va_G) (ct : Nat → ClassId) (a0 : Nat) (a1 : Nat) (a2 : Nat) (a3 : Nat) (a4 : Nat) (a5 : Nat) (a6 : Nat) (a7 : Nat) (a8 : Nat) (a9 : Nat) (a10 : Nat) (a11 : Nat) (a12 : Nat) (a13 : Nat) (a14 : Nat) (a15 : Nat) (a16 : Nat) (f0 : Nat → Int32) : CI l yX12_rings cX12_rings 2 (some .int) { frames := 3, cells := 0, slots := 0, locals := 68 } D ct [.ref a0] [(a0, .inr (12, [.int 0, .ref a1, .ref a2, .ref a3, .ref a4, .int 0, .int 0, .int 0, .int 0, .int 0, .int 0, .int 0, .int 0, .int 0, .int (-1), .ref a5, .ref a6, .ref a7, .ref a8, .int 0, .ref a9, .ref a10, .int 0, .int 0, .int 0, .ref a11, .ref a12, .ref a13, .ref a14, .ref a15, .ref a16])), (a9, .inl (ct 0, 72, .inl f0)), (a1, .inl (ct 0, 5310, .inl fx0))] (fun r => r = 0) (fun u => []) := by
  refine CI.of (by decide +kernel) (Nat.le_of_ble_eq_true rfl) ?_
  intro p e s m below meth c A ls hE
  obtain ⟨X, hr, hlk, hnm, hw, hl⟩ := hE
  have X : CX p m c cX12_rings 2 s [.ref a0].toArray RX12 D ct := X
  have hl : lv_has ls 2 [(0, .ref a0)] := hl
  obtain ⟨⟨hx, hb, hml, hown, hts⟩, hK⟩ := id X
  refine lv_aload_n hx hb dX12_rings_0 rfl (lv_at hl 0 rfl) ?_
  refine lv_iconst (v := 0) hx hb dX12_rings_1 (by decide) ?_
  refine fp_1442 X hw 0 rfl rfl rfl (Nat.le_of_ble_eq_true rfl) dX12_rings_2 [(a0, .inr (12, [.int 0, .ref a1, .ref a2, .ref a3, .ref a4, .int 0, .int 0, .int 0, .int 0, .int 0, .int 0, .int 0, .int 0, .int 0, .int (-1), .ref a5, .ref a6, .ref a7, .ref a8, .int 0, .ref a9, .ref a10, .int 0, .int 0, .int 0, .ref a11, .ref a12, .ref a13, .ref a14, .ref a15, .ref a16])), (a9, .inl (ct 0, 72, .inl f0)), (a1, .inl (ct 0, 5310, .inl fx0))] rfl (fun H locs hw => ?_)
  refine lv_aload_n hx hb dX12_rings_5 rfl (lv_at hl 0 rfl) ?_
  refine m_Vv (As := []) (rest := []) (c79_X12_keeps l D ct a0 a1 a2 a3 a4 a5 a6 a7 a8 a9 a10 a11 a12 a13 a14 a15 a16 f0) X hl.1 kw_1731 kd_yX12_keeps hw [0, 1, 2] [] rfl rfl rfl rfl (by decide) 0 rfl rfl ⟨by decide, by decide⟩ rfl rfl (Nat.le_of_ble_eq_true rfl) dX12_rings_6 ⟨by decide, by decide⟩ (fun u2 H locs hr3 hw => ?_)
  replace hw : WD D A s.heap _ _ [(a0, .inr (12, [.int 0, .ref a1, .ref a2, .ref a3, .ref a4, .int 0, .int 0, .int 0, .int 0, .int 0, .int 0, .int 0, .int 0, .int 0, .int (-1), .ref a5, .ref a6, .ref a7, .ref a8, .int 0, .ref a9, .ref a10, .int 0, .int 0, .int 0, .ref a11, .ref a12, .ref a13, .ref a14, .ref a15, .ref a16])), (a9, .inl (ct 0, 72, .inl (va_cpy fx0 f0 76 0 72))), (a1, .inl (ct 0, 5310, .inl fx0))] := hw
  refine lv_aload_n hx hb dX12_rings_9 rfl (lv_at hl 0 rfl) ?_
  refine m_Vi (As := []) (rest := []) (c81_X12_goesRings l D ct a0 a1 a2 a3 a4 a5 a6 a7 a8 a9 a10 a11 a12 a13 a14 a15 a16) X hl.1 kw_1750 kd_yX12_goesRings hw [0, 2] [1] rfl rfl rfl rfl (by decide) 0 rfl rfl ⟨by decide, by decide⟩ rfl rfl (Nat.le_of_ble_eq_true rfl) dX12_rings_10 ⟨by decide, by decide⟩ (fun r4 u5 H locs hr6 hw => ?_)
  replace hw : WD D A s.heap _ _ [(a9, .inl (ct 0, 72, .inl (va_cpy fx0 f0 76 0 72))), (a0, .inr (12, [.int 0, .ref a1, .ref a2, .ref a3, .ref a4, .int 0, .int 0, .int 0, .int 0, .int 0, .int 0, .int 0, .int 0, .int 0, .int (-1), .ref a5, .ref a6, .ref a7, .ref a8, .int 0, .ref a9, .ref a10, .int 0, .int 0, .int 0, .ref a11, .ref a12, .ref a13, .ref a14, .ref a15, .ref a16])), (a1, .inl (ct 0, 5310, .inl fx0))] := hw
  subst hr6
  refine lv_istore_n (lv' := [(1, .int 0), (0, .ref a0)]) hx hb dX12_rings_13 rfl hl (by decide) rfl (fun ls hl => ?_)
  refine lv_iload_n hx hb dX12_rings_14 rfl (lv_at hl 0 rfl) ?_
  refine lv_if_le (tgt := 22) hx hb dX12_rings_15 (by decide) (fun _ => ?_) (fun h => absurd (by decide) h)
  refine lv_iload_n hx hb dX12_rings_22 rfl (lv_at hl 0 rfl) ?_
  exact r_i X hr hlk hw [] (fun _ => 0) rfl rfl rfl (by decide) (by decide) dX12_rings_23
set_option maxHeartbeats 4000000 in
set_option maxRecDepth 100000 in
theorem c83_X0_settle (l : Launch) (D : va_G) (ct : Nat → ClassId) (a0 : Nat) (p0 : Int32) (p1 : Int32) (a1 : Nat) (a2 : Nat) (a3 : Nat) (a4 : Nat) (a5 : Nat) (a6 : Nat) (a7 : Nat) (a8 : Nat) (a9 : Nat) : CI l yX0_settle cX0_settle 3 (some .int) { frames := 0, cells := 0, slots := 0, locals := 0 } D ct [.ref a0, .int p0, .int p1] [(a1, .inr (2, [.int 0, .int 0, .int 0, .ref a2, .ref a3, .ref a4, .int 0, .int 0, .int 0, .int 0, .int 0, .ref a5, .int 0])), (a0, .inr (0, [.int 0, .int 0, .int (-1), .ref a1, .ref a6, .ref a7, .ref a8, .ref a9, .int 0]))] (fun r => r = 1) (fun u => [(a1, .inr (2, [.int 0, .int 0, .int 0, .ref a2, .ref a3, .ref a4, .int 0, .int 0, .int 0, .int 0, .int 0, .ref a5, .int 0])), (a0, .inr (0, [.int 0, .int 0, .int (-1), .ref a1, .ref a6, .ref a7, .ref a8, .ref a9, .int 0]))]) := by
  refine CI.of (by decide +kernel) (Nat.le_of_ble_eq_true rfl) ?_
  intro p e s m below meth c A ls hE
  obtain ⟨X, hr, hlk, hnm, hw, hl⟩ := hE
  have X : CX p m c cX0_settle 3 s [.ref a0, .int p0, .int p1].toArray RX0 D ct := X
  have hl : lv_has ls 3 [(0, .ref a0), (1, .int p0), (2, .int p1)] := hl
  obtain ⟨⟨hx, hb, hml, hown, hts⟩, hK⟩ := id X
  refine lv_iload_n hx hb dX0_settle_0 rfl (lv_at hl 1 rfl) ?_
  refine lv_if_lt (tgt := 30) hx hb dX0_settle_1 (by decide) (fun h1 => ?_) (fun h1 => ?_)
  · have h1 : p0.toInt < 0 := by have q := ci_lt (a := p0.toInt) (b := 0) rfl (by decide) h1; omega
    refine lv_iconst (v := 1) hx hb dX0_settle_30 (by decide) ?_
    exact r_i X hr hlk hw [0, 1] (fun _ => 0) rfl rfl rfl (by decide) (by decide) dX0_settle_31
  · have h1 : p0.toInt ≥ 0 := by have q := ci_nlt (a := p0.toInt) (b := 0) rfl (by decide) h1; omega
    refine lv_iload_n hx hb dX0_settle_4 rfl (lv_at hl 1 rfl) ?_
    refine lv_aload_n hx hb dX0_settle_5 rfl (lv_at hl 0 rfl) ?_
    refine fg_495 X hw 1 rfl rfl dX0_settle_6 ?_
    refine fg_219 X hw 0 rfl rfl dX0_settle_9 ?_
    refine lv_icmp_ge (tgt := 30) hx hb dX0_settle_12 (by decide) (fun h2 => ?_) (fun h2 => absurd (ci_nle (a := 0) (b := p0.toInt) (by decide) rfl h2) (by omega))
    refine lv_iconst (v := 1) hx hb dX0_settle_30 (by decide) ?_
    exact r_i X hr hlk hw [0, 1] (fun _ => 0) rfl rfl rfl (by decide) (by decide) dX0_settle_31
set_option maxHeartbeats 4000000 in
set_option maxRecDepth 100000 in
theorem c84_X11_moves (l : Launch) (D : va_G) (ct : Nat → ClassId) (a0 : Nat) (p0 : Int32) (p1 : Int32) (a1 : Nat) (a2 : Nat) (a3 : Nat) (a4 : Nat) (a5 : Nat) (a6 : Nat) (a7 : Nat) (a8 : Nat) (a9 : Nat) (a10 : Nat) (a11 : Nat) (a12 : Nat) (a13 : Nat) (a14 : Nat) (a15 : Nat) (a16 : Nat) (a17 : Nat) (a18 : Nat) (a19 : Nat) (a20 : Nat) (a21 : Nat) (a22 : Nat) (f0 : Nat → Int32) (f1 : Nat → Int32) (a23 : Nat) (a24 : Nat) (a25 : Nat) (a26 : Nat) : CI l yX11_moves cX11_moves 6 (some .int) { frames := 2, cells := 0, slots := 0, locals := 81 } D ct [.ref a0, .int p0, .int p1] [(a0, .inr (11, [.ref a1, .int 0, .ref a2, .ref a3, .ref a4, .ref a5, .ref a6, .ref a7, .ref a8, .ref a9, .ref a10, .ref a11, .ref a12, .ref a13, .ref a14, .ref a15, .int (-1), .int (-1)])), (a2, .inr (2, [.int 0, .int 0, .int 0, .ref a16, .ref a17, .ref a18, .int 0, .int 0, .int 0, .int 0, .int 0, .ref a19, .int 0])), (a19, .inr (4, [.ref a20, .ref a21, .ref a22, .int 0])), (a21, .inl (ct 0, 56, .inl f0)), (a22, .inl (ct 0, 8, .inl f0)), (a20, .inl (ct 0, 7, .inl f1)), (a9, .inr (0, [.int 0, .int 0, .int (-1), .ref a2, .ref a4, .ref a5, .ref a6, .ref a23, .int 0])), (a11, .inr (4, [.ref a24, .ref a25, .ref a26, .int 0])), (a25, .inl (ct 0, 56, .inl f0)), (a26, .inl (ct 0, 8, .inl f0)), (a24, .inl (ct 0, 7, .inl f1))] (fun r => r = (-11)) (fun u => []) := by
  refine CI.of (by decide +kernel) (Nat.le_of_ble_eq_true rfl) ?_
  intro p e s m below meth c A ls hE
  obtain ⟨X, hr, hlk, hnm, hw, hl⟩ := hE
  have X : CX p m c cX11_moves 6 s [.ref a0, .int p0, .int p1].toArray RX11 D ct := X
  have hl : lv_has ls 6 [(0, .ref a0), (1, .int p0), (2, .int p1)] := hl
  obtain ⟨⟨hx, hb, hml, hown, hts⟩, hK⟩ := id X
  refine lv_aload_n hx hb dX11_moves_0 rfl (lv_at hl 0 rfl) ?_
  refine fg_576 X hw 0 rfl rfl dX11_moves_1 ?_
  refine lv_aload_n hx hb dX11_moves_4 rfl (lv_at hl 0 rfl) ?_
  refine fg_567 X hw 0 rfl rfl dX11_moves_5 ?_
  refine fg_253 X hw 1 rfl rfl dX11_moves_8 ?_
  refine m_Vv (As := [.ref a19]) (rest := []) (c59_X4_copyFrom l D ct a11 a19 a20 a21 a22 f0 f1 a24 a25 a26) X hl.1 kw_949 kd_yX4_copyFrom hw [2, 3, 4, 5, 7, 8, 9, 10] [0, 1, 6] rfl rfl rfl rfl (by decide) 4 rfl rfl ⟨by decide, by decide⟩ rfl rfl (Nat.le_of_ble_eq_true rfl) dX11_moves_11 ⟨by decide, by decide⟩ (fun u2 H locs hr3 hw => ?_)
  replace hw : WD D A s.heap _ _ [(a0, .inr (11, [.ref a1, .int 0, .ref a2, .ref a3, .ref a4, .ref a5, .ref a6, .ref a7, .ref a8, .ref a9, .ref a10, .ref a11, .ref a12, .ref a13, .ref a14, .ref a15, .int (-1), .int (-1)])), (a2, .inr (2, [.int 0, .int 0, .int 0, .ref a16, .ref a17, .ref a18, .int 0, .int 0, .int 0, .int 0, .int 0, .ref a19, .int 0])), (a9, .inr (0, [.int 0, .int 0, .int (-1), .ref a2, .ref a4, .ref a5, .ref a6, .ref a23, .int 0])), (a19, .inr (4, [.ref a20, .ref a21, .ref a22, .int 0])), (a21, .inl (ct 0, 56, .inl f0)), (a22, .inl (ct 0, 8, .inl f0)), (a20, .inl (ct 0, 7, .inl f1)), (a11, .inr (4, [.ref a24, .ref a25, .ref a26, .int 0])), (a25, .inl (ct 0, 56, .inl (va_cpy f0 f0 0 0 56))), (a26, .inl (ct 0, 8, .inl (va_cpy f0 f0 0 0 8))), (a24, .inl (ct 0, 7, .inl (va_cpy f1 f1 0 0 7)))] := hw
  refine lv_aload_n hx hb dX11_moves_14 rfl (lv_at hl 0 rfl) ?_
  refine fg_574 X hw 0 rfl rfl dX11_moves_15 ?_
  refine lv_iload_n hx hb dX11_moves_18 rfl (lv_at hl 1 rfl) ?_
  refine lv_iload_n hx hb dX11_moves_19 rfl (lv_at hl 2 rfl) ?_
  refine m_Vi (As := [.int p0, .int p1]) (rest := []) (c83_X0_settle l D ct a9 p0 p1 a2 a16 a17 a18 a19 a4 a5 a6 a23) X hl.1 kw_1017 kd_yX0_settle hw [1, 2] [0, 3, 4, 5, 6, 7, 8, 9, 10] rfl rfl rfl rfl (by decide) 1 rfl rfl ⟨by decide, by decide⟩ rfl rfl (Nat.le_of_ble_eq_true rfl) dX11_moves_20 ⟨by decide, by decide⟩ (fun r4 u5 H locs hr6 hw => ?_)
  replace hw : WD D A s.heap _ _ [(a0, .inr (11, [.ref a1, .int 0, .ref a2, .ref a3, .ref a4, .ref a5, .ref a6, .ref a7, .ref a8, .ref a9, .ref a10, .ref a11, .ref a12, .ref a13, .ref a14, .ref a15, .int (-1), .int (-1)])), (a19, .inr (4, [.ref a20, .ref a21, .ref a22, .int 0])), (a21, .inl (ct 0, 56, .inl f0)), (a22, .inl (ct 0, 8, .inl f0)), (a20, .inl (ct 0, 7, .inl f1)), (a11, .inr (4, [.ref a24, .ref a25, .ref a26, .int 0])), (a25, .inl (ct 0, 56, .inl (va_cpy f0 f0 0 0 56))), (a26, .inl (ct 0, 8, .inl (va_cpy f0 f0 0 0 8))), (a24, .inl (ct 0, 7, .inl (va_cpy f1 f1 0 0 7))), (a2, .inr (2, [.int 0, .int 0, .int 0, .ref a16, .ref a17, .ref a18, .int 0, .int 0, .int 0, .int 0, .int 0, .ref a19, .int 0])), (a9, .inr (0, [.int 0, .int 0, .int (-1), .ref a2, .ref a4, .ref a5, .ref a6, .ref a23, .int 0]))] := hw
  subst hr6
  refine lv_istore_n (lv' := [(3, .int 1), (0, .ref a0), (1, .int p0), (2, .int p1)]) hx hb dX11_moves_23 rfl hl (by decide) rfl (fun ls hl => ?_)
  refine lv_iload_n hx hb dX11_moves_24 rfl (lv_at hl 0 rfl) ?_
  refine lv_if_eq (tgt := 33) hx hb dX11_moves_25 (by decide) (fun h => absurd h (by decide)) (fun _ => ?_)
  refine lv_bipush (v := (-10)) hx hb dX11_moves_28 (by decide) ?_
  refine lv_iload_n hx hb dX11_moves_30 rfl (lv_at hl 0 rfl) ?_
  refine kv_isub (v := (-11)) hx hb (by decide) dX11_moves_31 ?_
  exact r_i X hr hlk hw [] (fun _ => 0) rfl rfl rfl (by decide) (by decide) dX11_moves_32
set_option maxHeartbeats 4000000 in
set_option maxRecDepth 100000 in
theorem c85_X12_whyMove (l : Launch) (D : va_G) (ct : Nat → ClassId) (a0 : Nat) (w0 : Int64) (w1 : Int64) (a1 : Nat) (a2 : Nat) (a3 : Nat) (a4 : Nat) (a5 : Nat) (a6 : Nat) (a7 : Nat) (a8 : Nat) (a9 : Nat) (a10 : Nat) (a11 : Nat) (a12 : Nat) (a13 : Nat) (a14 : Nat) (a15 : Nat) (a16 : Nat) : CI l yX12_whyMove cX12_whyMove 5 (some .int) { frames := 2, cells := 0, slots := 0, locals := 47 } D ct [.ref a0, .long w0, .long w1] [(a0, .inr (12, [.int 0, .ref a1, .ref a2, .ref a3, .ref a4, .int 0, .int 0, .int 0, .int 0, .int 0, .int 0, .int 0, .int 0, .int 0, .int (-1), .ref a5, .ref a6, .ref a7, .ref a8, .int 0, .ref a9, .ref a10, .int 0, .int 0, .int 0, .ref a11, .ref a12, .ref a13, .ref a14, .ref a15, .ref a16])), (a1, .inl (ct 0, 5310, .inl fx0))] (fun r => r = 1) (fun u => [(a0, .inr (12, [.int 0, .ref a1, .ref a2, .ref a3, .ref a4, .int 0, .int 0, .int 0, .int 0, .int 0, .int 0, .int 0, .int 0, .int 0, .int (-1), .ref a5, .ref a6, .ref a7, .ref a8, .int 0, .ref a9, .ref a10, .int 0, .int 0, .int 0, .ref a11, .ref a12, .ref a13, .ref a14, .ref a15, .ref a16])), (a1, .inl (ct 0, 5310, .inl fx0))]) := by
  refine CI.of (by decide +kernel) (Nat.le_of_ble_eq_true rfl) ?_
  intro p e s m below meth c A ls hE
  obtain ⟨X, hr, hlk, hnm, hw, hl⟩ := hE
  have X : CX p m c cX12_whyMove 5 s [.ref a0, .long w0, .long w1].toArray RX12 D ct := X
  have hl : lv_has ls 5 [(0, .ref a0), (1, .long w0), (3, .long w1)] := hl
  obtain ⟨⟨hx, hb, hml, hown, hts⟩, hK⟩ := id X
  refine lv_aload_n hx hb dX12_whyMove_0 rfl (lv_at hl 0 rfl) ?_
  refine lv_lload_n hx hb dX12_whyMove_1 rfl (lv_at hl 1 rfl) ?_
  refine m_Vi (As := [.long w0]) (rest := []) (c49_X12_isHousehold l D ct a0 w0 a1 a2 a3 a4 a5 a6 a7 a8 a9 a10 a11 a12 a13 a14 a15 a16) X hl.1 kw_1667 kd_yX12_isHousehold hw [0, 1] [] rfl rfl rfl rfl (by decide) 0 rfl rfl ⟨by decide, by decide⟩ rfl rfl (Nat.le_of_ble_eq_true rfl) dX12_whyMove_2 ⟨by decide, by decide⟩ (fun r1 u2 H locs hr3 hw => ?_)
  replace hw : WD D A s.heap _ _ [(a0, .inr (12, [.int 0, .ref a1, .ref a2, .ref a3, .ref a4, .int 0, .int 0, .int 0, .int 0, .int 0, .int 0, .int 0, .int 0, .int 0, .int (-1), .ref a5, .ref a6, .ref a7, .ref a8, .int 0, .ref a9, .ref a10, .int 0, .int 0, .int 0, .ref a11, .ref a12, .ref a13, .ref a14, .ref a15, .ref a16])), (a1, .inl (ct 0, 5310, .inl fx0))] := hw
  subst hr3
  refine lv_if_eq (tgt := 16) hx hb dX12_whyMove_5 (by decide) (fun _ => ?_) (fun h => absurd (by decide) h)
  refine lv_iconst (v := 1) hx hb dX12_whyMove_16 (by decide) ?_
  exact r_i X hr hlk hw [0, 1] (fun _ => 0) rfl rfl rfl (by decide) (by decide) dX12_whyMove_17
set_option maxHeartbeats 4000000 in
set_option maxRecDepth 100000 in
theorem c86_X12_moves (l : Launch) (D : va_G) (ct : Nat → ClassId) (a0 : Nat) (p0 : Int32) (p1 : Int32) (a1 : Nat) (a2 : Nat) (a3 : Nat) (a4 : Nat) (a5 : Nat) (a6 : Nat) (a7 : Nat) (a8 : Nat) (a9 : Nat) (a10 : Nat) (a11 : Nat) (a12 : Nat) (a13 : Nat) (a14 : Nat) (a15 : Nat) (a16 : Nat) : CI l yX12_moves cX12_moves 5 (some .int) { frames := 3, cells := 0, slots := 0, locals := 71 } D ct [.ref a0, .int p0, .int p1] [(a0, .inr (12, [.int 0, .ref a1, .ref a2, .ref a3, .ref a4, .int 0, .int 0, .int 0, .int 0, .int 0, .int 0, .int 0, .int 0, .int 0, .int (-1), .ref a5, .ref a6, .ref a7, .ref a8, .int 0, .ref a9, .ref a10, .int 0, .int 0, .int 0, .ref a11, .ref a12, .ref a13, .ref a14, .ref a15, .ref a16])), (a1, .inl (ct 0, 5310, .inl fx0))] (fun r => r = (-11)) (fun u => []) := by
  refine CI.of (by decide +kernel) (Nat.le_of_ble_eq_true rfl) ?_
  intro p e s m below meth c A ls hE
  obtain ⟨X, hr, hlk, hnm, hw, hl⟩ := hE
  have X : CX p m c cX12_moves 5 s [.ref a0, .int p0, .int p1].toArray RX12 D ct := X
  have hl : lv_has ls 5 [(0, .ref a0), (1, .int p0), (2, .int p1)] := hl
  obtain ⟨⟨hx, hb, hml, hown, hts⟩, hK⟩ := id X
  refine lv_aload_n hx hb dX12_moves_0 rfl (lv_at hl 0 rfl) ?_
  refine lv_iconst (v := 0) hx hb dX12_moves_1 (by decide) ?_
  refine fp_1442 X hw 0 rfl rfl rfl (Nat.le_of_ble_eq_true rfl) dX12_moves_2 [(a0, .inr (12, [.int 0, .ref a1, .ref a2, .ref a3, .ref a4, .int 0, .int 0, .int 0, .int 0, .int 0, .int 0, .int 0, .int 0, .int 0, .int (-1), .ref a5, .ref a6, .ref a7, .ref a8, .int 0, .ref a9, .ref a10, .int 0, .int 0, .int 0, .ref a11, .ref a12, .ref a13, .ref a14, .ref a15, .ref a16])), (a1, .inl (ct 0, 5310, .inl fx0))] rfl (fun H locs hw => ?_)
  refine lv_aload_n hx hb dX12_moves_5 rfl (lv_at hl 0 rfl) ?_
  refine lv_iload_n hx hb dX12_moves_6 rfl (lv_at hl 1 rfl) ?_
  refine lv_i2l (v := p0.toInt64) hx hb dX12_moves_7 rfl ?_
  refine lv_iload_n hx hb dX12_moves_8 rfl (lv_at hl 2 rfl) ?_
  refine lv_i2l (v := p1.toInt64) hx hb dX12_moves_9 rfl ?_
  refine m_Vi (As := [.long p0.toInt64, .long p1.toInt64]) (rest := []) (c85_X12_whyMove l D ct a0 (p0.toInt64) (p1.toInt64) a1 a2 a3 a4 a5 a6 a7 a8 a9 a10 a11 a12 a13 a14 a15 a16) X hl.1 kw_1766 kd_yX12_whyMove hw [0, 1] [] rfl rfl rfl rfl (by decide) 0 rfl rfl ⟨by decide, by decide⟩ rfl rfl (Nat.le_of_ble_eq_true rfl) dX12_moves_10 ⟨by decide, by decide⟩ (fun r1 u2 H locs hr3 hw => ?_)
  replace hw : WD D A s.heap _ _ [(a0, .inr (12, [.int 0, .ref a1, .ref a2, .ref a3, .ref a4, .int 0, .int 0, .int 0, .int 0, .int 0, .int 0, .int 0, .int 0, .int 0, .int (-1), .ref a5, .ref a6, .ref a7, .ref a8, .int 0, .ref a9, .ref a10, .int 0, .int 0, .int 0, .ref a11, .ref a12, .ref a13, .ref a14, .ref a15, .ref a16])), (a1, .inl (ct 0, 5310, .inl fx0))] := hw
  subst hr3
  refine lv_istore_n (lv' := [(3, .int 1), (0, .ref a0), (1, .int p0), (2, .int p1)]) hx hb dX12_moves_13 rfl hl (by decide) rfl (fun ls hl => ?_)
  refine lv_iload_n hx hb dX12_moves_14 rfl (lv_at hl 0 rfl) ?_
  refine lv_if_eq (tgt := 23) hx hb dX12_moves_15 (by decide) (fun h => absurd h (by decide)) (fun _ => ?_)
  refine lv_bipush (v := (-10)) hx hb dX12_moves_18 (by decide) ?_
  refine lv_iload_n hx hb dX12_moves_20 rfl (lv_at hl 0 rfl) ?_
  refine kv_isub (v := (-11)) hx hb (by decide) dX12_moves_21 ?_
  exact r_i X hr hlk hw [] (fun _ => 0) rfl rfl rfl (by decide) (by decide) dX12_moves_22
set_option maxHeartbeats 4000000 in
set_option maxRecDepth 100000 in
theorem c87_X0_depart (l : Launch) (D : va_G) (ct : Nat → ClassId) (a0 : Nat) (p0 : Int32) (a1 : Nat) (a2 : Nat) (a3 : Nat) (a4 : Nat) (a5 : Nat) (a6 : Nat) (a7 : Nat) (a8 : Nat) (a9 : Nat) : CI l yX0_depart cX0_depart 2 (some .int) { frames := 0, cells := 0, slots := 0, locals := 0 } D ct [.ref a0, .int p0] [(a1, .inr (2, [.int 0, .int 0, .int 0, .ref a2, .ref a3, .ref a4, .int 0, .int 0, .int 0, .int 0, .int 0, .ref a5, .int 0])), (a0, .inr (0, [.int 0, .int 0, .int (-1), .ref a1, .ref a6, .ref a7, .ref a8, .ref a9, .int 0]))] (fun r => r = 1) (fun u => [(a1, .inr (2, [.int 0, .int 0, .int 0, .ref a2, .ref a3, .ref a4, .int 0, .int 0, .int 0, .int 0, .int 0, .ref a5, .int 0])), (a0, .inr (0, [.int 0, .int 0, .int (-1), .ref a1, .ref a6, .ref a7, .ref a8, .ref a9, .int 0]))]) := by
  refine CI.of (by decide +kernel) (Nat.le_of_ble_eq_true rfl) ?_
  intro p e s m below meth c A ls hE
  obtain ⟨X, hr, hlk, hnm, hw, hl⟩ := hE
  have X : CX p m c cX0_depart 2 s [.ref a0, .int p0].toArray RX0 D ct := X
  have hl : lv_has ls 2 [(0, .ref a0), (1, .int p0)] := hl
  obtain ⟨⟨hx, hb, hml, hown, hts⟩, hK⟩ := id X
  refine lv_iload_n hx hb dX0_depart_0 rfl (lv_at hl 1 rfl) ?_
  refine lv_if_lt (tgt := 15) hx hb dX0_depart_1 (by decide) (fun h1 => ?_) (fun h1 => ?_)
  · have h1 : p0.toInt < 0 := by have q := ci_lt (a := p0.toInt) (b := 0) rfl (by decide) h1; omega
    refine lv_iconst (v := 1) hx hb dX0_depart_15 (by decide) ?_
    exact r_i X hr hlk hw [0, 1] (fun _ => 0) rfl rfl rfl (by decide) (by decide) dX0_depart_16
  · have h1 : p0.toInt ≥ 0 := by have q := ci_nlt (a := p0.toInt) (b := 0) rfl (by decide) h1; omega
    refine lv_iload_n hx hb dX0_depart_4 rfl (lv_at hl 1 rfl) ?_
    refine lv_aload_n hx hb dX0_depart_5 rfl (lv_at hl 0 rfl) ?_
    refine fg_495 X hw 1 rfl rfl dX0_depart_6 ?_
    refine fg_219 X hw 0 rfl rfl dX0_depart_9 ?_
    refine lv_icmp_lt (tgt := 17) hx hb dX0_depart_12 (by decide) (fun h2 => absurd (ci_lt (a := p0.toInt) (b := 0) rfl (by decide) h2) (by omega)) (fun h2 => ?_)
    refine lv_iconst (v := 1) hx hb dX0_depart_15 (by decide) ?_
    exact r_i X hr hlk hw [0, 1] (fun _ => 0) rfl rfl rfl (by decide) (by decide) dX0_depart_16
set_option maxHeartbeats 4000000 in
set_option maxRecDepth 100000 in
theorem c88_X11_leaves (l : Launch) (D : va_G) (ct : Nat → ClassId) (a0 : Nat) (p0 : Int32) (a1 : Nat) (a2 : Nat) (a3 : Nat) (a4 : Nat) (a5 : Nat) (a6 : Nat) (a7 : Nat) (a8 : Nat) (a9 : Nat) (a10 : Nat) (a11 : Nat) (a12 : Nat) (a13 : Nat) (a14 : Nat) (a15 : Nat) (a16 : Nat) (a17 : Nat) (a18 : Nat) (a19 : Nat) (a20 : Nat) (a21 : Nat) (a22 : Nat) (f0 : Nat → Int32) (f1 : Nat → Int32) (a23 : Nat) (a24 : Nat) (a25 : Nat) (a26 : Nat) : CI l yX11_leaves cX11_leaves 3 (some .int) { frames := 2, cells := 0, slots := 0, locals := 81 } D ct [.ref a0, .int p0] [(a0, .inr (11, [.ref a1, .int 0, .ref a2, .ref a3, .ref a4, .ref a5, .ref a6, .ref a7, .ref a8, .ref a9, .ref a10, .ref a11, .ref a12, .ref a13, .ref a14, .ref a15, .int (-1), .int (-1)])), (a2, .inr (2, [.int 0, .int 0, .int 0, .ref a16, .ref a17, .ref a18, .int 0, .int 0, .int 0, .int 0, .int 0, .ref a19, .int 0])), (a19, .inr (4, [.ref a20, .ref a21, .ref a22, .int 0])), (a21, .inl (ct 0, 56, .inl f0)), (a22, .inl (ct 0, 8, .inl f0)), (a20, .inl (ct 0, 7, .inl f1)), (a9, .inr (0, [.int 0, .int 0, .int (-1), .ref a2, .ref a4, .ref a5, .ref a6, .ref a23, .int 0])), (a11, .inr (4, [.ref a24, .ref a25, .ref a26, .int 0])), (a25, .inl (ct 0, 56, .inl f0)), (a26, .inl (ct 0, 8, .inl f0)), (a24, .inl (ct 0, 7, .inl f1))] (fun r => r = (-11)) (fun u => []) := by
  refine CI.of (by decide +kernel) (Nat.le_of_ble_eq_true rfl) ?_
  intro p e s m below meth c A ls hE
  obtain ⟨X, hr, hlk, hnm, hw, hl⟩ := hE
  have X : CX p m c cX11_leaves 3 s [.ref a0, .int p0].toArray RX11 D ct := X
  have hl : lv_has ls 3 [(0, .ref a0), (1, .int p0)] := hl
  obtain ⟨⟨hx, hb, hml, hown, hts⟩, hK⟩ := id X
  refine lv_aload_n hx hb dX11_leaves_0 rfl (lv_at hl 0 rfl) ?_
  refine fg_576 X hw 0 rfl rfl dX11_leaves_1 ?_
  refine lv_aload_n hx hb dX11_leaves_4 rfl (lv_at hl 0 rfl) ?_
  refine fg_567 X hw 0 rfl rfl dX11_leaves_5 ?_
  refine fg_253 X hw 1 rfl rfl dX11_leaves_8 ?_
  refine m_Vv (As := [.ref a19]) (rest := []) (c59_X4_copyFrom l D ct a11 a19 a20 a21 a22 f0 f1 a24 a25 a26) X hl.1 kw_949 kd_yX4_copyFrom hw [2, 3, 4, 5, 7, 8, 9, 10] [0, 1, 6] rfl rfl rfl rfl (by decide) 4 rfl rfl ⟨by decide, by decide⟩ rfl rfl (Nat.le_of_ble_eq_true rfl) dX11_leaves_11 ⟨by decide, by decide⟩ (fun u2 H locs hr3 hw => ?_)
  replace hw : WD D A s.heap _ _ [(a0, .inr (11, [.ref a1, .int 0, .ref a2, .ref a3, .ref a4, .ref a5, .ref a6, .ref a7, .ref a8, .ref a9, .ref a10, .ref a11, .ref a12, .ref a13, .ref a14, .ref a15, .int (-1), .int (-1)])), (a2, .inr (2, [.int 0, .int 0, .int 0, .ref a16, .ref a17, .ref a18, .int 0, .int 0, .int 0, .int 0, .int 0, .ref a19, .int 0])), (a9, .inr (0, [.int 0, .int 0, .int (-1), .ref a2, .ref a4, .ref a5, .ref a6, .ref a23, .int 0])), (a19, .inr (4, [.ref a20, .ref a21, .ref a22, .int 0])), (a21, .inl (ct 0, 56, .inl f0)), (a22, .inl (ct 0, 8, .inl f0)), (a20, .inl (ct 0, 7, .inl f1)), (a11, .inr (4, [.ref a24, .ref a25, .ref a26, .int 0])), (a25, .inl (ct 0, 56, .inl (va_cpy f0 f0 0 0 56))), (a26, .inl (ct 0, 8, .inl (va_cpy f0 f0 0 0 8))), (a24, .inl (ct 0, 7, .inl (va_cpy f1 f1 0 0 7)))] := hw
  refine lv_aload_n hx hb dX11_leaves_14 rfl (lv_at hl 0 rfl) ?_
  refine fg_574 X hw 0 rfl rfl dX11_leaves_15 ?_
  refine lv_iload_n hx hb dX11_leaves_18 rfl (lv_at hl 1 rfl) ?_
  refine m_Vi (As := [.int p0]) (rest := []) (c87_X0_depart l D ct a9 p0 a2 a16 a17 a18 a19 a4 a5 a6 a23) X hl.1 kw_1030 kd_yX0_depart hw [1, 2] [0, 3, 4, 5, 6, 7, 8, 9, 10] rfl rfl rfl rfl (by decide) 1 rfl rfl ⟨by decide, by decide⟩ rfl rfl (Nat.le_of_ble_eq_true rfl) dX11_leaves_19 ⟨by decide, by decide⟩ (fun r4 u5 H locs hr6 hw => ?_)
  replace hw : WD D A s.heap _ _ [(a0, .inr (11, [.ref a1, .int 0, .ref a2, .ref a3, .ref a4, .ref a5, .ref a6, .ref a7, .ref a8, .ref a9, .ref a10, .ref a11, .ref a12, .ref a13, .ref a14, .ref a15, .int (-1), .int (-1)])), (a19, .inr (4, [.ref a20, .ref a21, .ref a22, .int 0])), (a21, .inl (ct 0, 56, .inl f0)), (a22, .inl (ct 0, 8, .inl f0)), (a20, .inl (ct 0, 7, .inl f1)), (a11, .inr (4, [.ref a24, .ref a25, .ref a26, .int 0])), (a25, .inl (ct 0, 56, .inl (va_cpy f0 f0 0 0 56))), (a26, .inl (ct 0, 8, .inl (va_cpy f0 f0 0 0 8))), (a24, .inl (ct 0, 7, .inl (va_cpy f1 f1 0 0 7))), (a2, .inr (2, [.int 0, .int 0, .int 0, .ref a16, .ref a17, .ref a18, .int 0, .int 0, .int 0, .int 0, .int 0, .ref a19, .int 0])), (a9, .inr (0, [.int 0, .int 0, .int (-1), .ref a2, .ref a4, .ref a5, .ref a6, .ref a23, .int 0]))] := hw
  subst hr6
  refine lv_istore_n (lv' := [(2, .int 1), (0, .ref a0), (1, .int p0)]) hx hb dX11_leaves_22 rfl hl (by decide) rfl (fun ls hl => ?_)
  refine lv_iload_n hx hb dX11_leaves_23 rfl (lv_at hl 0 rfl) ?_
  refine lv_if_eq (tgt := 32) hx hb dX11_leaves_24 (by decide) (fun h => absurd h (by decide)) (fun _ => ?_)
  refine lv_bipush (v := (-10)) hx hb dX11_leaves_27 (by decide) ?_
  refine lv_iload_n hx hb dX11_leaves_29 rfl (lv_at hl 0 rfl) ?_
  refine kv_isub (v := (-11)) hx hb (by decide) dX11_leaves_30 ?_
  exact r_i X hr hlk hw [] (fun _ => 0) rfl rfl rfl (by decide) (by decide) dX11_leaves_31
set_option maxHeartbeats 4000000 in
set_option maxRecDepth 100000 in
theorem c89_X12_whyLeave (l : Launch) (D : va_G) (ct : Nat → ClassId) (a0 : Nat) (w0 : Int64) (a1 : Nat) (a2 : Nat) (a3 : Nat) (a4 : Nat) (a5 : Nat) (a6 : Nat) (a7 : Nat) (a8 : Nat) (a9 : Nat) (a10 : Nat) (a11 : Nat) (a12 : Nat) (a13 : Nat) (a14 : Nat) (a15 : Nat) (a16 : Nat) : CI l yX12_whyLeave cX12_whyLeave 3 (some .int) { frames := 2, cells := 0, slots := 0, locals := 47 } D ct [.ref a0, .long w0] [(a0, .inr (12, [.int 0, .ref a1, .ref a2, .ref a3, .ref a4, .int 0, .int 0, .int 0, .int 0, .int 0, .int 0, .int 0, .int 0, .int 0, .int (-1), .ref a5, .ref a6, .ref a7, .ref a8, .int 0, .ref a9, .ref a10, .int 0, .int 0, .int 0, .ref a11, .ref a12, .ref a13, .ref a14, .ref a15, .ref a16])), (a1, .inl (ct 0, 5310, .inl fx0))] (fun r => r = 1) (fun u => [(a0, .inr (12, [.int 0, .ref a1, .ref a2, .ref a3, .ref a4, .int 0, .int 0, .int 0, .int 0, .int 0, .int 0, .int 0, .int 0, .int 0, .int (-1), .ref a5, .ref a6, .ref a7, .ref a8, .int 0, .ref a9, .ref a10, .int 0, .int 0, .int 0, .ref a11, .ref a12, .ref a13, .ref a14, .ref a15, .ref a16])), (a1, .inl (ct 0, 5310, .inl fx0))]) := by
  refine CI.of (by decide +kernel) (Nat.le_of_ble_eq_true rfl) ?_
  intro p e s m below meth c A ls hE
  obtain ⟨X, hr, hlk, hnm, hw, hl⟩ := hE
  have X : CX p m c cX12_whyLeave 3 s [.ref a0, .long w0].toArray RX12 D ct := X
  have hl : lv_has ls 3 [(0, .ref a0), (1, .long w0)] := hl
  obtain ⟨⟨hx, hb, hml, hown, hts⟩, hK⟩ := id X
  refine lv_aload_n hx hb dX12_whyLeave_0 rfl (lv_at hl 0 rfl) ?_
  refine lv_lload_n hx hb dX12_whyLeave_1 rfl (lv_at hl 1 rfl) ?_
  refine m_Vi (As := [.long w0]) (rest := []) (c49_X12_isHousehold l D ct a0 w0 a1 a2 a3 a4 a5 a6 a7 a8 a9 a10 a11 a12 a13 a14 a15 a16) X hl.1 kw_1667 kd_yX12_isHousehold hw [0, 1] [] rfl rfl rfl rfl (by decide) 0 rfl rfl ⟨by decide, by decide⟩ rfl rfl (Nat.le_of_ble_eq_true rfl) dX12_whyLeave_2 ⟨by decide, by decide⟩ (fun r1 u2 H locs hr3 hw => ?_)
  replace hw : WD D A s.heap _ _ [(a0, .inr (12, [.int 0, .ref a1, .ref a2, .ref a3, .ref a4, .int 0, .int 0, .int 0, .int 0, .int 0, .int 0, .int 0, .int 0, .int 0, .int (-1), .ref a5, .ref a6, .ref a7, .ref a8, .int 0, .ref a9, .ref a10, .int 0, .int 0, .int 0, .ref a11, .ref a12, .ref a13, .ref a14, .ref a15, .ref a16])), (a1, .inl (ct 0, 5310, .inl fx0))] := hw
  subst hr3
  refine lv_if_ne (tgt := 12) hx hb dX12_whyLeave_5 (by decide) (fun h => absurd rfl h) (fun _ => ?_)
  refine lv_iconst (v := 1) hx hb dX12_whyLeave_8 (by decide) ?_
  refine lv_goto (tgt := 31) hx hb dX12_whyLeave_9 (by decide) ?_
  exact r_i X hr hlk hw [0, 1] (fun _ => 0) rfl rfl rfl (by decide) (by decide) dX12_whyLeave_31
set_option maxHeartbeats 4000000 in
set_option maxRecDepth 100000 in
theorem c90_X12_leaves (l : Launch) (D : va_G) (ct : Nat → ClassId) (a0 : Nat) (p0 : Int32) (a1 : Nat) (a2 : Nat) (a3 : Nat) (a4 : Nat) (a5 : Nat) (a6 : Nat) (a7 : Nat) (a8 : Nat) (a9 : Nat) (a10 : Nat) (a11 : Nat) (a12 : Nat) (a13 : Nat) (a14 : Nat) (a15 : Nat) (a16 : Nat) : CI l yX12_leaves cX12_leaves 3 (some .int) { frames := 3, cells := 0, slots := 0, locals := 69 } D ct [.ref a0, .int p0] [(a0, .inr (12, [.int 0, .ref a1, .ref a2, .ref a3, .ref a4, .int 0, .int 0, .int 0, .int 0, .int 0, .int 0, .int 0, .int 0, .int 0, .int (-1), .ref a5, .ref a6, .ref a7, .ref a8, .int 0, .ref a9, .ref a10, .int 0, .int 0, .int 0, .ref a11, .ref a12, .ref a13, .ref a14, .ref a15, .ref a16])), (a1, .inl (ct 0, 5310, .inl fx0))] (fun r => r = (-11)) (fun u => []) := by
  refine CI.of (by decide +kernel) (Nat.le_of_ble_eq_true rfl) ?_
  intro p e s m below meth c A ls hE
  obtain ⟨X, hr, hlk, hnm, hw, hl⟩ := hE
  have X : CX p m c cX12_leaves 3 s [.ref a0, .int p0].toArray RX12 D ct := X
  have hl : lv_has ls 3 [(0, .ref a0), (1, .int p0)] := hl
  obtain ⟨⟨hx, hb, hml, hown, hts⟩, hK⟩ := id X
  refine lv_aload_n hx hb dX12_leaves_0 rfl (lv_at hl 0 rfl) ?_
  refine lv_iconst (v := 0) hx hb dX12_leaves_1 (by decide) ?_
  refine fp_1442 X hw 0 rfl rfl rfl (Nat.le_of_ble_eq_true rfl) dX12_leaves_2 [(a0, .inr (12, [.int 0, .ref a1, .ref a2, .ref a3, .ref a4, .int 0, .int 0, .int 0, .int 0, .int 0, .int 0, .int 0, .int 0, .int 0, .int (-1), .ref a5, .ref a6, .ref a7, .ref a8, .int 0, .ref a9, .ref a10, .int 0, .int 0, .int 0, .ref a11, .ref a12, .ref a13, .ref a14, .ref a15, .ref a16])), (a1, .inl (ct 0, 5310, .inl fx0))] rfl (fun H locs hw => ?_)
  refine lv_aload_n hx hb dX12_leaves_5 rfl (lv_at hl 0 rfl) ?_
  refine lv_iload_n hx hb dX12_leaves_6 rfl (lv_at hl 1 rfl) ?_
  refine lv_i2l (v := p0.toInt64) hx hb dX12_leaves_7 rfl ?_
  refine m_Vi (As := [.long p0.toInt64]) (rest := []) (c89_X12_whyLeave l D ct a0 (p0.toInt64) a1 a2 a3 a4 a5 a6 a7 a8 a9 a10 a11 a12 a13 a14 a15 a16) X hl.1 kw_1781 kd_yX12_whyLeave hw [0, 1] [] rfl rfl rfl rfl (by decide) 0 rfl rfl ⟨by decide, by decide⟩ rfl rfl (Nat.le_of_ble_eq_true rfl) dX12_leaves_8 ⟨by decide, by decide⟩ (fun r1 u2 H locs hr3 hw => ?_)
  replace hw : WD D A s.heap _ _ [(a0, .inr (12, [.int 0, .ref a1, .ref a2, .ref a3, .ref a4, .int 0, .int 0, .int 0, .int 0, .int 0, .int 0, .int 0, .int 0, .int 0, .int (-1), .ref a5, .ref a6, .ref a7, .ref a8, .int 0, .ref a9, .ref a10, .int 0, .int 0, .int 0, .ref a11, .ref a12, .ref a13, .ref a14, .ref a15, .ref a16])), (a1, .inl (ct 0, 5310, .inl fx0))] := hw
  subst hr3
  refine lv_istore_n (lv' := [(2, .int 1), (0, .ref a0), (1, .int p0)]) hx hb dX12_leaves_11 rfl hl (by decide) rfl (fun ls hl => ?_)
  refine lv_iload_n hx hb dX12_leaves_12 rfl (lv_at hl 0 rfl) ?_
  refine lv_if_eq (tgt := 21) hx hb dX12_leaves_13 (by decide) (fun h => absurd h (by decide)) (fun _ => ?_)
  refine lv_bipush (v := (-10)) hx hb dX12_leaves_16 (by decide) ?_
  refine lv_iload_n hx hb dX12_leaves_18 rfl (lv_at hl 0 rfl) ?_
  refine kv_isub (v := (-11)) hx hb (by decide) dX12_leaves_19 ?_
  exact r_i X hr hlk hw [] (fun _ => 0) rfl rfl rfl (by decide) (by decide) dX12_leaves_20
set_option maxHeartbeats 4000000 in
set_option maxRecDepth 100000 in
theorem c91_X0_spoil (l : Launch) (D : va_G) (ct : Nat → ClassId) (a0 : Nat) (p0 : Int32) (a1 : Nat) (a2 : Nat) (a3 : Nat) (a4 : Nat) (a5 : Nat) (a6 : Nat) (a7 : Nat) (a8 : Nat) (a9 : Nat) : CI l yX0_spoil cX0_spoil 2 (some .int) { frames := 0, cells := 0, slots := 0, locals := 0 } D ct [.ref a0, .int p0] [(a1, .inr (2, [.int 0, .int 0, .int 0, .ref a2, .ref a3, .ref a4, .int 0, .int 0, .int 0, .int 0, .int 0, .ref a5, .int 0])), (a0, .inr (0, [.int 0, .int 0, .int (-1), .ref a1, .ref a6, .ref a7, .ref a8, .ref a9, .int 0]))] (fun r => r = 1) (fun u => [(a1, .inr (2, [.int 0, .int 0, .int 0, .ref a2, .ref a3, .ref a4, .int 0, .int 0, .int 0, .int 0, .int 0, .ref a5, .int 0])), (a0, .inr (0, [.int 0, .int 0, .int (-1), .ref a1, .ref a6, .ref a7, .ref a8, .ref a9, .int 0]))]) := by
  refine CI.of (by decide +kernel) (Nat.le_of_ble_eq_true rfl) ?_
  intro p e s m below meth c A ls hE
  obtain ⟨X, hr, hlk, hnm, hw, hl⟩ := hE
  have X : CX p m c cX0_spoil 2 s [.ref a0, .int p0].toArray RX0 D ct := X
  have hl : lv_has ls 2 [(0, .ref a0), (1, .int p0)] := hl
  obtain ⟨⟨hx, hb, hml, hown, hts⟩, hK⟩ := id X
  refine lv_iload_n hx hb dX0_spoil_0 rfl (lv_at hl 1 rfl) ?_
  refine lv_if_lt (tgt := 15) hx hb dX0_spoil_1 (by decide) (fun h1 => ?_) (fun h1 => ?_)
  · have h1 : p0.toInt < 0 := by have q := ci_lt (a := p0.toInt) (b := 0) rfl (by decide) h1; omega
    refine lv_iconst (v := 1) hx hb dX0_spoil_15 (by decide) ?_
    exact r_i X hr hlk hw [0, 1] (fun _ => 0) rfl rfl rfl (by decide) (by decide) dX0_spoil_16
  · have h1 : p0.toInt ≥ 0 := by have q := ci_nlt (a := p0.toInt) (b := 0) rfl (by decide) h1; omega
    refine lv_iload_n hx hb dX0_spoil_4 rfl (lv_at hl 1 rfl) ?_
    refine lv_aload_n hx hb dX0_spoil_5 rfl (lv_at hl 0 rfl) ?_
    refine fg_495 X hw 1 rfl rfl dX0_spoil_6 ?_
    refine fg_213 X hw 0 rfl rfl dX0_spoil_9 ?_
    refine lv_icmp_lt (tgt := 17) hx hb dX0_spoil_12 (by decide) (fun h2 => absurd (ci_lt (a := p0.toInt) (b := 0) rfl (by decide) h2) (by omega)) (fun h2 => ?_)
    refine lv_iconst (v := 1) hx hb dX0_spoil_15 (by decide) ?_
    exact r_i X hr hlk hw [0, 1] (fun _ => 0) rfl rfl rfl (by decide) (by decide) dX0_spoil_16
set_option maxHeartbeats 4000000 in
set_option maxRecDepth 100000 in
theorem c92_X11_spoils (l : Launch) (D : va_G) (ct : Nat → ClassId) (a0 : Nat) (p0 : Int32) (a1 : Nat) (a2 : Nat) (a3 : Nat) (a4 : Nat) (a5 : Nat) (a6 : Nat) (a7 : Nat) (a8 : Nat) (a9 : Nat) (a10 : Nat) (a11 : Nat) (a12 : Nat) (a13 : Nat) (a14 : Nat) (a15 : Nat) (a16 : Nat) (a17 : Nat) (a18 : Nat) (a19 : Nat) (a20 : Nat) (a21 : Nat) (a22 : Nat) (f0 : Nat → Int32) (f1 : Nat → Int32) (a23 : Nat) (a24 : Nat) (a25 : Nat) (a26 : Nat) : CI l yX11_spoils cX11_spoils 3 (some .int) { frames := 2, cells := 0, slots := 0, locals := 81 } D ct [.ref a0, .int p0] [(a0, .inr (11, [.ref a1, .int 0, .ref a2, .ref a3, .ref a4, .ref a5, .ref a6, .ref a7, .ref a8, .ref a9, .ref a10, .ref a11, .ref a12, .ref a13, .ref a14, .ref a15, .int (-1), .int (-1)])), (a2, .inr (2, [.int 0, .int 0, .int 0, .ref a16, .ref a17, .ref a18, .int 0, .int 0, .int 0, .int 0, .int 0, .ref a19, .int 0])), (a19, .inr (4, [.ref a20, .ref a21, .ref a22, .int 0])), (a21, .inl (ct 0, 56, .inl f0)), (a22, .inl (ct 0, 8, .inl f0)), (a20, .inl (ct 0, 7, .inl f1)), (a9, .inr (0, [.int 0, .int 0, .int (-1), .ref a2, .ref a4, .ref a5, .ref a6, .ref a23, .int 0])), (a11, .inr (4, [.ref a24, .ref a25, .ref a26, .int 0])), (a25, .inl (ct 0, 56, .inl f0)), (a26, .inl (ct 0, 8, .inl f0)), (a24, .inl (ct 0, 7, .inl f1))] (fun r => r = (-11)) (fun u => []) := by
  refine CI.of (by decide +kernel) (Nat.le_of_ble_eq_true rfl) ?_
  intro p e s m below meth c A ls hE
  obtain ⟨X, hr, hlk, hnm, hw, hl⟩ := hE
  have X : CX p m c cX11_spoils 3 s [.ref a0, .int p0].toArray RX11 D ct := X
  have hl : lv_has ls 3 [(0, .ref a0), (1, .int p0)] := hl
  obtain ⟨⟨hx, hb, hml, hown, hts⟩, hK⟩ := id X
  refine lv_aload_n hx hb dX11_spoils_0 rfl (lv_at hl 0 rfl) ?_
  refine fg_576 X hw 0 rfl rfl dX11_spoils_1 ?_
  refine lv_aload_n hx hb dX11_spoils_4 rfl (lv_at hl 0 rfl) ?_
  refine fg_567 X hw 0 rfl rfl dX11_spoils_5 ?_
  refine fg_253 X hw 1 rfl rfl dX11_spoils_8 ?_
  refine m_Vv (As := [.ref a19]) (rest := []) (c59_X4_copyFrom l D ct a11 a19 a20 a21 a22 f0 f1 a24 a25 a26) X hl.1 kw_949 kd_yX4_copyFrom hw [2, 3, 4, 5, 7, 8, 9, 10] [0, 1, 6] rfl rfl rfl rfl (by decide) 4 rfl rfl ⟨by decide, by decide⟩ rfl rfl (Nat.le_of_ble_eq_true rfl) dX11_spoils_11 ⟨by decide, by decide⟩ (fun u2 H locs hr3 hw => ?_)
  replace hw : WD D A s.heap _ _ [(a0, .inr (11, [.ref a1, .int 0, .ref a2, .ref a3, .ref a4, .ref a5, .ref a6, .ref a7, .ref a8, .ref a9, .ref a10, .ref a11, .ref a12, .ref a13, .ref a14, .ref a15, .int (-1), .int (-1)])), (a2, .inr (2, [.int 0, .int 0, .int 0, .ref a16, .ref a17, .ref a18, .int 0, .int 0, .int 0, .int 0, .int 0, .ref a19, .int 0])), (a9, .inr (0, [.int 0, .int 0, .int (-1), .ref a2, .ref a4, .ref a5, .ref a6, .ref a23, .int 0])), (a19, .inr (4, [.ref a20, .ref a21, .ref a22, .int 0])), (a21, .inl (ct 0, 56, .inl f0)), (a22, .inl (ct 0, 8, .inl f0)), (a20, .inl (ct 0, 7, .inl f1)), (a11, .inr (4, [.ref a24, .ref a25, .ref a26, .int 0])), (a25, .inl (ct 0, 56, .inl (va_cpy f0 f0 0 0 56))), (a26, .inl (ct 0, 8, .inl (va_cpy f0 f0 0 0 8))), (a24, .inl (ct 0, 7, .inl (va_cpy f1 f1 0 0 7)))] := hw
  refine lv_aload_n hx hb dX11_spoils_14 rfl (lv_at hl 0 rfl) ?_
  refine fg_574 X hw 0 rfl rfl dX11_spoils_15 ?_
  refine lv_iload_n hx hb dX11_spoils_18 rfl (lv_at hl 1 rfl) ?_
  refine m_Vi (As := [.int p0]) (rest := []) (c91_X0_spoil l D ct a9 p0 a2 a16 a17 a18 a19 a4 a5 a6 a23) X hl.1 kw_1038 kd_yX0_spoil hw [1, 2] [0, 3, 4, 5, 6, 7, 8, 9, 10] rfl rfl rfl rfl (by decide) 1 rfl rfl ⟨by decide, by decide⟩ rfl rfl (Nat.le_of_ble_eq_true rfl) dX11_spoils_19 ⟨by decide, by decide⟩ (fun r4 u5 H locs hr6 hw => ?_)
  replace hw : WD D A s.heap _ _ [(a0, .inr (11, [.ref a1, .int 0, .ref a2, .ref a3, .ref a4, .ref a5, .ref a6, .ref a7, .ref a8, .ref a9, .ref a10, .ref a11, .ref a12, .ref a13, .ref a14, .ref a15, .int (-1), .int (-1)])), (a19, .inr (4, [.ref a20, .ref a21, .ref a22, .int 0])), (a21, .inl (ct 0, 56, .inl f0)), (a22, .inl (ct 0, 8, .inl f0)), (a20, .inl (ct 0, 7, .inl f1)), (a11, .inr (4, [.ref a24, .ref a25, .ref a26, .int 0])), (a25, .inl (ct 0, 56, .inl (va_cpy f0 f0 0 0 56))), (a26, .inl (ct 0, 8, .inl (va_cpy f0 f0 0 0 8))), (a24, .inl (ct 0, 7, .inl (va_cpy f1 f1 0 0 7))), (a2, .inr (2, [.int 0, .int 0, .int 0, .ref a16, .ref a17, .ref a18, .int 0, .int 0, .int 0, .int 0, .int 0, .ref a19, .int 0])), (a9, .inr (0, [.int 0, .int 0, .int (-1), .ref a2, .ref a4, .ref a5, .ref a6, .ref a23, .int 0]))] := hw
  subst hr6
  refine lv_istore_n (lv' := [(2, .int 1), (0, .ref a0), (1, .int p0)]) hx hb dX11_spoils_22 rfl hl (by decide) rfl (fun ls hl => ?_)
  refine lv_iload_n hx hb dX11_spoils_23 rfl (lv_at hl 0 rfl) ?_
  refine lv_if_eq (tgt := 32) hx hb dX11_spoils_24 (by decide) (fun h => absurd h (by decide)) (fun _ => ?_)
  refine lv_bipush (v := (-10)) hx hb dX11_spoils_27 (by decide) ?_
  refine lv_iload_n hx hb dX11_spoils_29 rfl (lv_at hl 0 rfl) ?_
  refine kv_isub (v := (-11)) hx hb (by decide) dX11_spoils_30 ?_
  exact r_i X hr hlk hw [] (fun _ => 0) rfl rfl rfl (by decide) (by decide) dX11_spoils_31
set_option maxHeartbeats 4000000 in
set_option maxRecDepth 100000 in
theorem c93_X12_whyFault (l : Launch) (D : va_G) (ct : Nat → ClassId) (a0 : Nat) (w0 : Int64) (a1 : Nat) (a2 : Nat) (a3 : Nat) (a4 : Nat) (a5 : Nat) (a6 : Nat) (a7 : Nat) (a8 : Nat) (a9 : Nat) (a10 : Nat) (a11 : Nat) (a12 : Nat) (a13 : Nat) (a14 : Nat) (a15 : Nat) (a16 : Nat) : CI l yX12_whyFault cX12_whyFault 4 (some .int) { frames := 2, cells := 0, slots := 0, locals := 47 } D ct [.ref a0, .long w0, .int 9] [(a0, .inr (12, [.int 0, .ref a1, .ref a2, .ref a3, .ref a4, .int 0, .int 0, .int 0, .int 0, .int 0, .int 0, .int 0, .int 0, .int 0, .int (-1), .ref a5, .ref a6, .ref a7, .ref a8, .int 0, .ref a9, .ref a10, .int 0, .int 0, .int 0, .ref a11, .ref a12, .ref a13, .ref a14, .ref a15, .ref a16])), (a1, .inl (ct 0, 5310, .inl fx0))] (fun r => r = 1) (fun u => [(a0, .inr (12, [.int 0, .ref a1, .ref a2, .ref a3, .ref a4, .int 0, .int 0, .int 0, .int 0, .int 0, .int 0, .int 0, .int 0, .int 0, .int (-1), .ref a5, .ref a6, .ref a7, .ref a8, .int 0, .ref a9, .ref a10, .int 0, .int 0, .int 0, .ref a11, .ref a12, .ref a13, .ref a14, .ref a15, .ref a16])), (a1, .inl (ct 0, 5310, .inl fx0))]) := by
  refine CI.of (by decide +kernel) (Nat.le_of_ble_eq_true rfl) ?_
  intro p e s m below meth c A ls hE
  obtain ⟨X, hr, hlk, hnm, hw, hl⟩ := hE
  have X : CX p m c cX12_whyFault 4 s [.ref a0, .long w0, .int 9].toArray RX12 D ct := X
  have hl : lv_has ls 4 [(0, .ref a0), (1, .long w0), (3, .int 9)] := hl
  obtain ⟨⟨hx, hb, hml, hown, hts⟩, hK⟩ := id X
  refine lv_aload_n hx hb dX12_whyFault_0 rfl (lv_at hl 0 rfl) ?_
  refine lv_lload_n hx hb dX12_whyFault_1 rfl (lv_at hl 1 rfl) ?_
  refine m_Vi (As := [.long w0]) (rest := []) (c45_X12_isFlat l D ct a0 w0 a1 a2 a3 a4 a5 a6 a7 a8 a9 a10 a11 a12 a13 a14 a15 a16) X hl.1 kw_1654 kd_yX12_isFlat hw [0, 1] [] rfl rfl rfl rfl (by decide) 0 rfl rfl ⟨by decide, by decide⟩ rfl rfl (Nat.le_of_ble_eq_true rfl) dX12_whyFault_2 ⟨by decide, by decide⟩ (fun r1 u2 H locs hr3 hw => ?_)
  replace hw : WD D A s.heap _ _ [(a0, .inr (12, [.int 0, .ref a1, .ref a2, .ref a3, .ref a4, .int 0, .int 0, .int 0, .int 0, .int 0, .int 0, .int 0, .int 0, .int 0, .int (-1), .ref a5, .ref a6, .ref a7, .ref a8, .int 0, .ref a9, .ref a10, .int 0, .int 0, .int 0, .ref a11, .ref a12, .ref a13, .ref a14, .ref a15, .ref a16])), (a1, .inl (ct 0, 5310, .inl fx0))] := hw
  subst hr3
  refine lv_if_ne (tgt := 12) hx hb dX12_whyFault_5 (by decide) (fun h => absurd rfl h) (fun _ => ?_)
  refine lv_iconst (v := 1) hx hb dX12_whyFault_8 (by decide) ?_
  refine lv_goto (tgt := 32) hx hb dX12_whyFault_9 (by decide) ?_
  exact r_i X hr hlk hw [0, 1] (fun _ => 0) rfl rfl rfl (by decide) (by decide) dX12_whyFault_32
set_option maxHeartbeats 4000000 in
set_option maxRecDepth 100000 in
theorem c94_X12_spoils (l : Launch) (D : va_G) (ct : Nat → ClassId) (a0 : Nat) (p0 : Int32) (a1 : Nat) (a2 : Nat) (a3 : Nat) (a4 : Nat) (a5 : Nat) (a6 : Nat) (a7 : Nat) (a8 : Nat) (a9 : Nat) (a10 : Nat) (a11 : Nat) (a12 : Nat) (a13 : Nat) (a14 : Nat) (a15 : Nat) (a16 : Nat) : CI l yX12_spoils cX12_spoils 3 (some .int) { frames := 3, cells := 0, slots := 0, locals := 70 } D ct [.ref a0, .int p0] [(a0, .inr (12, [.int 0, .ref a1, .ref a2, .ref a3, .ref a4, .int 0, .int 0, .int 0, .int 0, .int 0, .int 0, .int 0, .int 0, .int 0, .int (-1), .ref a5, .ref a6, .ref a7, .ref a8, .int 0, .ref a9, .ref a10, .int 0, .int 0, .int 0, .ref a11, .ref a12, .ref a13, .ref a14, .ref a15, .ref a16])), (a1, .inl (ct 0, 5310, .inl fx0))] (fun r => r = (-11)) (fun u => []) := by
  refine CI.of (by decide +kernel) (Nat.le_of_ble_eq_true rfl) ?_
  intro p e s m below meth c A ls hE
  obtain ⟨X, hr, hlk, hnm, hw, hl⟩ := hE
  have X : CX p m c cX12_spoils 3 s [.ref a0, .int p0].toArray RX12 D ct := X
  have hl : lv_has ls 3 [(0, .ref a0), (1, .int p0)] := hl
  obtain ⟨⟨hx, hb, hml, hown, hts⟩, hK⟩ := id X
  refine lv_aload_n hx hb dX12_spoils_0 rfl (lv_at hl 0 rfl) ?_
  refine lv_iconst (v := 0) hx hb dX12_spoils_1 (by decide) ?_
  refine fp_1442 X hw 0 rfl rfl rfl (Nat.le_of_ble_eq_true rfl) dX12_spoils_2 [(a0, .inr (12, [.int 0, .ref a1, .ref a2, .ref a3, .ref a4, .int 0, .int 0, .int 0, .int 0, .int 0, .int 0, .int 0, .int 0, .int 0, .int (-1), .ref a5, .ref a6, .ref a7, .ref a8, .int 0, .ref a9, .ref a10, .int 0, .int 0, .int 0, .ref a11, .ref a12, .ref a13, .ref a14, .ref a15, .ref a16])), (a1, .inl (ct 0, 5310, .inl fx0))] rfl (fun H locs hw => ?_)
  refine lv_aload_n hx hb dX12_spoils_5 rfl (lv_at hl 0 rfl) ?_
  refine lv_iload_n hx hb dX12_spoils_6 rfl (lv_at hl 1 rfl) ?_
  refine lv_i2l (v := p0.toInt64) hx hb dX12_spoils_7 rfl ?_
  refine lv_bipush (v := 9) hx hb dX12_spoils_8 (by decide) ?_
  refine m_Vi (As := [.long p0.toInt64, .int 9]) (rest := []) (c93_X12_whyFault l D ct a0 (p0.toInt64) a1 a2 a3 a4 a5 a6 a7 a8 a9 a10 a11 a12 a13 a14 a15 a16) X hl.1 kw_1789 kd_yX12_whyFault hw [0, 1] [] rfl rfl rfl rfl (by decide) 0 rfl rfl ⟨by decide, by decide⟩ rfl rfl (Nat.le_of_ble_eq_true rfl) dX12_spoils_10 ⟨by decide, by decide⟩ (fun r1 u2 H locs hr3 hw => ?_)
  replace hw : WD D A s.heap _ _ [(a0, .inr (12, [.int 0, .ref a1, .ref a2, .ref a3, .ref a4, .int 0, .int 0, .int 0, .int 0, .int 0, .int 0, .int 0, .int 0, .int 0, .int (-1), .ref a5, .ref a6, .ref a7, .ref a8, .int 0, .ref a9, .ref a10, .int 0, .int 0, .int 0, .ref a11, .ref a12, .ref a13, .ref a14, .ref a15, .ref a16])), (a1, .inl (ct 0, 5310, .inl fx0))] := hw
  subst hr3
  refine lv_istore_n (lv' := [(2, .int 1), (0, .ref a0), (1, .int p0)]) hx hb dX12_spoils_13 rfl hl (by decide) rfl (fun ls hl => ?_)
  refine lv_iload_n hx hb dX12_spoils_14 rfl (lv_at hl 0 rfl) ?_
  refine lv_if_eq (tgt := 23) hx hb dX12_spoils_15 (by decide) (fun h => absurd h (by decide)) (fun _ => ?_)
  refine lv_bipush (v := (-10)) hx hb dX12_spoils_18 (by decide) ?_
  refine lv_iload_n hx hb dX12_spoils_20 rfl (lv_at hl 0 rfl) ?_
  refine kv_isub (v := (-11)) hx hb (by decide) dX12_spoils_21 ?_
  exact r_i X hr hlk hw [] (fun _ => 0) rfl rfl rfl (by decide) (by decide) dX12_spoils_22
set_option maxHeartbeats 4000000 in
set_option maxRecDepth 100000 in
theorem c95_X0_mend (l : Launch) (D : va_G) (ct : Nat → ClassId) (a0 : Nat) (p0 : Int32) (a1 : Nat) (a2 : Nat) (a3 : Nat) (a4 : Nat) (a5 : Nat) (a6 : Nat) (a7 : Nat) (a8 : Nat) (a9 : Nat) : CI l yX0_mend cX0_mend 2 (some .int) { frames := 0, cells := 0, slots := 0, locals := 0 } D ct [.ref a0, .int p0] [(a1, .inr (2, [.int 0, .int 0, .int 0, .ref a2, .ref a3, .ref a4, .int 0, .int 0, .int 0, .int 0, .int 0, .ref a5, .int 0])), (a0, .inr (0, [.int 0, .int 0, .int (-1), .ref a1, .ref a6, .ref a7, .ref a8, .ref a9, .int 0]))] (fun r => r = 1) (fun u => [(a1, .inr (2, [.int 0, .int 0, .int 0, .ref a2, .ref a3, .ref a4, .int 0, .int 0, .int 0, .int 0, .int 0, .ref a5, .int 0])), (a0, .inr (0, [.int 0, .int 0, .int (-1), .ref a1, .ref a6, .ref a7, .ref a8, .ref a9, .int 0]))]) := by
  refine CI.of (by decide +kernel) (Nat.le_of_ble_eq_true rfl) ?_
  intro p e s m below meth c A ls hE
  obtain ⟨X, hr, hlk, hnm, hw, hl⟩ := hE
  have X : CX p m c cX0_mend 2 s [.ref a0, .int p0].toArray RX0 D ct := X
  have hl : lv_has ls 2 [(0, .ref a0), (1, .int p0)] := hl
  obtain ⟨⟨hx, hb, hml, hown, hts⟩, hK⟩ := id X
  refine lv_iload_n hx hb dX0_mend_0 rfl (lv_at hl 1 rfl) ?_
  refine lv_if_lt (tgt := 15) hx hb dX0_mend_1 (by decide) (fun h1 => ?_) (fun h1 => ?_)
  · have h1 : p0.toInt < 0 := by have q := ci_lt (a := p0.toInt) (b := 0) rfl (by decide) h1; omega
    refine lv_iconst (v := 1) hx hb dX0_mend_15 (by decide) ?_
    exact r_i X hr hlk hw [0, 1] (fun _ => 0) rfl rfl rfl (by decide) (by decide) dX0_mend_16
  · have h1 : p0.toInt ≥ 0 := by have q := ci_nlt (a := p0.toInt) (b := 0) rfl (by decide) h1; omega
    refine lv_iload_n hx hb dX0_mend_4 rfl (lv_at hl 1 rfl) ?_
    refine lv_aload_n hx hb dX0_mend_5 rfl (lv_at hl 0 rfl) ?_
    refine fg_495 X hw 1 rfl rfl dX0_mend_6 ?_
    refine fg_213 X hw 0 rfl rfl dX0_mend_9 ?_
    refine lv_icmp_lt (tgt := 17) hx hb dX0_mend_12 (by decide) (fun h2 => absurd (ci_lt (a := p0.toInt) (b := 0) rfl (by decide) h2) (by omega)) (fun h2 => ?_)
    refine lv_iconst (v := 1) hx hb dX0_mend_15 (by decide) ?_
    exact r_i X hr hlk hw [0, 1] (fun _ => 0) rfl rfl rfl (by decide) (by decide) dX0_mend_16
set_option maxHeartbeats 4000000 in
set_option maxRecDepth 100000 in
theorem c96_X11_mends (l : Launch) (D : va_G) (ct : Nat → ClassId) (a0 : Nat) (p0 : Int32) (a1 : Nat) (a2 : Nat) (a3 : Nat) (a4 : Nat) (a5 : Nat) (a6 : Nat) (a7 : Nat) (a8 : Nat) (a9 : Nat) (a10 : Nat) (a11 : Nat) (a12 : Nat) (a13 : Nat) (a14 : Nat) (a15 : Nat) (a16 : Nat) (a17 : Nat) (a18 : Nat) (a19 : Nat) (a20 : Nat) (a21 : Nat) (a22 : Nat) (f0 : Nat → Int32) (f1 : Nat → Int32) (a23 : Nat) (a24 : Nat) (a25 : Nat) (a26 : Nat) : CI l yX11_mends cX11_mends 3 (some .int) { frames := 2, cells := 0, slots := 0, locals := 81 } D ct [.ref a0, .int p0] [(a0, .inr (11, [.ref a1, .int 0, .ref a2, .ref a3, .ref a4, .ref a5, .ref a6, .ref a7, .ref a8, .ref a9, .ref a10, .ref a11, .ref a12, .ref a13, .ref a14, .ref a15, .int (-1), .int (-1)])), (a2, .inr (2, [.int 0, .int 0, .int 0, .ref a16, .ref a17, .ref a18, .int 0, .int 0, .int 0, .int 0, .int 0, .ref a19, .int 0])), (a19, .inr (4, [.ref a20, .ref a21, .ref a22, .int 0])), (a21, .inl (ct 0, 56, .inl f0)), (a22, .inl (ct 0, 8, .inl f0)), (a20, .inl (ct 0, 7, .inl f1)), (a9, .inr (0, [.int 0, .int 0, .int (-1), .ref a2, .ref a4, .ref a5, .ref a6, .ref a23, .int 0])), (a11, .inr (4, [.ref a24, .ref a25, .ref a26, .int 0])), (a25, .inl (ct 0, 56, .inl f0)), (a26, .inl (ct 0, 8, .inl f0)), (a24, .inl (ct 0, 7, .inl f1))] (fun r => r = (-11)) (fun u => []) := by
  refine CI.of (by decide +kernel) (Nat.le_of_ble_eq_true rfl) ?_
  intro p e s m below meth c A ls hE
  obtain ⟨X, hr, hlk, hnm, hw, hl⟩ := hE
  have X : CX p m c cX11_mends 3 s [.ref a0, .int p0].toArray RX11 D ct := X
  have hl : lv_has ls 3 [(0, .ref a0), (1, .int p0)] := hl
  obtain ⟨⟨hx, hb, hml, hown, hts⟩, hK⟩ := id X
  refine lv_aload_n hx hb dX11_mends_0 rfl (lv_at hl 0 rfl) ?_
  refine fg_576 X hw 0 rfl rfl dX11_mends_1 ?_
  refine lv_aload_n hx hb dX11_mends_4 rfl (lv_at hl 0 rfl) ?_
  refine fg_567 X hw 0 rfl rfl dX11_mends_5 ?_
  refine fg_253 X hw 1 rfl rfl dX11_mends_8 ?_
  refine m_Vv (As := [.ref a19]) (rest := []) (c59_X4_copyFrom l D ct a11 a19 a20 a21 a22 f0 f1 a24 a25 a26) X hl.1 kw_949 kd_yX4_copyFrom hw [2, 3, 4, 5, 7, 8, 9, 10] [0, 1, 6] rfl rfl rfl rfl (by decide) 4 rfl rfl ⟨by decide, by decide⟩ rfl rfl (Nat.le_of_ble_eq_true rfl) dX11_mends_11 ⟨by decide, by decide⟩ (fun u2 H locs hr3 hw => ?_)
  replace hw : WD D A s.heap _ _ [(a0, .inr (11, [.ref a1, .int 0, .ref a2, .ref a3, .ref a4, .ref a5, .ref a6, .ref a7, .ref a8, .ref a9, .ref a10, .ref a11, .ref a12, .ref a13, .ref a14, .ref a15, .int (-1), .int (-1)])), (a2, .inr (2, [.int 0, .int 0, .int 0, .ref a16, .ref a17, .ref a18, .int 0, .int 0, .int 0, .int 0, .int 0, .ref a19, .int 0])), (a9, .inr (0, [.int 0, .int 0, .int (-1), .ref a2, .ref a4, .ref a5, .ref a6, .ref a23, .int 0])), (a19, .inr (4, [.ref a20, .ref a21, .ref a22, .int 0])), (a21, .inl (ct 0, 56, .inl f0)), (a22, .inl (ct 0, 8, .inl f0)), (a20, .inl (ct 0, 7, .inl f1)), (a11, .inr (4, [.ref a24, .ref a25, .ref a26, .int 0])), (a25, .inl (ct 0, 56, .inl (va_cpy f0 f0 0 0 56))), (a26, .inl (ct 0, 8, .inl (va_cpy f0 f0 0 0 8))), (a24, .inl (ct 0, 7, .inl (va_cpy f1 f1 0 0 7)))] := hw
  refine lv_aload_n hx hb dX11_mends_14 rfl (lv_at hl 0 rfl) ?_
  refine fg_574 X hw 0 rfl rfl dX11_mends_15 ?_
  refine lv_iload_n hx hb dX11_mends_18 rfl (lv_at hl 1 rfl) ?_
  refine m_Vi (As := [.int p0]) (rest := []) (c95_X0_mend l D ct a9 p0 a2 a16 a17 a18 a19 a4 a5 a6 a23) X hl.1 kw_1050 kd_yX0_mend hw [1, 2] [0, 3, 4, 5, 6, 7, 8, 9, 10] rfl rfl rfl rfl (by decide) 1 rfl rfl ⟨by decide, by decide⟩ rfl rfl (Nat.le_of_ble_eq_true rfl) dX11_mends_19 ⟨by decide, by decide⟩ (fun r4 u5 H locs hr6 hw => ?_)
  replace hw : WD D A s.heap _ _ [(a0, .inr (11, [.ref a1, .int 0, .ref a2, .ref a3, .ref a4, .ref a5, .ref a6, .ref a7, .ref a8, .ref a9, .ref a10, .ref a11, .ref a12, .ref a13, .ref a14, .ref a15, .int (-1), .int (-1)])), (a19, .inr (4, [.ref a20, .ref a21, .ref a22, .int 0])), (a21, .inl (ct 0, 56, .inl f0)), (a22, .inl (ct 0, 8, .inl f0)), (a20, .inl (ct 0, 7, .inl f1)), (a11, .inr (4, [.ref a24, .ref a25, .ref a26, .int 0])), (a25, .inl (ct 0, 56, .inl (va_cpy f0 f0 0 0 56))), (a26, .inl (ct 0, 8, .inl (va_cpy f0 f0 0 0 8))), (a24, .inl (ct 0, 7, .inl (va_cpy f1 f1 0 0 7))), (a2, .inr (2, [.int 0, .int 0, .int 0, .ref a16, .ref a17, .ref a18, .int 0, .int 0, .int 0, .int 0, .int 0, .ref a19, .int 0])), (a9, .inr (0, [.int 0, .int 0, .int (-1), .ref a2, .ref a4, .ref a5, .ref a6, .ref a23, .int 0]))] := hw
  subst hr6
  refine lv_istore_n (lv' := [(2, .int 1), (0, .ref a0), (1, .int p0)]) hx hb dX11_mends_22 rfl hl (by decide) rfl (fun ls hl => ?_)
  refine lv_iload_n hx hb dX11_mends_23 rfl (lv_at hl 0 rfl) ?_
  refine lv_if_eq (tgt := 32) hx hb dX11_mends_24 (by decide) (fun h => absurd h (by decide)) (fun _ => ?_)
  refine lv_bipush (v := (-10)) hx hb dX11_mends_27 (by decide) ?_
  refine lv_iload_n hx hb dX11_mends_29 rfl (lv_at hl 0 rfl) ?_
  refine kv_isub (v := (-11)) hx hb (by decide) dX11_mends_30 ?_
  exact r_i X hr hlk hw [] (fun _ => 0) rfl rfl rfl (by decide) (by decide) dX11_mends_31
set_option maxHeartbeats 4000000 in
set_option maxRecDepth 100000 in
theorem c97_X12_whyFault (l : Launch) (D : va_G) (ct : Nat → ClassId) (a0 : Nat) (w0 : Int64) (a1 : Nat) (a2 : Nat) (a3 : Nat) (a4 : Nat) (a5 : Nat) (a6 : Nat) (a7 : Nat) (a8 : Nat) (a9 : Nat) (a10 : Nat) (a11 : Nat) (a12 : Nat) (a13 : Nat) (a14 : Nat) (a15 : Nat) (a16 : Nat) : CI l yX12_whyFault cX12_whyFault 4 (some .int) { frames := 2, cells := 0, slots := 0, locals := 47 } D ct [.ref a0, .long w0, .int 0] [(a0, .inr (12, [.int 0, .ref a1, .ref a2, .ref a3, .ref a4, .int 0, .int 0, .int 0, .int 0, .int 0, .int 0, .int 0, .int 0, .int 0, .int (-1), .ref a5, .ref a6, .ref a7, .ref a8, .int 0, .ref a9, .ref a10, .int 0, .int 0, .int 0, .ref a11, .ref a12, .ref a13, .ref a14, .ref a15, .ref a16])), (a1, .inl (ct 0, 5310, .inl fx0))] (fun r => r = 1) (fun u => [(a0, .inr (12, [.int 0, .ref a1, .ref a2, .ref a3, .ref a4, .int 0, .int 0, .int 0, .int 0, .int 0, .int 0, .int 0, .int 0, .int 0, .int (-1), .ref a5, .ref a6, .ref a7, .ref a8, .int 0, .ref a9, .ref a10, .int 0, .int 0, .int 0, .ref a11, .ref a12, .ref a13, .ref a14, .ref a15, .ref a16])), (a1, .inl (ct 0, 5310, .inl fx0))]) := by
  refine CI.of (by decide +kernel) (Nat.le_of_ble_eq_true rfl) ?_
  intro p e s m below meth c A ls hE
  obtain ⟨X, hr, hlk, hnm, hw, hl⟩ := hE
  have X : CX p m c cX12_whyFault 4 s [.ref a0, .long w0, .int 0].toArray RX12 D ct := X
  have hl : lv_has ls 4 [(0, .ref a0), (1, .long w0), (3, .int 0)] := hl
  obtain ⟨⟨hx, hb, hml, hown, hts⟩, hK⟩ := id X
  refine lv_aload_n hx hb dX12_whyFault_0 rfl (lv_at hl 0 rfl) ?_
  refine lv_lload_n hx hb dX12_whyFault_1 rfl (lv_at hl 1 rfl) ?_
  refine m_Vi (As := [.long w0]) (rest := []) (c45_X12_isFlat l D ct a0 w0 a1 a2 a3 a4 a5 a6 a7 a8 a9 a10 a11 a12 a13 a14 a15 a16) X hl.1 kw_1654 kd_yX12_isFlat hw [0, 1] [] rfl rfl rfl rfl (by decide) 0 rfl rfl ⟨by decide, by decide⟩ rfl rfl (Nat.le_of_ble_eq_true rfl) dX12_whyFault_2 ⟨by decide, by decide⟩ (fun r1 u2 H locs hr3 hw => ?_)
  replace hw : WD D A s.heap _ _ [(a0, .inr (12, [.int 0, .ref a1, .ref a2, .ref a3, .ref a4, .int 0, .int 0, .int 0, .int 0, .int 0, .int 0, .int 0, .int 0, .int 0, .int (-1), .ref a5, .ref a6, .ref a7, .ref a8, .int 0, .ref a9, .ref a10, .int 0, .int 0, .int 0, .ref a11, .ref a12, .ref a13, .ref a14, .ref a15, .ref a16])), (a1, .inl (ct 0, 5310, .inl fx0))] := hw
  subst hr3
  refine lv_if_ne (tgt := 12) hx hb dX12_whyFault_5 (by decide) (fun h => absurd rfl h) (fun _ => ?_)
  refine lv_iconst (v := 1) hx hb dX12_whyFault_8 (by decide) ?_
  refine lv_goto (tgt := 32) hx hb dX12_whyFault_9 (by decide) ?_
  exact r_i X hr hlk hw [0, 1] (fun _ => 0) rfl rfl rfl (by decide) (by decide) dX12_whyFault_32
set_option maxHeartbeats 4000000 in
set_option maxRecDepth 100000 in
theorem c98_X12_mends (l : Launch) (D : va_G) (ct : Nat → ClassId) (a0 : Nat) (p0 : Int32) (a1 : Nat) (a2 : Nat) (a3 : Nat) (a4 : Nat) (a5 : Nat) (a6 : Nat) (a7 : Nat) (a8 : Nat) (a9 : Nat) (a10 : Nat) (a11 : Nat) (a12 : Nat) (a13 : Nat) (a14 : Nat) (a15 : Nat) (a16 : Nat) : CI l yX12_mends cX12_mends 3 (some .int) { frames := 3, cells := 0, slots := 0, locals := 70 } D ct [.ref a0, .int p0] [(a0, .inr (12, [.int 0, .ref a1, .ref a2, .ref a3, .ref a4, .int 0, .int 0, .int 0, .int 0, .int 0, .int 0, .int 0, .int 0, .int 0, .int (-1), .ref a5, .ref a6, .ref a7, .ref a8, .int 0, .ref a9, .ref a10, .int 0, .int 0, .int 0, .ref a11, .ref a12, .ref a13, .ref a14, .ref a15, .ref a16])), (a1, .inl (ct 0, 5310, .inl fx0))] (fun r => r = (-11)) (fun u => []) := by
  refine CI.of (by decide +kernel) (Nat.le_of_ble_eq_true rfl) ?_
  intro p e s m below meth c A ls hE
  obtain ⟨X, hr, hlk, hnm, hw, hl⟩ := hE
  have X : CX p m c cX12_mends 3 s [.ref a0, .int p0].toArray RX12 D ct := X
  have hl : lv_has ls 3 [(0, .ref a0), (1, .int p0)] := hl
  obtain ⟨⟨hx, hb, hml, hown, hts⟩, hK⟩ := id X
  refine lv_aload_n hx hb dX12_mends_0 rfl (lv_at hl 0 rfl) ?_
  refine lv_iconst (v := 0) hx hb dX12_mends_1 (by decide) ?_
  refine fp_1442 X hw 0 rfl rfl rfl (Nat.le_of_ble_eq_true rfl) dX12_mends_2 [(a0, .inr (12, [.int 0, .ref a1, .ref a2, .ref a3, .ref a4, .int 0, .int 0, .int 0, .int 0, .int 0, .int 0, .int 0, .int 0, .int 0, .int (-1), .ref a5, .ref a6, .ref a7, .ref a8, .int 0, .ref a9, .ref a10, .int 0, .int 0, .int 0, .ref a11, .ref a12, .ref a13, .ref a14, .ref a15, .ref a16])), (a1, .inl (ct 0, 5310, .inl fx0))] rfl (fun H locs hw => ?_)
  refine lv_aload_n hx hb dX12_mends_5 rfl (lv_at hl 0 rfl) ?_
  refine lv_iload_n hx hb dX12_mends_6 rfl (lv_at hl 1 rfl) ?_
  refine lv_i2l (v := p0.toInt64) hx hb dX12_mends_7 rfl ?_
  refine lv_iconst (v := 0) hx hb dX12_mends_8 (by decide) ?_
  refine m_Vi (As := [.long p0.toInt64, .int 0]) (rest := []) (c97_X12_whyFault l D ct a0 (p0.toInt64) a1 a2 a3 a4 a5 a6 a7 a8 a9 a10 a11 a12 a13 a14 a15 a16) X hl.1 kw_1789 kd_yX12_whyFault hw [0, 1] [] rfl rfl rfl rfl (by decide) 0 rfl rfl ⟨by decide, by decide⟩ rfl rfl (Nat.le_of_ble_eq_true rfl) dX12_mends_9 ⟨by decide, by decide⟩ (fun r1 u2 H locs hr3 hw => ?_)
  replace hw : WD D A s.heap _ _ [(a0, .inr (12, [.int 0, .ref a1, .ref a2, .ref a3, .ref a4, .int 0, .int 0, .int 0, .int 0, .int 0, .int 0, .int 0, .int 0, .int 0, .int (-1), .ref a5, .ref a6, .ref a7, .ref a8, .int 0, .ref a9, .ref a10, .int 0, .int 0, .int 0, .ref a11, .ref a12, .ref a13, .ref a14, .ref a15, .ref a16])), (a1, .inl (ct 0, 5310, .inl fx0))] := hw
  subst hr3
  refine lv_istore_n (lv' := [(2, .int 1), (0, .ref a0), (1, .int p0)]) hx hb dX12_mends_12 rfl hl (by decide) rfl (fun ls hl => ?_)
  refine lv_iload_n hx hb dX12_mends_13 rfl (lv_at hl 0 rfl) ?_
  refine lv_if_eq (tgt := 22) hx hb dX12_mends_14 (by decide) (fun h => absurd h (by decide)) (fun _ => ?_)
  refine lv_bipush (v := (-10)) hx hb dX12_mends_17 (by decide) ?_
  refine lv_iload_n hx hb dX12_mends_19 rfl (lv_at hl 0 rfl) ?_
  refine kv_isub (v := (-11)) hx hb (by decide) dX12_mends_20 ?_
  exact r_i X hr hlk hw [] (fun _ => 0) rfl rfl rfl (by decide) (by decide) dX12_mends_21
set_option maxHeartbeats 4000000 in
set_option maxRecDepth 100000 in
theorem c99_X11_undo (l : Launch) (D : va_G) (ct : Nat → ClassId) (a0 : Nat) (p0 : Int32) (a1 : Nat) (a2 : Nat) (a3 : Nat) (a4 : Nat) (a5 : Nat) (a6 : Nat) (a7 : Nat) (a8 : Nat) (a9 : Nat) (a10 : Nat) (a11 : Nat) (a12 : Nat) (a13 : Nat) (a14 : Nat) (a15 : Nat) (a16 : Nat) : CI l yX11_undo cX11_undo 2 (some .int) { frames := 0, cells := 0, slots := 0, locals := 0 } D ct [.ref a0, .int p0] [(a0, .inr (11, [.ref a1, .int 0, .ref a2, .ref a3, .ref a4, .ref a5, .ref a6, .ref a7, .ref a8, .ref a9, .ref a10, .ref a11, .ref a12, .ref a13, .ref a14, .ref a15, .int (-1), .int (-1)])), (a10, .inr (1, [.int 0, .int 0, .ref a16]))] (fun r => r = (-3)) (fun u => []) := by
  refine CI.of (by decide +kernel) (Nat.le_of_ble_eq_true rfl) ?_
  intro p e s m below meth c A ls hE
  obtain ⟨X, hr, hlk, hnm, hw, hl⟩ := hE
  have X : CX p m c cX11_undo 2 s [.ref a0, .int p0].toArray RX11 D ct := X
  have hl : lv_has ls 2 [(0, .ref a0), (1, .int p0)] := hl
  obtain ⟨⟨hx, hb, hml, hown, hts⟩, hK⟩ := id X
  refine lv_iload_n hx hb dX11_undo_0 rfl (lv_at hl 1 rfl) ?_
  refine lv_iconst (v := 1) hx hb dX11_undo_1 (by decide) ?_
  refine lv_icmp_lt (tgt := 16) hx hb dX11_undo_2 (by decide) (fun h1 => ?_) (fun h1 => ?_)
  · have h1 : p0.toInt < 1 := by have q := ci_lt (a := p0.toInt) (b := 1) rfl (by decide) h1; omega
    refine lv_bipush (v := (-3)) hx hb dX11_undo_16 (by decide) ?_
    exact r_i X hr hlk hw [] (fun _ => 0) rfl rfl rfl (by decide) (by decide) dX11_undo_18
  · have h1 : p0.toInt ≥ 1 := by have q := ci_nlt (a := p0.toInt) (b := 1) rfl (by decide) h1; omega
    refine lv_iload_n hx hb dX11_undo_5 rfl (lv_at hl 1 rfl) ?_
    refine lv_aload_n hx hb dX11_undo_6 rfl (lv_at hl 0 rfl) ?_
    refine fg_575 X hw 0 rfl rfl dX11_undo_7 ?_
    refine fg_530 X hw 1 rfl rfl dX11_undo_10 ?_
    refine lv_icmp_le (tgt := 19) hx hb dX11_undo_13 (by decide) (fun h2 => absurd (ci_le (a := p0.toInt) (b := 0) rfl (by decide) h2) (by omega)) (fun h2 => ?_)
    refine lv_bipush (v := (-3)) hx hb dX11_undo_16 (by decide) ?_
    exact r_i X hr hlk hw [] (fun _ => 0) rfl rfl rfl (by decide) (by decide) dX11_undo_18
set_option maxHeartbeats 4000000 in
set_option maxRecDepth 100000 in
theorem c100_X12_within (l : Launch) (D : va_G) (ct : Nat → ClassId) (w0 : Int64) : CI l yX12_within cX12_within 6 (some .boolean) { frames := 0, cells := 0, slots := 0, locals := 0 } D ct [.long w0, .long 1, .long 10] [] (fun r => ((w0.toInt < 1) ∨ (w0.toInt ≥ 1 ∧ w0.toInt > 10)) ∧ r = 0 ∨ (w0.toInt ≥ 1 ∧ w0.toInt ≤ 10) ∧ r = 1) (fun u => []) := by
  refine CI.of (by decide +kernel) (Nat.le_of_ble_eq_true rfl) ?_
  intro p e s m below meth c A ls hE
  obtain ⟨X, hr, hlk, hnm, hw, hl⟩ := hE
  have X : CX p m c cX12_within 6 s [.long w0, .long 1, .long 10].toArray RX12 D ct := X
  have hl : lv_has ls 6 [(0, .long w0), (2, .long 1), (4, .long 10)] := hl
  obtain ⟨⟨hx, hb, hml, hown, hts⟩, hK⟩ := id X
  refine lv_lload_n hx hb dX12_within_0 rfl (lv_at hl 0 rfl) ?_
  refine lv_lload_n hx hb dX12_within_1 rfl (lv_at hl 1 rfl) ?_
  refine W.lcmp hx hb dX12_within_2 ?_
  refine lv_if_lt (tgt := 17) hx hb dX12_within_3 (by decide) (fun h1 => ?_) (fun h1 => ?_)
  · have h1 : w0.toInt < 1 := by have q := cl_lt (a := w0.toInt) (b := 1) rfl (by decide) h1; omega
    refine lv_iconst (v := 0) hx hb dX12_within_17 (by decide) ?_
    exact r_z X hr hlk hw [] (fun _ => 0) rfl rfl (Or.inl (⟨Or.inl (h1), rfl⟩)) (by decide) (by decide) (by decide) dX12_within_18
  · have h1 : w0.toInt ≥ 1 := by have q := cl_nlt (a := w0.toInt) (b := 1) rfl (by decide) h1; omega
    refine lv_lload_n hx hb dX12_within_6 rfl (lv_at hl 0 rfl) ?_
    refine lv_lload hx hb dX12_within_7 (lv_at hl 2 rfl) ?_
    refine W.lcmp hx hb dX12_within_9 ?_
    refine lv_if_gt (tgt := 17) hx hb dX12_within_10 (by decide) (fun h2 => ?_) (fun h2 => ?_)
    · have h2 : w0.toInt > 10 := by have q := cl_gt (a := w0.toInt) (b := 10) rfl (by decide) h2; omega
      refine lv_iconst (v := 0) hx hb dX12_within_17 (by decide) ?_
      exact r_z X hr hlk hw [] (fun _ => 0) rfl rfl (Or.inl (⟨Or.inr (⟨h1, h2⟩), rfl⟩)) (by decide) (by decide) (by decide) dX12_within_18
    · have h2 : w0.toInt ≤ 10 := by have q := cl_ngt (a := w0.toInt) (b := 10) rfl (by decide) h2; omega
      refine lv_iconst (v := 1) hx hb dX12_within_13 (by decide) ?_
      refine lv_goto (tgt := 18) hx hb dX12_within_14 (by decide) ?_
      exact r_z X hr hlk hw [] (fun _ => 0) rfl rfl (Or.inr (⟨⟨h1, h2⟩, rfl⟩)) (by decide) (by decide) (by decide) dX12_within_18
set_option maxHeartbeats 4000000 in
set_option maxRecDepth 100000 in
theorem c101_X12_undo (l : Launch) (D : va_G) (ct : Nat → ClassId) (a0 : Nat) (p0 : Int32) (a1 : Nat) (a2 : Nat) (a3 : Nat) (a4 : Nat) (a5 : Nat) (a6 : Nat) (a7 : Nat) (a8 : Nat) (a9 : Nat) (a10 : Nat) (a11 : Nat) (a12 : Nat) (a13 : Nat) (a14 : Nat) (a15 : Nat) (a16 : Nat) : CI l yX12_undo cX12_undo 3 (some .int) { frames := 1, cells := 0, slots := 0, locals := 25 } D ct [.ref a0, .int p0] [(a0, .inr (12, [.int 0, .ref a1, .ref a2, .ref a3, .ref a4, .int 0, .int 0, .int 0, .int 0, .int 0, .int 0, .int 0, .int 0, .int 0, .int (-1), .ref a5, .ref a6, .ref a7, .ref a8, .int 0, .ref a9, .ref a10, .int 0, .int 0, .int 0, .ref a11, .ref a12, .ref a13, .ref a14, .ref a15, .ref a16])), (a1, .inl (ct 0, 5310, .inl fx0))] (fun r => r = (-3)) (fun u => []) := by
  refine CI.of (by decide +kernel) (Nat.le_of_ble_eq_true rfl) ?_
  intro p e s m below meth c A ls hE
  obtain ⟨X, hr, hlk, hnm, hw, hl⟩ := hE
  have X : CX p m c cX12_undo 3 s [.ref a0, .int p0].toArray RX12 D ct := X
  have hl : lv_has ls 3 [(0, .ref a0), (1, .int p0)] := hl
  obtain ⟨⟨hx, hb, hml, hown, hts⟩, hK⟩ := id X
  refine lv_aload_n hx hb dX12_undo_0 rfl (lv_at hl 0 rfl) ?_
  refine lv_iconst (v := 0) hx hb dX12_undo_1 (by decide) ?_
  refine fp_1442 X hw 0 rfl rfl rfl (Nat.le_of_ble_eq_true rfl) dX12_undo_2 [(a0, .inr (12, [.int 0, .ref a1, .ref a2, .ref a3, .ref a4, .int 0, .int 0, .int 0, .int 0, .int 0, .int 0, .int 0, .int 0, .int 0, .int (-1), .ref a5, .ref a6, .ref a7, .ref a8, .int 0, .ref a9, .ref a10, .int 0, .int 0, .int 0, .ref a11, .ref a12, .ref a13, .ref a14, .ref a15, .ref a16])), (a1, .inl (ct 0, 5310, .inl fx0))] rfl (fun H locs hw => ?_)
  refine lv_iload_n hx hb dX12_undo_5 rfl (lv_at hl 1 rfl) ?_
  refine lv_i2l (v := p0.toInt64) hx hb dX12_undo_6 rfl ?_
  refine lv_lconst (v := 1) hx hb dX12_undo_7 (by decide) ?_
  refine lv_ldc2 hx hb hown (hts _ wd_1801) dX12_undo_8 ?_
  refine m_Si (As := [.long p0.toInt64, .long 1, .long 10]) (rest := []) (c100_X12_within l D ct (p0.toInt64)) X hl.1 kw_1545 kd_yX12_within hw [] [0, 1] rfl rfl rfl rfl (by decide) ⟨by decide, by decide⟩ rfl rfl (Nat.le_of_ble_eq_true rfl) dX12_undo_11 ⟨by decide, by decide⟩ (fun r1 u2 H locs hr3 hw => ?_)
  replace hw : WD D A s.heap _ _ [(a0, .inr (12, [.int 0, .ref a1, .ref a2, .ref a3, .ref a4, .int 0, .int 0, .int 0, .int 0, .int 0, .int 0, .int 0, .int 0, .int 0, .int (-1), .ref a5, .ref a6, .ref a7, .ref a8, .int 0, .ref a9, .ref a10, .int 0, .int 0, .int 0, .ref a11, .ref a12, .ref a13, .ref a14, .ref a15, .ref a16])), (a1, .inl (ct 0, 5310, .inl fx0))] := hw
  rcases hr3 with ⟨h4, rfl⟩ | ⟨⟨h5, h6⟩, rfl⟩
  · skip
    simp only [i64i] at h4
    refine lv_if_eq (tgt := 29) hx hb dX12_undo_14 (by decide) (fun _ => ?_) (fun h => absurd (by decide) h)
    refine lv_bipush (v := (-3)) hx hb dX12_undo_29 (by decide) ?_
    exact r_i X hr hlk hw [] (fun _ => 0) rfl rfl rfl (by decide) (by decide) dX12_undo_31
  · skip
    rw [i64i] at h5
    rw [i64i] at h6
    refine lv_if_eq (tgt := 29) hx hb dX12_undo_14 (by decide) (fun h => absurd h (by decide)) (fun _ => ?_)
    refine lv_iload_n hx hb dX12_undo_17 rfl (lv_at hl 1 rfl) ?_
    refine lv_aload_n hx hb dX12_undo_18 rfl (lv_at hl 0 rfl) ?_
    refine fg_1443 X hw 0 rfl rfl dX12_undo_19 ?_
    refine lv_sipush (v := 148) hx hb dX12_undo_22 (by decide) ?_
    refine j_iald (j := 148) (v := 0) X hw 1 rfl (by decide) (by decide) (by decide) rfl dX12_undo_25 ?_
    refine lv_icmp_le (tgt := 32) hx hb dX12_undo_26 (by decide) (fun h7 => absurd (ci_le (a := p0.toInt) (b := 0) rfl (by decide) h7) (by omega)) (fun h7 => ?_)
    refine lv_bipush (v := (-3)) hx hb dX12_undo_29 (by decide) ?_
    exact r_i X hr hlk hw [] (fun _ => 0) rfl rfl rfl (by decide) (by decide) dX12_undo_31
set_option maxHeartbeats 4000000 in
set_option maxRecDepth 100000 in
theorem c102_X11_isTray (l : Launch) (D : va_G) (ct : Nat → ClassId) (p0 : Int32) : CI l yX11_isTray cX11_isTray 1 (some .boolean) { frames := 0, cells := 0, slots := 0, locals := 0 } D ct [.int p0] [] (fun r => ((p0.toInt < 0) ∨ (p0.toInt ≥ 0 ∧ p0.toInt ≥ 4)) ∧ r = 0 ∨ (p0.toInt ≥ 0 ∧ p0.toInt < 4) ∧ r = 1) (fun u => []) := by
  refine CI.of (by decide +kernel) (Nat.le_of_ble_eq_true rfl) ?_
  intro p e s m below meth c A ls hE
  obtain ⟨X, hr, hlk, hnm, hw, hl⟩ := hE
  have X : CX p m c cX11_isTray 1 s [.int p0].toArray RX11 D ct := X
  have hl : lv_has ls 1 [(0, .int p0)] := hl
  obtain ⟨⟨hx, hb, hml, hown, hts⟩, hK⟩ := id X
  refine lv_iload_n hx hb dX11_isTray_0 rfl (lv_at hl 0 rfl) ?_
  refine lv_if_lt (tgt := 13) hx hb dX11_isTray_1 (by decide) (fun h1 => ?_) (fun h1 => ?_)
  · have h1 : p0.toInt < 0 := by have q := ci_lt (a := p0.toInt) (b := 0) rfl (by decide) h1; omega
    refine lv_iconst (v := 0) hx hb dX11_isTray_13 (by decide) ?_
    exact r_z X hr hlk hw [] (fun _ => 0) rfl rfl (Or.inl (⟨Or.inl (h1), rfl⟩)) (by decide) (by decide) (by decide) dX11_isTray_14
  · have h1 : p0.toInt ≥ 0 := by have q := ci_nlt (a := p0.toInt) (b := 0) rfl (by decide) h1; omega
    refine lv_iload_n hx hb dX11_isTray_4 rfl (lv_at hl 0 rfl) ?_
    refine lv_iconst (v := 4) hx hb dX11_isTray_5 (by decide) ?_
    refine lv_icmp_ge (tgt := 13) hx hb dX11_isTray_6 (by decide) (fun h2 => ?_) (fun h2 => ?_)
    · have h2 : p0.toInt ≥ 4 := by have q := ci_le (a := 4) (b := p0.toInt) (by decide) rfl h2; omega
      refine lv_iconst (v := 0) hx hb dX11_isTray_13 (by decide) ?_
      exact r_z X hr hlk hw [] (fun _ => 0) rfl rfl (Or.inl (⟨Or.inr (⟨h1, h2⟩), rfl⟩)) (by decide) (by decide) (by decide) dX11_isTray_14
    · have h2 : p0.toInt < 4 := by have q := ci_nle (a := 4) (b := p0.toInt) (by decide) rfl h2; omega
      refine lv_iconst (v := 1) hx hb dX11_isTray_9 (by decide) ?_
      refine lv_goto (tgt := 14) hx hb dX11_isTray_10 (by decide) ?_
      exact r_z X hr hlk hw [] (fun _ => 0) rfl rfl (Or.inr (⟨⟨h1, h2⟩, rfl⟩)) (by decide) (by decide) (by decide) dX11_isTray_14
set_option maxHeartbeats 4000000 in
set_option maxRecDepth 100000 in
theorem c103_X10_isMissing (l : Launch) (D : va_G) (ct : Nat → ClassId) (a0 : Nat) (a1 : Nat) : CI l yX10_isMissing cX10_isMissing 1 (some .boolean) { frames := 0, cells := 0, slots := 0, locals := 0 } D ct [.ref a0] [(a0, .inr (10, [.int (-1), .ref a1, .int 0]))] (fun r => r = 1) (fun u => [(a0, .inr (10, [.int (-1), .ref a1, .int 0]))]) := by
  refine CI.of (by decide +kernel) (Nat.le_of_ble_eq_true rfl) ?_
  intro p e s m below meth c A ls hE
  obtain ⟨X, hr, hlk, hnm, hw, hl⟩ := hE
  have X : CX p m c cX10_isMissing 1 s [.ref a0].toArray RX10 D ct := X
  have hl : lv_has ls 1 [(0, .ref a0)] := hl
  obtain ⟨⟨hx, hb, hml, hown, hts⟩, hK⟩ := id X
  refine lv_aload_n hx hb dX10_isMissing_0 rfl (lv_at hl 0 rfl) ?_
  refine fg_550 X hw 0 rfl rfl dX10_isMissing_1 ?_
  refine lv_iconst (v := (-1)) hx hb dX10_isMissing_4 (by decide) ?_
  refine lv_icmp_ne (tgt := 12) hx hb dX10_isMissing_5 (by decide) (fun h => absurd rfl h) (fun _ => ?_)
  refine lv_iconst (v := 1) hx hb dX10_isMissing_8 (by decide) ?_
  refine lv_goto (tgt := 13) hx hb dX10_isMissing_9 (by decide) ?_
  exact r_z X hr hlk hw [0] (fun _ => 0) rfl rfl rfl (by decide) (by decide) (by decide) dX10_isMissing_13
set_option maxHeartbeats 4000000 in
set_option maxRecDepth 100000 in
theorem c104_X11_judge (l : Launch) (D : va_G) (ct : Nat → ClassId) (a0 : Nat) (p0 : Int32) (p1 : Int32) (a1 : Nat) (a2 : Nat) (a3 : Nat) (a4 : Nat) (a5 : Nat) (a6 : Nat) (a7 : Nat) (a8 : Nat) (a9 : Nat) (a10 : Nat) (a11 : Nat) (a12 : Nat) (a13 : Nat) (a14 : Nat) (a15 : Nat) (a16 : Nat) (a17 : Nat) (a18 : Nat) (a19 : Nat) (a20 : Nat) (a21 : Nat) (a22 : Nat) (a23 : Nat) : CI l yX11_judge cX11_judge 5 (some .int) { frames := 1, cells := 0, slots := 0, locals := 20 } D ct [.ref a0, .int p0, .int p1] [(a0, .inr (11, [.ref a1, .int 0, .ref a2, .ref a3, .ref a4, .ref a5, .ref a6, .ref a7, .ref a8, .ref a9, .ref a10, .ref a11, .ref a12, .ref a13, .ref a14, .ref a15, .int (-1), .int (-1)])), (a12, .inl (ct 5, 4, .inr (.inr (.inr (.inr (va_up (va_up (va_up (va_up (fun _ => none) 0 (some a16)) 1 (some a17)) 2 (some a18)) 3 (some a19))))))), (a16, .inr (10, [.int (-1), .ref a20, .int 0])), (a17, .inr (10, [.int (-1), .ref a21, .int 0])), (a18, .inr (10, [.int (-1), .ref a22, .int 0])), (a19, .inr (10, [.int (-1), .ref a23, .int 0]))] (fun r => ((((p0.toInt < 0) ∨ (p0.toInt ≥ 0 ∧ p0.toInt ≥ 4))) ∨ (p0.toInt ≥ 0 ∧ p0.toInt < 4 ∧ p1.toInt < 0) ∨ (p0.toInt ≥ 0 ∧ p0.toInt < 4 ∧ p1.toInt ≥ 0 ∧ p1.toInt > 3)) ∧ r = (-2) ∨ ((p0.toInt ≥ 0 ∧ p0.toInt < 4 ∧ p1.toInt ≥ 0 ∧ p1.toInt ≤ 3 ∧ p0.toInt = 0) ∨ (p0.toInt ≥ 0 ∧ p0.toInt < 4 ∧ p1.toInt ≥ 0 ∧ p1.toInt ≤ 3 ∧ p0.toInt = 1) ∨ (p0.toInt ≥ 0 ∧ p0.toInt < 4 ∧ p1.toInt ≥ 0 ∧ p1.toInt ≤ 3 ∧ p0.toInt = 2) ∨ (p0.toInt ≥ 0 ∧ p0.toInt < 4 ∧ p1.toInt ≥ 0 ∧ p1.toInt ≤ 3 ∧ p0.toInt = 3)) ∧ r = (-6)) (fun u => []) := by
  refine CI.of (by decide +kernel) (Nat.le_of_ble_eq_true rfl) ?_
  intro p e s m below meth c A ls hE
  obtain ⟨X, hr, hlk, hnm, hw, hl⟩ := hE
  have X : CX p m c cX11_judge 5 s [.ref a0, .int p0, .int p1].toArray RX11 D ct := X
  have hl : lv_has ls 5 [(0, .ref a0), (1, .int p0), (2, .int p1)] := hl
  obtain ⟨⟨hx, hb, hml, hown, hts⟩, hK⟩ := id X
  refine lv_iload_n hx hb dX11_judge_0 rfl (lv_at hl 1 rfl) ?_
  refine m_Si (As := [.int p0]) (rest := []) (c102_X11_isTray l D ct p0) X hl.1 kw_1071 kd_yX11_isTray hw [] [0, 1, 2, 3, 4, 5] rfl rfl rfl rfl (by decide) ⟨by decide, by decide⟩ rfl rfl (Nat.le_of_ble_eq_true rfl) dX11_judge_1 ⟨by decide, by decide⟩ (fun r1 u2 H locs hr3 hw => ?_)
  replace hw : WD D A s.heap _ _ [(a0, .inr (11, [.ref a1, .int 0, .ref a2, .ref a3, .ref a4, .ref a5, .ref a6, .ref a7, .ref a8, .ref a9, .ref a10, .ref a11, .ref a12, .ref a13, .ref a14, .ref a15, .int (-1), .int (-1)])), (a12, .inl (ct 5, 4, .inr (.inr (.inr (.inr (va_up (va_up (va_up (va_up (fun _ => none) 0 (some a16)) 1 (some a17)) 2 (some a18)) 3 (some a19))))))), (a16, .inr (10, [.int (-1), .ref a20, .int 0])), (a17, .inr (10, [.int (-1), .ref a21, .int 0])), (a18, .inr (10, [.int (-1), .ref a22, .int 0])), (a19, .inr (10, [.int (-1), .ref a23, .int 0]))] := hw
  rcases hr3 with ⟨h4, rfl⟩ | ⟨⟨h5, h6⟩, rfl⟩
  · skip
    refine lv_if_eq (tgt := 16) hx hb dX11_judge_4 (by decide) (fun _ => ?_) (fun h => absurd (by decide) h)
    refine lv_bipush (v := (-2)) hx hb dX11_judge_16 (by decide) ?_
    exact r_i X hr hlk hw [] (fun _ => 0) rfl rfl (Or.inl (⟨Or.inl (h4), rfl⟩)) (by decide) (by decide) dX11_judge_18
  · skip
    refine lv_if_eq (tgt := 16) hx hb dX11_judge_4 (by decide) (fun h => absurd h (by decide)) (fun _ => ?_)
    refine lv_iload_n hx hb dX11_judge_7 rfl (lv_at hl 2 rfl) ?_
    refine lv_if_lt (tgt := 16) hx hb dX11_judge_8 (by decide) (fun h7 => ?_) (fun h7 => ?_)
    · have h7 : p1.toInt < 0 := by have q := ci_lt (a := p1.toInt) (b := 0) rfl (by decide) h7; omega
      refine lv_bipush (v := (-2)) hx hb dX11_judge_16 (by decide) ?_
      exact r_i X hr hlk hw [] (fun _ => 0) rfl rfl (Or.inl (⟨Or.inr (Or.inl (⟨h5, h6, h7⟩)), rfl⟩)) (by decide) (by decide) dX11_judge_18
    · have h7 : p1.toInt ≥ 0 := by have q := ci_nlt (a := p1.toInt) (b := 0) rfl (by decide) h7; omega
      refine lv_iload_n hx hb dX11_judge_11 rfl (lv_at hl 2 rfl) ?_
      refine lv_iconst (v := 3) hx hb dX11_judge_12 (by decide) ?_
      refine lv_icmp_le (tgt := 19) hx hb dX11_judge_13 (by decide) (fun h8 => ?_) (fun h8 => ?_)
      · have h8 : p1.toInt ≤ 3 := by have q := ci_le (a := p1.toInt) (b := 3) rfl (by decide) h8; omega
        refine lv_aload_n hx hb dX11_judge_19 rfl (lv_at hl 0 rfl) ?_
        refine fg_577 X hw 0 rfl rfl dX11_judge_20 ?_
        refine lv_iload_n hx hb dX11_judge_23 rfl (lv_at hl 1 rfl) ?_
        rcases (show p0.toInt = 0 ∨ p0.toInt = 1 ∨ p0.toInt = 2 ∨ p0.toInt = 3 by omega) with e9 | e9 | e9 | e9
        · skip
          obtain rfl : p0 = 0 := i32_of e9
          refine j_aldq (j := 0) (v := .ref a16) X hw 1 5 rfl rfl (by decide) (by decide) (by decide) rfl dX11_judge_24 ?_
          refine m_Vi (As := []) (rest := []) (c103_X10_isMissing l D ct a16 a20) X hl.1 kw_1074 kd_yX10_isMissing hw [2] [0, 1, 3, 4, 5] rfl rfl rfl rfl (by decide) 0 rfl rfl ⟨by decide, by decide⟩ rfl rfl (Nat.le_of_ble_eq_true rfl) dX11_judge_25 ⟨by decide, by decide⟩ (fun r10 u11 H locs hr12 hw => ?_)
          replace hw : WD D A s.heap _ _ [(a0, .inr (11, [.ref a1, .int 0, .ref a2, .ref a3, .ref a4, .ref a5, .ref a6, .ref a7, .ref a8, .ref a9, .ref a10, .ref a11, .ref a12, .ref a13, .ref a14, .ref a15, .int (-1), .int (-1)])), (a12, .inl (ct 5, 4, .inr (.inr (.inr (.inr (va_up (va_up (va_up (va_up (fun _ => none) 0 (some a16)) 1 (some a17)) 2 (some a18)) 3 (some a19))))))), (a17, .inr (10, [.int (-1), .ref a21, .int 0])), (a18, .inr (10, [.int (-1), .ref a22, .int 0])), (a19, .inr (10, [.int (-1), .ref a23, .int 0])), (a16, .inr (10, [.int (-1), .ref a20, .int 0]))] := hw
          subst hr12
          refine lv_if_eq (tgt := 34) hx hb dX11_judge_28 (by decide) (fun h => absurd h (by decide)) (fun _ => ?_)
          refine lv_bipush (v := (-6)) hx hb dX11_judge_31 (by decide) ?_
          exact r_i X hr hlk hw [] (fun _ => 0) rfl rfl (Or.inr (⟨Or.inl (⟨h5, h6, h7, h8, e9⟩), rfl⟩)) (by decide) (by decide) dX11_judge_33
        · skip
          obtain rfl : p0 = 1 := i32_of e9
          refine j_aldq (j := 1) (v := .ref a17) X hw 1 5 rfl rfl (by decide) (by decide) (by decide) rfl dX11_judge_24 ?_
          refine m_Vi (As := []) (rest := []) (c103_X10_isMissing l D ct a17 a21) X hl.1 kw_1074 kd_yX10_isMissing hw [3] [0, 1, 2, 4, 5] rfl rfl rfl rfl (by decide) 0 rfl rfl ⟨by decide, by decide⟩ rfl rfl (Nat.le_of_ble_eq_true rfl) dX11_judge_25 ⟨by decide, by decide⟩ (fun r13 u14 H locs hr15 hw => ?_)
          replace hw : WD D A s.heap _ _ [(a0, .inr (11, [.ref a1, .int 0, .ref a2, .ref a3, .ref a4, .ref a5, .ref a6, .ref a7, .ref a8, .ref a9, .ref a10, .ref a11, .ref a12, .ref a13, .ref a14, .ref a15, .int (-1), .int (-1)])), (a12, .inl (ct 5, 4, .inr (.inr (.inr (.inr (va_up (va_up (va_up (va_up (fun _ => none) 0 (some a16)) 1 (some a17)) 2 (some a18)) 3 (some a19))))))), (a16, .inr (10, [.int (-1), .ref a20, .int 0])), (a18, .inr (10, [.int (-1), .ref a22, .int 0])), (a19, .inr (10, [.int (-1), .ref a23, .int 0])), (a17, .inr (10, [.int (-1), .ref a21, .int 0]))] := hw
          subst hr15
          refine lv_if_eq (tgt := 34) hx hb dX11_judge_28 (by decide) (fun h => absurd h (by decide)) (fun _ => ?_)
          refine lv_bipush (v := (-6)) hx hb dX11_judge_31 (by decide) ?_
          exact r_i X hr hlk hw [] (fun _ => 0) rfl rfl (Or.inr (⟨Or.inr (Or.inl (⟨h5, h6, h7, h8, e9⟩)), rfl⟩)) (by decide) (by decide) dX11_judge_33
        · skip
          obtain rfl : p0 = 2 := i32_of e9
          refine j_aldq (j := 2) (v := .ref a18) X hw 1 5 rfl rfl (by decide) (by decide) (by decide) rfl dX11_judge_24 ?_
          refine m_Vi (As := []) (rest := []) (c103_X10_isMissing l D ct a18 a22) X hl.1 kw_1074 kd_yX10_isMissing hw [4] [0, 1, 2, 3, 5] rfl rfl rfl rfl (by decide) 0 rfl rfl ⟨by decide, by decide⟩ rfl rfl (Nat.le_of_ble_eq_true rfl) dX11_judge_25 ⟨by decide, by decide⟩ (fun r16 u17 H locs hr18 hw => ?_)
          replace hw : WD D A s.heap _ _ [(a0, .inr (11, [.ref a1, .int 0, .ref a2, .ref a3, .ref a4, .ref a5, .ref a6, .ref a7, .ref a8, .ref a9, .ref a10, .ref a11, .ref a12, .ref a13, .ref a14, .ref a15, .int (-1), .int (-1)])), (a12, .inl (ct 5, 4, .inr (.inr (.inr (.inr (va_up (va_up (va_up (va_up (fun _ => none) 0 (some a16)) 1 (some a17)) 2 (some a18)) 3 (some a19))))))), (a16, .inr (10, [.int (-1), .ref a20, .int 0])), (a17, .inr (10, [.int (-1), .ref a21, .int 0])), (a19, .inr (10, [.int (-1), .ref a23, .int 0])), (a18, .inr (10, [.int (-1), .ref a22, .int 0]))] := hw
          subst hr18
          refine lv_if_eq (tgt := 34) hx hb dX11_judge_28 (by decide) (fun h => absurd h (by decide)) (fun _ => ?_)
          refine lv_bipush (v := (-6)) hx hb dX11_judge_31 (by decide) ?_
          exact r_i X hr hlk hw [] (fun _ => 0) rfl rfl (Or.inr (⟨Or.inr (Or.inr (Or.inl (⟨h5, h6, h7, h8, e9⟩))), rfl⟩)) (by decide) (by decide) dX11_judge_33
        · skip
          obtain rfl : p0 = 3 := i32_of e9
          refine j_aldq (j := 3) (v := .ref a19) X hw 1 5 rfl rfl (by decide) (by decide) (by decide) rfl dX11_judge_24 ?_
          refine m_Vi (As := []) (rest := []) (c103_X10_isMissing l D ct a19 a23) X hl.1 kw_1074 kd_yX10_isMissing hw [5] [0, 1, 2, 3, 4] rfl rfl rfl rfl (by decide) 0 rfl rfl ⟨by decide, by decide⟩ rfl rfl (Nat.le_of_ble_eq_true rfl) dX11_judge_25 ⟨by decide, by decide⟩ (fun r19 u20 H locs hr21 hw => ?_)
          replace hw : WD D A s.heap _ _ [(a0, .inr (11, [.ref a1, .int 0, .ref a2, .ref a3, .ref a4, .ref a5, .ref a6, .ref a7, .ref a8, .ref a9, .ref a10, .ref a11, .ref a12, .ref a13, .ref a14, .ref a15, .int (-1), .int (-1)])), (a12, .inl (ct 5, 4, .inr (.inr (.inr (.inr (va_up (va_up (va_up (va_up (fun _ => none) 0 (some a16)) 1 (some a17)) 2 (some a18)) 3 (some a19))))))), (a16, .inr (10, [.int (-1), .ref a20, .int 0])), (a17, .inr (10, [.int (-1), .ref a21, .int 0])), (a18, .inr (10, [.int (-1), .ref a22, .int 0])), (a19, .inr (10, [.int (-1), .ref a23, .int 0]))] := hw
          subst hr21
          refine lv_if_eq (tgt := 34) hx hb dX11_judge_28 (by decide) (fun h => absurd h (by decide)) (fun _ => ?_)
          refine lv_bipush (v := (-6)) hx hb dX11_judge_31 (by decide) ?_
          exact r_i X hr hlk hw [] (fun _ => 0) rfl rfl (Or.inr (⟨Or.inr (Or.inr (Or.inr (⟨h5, h6, h7, h8, e9⟩))), rfl⟩)) (by decide) (by decide) dX11_judge_33
      · have h8 : p1.toInt > 3 := by have q := ci_nle (a := p1.toInt) (b := 3) rfl (by decide) h8; omega
        refine lv_bipush (v := (-2)) hx hb dX11_judge_16 (by decide) ?_
        exact r_i X hr hlk hw [] (fun _ => 0) rfl rfl (Or.inl (⟨Or.inr (Or.inr (⟨h5, h6, h7, h8⟩)), rfl⟩)) (by decide) (by decide) dX11_judge_18
set_option maxHeartbeats 4000000 in
set_option maxRecDepth 100000 in
theorem c105_X12_within (l : Launch) (D : va_G) (ct : Nat → ClassId) (w0 : Int64) : CI l yX12_within cX12_within 6 (some .boolean) { frames := 0, cells := 0, slots := 0, locals := 0 } D ct [.long w0, .long 0, .long 3] [] (fun r => ((w0.toInt < 0) ∨ (w0.toInt ≥ 0 ∧ w0.toInt > 3)) ∧ r = 0 ∨ (w0.toInt ≥ 0 ∧ w0.toInt ≤ 3) ∧ r = 1) (fun u => []) := by
  refine CI.of (by decide +kernel) (Nat.le_of_ble_eq_true rfl) ?_
  intro p e s m below meth c A ls hE
  obtain ⟨X, hr, hlk, hnm, hw, hl⟩ := hE
  have X : CX p m c cX12_within 6 s [.long w0, .long 0, .long 3].toArray RX12 D ct := X
  have hl : lv_has ls 6 [(0, .long w0), (2, .long 0), (4, .long 3)] := hl
  obtain ⟨⟨hx, hb, hml, hown, hts⟩, hK⟩ := id X
  refine lv_lload_n hx hb dX12_within_0 rfl (lv_at hl 0 rfl) ?_
  refine lv_lload_n hx hb dX12_within_1 rfl (lv_at hl 1 rfl) ?_
  refine W.lcmp hx hb dX12_within_2 ?_
  refine lv_if_lt (tgt := 17) hx hb dX12_within_3 (by decide) (fun h1 => ?_) (fun h1 => ?_)
  · have h1 : w0.toInt < 0 := by have q := cl_lt (a := w0.toInt) (b := 0) rfl (by decide) h1; omega
    refine lv_iconst (v := 0) hx hb dX12_within_17 (by decide) ?_
    exact r_z X hr hlk hw [] (fun _ => 0) rfl rfl (Or.inl (⟨Or.inl (h1), rfl⟩)) (by decide) (by decide) (by decide) dX12_within_18
  · have h1 : w0.toInt ≥ 0 := by have q := cl_nlt (a := w0.toInt) (b := 0) rfl (by decide) h1; omega
    refine lv_lload_n hx hb dX12_within_6 rfl (lv_at hl 0 rfl) ?_
    refine lv_lload hx hb dX12_within_7 (lv_at hl 2 rfl) ?_
    refine W.lcmp hx hb dX12_within_9 ?_
    refine lv_if_gt (tgt := 17) hx hb dX12_within_10 (by decide) (fun h2 => ?_) (fun h2 => ?_)
    · have h2 : w0.toInt > 3 := by have q := cl_gt (a := w0.toInt) (b := 3) rfl (by decide) h2; omega
      refine lv_iconst (v := 0) hx hb dX12_within_17 (by decide) ?_
      exact r_z X hr hlk hw [] (fun _ => 0) rfl rfl (Or.inl (⟨Or.inr (⟨h1, h2⟩), rfl⟩)) (by decide) (by decide) (by decide) dX12_within_18
    · have h2 : w0.toInt ≤ 3 := by have q := cl_ngt (a := w0.toInt) (b := 3) rfl (by decide) h2; omega
      refine lv_iconst (v := 1) hx hb dX12_within_13 (by decide) ?_
      refine lv_goto (tgt := 18) hx hb dX12_within_14 (by decide) ?_
      exact r_z X hr hlk hw [] (fun _ => 0) rfl rfl (Or.inr (⟨⟨h1, h2⟩, rfl⟩)) (by decide) (by decide) (by decide) dX12_within_18
set_option maxHeartbeats 4000000 in
set_option maxRecDepth 100000 in
theorem c106_X12_noTray (l : Launch) (D : va_G) (ct : Nat → ClassId) (a0 : Nat) (p0 : Int32) (a1 : Nat) (a2 : Nat) (a3 : Nat) (a4 : Nat) (a5 : Nat) (a6 : Nat) (a7 : Nat) (a8 : Nat) (a9 : Nat) (a10 : Nat) (a11 : Nat) (a12 : Nat) (a13 : Nat) (a14 : Nat) (a15 : Nat) (a16 : Nat) : CI l yX12_noTray cX12_noTray 2 (some .int) { frames := 1, cells := 0, slots := 0, locals := 25 } D ct [.ref a0, .int p0] [(a0, .inr (12, [.int 0, .ref a1, .ref a2, .ref a3, .ref a4, .int 0, .int 0, .int 0, .int 0, .int 0, .int 0, .int 0, .int 0, .int 0, .int (-1), .ref a5, .ref a6, .ref a7, .ref a8, .int 0, .ref a9, .ref a10, .int 0, .int 0, .int 0, .ref a11, .ref a12, .ref a13, .ref a14, .ref a15, .ref a16])), (a14, .inl (ct 0, 4, .inl fx2))] (fun r => (((p0.toInt < 0) ∨ (p0.toInt ≥ 0 ∧ p0.toInt > 3))) ∧ r = (-2) ∨ ((p0.toInt ≥ 0 ∧ p0.toInt ≤ 3 ∧ p0.toInt = 0) ∨ (p0.toInt ≥ 0 ∧ p0.toInt ≤ 3 ∧ p0.toInt = 1) ∨ (p0.toInt ≥ 0 ∧ p0.toInt ≤ 3 ∧ p0.toInt = 2) ∨ (p0.toInt ≥ 0 ∧ p0.toInt ≤ 3 ∧ p0.toInt = 3)) ∧ r = (-6)) (fun u => [(a0, .inr (12, [.int 0, .ref a1, .ref a2, .ref a3, .ref a4, .int 0, .int 0, .int 0, .int 0, .int 0, .int 0, .int 0, .int 0, .int 0, .int (-1), .ref a5, .ref a6, .ref a7, .ref a8, .int 0, .ref a9, .ref a10, .int 0, .int 0, .int 0, .ref a11, .ref a12, .ref a13, .ref a14, .ref a15, .ref a16])), (a14, .inl (ct 0, 4, .inl fx2))]) := by
  refine CI.of (by decide +kernel) (Nat.le_of_ble_eq_true rfl) ?_
  intro p e s m below meth c A ls hE
  obtain ⟨X, hr, hlk, hnm, hw, hl⟩ := hE
  have X : CX p m c cX12_noTray 2 s [.ref a0, .int p0].toArray RX12 D ct := X
  have hl : lv_has ls 2 [(0, .ref a0), (1, .int p0)] := hl
  obtain ⟨⟨hx, hb, hml, hown, hts⟩, hK⟩ := id X
  refine lv_iload_n hx hb dX12_noTray_0 rfl (lv_at hl 1 rfl) ?_
  refine lv_i2l (v := p0.toInt64) hx hb dX12_noTray_1 rfl ?_
  refine lv_lconst (v := 0) hx hb dX12_noTray_2 (by decide) ?_
  refine lv_ldc2 hx hb hown (hts _ wd_1658) dX12_noTray_3 ?_
  refine m_Si (As := [.long p0.toInt64, .long 0, .long 3]) (rest := []) (c105_X12_within l D ct (p0.toInt64)) X hl.1 kw_1545 kd_yX12_within hw [] [0, 1] rfl rfl rfl rfl (by decide) ⟨by decide, by decide⟩ rfl rfl (Nat.le_of_ble_eq_true rfl) dX12_noTray_6 ⟨by decide, by decide⟩ (fun r1 u2 H locs hr3 hw => ?_)
  replace hw : WD D A s.heap _ _ [(a0, .inr (12, [.int 0, .ref a1, .ref a2, .ref a3, .ref a4, .int 0, .int 0, .int 0, .int 0, .int 0, .int 0, .int 0, .int 0, .int 0, .int (-1), .ref a5, .ref a6, .ref a7, .ref a8, .int 0, .ref a9, .ref a10, .int 0, .int 0, .int 0, .ref a11, .ref a12, .ref a13, .ref a14, .ref a15, .ref a16])), (a14, .inl (ct 0, 4, .inl fx2))] := hw
  rcases hr3 with ⟨h4, rfl⟩ | ⟨⟨h5, h6⟩, rfl⟩
  · skip
    simp only [i64i] at h4
    refine lv_if_ne (tgt := 17) hx hb dX12_noTray_9 (by decide) (fun h => absurd rfl h) (fun _ => ?_)
    refine lv_bipush (v := (-2)) hx hb dX12_noTray_12 (by decide) ?_
    refine lv_goto (tgt := 33) hx hb dX12_noTray_14 (by decide) ?_
    exact r_i X hr hlk hw [0, 1] (fun _ => 0) rfl rfl (Or.inl (⟨h4, rfl⟩)) (by decide) (by decide) dX12_noTray_33
  · skip
    rw [i64i] at h5
    rw [i64i] at h6
    refine lv_if_ne (tgt := 17) hx hb dX12_noTray_9 (by decide) (fun _ => ?_) (fun h => absurd h (by decide))
    refine lv_aload_n hx hb dX12_noTray_17 rfl (lv_at hl 0 rfl) ?_
    refine fg_1470 X hw 0 rfl rfl dX12_noTray_18 ?_
    refine lv_iload_n hx hb dX12_noTray_21 rfl (lv_at hl 1 rfl) ?_
    rcases (show p0.toInt = 0 ∨ p0.toInt = 1 ∨ p0.toInt = 2 ∨ p0.toInt = 3 by omega) with e7 | e7 | e7 | e7
    · skip
      obtain rfl : p0 = 0 := i32_of e7
      refine j_iald (j := 0) (v := (-1)) X hw 1 rfl (by decide) (by decide) (by decide) rfl dX12_noTray_22 ?_
      refine lv_iconst (v := (-1)) hx hb dX12_noTray_23 (by decide) ?_
      refine lv_icmp_ne (tgt := 32) hx hb dX12_noTray_24 (by decide) (fun h => absurd rfl h) (fun _ => ?_)
      refine lv_bipush (v := (-6)) hx hb dX12_noTray_27 (by decide) ?_
      refine lv_goto (tgt := 33) hx hb dX12_noTray_29 (by decide) ?_
      exact r_i X hr hlk hw [0, 1] (fun _ => 0) rfl rfl (Or.inr (⟨Or.inl (⟨h5, h6, e7⟩), rfl⟩)) (by decide) (by decide) dX12_noTray_33
    · skip
      obtain rfl : p0 = 1 := i32_of e7
      refine j_iald (j := 1) (v := (-1)) X hw 1 rfl (by decide) (by decide) (by decide) rfl dX12_noTray_22 ?_
      refine lv_iconst (v := (-1)) hx hb dX12_noTray_23 (by decide) ?_
      refine lv_icmp_ne (tgt := 32) hx hb dX12_noTray_24 (by decide) (fun h => absurd rfl h) (fun _ => ?_)
      refine lv_bipush (v := (-6)) hx hb dX12_noTray_27 (by decide) ?_
      refine lv_goto (tgt := 33) hx hb dX12_noTray_29 (by decide) ?_
      exact r_i X hr hlk hw [0, 1] (fun _ => 0) rfl rfl (Or.inr (⟨Or.inr (Or.inl (⟨h5, h6, e7⟩)), rfl⟩)) (by decide) (by decide) dX12_noTray_33
    · skip
      obtain rfl : p0 = 2 := i32_of e7
      refine j_iald (j := 2) (v := (-1)) X hw 1 rfl (by decide) (by decide) (by decide) rfl dX12_noTray_22 ?_
      refine lv_iconst (v := (-1)) hx hb dX12_noTray_23 (by decide) ?_
      refine lv_icmp_ne (tgt := 32) hx hb dX12_noTray_24 (by decide) (fun h => absurd rfl h) (fun _ => ?_)
      refine lv_bipush (v := (-6)) hx hb dX12_noTray_27 (by decide) ?_
      refine lv_goto (tgt := 33) hx hb dX12_noTray_29 (by decide) ?_
      exact r_i X hr hlk hw [0, 1] (fun _ => 0) rfl rfl (Or.inr (⟨Or.inr (Or.inr (Or.inl (⟨h5, h6, e7⟩))), rfl⟩)) (by decide) (by decide) dX12_noTray_33
    · skip
      obtain rfl : p0 = 3 := i32_of e7
      refine j_iald (j := 3) (v := (-1)) X hw 1 rfl (by decide) (by decide) (by decide) rfl dX12_noTray_22 ?_
      refine lv_iconst (v := (-1)) hx hb dX12_noTray_23 (by decide) ?_
      refine lv_icmp_ne (tgt := 32) hx hb dX12_noTray_24 (by decide) (fun h => absurd rfl h) (fun _ => ?_)
      refine lv_bipush (v := (-6)) hx hb dX12_noTray_27 (by decide) ?_
      refine lv_goto (tgt := 33) hx hb dX12_noTray_29 (by decide) ?_
      exact r_i X hr hlk hw [0, 1] (fun _ => 0) rfl rfl (Or.inr (⟨Or.inr (Or.inr (Or.inr (⟨h5, h6, e7⟩))), rfl⟩)) (by decide) (by decide) dX12_noTray_33
set_option maxHeartbeats 4000000 in
set_option maxRecDepth 100000 in
theorem c107_X12_judge (l : Launch) (D : va_G) (ct : Nat → ClassId) (a0 : Nat) (p0 : Int32) (p1 : Int32) (a1 : Nat) (a2 : Nat) (a3 : Nat) (a4 : Nat) (a5 : Nat) (a6 : Nat) (a7 : Nat) (a8 : Nat) (a9 : Nat) (a10 : Nat) (a11 : Nat) (a12 : Nat) (a13 : Nat) (a14 : Nat) (a15 : Nat) (a16 : Nat) : CI l yX12_judge cX12_judge 7 (some .int) { frames := 2, cells := 0, slots := 0, locals := 46 } D ct [.ref a0, .int p0, .int p1] [(a0, .inr (12, [.int 0, .ref a1, .ref a2, .ref a3, .ref a4, .int 0, .int 0, .int 0, .int 0, .int 0, .int 0, .int 0, .int 0, .int 0, .int (-1), .ref a5, .ref a6, .ref a7, .ref a8, .int 0, .ref a9, .ref a10, .int 0, .int 0, .int 0, .ref a11, .ref a12, .ref a13, .ref a14, .ref a15, .ref a16])), (a14, .inl (ct 0, 4, .inl fx2))] (fun r => ((((p1.toInt < 0) ∨ (p1.toInt ≥ 0 ∧ p1.toInt > 3))) ∨ (p1.toInt ≥ 0 ∧ p1.toInt ≤ 3 ∧ ((p0.toInt < 0) ∨ (p0.toInt ≥ 0 ∧ p0.toInt > 3)))) ∧ r = (-2) ∨ (p1.toInt ≥ 0 ∧ p1.toInt ≤ 3 ∧ ((p0.toInt ≥ 0 ∧ p0.toInt ≤ 3 ∧ p0.toInt = 0) ∨ (p0.toInt ≥ 0 ∧ p0.toInt ≤ 3 ∧ p0.toInt = 1) ∨ (p0.toInt ≥ 0 ∧ p0.toInt ≤ 3 ∧ p0.toInt = 2) ∨ (p0.toInt ≥ 0 ∧ p0.toInt ≤ 3 ∧ p0.toInt = 3))) ∧ r = (-6)) (fun u => []) := by
  refine CI.of (by decide +kernel) (Nat.le_of_ble_eq_true rfl) ?_
  intro p e s m below meth c A ls hE
  obtain ⟨X, hr, hlk, hnm, hw, hl⟩ := hE
  have X : CX p m c cX12_judge 7 s [.ref a0, .int p0, .int p1].toArray RX12 D ct := X
  have hl : lv_has ls 7 [(0, .ref a0), (1, .int p0), (2, .int p1)] := hl
  obtain ⟨⟨hx, hb, hml, hown, hts⟩, hK⟩ := id X
  refine lv_aload_n hx hb dX12_judge_0 rfl (lv_at hl 0 rfl) ?_
  refine lv_iconst (v := 0) hx hb dX12_judge_1 (by decide) ?_
  refine fp_1442 X hw 0 rfl rfl rfl (Nat.le_of_ble_eq_true rfl) dX12_judge_2 [(a0, .inr (12, [.int 0, .ref a1, .ref a2, .ref a3, .ref a4, .int 0, .int 0, .int 0, .int 0, .int 0, .int 0, .int 0, .int 0, .int 0, .int (-1), .ref a5, .ref a6, .ref a7, .ref a8, .int 0, .ref a9, .ref a10, .int 0, .int 0, .int 0, .ref a11, .ref a12, .ref a13, .ref a14, .ref a15, .ref a16])), (a14, .inl (ct 0, 4, .inl fx2))] rfl (fun H locs hw => ?_)
  refine lv_iload_n hx hb dX12_judge_5 rfl (lv_at hl 2 rfl) ?_
  refine lv_i2l (v := p1.toInt64) hx hb dX12_judge_6 rfl ?_
  refine lv_lconst (v := 0) hx hb dX12_judge_7 (by decide) ?_
  refine lv_ldc2 hx hb hown (hts _ wd_1658) dX12_judge_8 ?_
  refine m_Si (As := [.long p1.toInt64, .long 0, .long 3]) (rest := []) (c105_X12_within l D ct (p1.toInt64)) X hl.1 kw_1545 kd_yX12_within hw [] [0, 1] rfl rfl rfl rfl (by decide) ⟨by decide, by decide⟩ rfl rfl (Nat.le_of_ble_eq_true rfl) dX12_judge_11 ⟨by decide, by decide⟩ (fun r1 u2 H locs hr3 hw => ?_)
  replace hw : WD D A s.heap _ _ [(a0, .inr (12, [.int 0, .ref a1, .ref a2, .ref a3, .ref a4, .int 0, .int 0, .int 0, .int 0, .int 0, .int 0, .int 0, .int 0, .int 0, .int (-1), .ref a5, .ref a6, .ref a7, .ref a8, .int 0, .ref a9, .ref a10, .int 0, .int 0, .int 0, .ref a11, .ref a12, .ref a13, .ref a14, .ref a15, .ref a16])), (a14, .inl (ct 0, 4, .inl fx2))] := hw
  rcases hr3 with ⟨h4, rfl⟩ | ⟨⟨h5, h6⟩, rfl⟩
  · skip
    simp only [i64i] at h4
    refine lv_if_ne (tgt := 20) hx hb dX12_judge_14 (by decide) (fun h => absurd rfl h) (fun _ => ?_)
    refine lv_bipush (v := (-2)) hx hb dX12_judge_17 (by decide) ?_
    exact r_i X hr hlk hw [] (fun _ => 0) rfl rfl (Or.inl (⟨Or.inl (h4), rfl⟩)) (by decide) (by decide) dX12_judge_19
  · skip
    rw [i64i] at h5
    rw [i64i] at h6
    refine lv_if_ne (tgt := 20) hx hb dX12_judge_14 (by decide) (fun _ => ?_) (fun h => absurd h (by decide))
    refine lv_aload_n hx hb dX12_judge_20 rfl (lv_at hl 0 rfl) ?_
    refine lv_iload_n hx hb dX12_judge_21 rfl (lv_at hl 1 rfl) ?_
    refine m_Vi (As := [.int p0]) (rest := []) (c106_X12_noTray l D ct a0 p0 a1 a2 a3 a4 a5 a6 a7 a8 a9 a10 a11 a12 a13 a14 a15 a16) X hl.1 kw_1806 kd_yX12_noTray hw [0, 1] [] rfl rfl rfl rfl (by decide) 0 rfl rfl ⟨by decide, by decide⟩ rfl rfl (Nat.le_of_ble_eq_true rfl) dX12_judge_22 ⟨by decide, by decide⟩ (fun r7 u8 H locs hr9 hw => ?_)
    replace hw : WD D A s.heap _ _ [(a0, .inr (12, [.int 0, .ref a1, .ref a2, .ref a3, .ref a4, .int 0, .int 0, .int 0, .int 0, .int 0, .int 0, .int 0, .int 0, .int 0, .int (-1), .ref a5, .ref a6, .ref a7, .ref a8, .int 0, .ref a9, .ref a10, .int 0, .int 0, .int 0, .ref a11, .ref a12, .ref a13, .ref a14, .ref a15, .ref a16])), (a14, .inl (ct 0, 4, .inl fx2))] := hw
    rcases hr9 with ⟨h10, rfl⟩ | ⟨h11, rfl⟩
    · skip
      refine lv_istore_n (lv' := [(3, .int (-2)), (0, .ref a0), (1, .int p0), (2, .int p1)]) hx hb dX12_judge_25 rfl hl (by decide) rfl (fun ls hl => ?_)
      refine lv_iload_n hx hb dX12_judge_26 rfl (lv_at hl 0 rfl) ?_
      refine lv_if_eq (tgt := 32) hx hb dX12_judge_27 (by decide) (fun h => absurd h (by decide)) (fun _ => ?_)
      refine lv_iload_n hx hb dX12_judge_30 rfl (lv_at hl 0 rfl) ?_
      exact r_i X hr hlk hw [] (fun _ => 0) rfl rfl (Or.inl (⟨Or.inr (⟨h5, h6, h10⟩), rfl⟩)) (by decide) (by decide) dX12_judge_31
    · skip
      refine lv_istore_n (lv' := [(3, .int (-6)), (0, .ref a0), (1, .int p0), (2, .int p1)]) hx hb dX12_judge_25 rfl hl (by decide) rfl (fun ls hl => ?_)
      refine lv_iload_n hx hb dX12_judge_26 rfl (lv_at hl 0 rfl) ?_
      refine lv_if_eq (tgt := 32) hx hb dX12_judge_27 (by decide) (fun h => absurd h (by decide)) (fun _ => ?_)
      refine lv_iload_n hx hb dX12_judge_30 rfl (lv_at hl 0 rfl) ?_
      exact r_i X hr hlk hw [] (fun _ => 0) rfl rfl (Or.inr (⟨⟨h5, h6, h11⟩, rfl⟩)) (by decide) (by decide) dX12_judge_31
set_option maxHeartbeats 4000000 in
set_option maxRecDepth 100000 in
theorem c108_X11_trayCode (l : Launch) (D : va_G) (ct : Nat → ClassId) (a0 : Nat) (p0 : Int32) (a1 : Nat) (a2 : Nat) (a3 : Nat) (a4 : Nat) (a5 : Nat) (a6 : Nat) (a7 : Nat) (a8 : Nat) (a9 : Nat) (a10 : Nat) (a11 : Nat) (a12 : Nat) (a13 : Nat) (a14 : Nat) (a15 : Nat) (a16 : Nat) (a17 : Nat) (a18 : Nat) (a19 : Nat) (a20 : Nat) (a21 : Nat) (a22 : Nat) (a23 : Nat) : CI l yX11_trayCode cX11_trayCode 2 (some .int) { frames := 1, cells := 0, slots := 0, locals := 20 } D ct [.ref a0, .int p0] [(a0, .inr (11, [.ref a1, .int 0, .ref a2, .ref a3, .ref a4, .ref a5, .ref a6, .ref a7, .ref a8, .ref a9, .ref a10, .ref a11, .ref a12, .ref a13, .ref a14, .ref a15, .int (-1), .int (-1)])), (a12, .inl (ct 5, 4, .inr (.inr (.inr (.inr (va_up (va_up (va_up (va_up (fun _ => none) 0 (some a16)) 1 (some a17)) 2 (some a18)) 3 (some a19))))))), (a16, .inr (10, [.int (-1), .ref a20, .int 0])), (a17, .inr (10, [.int (-1), .ref a21, .int 0])), (a18, .inr (10, [.int (-1), .ref a22, .int 0])), (a19, .inr (10, [.int (-1), .ref a23, .int 0]))] (fun r => (((p0.toInt < 0) ∨ (p0.toInt ≥ 0 ∧ p0.toInt ≥ 4))) ∧ r = (-2) ∨ ((p0.toInt ≥ 0 ∧ p0.toInt < 4 ∧ p0.toInt = 0) ∨ (p0.toInt ≥ 0 ∧ p0.toInt < 4 ∧ p0.toInt = 1) ∨ (p0.toInt ≥ 0 ∧ p0.toInt < 4 ∧ p0.toInt = 2) ∨ (p0.toInt ≥ 0 ∧ p0.toInt < 4 ∧ p0.toInt = 3)) ∧ r = (-6)) (fun u => []) := by
  refine CI.of (by decide +kernel) (Nat.le_of_ble_eq_true rfl) ?_
  intro p e s m below meth c A ls hE
  obtain ⟨X, hr, hlk, hnm, hw, hl⟩ := hE
  have X : CX p m c cX11_trayCode 2 s [.ref a0, .int p0].toArray RX11 D ct := X
  have hl : lv_has ls 2 [(0, .ref a0), (1, .int p0)] := hl
  obtain ⟨⟨hx, hb, hml, hown, hts⟩, hK⟩ := id X
  refine lv_iload_n hx hb dX11_trayCode_0 rfl (lv_at hl 1 rfl) ?_
  refine m_Si (As := [.int p0]) (rest := []) (c102_X11_isTray l D ct p0) X hl.1 kw_1071 kd_yX11_isTray hw [] [0, 1, 2, 3, 4, 5] rfl rfl rfl rfl (by decide) ⟨by decide, by decide⟩ rfl rfl (Nat.le_of_ble_eq_true rfl) dX11_trayCode_1 ⟨by decide, by decide⟩ (fun r1 u2 H locs hr3 hw => ?_)
  replace hw : WD D A s.heap _ _ [(a0, .inr (11, [.ref a1, .int 0, .ref a2, .ref a3, .ref a4, .ref a5, .ref a6, .ref a7, .ref a8, .ref a9, .ref a10, .ref a11, .ref a12, .ref a13, .ref a14, .ref a15, .int (-1), .int (-1)])), (a12, .inl (ct 5, 4, .inr (.inr (.inr (.inr (va_up (va_up (va_up (va_up (fun _ => none) 0 (some a16)) 1 (some a17)) 2 (some a18)) 3 (some a19))))))), (a16, .inr (10, [.int (-1), .ref a20, .int 0])), (a17, .inr (10, [.int (-1), .ref a21, .int 0])), (a18, .inr (10, [.int (-1), .ref a22, .int 0])), (a19, .inr (10, [.int (-1), .ref a23, .int 0]))] := hw
  rcases hr3 with ⟨h4, rfl⟩ | ⟨⟨h5, h6⟩, rfl⟩
  · skip
    refine lv_if_ne (tgt := 10) hx hb dX11_trayCode_4 (by decide) (fun h => absurd rfl h) (fun _ => ?_)
    refine lv_bipush (v := (-2)) hx hb dX11_trayCode_7 (by decide) ?_
    exact r_i X hr hlk hw [] (fun _ => 0) rfl rfl (Or.inl (⟨h4, rfl⟩)) (by decide) (by decide) dX11_trayCode_9
  · skip
    refine lv_if_ne (tgt := 10) hx hb dX11_trayCode_4 (by decide) (fun _ => ?_) (fun h => absurd h (by decide))
    refine lv_aload_n hx hb dX11_trayCode_10 rfl (lv_at hl 0 rfl) ?_
    refine fg_577 X hw 0 rfl rfl dX11_trayCode_11 ?_
    refine lv_iload_n hx hb dX11_trayCode_14 rfl (lv_at hl 1 rfl) ?_
    rcases (show p0.toInt = 0 ∨ p0.toInt = 1 ∨ p0.toInt = 2 ∨ p0.toInt = 3 by omega) with e7 | e7 | e7 | e7
    · skip
      obtain rfl : p0 = 0 := i32_of e7
      refine j_aldq (j := 0) (v := .ref a16) X hw 1 5 rfl rfl (by decide) (by decide) (by decide) rfl dX11_trayCode_15 ?_
      refine m_Vi (As := []) (rest := []) (c103_X10_isMissing l D ct a16 a20) X hl.1 kw_1074 kd_yX10_isMissing hw [2] [0, 1, 3, 4, 5] rfl rfl rfl rfl (by decide) 0 rfl rfl ⟨by decide, by decide⟩ rfl rfl (Nat.le_of_ble_eq_true rfl) dX11_trayCode_16 ⟨by decide, by decide⟩ (fun r8 u9 H locs hr10 hw => ?_)
      replace hw : WD D A s.heap _ _ [(a0, .inr (11, [.ref a1, .int 0, .ref a2, .ref a3, .ref a4, .ref a5, .ref a6, .ref a7, .ref a8, .ref a9, .ref a10, .ref a11, .ref a12, .ref a13, .ref a14, .ref a15, .int (-1), .int (-1)])), (a12, .inl (ct 5, 4, .inr (.inr (.inr (.inr (va_up (va_up (va_up (va_up (fun _ => none) 0 (some a16)) 1 (some a17)) 2 (some a18)) 3 (some a19))))))), (a17, .inr (10, [.int (-1), .ref a21, .int 0])), (a18, .inr (10, [.int (-1), .ref a22, .int 0])), (a19, .inr (10, [.int (-1), .ref a23, .int 0])), (a16, .inr (10, [.int (-1), .ref a20, .int 0]))] := hw
      subst hr10
      refine lv_if_eq (tgt := 27) hx hb dX11_trayCode_19 (by decide) (fun h => absurd h (by decide)) (fun _ => ?_)
      refine lv_bipush (v := (-6)) hx hb dX11_trayCode_22 (by decide) ?_
      refine lv_goto (tgt := 28) hx hb dX11_trayCode_24 (by decide) ?_
      exact r_i X hr hlk hw [] (fun _ => 0) rfl rfl (Or.inr (⟨Or.inl (⟨h5, h6, e7⟩), rfl⟩)) (by decide) (by decide) dX11_trayCode_28
    · skip
      obtain rfl : p0 = 1 := i32_of e7
      refine j_aldq (j := 1) (v := .ref a17) X hw 1 5 rfl rfl (by decide) (by decide) (by decide) rfl dX11_trayCode_15 ?_
      refine m_Vi (As := []) (rest := []) (c103_X10_isMissing l D ct a17 a21) X hl.1 kw_1074 kd_yX10_isMissing hw [3] [0, 1, 2, 4, 5] rfl rfl rfl rfl (by decide) 0 rfl rfl ⟨by decide, by decide⟩ rfl rfl (Nat.le_of_ble_eq_true rfl) dX11_trayCode_16 ⟨by decide, by decide⟩ (fun r11 u12 H locs hr13 hw => ?_)
      replace hw : WD D A s.heap _ _ [(a0, .inr (11, [.ref a1, .int 0, .ref a2, .ref a3, .ref a4, .ref a5, .ref a6, .ref a7, .ref a8, .ref a9, .ref a10, .ref a11, .ref a12, .ref a13, .ref a14, .ref a15, .int (-1), .int (-1)])), (a12, .inl (ct 5, 4, .inr (.inr (.inr (.inr (va_up (va_up (va_up (va_up (fun _ => none) 0 (some a16)) 1 (some a17)) 2 (some a18)) 3 (some a19))))))), (a16, .inr (10, [.int (-1), .ref a20, .int 0])), (a18, .inr (10, [.int (-1), .ref a22, .int 0])), (a19, .inr (10, [.int (-1), .ref a23, .int 0])), (a17, .inr (10, [.int (-1), .ref a21, .int 0]))] := hw
      subst hr13
      refine lv_if_eq (tgt := 27) hx hb dX11_trayCode_19 (by decide) (fun h => absurd h (by decide)) (fun _ => ?_)
      refine lv_bipush (v := (-6)) hx hb dX11_trayCode_22 (by decide) ?_
      refine lv_goto (tgt := 28) hx hb dX11_trayCode_24 (by decide) ?_
      exact r_i X hr hlk hw [] (fun _ => 0) rfl rfl (Or.inr (⟨Or.inr (Or.inl (⟨h5, h6, e7⟩)), rfl⟩)) (by decide) (by decide) dX11_trayCode_28
    · skip
      obtain rfl : p0 = 2 := i32_of e7
      refine j_aldq (j := 2) (v := .ref a18) X hw 1 5 rfl rfl (by decide) (by decide) (by decide) rfl dX11_trayCode_15 ?_
      refine m_Vi (As := []) (rest := []) (c103_X10_isMissing l D ct a18 a22) X hl.1 kw_1074 kd_yX10_isMissing hw [4] [0, 1, 2, 3, 5] rfl rfl rfl rfl (by decide) 0 rfl rfl ⟨by decide, by decide⟩ rfl rfl (Nat.le_of_ble_eq_true rfl) dX11_trayCode_16 ⟨by decide, by decide⟩ (fun r14 u15 H locs hr16 hw => ?_)
      replace hw : WD D A s.heap _ _ [(a0, .inr (11, [.ref a1, .int 0, .ref a2, .ref a3, .ref a4, .ref a5, .ref a6, .ref a7, .ref a8, .ref a9, .ref a10, .ref a11, .ref a12, .ref a13, .ref a14, .ref a15, .int (-1), .int (-1)])), (a12, .inl (ct 5, 4, .inr (.inr (.inr (.inr (va_up (va_up (va_up (va_up (fun _ => none) 0 (some a16)) 1 (some a17)) 2 (some a18)) 3 (some a19))))))), (a16, .inr (10, [.int (-1), .ref a20, .int 0])), (a17, .inr (10, [.int (-1), .ref a21, .int 0])), (a19, .inr (10, [.int (-1), .ref a23, .int 0])), (a18, .inr (10, [.int (-1), .ref a22, .int 0]))] := hw
      subst hr16
      refine lv_if_eq (tgt := 27) hx hb dX11_trayCode_19 (by decide) (fun h => absurd h (by decide)) (fun _ => ?_)
      refine lv_bipush (v := (-6)) hx hb dX11_trayCode_22 (by decide) ?_
      refine lv_goto (tgt := 28) hx hb dX11_trayCode_24 (by decide) ?_
      exact r_i X hr hlk hw [] (fun _ => 0) rfl rfl (Or.inr (⟨Or.inr (Or.inr (Or.inl (⟨h5, h6, e7⟩))), rfl⟩)) (by decide) (by decide) dX11_trayCode_28
    · skip
      obtain rfl : p0 = 3 := i32_of e7
      refine j_aldq (j := 3) (v := .ref a19) X hw 1 5 rfl rfl (by decide) (by decide) (by decide) rfl dX11_trayCode_15 ?_
      refine m_Vi (As := []) (rest := []) (c103_X10_isMissing l D ct a19 a23) X hl.1 kw_1074 kd_yX10_isMissing hw [5] [0, 1, 2, 3, 4] rfl rfl rfl rfl (by decide) 0 rfl rfl ⟨by decide, by decide⟩ rfl rfl (Nat.le_of_ble_eq_true rfl) dX11_trayCode_16 ⟨by decide, by decide⟩ (fun r17 u18 H locs hr19 hw => ?_)
      replace hw : WD D A s.heap _ _ [(a0, .inr (11, [.ref a1, .int 0, .ref a2, .ref a3, .ref a4, .ref a5, .ref a6, .ref a7, .ref a8, .ref a9, .ref a10, .ref a11, .ref a12, .ref a13, .ref a14, .ref a15, .int (-1), .int (-1)])), (a12, .inl (ct 5, 4, .inr (.inr (.inr (.inr (va_up (va_up (va_up (va_up (fun _ => none) 0 (some a16)) 1 (some a17)) 2 (some a18)) 3 (some a19))))))), (a16, .inr (10, [.int (-1), .ref a20, .int 0])), (a17, .inr (10, [.int (-1), .ref a21, .int 0])), (a18, .inr (10, [.int (-1), .ref a22, .int 0])), (a19, .inr (10, [.int (-1), .ref a23, .int 0]))] := hw
      subst hr19
      refine lv_if_eq (tgt := 27) hx hb dX11_trayCode_19 (by decide) (fun h => absurd h (by decide)) (fun _ => ?_)
      refine lv_bipush (v := (-6)) hx hb dX11_trayCode_22 (by decide) ?_
      refine lv_goto (tgt := 28) hx hb dX11_trayCode_24 (by decide) ?_
      exact r_i X hr hlk hw [] (fun _ => 0) rfl rfl (Or.inr (⟨Or.inr (Or.inr (Or.inr (⟨h5, h6, e7⟩))), rfl⟩)) (by decide) (by decide) dX11_trayCode_28
set_option maxHeartbeats 4000000 in
set_option maxRecDepth 100000 in
theorem c109_X11_perform (l : Launch) (D : va_G) (ct : Nat → ClassId) (a0 : Nat) (p0 : Int32) (a1 : Nat) (a2 : Nat) (a3 : Nat) (a4 : Nat) (a5 : Nat) (a6 : Nat) (a7 : Nat) (a8 : Nat) (a9 : Nat) (a10 : Nat) (a11 : Nat) (a12 : Nat) (a13 : Nat) (a14 : Nat) (a15 : Nat) (a16 : Nat) (a17 : Nat) (a18 : Nat) (a19 : Nat) (a20 : Nat) (a21 : Nat) (a22 : Nat) (a23 : Nat) : CI l yX11_perform cX11_perform 4 (some .int) { frames := 2, cells := 0, slots := 0, locals := 41 } D ct [.ref a0, .int p0] [(a0, .inr (11, [.ref a1, .int 0, .ref a2, .ref a3, .ref a4, .ref a5, .ref a6, .ref a7, .ref a8, .ref a9, .ref a10, .ref a11, .ref a12, .ref a13, .ref a14, .ref a15, .int (-1), .int (-1)])), (a12, .inl (ct 5, 4, .inr (.inr (.inr (.inr (va_up (va_up (va_up (va_up (fun _ => none) 0 (some a16)) 1 (some a17)) 2 (some a18)) 3 (some a19))))))), (a16, .inr (10, [.int (-1), .ref a20, .int 0])), (a17, .inr (10, [.int (-1), .ref a21, .int 0])), (a18, .inr (10, [.int (-1), .ref a22, .int 0])), (a19, .inr (10, [.int (-1), .ref a23, .int 0]))] (fun r => (((p0.toInt < 0) ∨ (p0.toInt ≥ 0 ∧ p0.toInt ≥ 4))) ∧ r = (-2) ∨ (((p0.toInt ≥ 0 ∧ p0.toInt < 4 ∧ p0.toInt = 0) ∨ (p0.toInt ≥ 0 ∧ p0.toInt < 4 ∧ p0.toInt = 1) ∨ (p0.toInt ≥ 0 ∧ p0.toInt < 4 ∧ p0.toInt = 2) ∨ (p0.toInt ≥ 0 ∧ p0.toInt < 4 ∧ p0.toInt = 3))) ∧ r = (-6)) (fun u => []) := by
  refine CI.of (by decide +kernel) (Nat.le_of_ble_eq_true rfl) ?_
  intro p e s m below meth c A ls hE
  obtain ⟨X, hr, hlk, hnm, hw, hl⟩ := hE
  have X : CX p m c cX11_perform 4 s [.ref a0, .int p0].toArray RX11 D ct := X
  have hl : lv_has ls 4 [(0, .ref a0), (1, .int p0)] := hl
  obtain ⟨⟨hx, hb, hml, hown, hts⟩, hK⟩ := id X
  refine lv_aload_n hx hb dX11_perform_0 rfl (lv_at hl 0 rfl) ?_
  refine lv_iload_n hx hb dX11_perform_1 rfl (lv_at hl 1 rfl) ?_
  refine m_Vi (As := [.int p0]) (rest := []) (c108_X11_trayCode l D ct a0 p0 a1 a2 a3 a4 a5 a6 a7 a8 a9 a10 a11 a12 a13 a14 a15 a16 a17 a18 a19 a20 a21 a22 a23) X hl.1 kw_1111 kd_yX11_trayCode hw [0, 1, 2, 3, 4, 5] [] rfl rfl rfl rfl (by decide) 0 rfl rfl ⟨by decide, by decide⟩ rfl rfl (Nat.le_of_ble_eq_true rfl) dX11_perform_2 ⟨by decide, by decide⟩ (fun r1 u2 H locs hr3 hw => ?_)
  replace hw : WD D A s.heap _ _ [] := hw
  rcases hr3 with ⟨h4, rfl⟩ | ⟨h5, rfl⟩
  · skip
    refine lv_istore_n (lv' := [(2, .int (-2)), (0, .ref a0), (1, .int p0)]) hx hb dX11_perform_5 rfl hl (by decide) rfl (fun ls hl => ?_)
    refine lv_iload_n hx hb dX11_perform_6 rfl (lv_at hl 0 rfl) ?_
    refine lv_if_eq (tgt := 12) hx hb dX11_perform_7 (by decide) (fun h => absurd h (by decide)) (fun _ => ?_)
    refine lv_iload_n hx hb dX11_perform_10 rfl (lv_at hl 0 rfl) ?_
    exact r_i X hr hlk hw [] (fun _ => 0) rfl rfl (Or.inl (⟨h4, rfl⟩)) (by decide) (by decide) dX11_perform_11
  · skip
    refine lv_istore_n (lv' := [(2, .int (-6)), (0, .ref a0), (1, .int p0)]) hx hb dX11_perform_5 rfl hl (by decide) rfl (fun ls hl => ?_)
    refine lv_iload_n hx hb dX11_perform_6 rfl (lv_at hl 0 rfl) ?_
    refine lv_if_eq (tgt := 12) hx hb dX11_perform_7 (by decide) (fun h => absurd h (by decide)) (fun _ => ?_)
    refine lv_iload_n hx hb dX11_perform_10 rfl (lv_at hl 0 rfl) ?_
    exact r_i X hr hlk hw [] (fun _ => 0) rfl rfl (Or.inr (⟨h5, rfl⟩)) (by decide) (by decide) dX11_perform_11
set_option maxHeartbeats 4000000 in
set_option maxRecDepth 100000 in
theorem c110_X12_perform (l : Launch) (D : va_G) (ct : Nat → ClassId) (a0 : Nat) (p0 : Int32) (a1 : Nat) (a2 : Nat) (a3 : Nat) (a4 : Nat) (a5 : Nat) (a6 : Nat) (a7 : Nat) (a8 : Nat) (a9 : Nat) (a10 : Nat) (a11 : Nat) (a12 : Nat) (a13 : Nat) (a14 : Nat) (a15 : Nat) (a16 : Nat) : CI l yX12_perform cX12_perform 4 (some .int) { frames := 2, cells := 0, slots := 0, locals := 46 } D ct [.ref a0, .int p0] [(a0, .inr (12, [.int 0, .ref a1, .ref a2, .ref a3, .ref a4, .int 0, .int 0, .int 0, .int 0, .int 0, .int 0, .int 0, .int 0, .int 0, .int (-1), .ref a5, .ref a6, .ref a7, .ref a8, .int 0, .ref a9, .ref a10, .int 0, .int 0, .int 0, .ref a11, .ref a12, .ref a13, .ref a14, .ref a15, .ref a16])), (a14, .inl (ct 0, 4, .inl fx2))] (fun r => (((p0.toInt < 0) ∨ (p0.toInt ≥ 0 ∧ p0.toInt > 3))) ∧ r = (-2) ∨ (((p0.toInt ≥ 0 ∧ p0.toInt ≤ 3 ∧ p0.toInt = 0) ∨ (p0.toInt ≥ 0 ∧ p0.toInt ≤ 3 ∧ p0.toInt = 1) ∨ (p0.toInt ≥ 0 ∧ p0.toInt ≤ 3 ∧ p0.toInt = 2) ∨ (p0.toInt ≥ 0 ∧ p0.toInt ≤ 3 ∧ p0.toInt = 3))) ∧ r = (-6)) (fun u => []) := by
  refine CI.of (by decide +kernel) (Nat.le_of_ble_eq_true rfl) ?_
  intro p e s m below meth c A ls hE
  obtain ⟨X, hr, hlk, hnm, hw, hl⟩ := hE
  have X : CX p m c cX12_perform 4 s [.ref a0, .int p0].toArray RX12 D ct := X
  have hl : lv_has ls 4 [(0, .ref a0), (1, .int p0)] := hl
  obtain ⟨⟨hx, hb, hml, hown, hts⟩, hK⟩ := id X
  refine lv_aload_n hx hb dX12_perform_0 rfl (lv_at hl 0 rfl) ?_
  refine lv_iconst (v := 0) hx hb dX12_perform_1 (by decide) ?_
  refine fp_1442 X hw 0 rfl rfl rfl (Nat.le_of_ble_eq_true rfl) dX12_perform_2 [(a0, .inr (12, [.int 0, .ref a1, .ref a2, .ref a3, .ref a4, .int 0, .int 0, .int 0, .int 0, .int 0, .int 0, .int 0, .int 0, .int 0, .int (-1), .ref a5, .ref a6, .ref a7, .ref a8, .int 0, .ref a9, .ref a10, .int 0, .int 0, .int 0, .ref a11, .ref a12, .ref a13, .ref a14, .ref a15, .ref a16])), (a14, .inl (ct 0, 4, .inl fx2))] rfl (fun H locs hw => ?_)
  refine lv_aload_n hx hb dX12_perform_5 rfl (lv_at hl 0 rfl) ?_
  refine lv_iload_n hx hb dX12_perform_6 rfl (lv_at hl 1 rfl) ?_
  refine m_Vi (As := [.int p0]) (rest := []) (c106_X12_noTray l D ct a0 p0 a1 a2 a3 a4 a5 a6 a7 a8 a9 a10 a11 a12 a13 a14 a15 a16) X hl.1 kw_1806 kd_yX12_noTray hw [0, 1] [] rfl rfl rfl rfl (by decide) 0 rfl rfl ⟨by decide, by decide⟩ rfl rfl (Nat.le_of_ble_eq_true rfl) dX12_perform_7 ⟨by decide, by decide⟩ (fun r1 u2 H locs hr3 hw => ?_)
  replace hw : WD D A s.heap _ _ [(a0, .inr (12, [.int 0, .ref a1, .ref a2, .ref a3, .ref a4, .int 0, .int 0, .int 0, .int 0, .int 0, .int 0, .int 0, .int 0, .int 0, .int (-1), .ref a5, .ref a6, .ref a7, .ref a8, .int 0, .ref a9, .ref a10, .int 0, .int 0, .int 0, .ref a11, .ref a12, .ref a13, .ref a14, .ref a15, .ref a16])), (a14, .inl (ct 0, 4, .inl fx2))] := hw
  rcases hr3 with ⟨h4, rfl⟩ | ⟨h5, rfl⟩
  · skip
    refine lv_istore_n (lv' := [(2, .int (-2)), (0, .ref a0), (1, .int p0)]) hx hb dX12_perform_10 rfl hl (by decide) rfl (fun ls hl => ?_)
    refine lv_iload_n hx hb dX12_perform_11 rfl (lv_at hl 0 rfl) ?_
    refine lv_if_eq (tgt := 17) hx hb dX12_perform_12 (by decide) (fun h => absurd h (by decide)) (fun _ => ?_)
    refine lv_iload_n hx hb dX12_perform_15 rfl (lv_at hl 0 rfl) ?_
    exact r_i X hr hlk hw [] (fun _ => 0) rfl rfl (Or.inl (⟨h4, rfl⟩)) (by decide) (by decide) dX12_perform_16
  · skip
    refine lv_istore_n (lv' := [(2, .int (-6)), (0, .ref a0), (1, .int p0)]) hx hb dX12_perform_10 rfl hl (by decide) rfl (fun ls hl => ?_)
    refine lv_iload_n hx hb dX12_perform_11 rfl (lv_at hl 0 rfl) ?_
    refine lv_if_eq (tgt := 17) hx hb dX12_perform_12 (by decide) (fun h => absurd h (by decide)) (fun _ => ?_)
    refine lv_iload_n hx hb dX12_perform_15 rfl (lv_at hl 0 rfl) ?_
    exact r_i X hr hlk hw [] (fun _ => 0) rfl rfl (Or.inr (⟨h5, rfl⟩)) (by decide) (by decide) dX12_perform_16
set_option maxHeartbeats 4000000 in
set_option maxRecDepth 100000 in
theorem c111_X11_year (l : Launch) (D : va_G) (ct : Nat → ClassId) (a0 : Nat) (p0 : Int32) (p1 : Int32) (a1 : Nat) (a2 : Nat) (a3 : Nat) (a4 : Nat) (a5 : Nat) (a6 : Nat) (a7 : Nat) (a8 : Nat) (a9 : Nat) (a10 : Nat) (a11 : Nat) (a12 : Nat) (a13 : Nat) (a14 : Nat) (a15 : Nat) (a16 : Nat) (a17 : Nat) (a18 : Nat) (a19 : Nat) : CI l yX11_year cX11_year 4 (some .int) { frames := 0, cells := 0, slots := 0, locals := 0 } D ct [.ref a0, .int p0, .int p1] [(a0, .inr (11, [.ref a1, .int 0, .ref a2, .ref a3, .ref a4, .ref a5, .ref a6, .ref a7, .ref a8, .ref a9, .ref a10, .ref a11, .ref a12, .ref a13, .ref a14, .ref a15, .int (-1), .int (-1)])), (a2, .inr (2, [.int 0, .int 0, .int 0, .ref a16, .ref a17, .ref a18, .int 0, .int 0, .int 0, .int 0, .int 0, .ref a19, .int 0]))] (fun r => ((p1.toInt < 1) ∨ (p1.toInt ≥ 1 ∧ p1.toInt > 30)) ∧ r = (-3) ∨ (p1.toInt ≥ 1 ∧ p1.toInt ≤ 30) ∧ r = (-5)) (fun u => []) := by
  refine CI.of (by decide +kernel) (Nat.le_of_ble_eq_true rfl) ?_
  intro p e s m below meth c A ls hE
  obtain ⟨X, hr, hlk, hnm, hw, hl⟩ := hE
  have X : CX p m c cX11_year 4 s [.ref a0, .int p0, .int p1].toArray RX11 D ct := X
  have hl : lv_has ls 4 [(0, .ref a0), (1, .int p0), (2, .int p1)] := hl
  obtain ⟨⟨hx, hb, hml, hown, hts⟩, hK⟩ := id X
  refine lv_iload_n hx hb dX11_year_0 rfl (lv_at hl 2 rfl) ?_
  refine lv_iconst (v := 1) hx hb dX11_year_1 (by decide) ?_
  refine lv_icmp_lt (tgt := 11) hx hb dX11_year_2 (by decide) (fun h1 => ?_) (fun h1 => ?_)
  · have h1 : p1.toInt < 1 := by have q := ci_lt (a := p1.toInt) (b := 1) rfl (by decide) h1; omega
    refine lv_bipush (v := (-3)) hx hb dX11_year_11 (by decide) ?_
    exact r_i X hr hlk hw [] (fun _ => 0) rfl rfl (Or.inl (⟨Or.inl (h1), rfl⟩)) (by decide) (by decide) dX11_year_13
  · have h1 : p1.toInt ≥ 1 := by have q := ci_nlt (a := p1.toInt) (b := 1) rfl (by decide) h1; omega
    refine lv_iload_n hx hb dX11_year_5 rfl (lv_at hl 2 rfl) ?_
    refine lv_bipush (v := 30) hx hb dX11_year_6 (by decide) ?_
    refine lv_icmp_le (tgt := 14) hx hb dX11_year_8 (by decide) (fun h2 => ?_) (fun h2 => ?_)
    · have h2 : p1.toInt ≤ 30 := by have q := ci_le (a := p1.toInt) (b := 30) rfl (by decide) h2; omega
      refine lv_aload_n hx hb dX11_year_14 rfl (lv_at hl 0 rfl) ?_
      refine fg_567 X hw 0 rfl rfl dX11_year_15 ?_
      refine fg_217 X hw 1 rfl rfl dX11_year_18 ?_
      refine lv_if_eq (tgt := 34) hx hb dX11_year_21 (by decide) (fun _ => ?_) (fun h => absurd (by decide) h)
      refine lv_bipush (v := (-5)) hx hb dX11_year_34 (by decide) ?_
      exact r_i X hr hlk hw [] (fun _ => 0) rfl rfl (Or.inr (⟨⟨h1, h2⟩, rfl⟩)) (by decide) (by decide) dX11_year_36
    · have h2 : p1.toInt > 30 := by have q := ci_nle (a := p1.toInt) (b := 30) rfl (by decide) h2; omega
      refine lv_bipush (v := (-3)) hx hb dX11_year_11 (by decide) ?_
      exact r_i X hr hlk hw [] (fun _ => 0) rfl rfl (Or.inl (⟨Or.inr (⟨h1, h2⟩), rfl⟩)) (by decide) (by decide) dX11_year_13
set_option maxHeartbeats 4000000 in
set_option maxRecDepth 100000 in
theorem c112_X12_within (l : Launch) (D : va_G) (ct : Nat → ClassId) (w0 : Int64) : CI l yX12_within cX12_within 6 (some .boolean) { frames := 0, cells := 0, slots := 0, locals := 0 } D ct [.long w0, .long 1, .long 30] [] (fun r => ((w0.toInt < 1) ∨ (w0.toInt ≥ 1 ∧ w0.toInt > 30)) ∧ r = 0 ∨ (w0.toInt ≥ 1 ∧ w0.toInt ≤ 30) ∧ r = 1) (fun u => []) := by
  refine CI.of (by decide +kernel) (Nat.le_of_ble_eq_true rfl) ?_
  intro p e s m below meth c A ls hE
  obtain ⟨X, hr, hlk, hnm, hw, hl⟩ := hE
  have X : CX p m c cX12_within 6 s [.long w0, .long 1, .long 30].toArray RX12 D ct := X
  have hl : lv_has ls 6 [(0, .long w0), (2, .long 1), (4, .long 30)] := hl
  obtain ⟨⟨hx, hb, hml, hown, hts⟩, hK⟩ := id X
  refine lv_lload_n hx hb dX12_within_0 rfl (lv_at hl 0 rfl) ?_
  refine lv_lload_n hx hb dX12_within_1 rfl (lv_at hl 1 rfl) ?_
  refine W.lcmp hx hb dX12_within_2 ?_
  refine lv_if_lt (tgt := 17) hx hb dX12_within_3 (by decide) (fun h1 => ?_) (fun h1 => ?_)
  · have h1 : w0.toInt < 1 := by have q := cl_lt (a := w0.toInt) (b := 1) rfl (by decide) h1; omega
    refine lv_iconst (v := 0) hx hb dX12_within_17 (by decide) ?_
    exact r_z X hr hlk hw [] (fun _ => 0) rfl rfl (Or.inl (⟨Or.inl (h1), rfl⟩)) (by decide) (by decide) (by decide) dX12_within_18
  · have h1 : w0.toInt ≥ 1 := by have q := cl_nlt (a := w0.toInt) (b := 1) rfl (by decide) h1; omega
    refine lv_lload_n hx hb dX12_within_6 rfl (lv_at hl 0 rfl) ?_
    refine lv_lload hx hb dX12_within_7 (lv_at hl 2 rfl) ?_
    refine W.lcmp hx hb dX12_within_9 ?_
    refine lv_if_gt (tgt := 17) hx hb dX12_within_10 (by decide) (fun h2 => ?_) (fun h2 => ?_)
    · have h2 : w0.toInt > 30 := by have q := cl_gt (a := w0.toInt) (b := 30) rfl (by decide) h2; omega
      refine lv_iconst (v := 0) hx hb dX12_within_17 (by decide) ?_
      exact r_z X hr hlk hw [] (fun _ => 0) rfl rfl (Or.inl (⟨Or.inr (⟨h1, h2⟩), rfl⟩)) (by decide) (by decide) (by decide) dX12_within_18
    · have h2 : w0.toInt ≤ 30 := by have q := cl_ngt (a := w0.toInt) (b := 30) rfl (by decide) h2; omega
      refine lv_iconst (v := 1) hx hb dX12_within_13 (by decide) ?_
      refine lv_goto (tgt := 18) hx hb dX12_within_14 (by decide) ?_
      exact r_z X hr hlk hw [] (fun _ => 0) rfl rfl (Or.inr (⟨⟨h1, h2⟩, rfl⟩)) (by decide) (by decide) (by decide) dX12_within_18
