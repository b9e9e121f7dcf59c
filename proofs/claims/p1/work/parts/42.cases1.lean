set_option maxHeartbeats 4000000 in
set_option maxRecDepth 100000 in
theorem law_24 {p : Program} {l : Launch} {e : Env} {s : State} {m : MethodId} {below : List Frame} {meth : Method} {c : Code} {H : Heap} {locs : List Loc} {D : va_G} {ct : Nat → ClassId} {A : Nat → Prop} {ls : Array Slot} {b : Nat} {qx qm : Nat} {ux um : Nat → Nat} {xs : Nat → Int32} (C0 : lw_At p s m meth c b 6 xs) (hK0 : KK D ct s) (hA0 : ∀ q, A q → s.heap.size ≤ q) (hw : WD D A s.heap H locs (xWd ct qx ux ++ mWd ct qm um)) (hl : lv_has ls 4 [(3, .int 0), (2, .ref qm), (1, .ref qx), (0, .ref b)]) : W p l e room_1 s m #[Value.ref b] below meth c H locs 126 76620 (lw_Z below #[Value.ref b] s) (F0 m 908 ls []) := by
  obtain ⟨hx, hb, hr, hml, hown, hts0, hX, hbl, hlocks, hgv⟩ := id C0
  have hts := tb_hts hts0
  have hK := hK0
  have X : CX p m c cL_law 4 s #[Value.ref b] RL D ct := ⟨⟨hx, hb, hml, hown, hts⟩, hK0⟩
  have hbA : ¬ A b := fun h => absurd (hA0 _ h) (Nat.not_le.mpr hbl)
  refine lv_aload_n hx hb dL_law_908 rfl (lv_at hl 2 rfl) ?_
  refine lv_aload_n hx hb dL_law_909 rfl (lv_at hl 3 rfl) ?_
  refine lv_iload_n hx hb dL_law_910 rfl (lv_at hl 0 rfl) ?_
  refine lv_iconst (v := 1) hx hb dL_law_911 (by decide) ?_
  refine kv_iadd (v := 1) hx hb (by decide) dL_law_912 ?_
  refine j_sld (j := 1) hx hb hX hbl hbA hw (by decide) (by decide) (by decide) dL_law_913 ?_
  refine lv_aload_n hx hb dL_law_914 rfl (lv_at hl 3 rfl) ?_
  refine lv_iload_n hx hb dL_law_915 rfl (lv_at hl 0 rfl) ?_
  refine lv_iconst (v := 2) hx hb dL_law_916 (by decide) ?_
  refine kv_iadd (v := 2) hx hb (by decide) dL_law_917 ?_
  refine j_sld (j := 2) hx hb hX hbl hbA hw (by decide) (by decide) (by decide) dL_law_918 ?_
  refine m_Vi (As := [.int (xs 1), .int (xs 2)]) (rest := []) (c130_X11_sure l D ct qx ((xs 1)) ((xs 2)) ((ux 0)) ((ux 1)) ((ux 9)) ((ux 19)) ((ux 24)) ((ux 30)) ((ux 33)) ((ux 39)) ((ux 48)) ((ux 50)) ((ux 56)) ((ux 60)) ((ux 61)) ((ux 62)) ((ux 63)) ((ux 2)) ((ux 3)) ((ux 4)) ((ux 5))) X hl.1 kw_1193 kd_yX11_sure hw [0, 2] [73, 74, 75, 76, 77, 78, 79, 80, 81, 82, 83, 84, 85, 86, 87, 88, 89] rfl rfl rfl rfl (by decide) 0 rfl rfl ⟨by decide, by decide⟩ rfl rfl (Nat.le_of_ble_eq_true rfl) dL_law_919 ⟨by decide, by decide⟩ (fun r1 u2 H locs hr3 hw => ?_)
  replace hw : WD D A s.heap _ _ (mWd ct qm um) := hw
  subst hr3
  refine lv_aload_n hx hb dL_law_922 rfl (lv_at hl 1 rfl) ?_
  refine lv_aload_n hx hb dL_law_923 rfl (lv_at hl 3 rfl) ?_
  refine lv_iload_n hx hb dL_law_924 rfl (lv_at hl 0 rfl) ?_
  refine lv_iconst (v := 1) hx hb dL_law_925 (by decide) ?_
  refine kv_iadd (v := 1) hx hb (by decide) dL_law_926 ?_
  refine j_sld (j := 1) hx hb hX hbl hbA hw (by decide) (by decide) (by decide) dL_law_927 ?_
  refine lv_aload_n hx hb dL_law_928 rfl (lv_at hl 3 rfl) ?_
  refine lv_iload_n hx hb dL_law_929 rfl (lv_at hl 0 rfl) ?_
  refine lv_iconst (v := 2) hx hb dL_law_930 (by decide) ?_
  refine kv_iadd (v := 2) hx hb (by decide) dL_law_931 ?_
  refine j_sld (j := 2) hx hb hX hbl hbA hw (by decide) (by decide) (by decide) dL_law_932 ?_
  refine m_Vi (As := [.int (xs 1), .int (xs 2)]) (rest := [.int (-2)]) (c131_X12_sure l D ct qm ((xs 1)) ((xs 2)) ((um 15)) ((um 0)) ((um 1)) ((um 2)) ((um 3)) ((um 4)) ((um 5)) ((um 6)) ((um 7)) ((um 8)) ((um 9)) ((um 10)) ((um 11)) ((um 12)) ((um 13)) ((um 14))) X hl.1 kw_1890 kd_yX12_sure hw [0, 16] [1, 2, 3, 4, 5, 6, 7, 8, 9, 10, 11, 12, 13, 14, 15] rfl rfl rfl rfl (by decide) 0 rfl rfl ⟨by decide, by decide⟩ rfl rfl (Nat.le_of_ble_eq_true rfl) dL_law_933 ⟨by decide, by decide⟩ (fun r4 u5 H locs hr6 hw => ?_)
  replace hw : WD D A s.heap _ _ [((um 0), .inl (ct 3, 2, .inl (fun _ => 0))), ((um 1), .inl (ct 0, 900, .inl (fun _ => 0))), ((um 2), .inl (ct 0, 1770, .inl (fun _ => 0))), ((um 3), .inl (ct 0, 900, .inl (fun _ => 0))), ((um 4), .inl (ct 0, 7, .inl (fun _ => 0))), ((um 5), .inl (ct 0, 56, .inl (fun _ => 0))), ((um 6), .inl (ct 0, 40320, .inl (fun _ => 0))), ((um 7), .inl (ct 0, 72, .inl (fun _ => 0))), ((um 8), .inl (ct 0, 7, .inl (fun _ => 0))), ((um 9), .inl (ct 0, 21870, .inl (fun _ => 0))), ((um 10), .inl (ct 0, 7, .inl fx1)), ((um 11), .inl (ct 0, 8, .inl (fun _ => 0))), ((um 12), .inl (ct 0, 4, .inl fx2)), ((um 13), .inl (ct 0, 4, .inl (fun _ => 0))), ((um 14), .inl (ct 2, 160, .inr (.inl (fun _ => 0))))] := hw
  subst hr6
  refine lv_icmp_eq (tgt := 1468) hx hb dL_law_936 (by decide) (fun _ => ?_) (fun h => absurd (by decide) h)
  exact law_end C0 hA0 hw (lv_sub hl [0, 1, 2, 3] rfl) (by decide) (by decide)
set_option maxHeartbeats 4000000 in
set_option maxRecDepth 100000 in
theorem law_25 {p : Program} {l : Launch} {e : Env} {s : State} {m : MethodId} {below : List Frame} {meth : Method} {c : Code} {H : Heap} {locs : List Loc} {D : va_G} {ct : Nat → ClassId} {A : Nat → Prop} {ls : Array Slot} {b : Nat} {qx qm : Nat} {ux um : Nat → Nat} {xs : Nat → Int32} (C0 : lw_At p s m meth c b 6 xs) (hK0 : KK D ct s) (hA0 : ∀ q, A q → s.heap.size ≤ q) (hw : WD D A s.heap H locs (xWd ct qx ux ++ mWd ct qm um)) (hl : lv_has ls 4 [(3, .int 0), (2, .ref qm), (1, .ref qx), (0, .ref b)]) : W p l e room_1 s m #[Value.ref b] below meth c H locs 126 76620 (lw_Z below #[Value.ref b] s) (F0 m 941 ls []) := by
  obtain ⟨hx, hb, hr, hml, hown, hts0, hX, hbl, hlocks, hgv⟩ := id C0
  have hts := tb_hts hts0
  have hK := hK0
  have X : CX p m c cL_law 4 s #[Value.ref b] RL D ct := ⟨⟨hx, hb, hml, hown, hts⟩, hK0⟩
  have hbA : ¬ A b := fun h => absurd (hA0 _ h) (Nat.not_le.mpr hbl)
  refine lv_aload_n hx hb dL_law_941 rfl (lv_at hl 2 rfl) ?_
  refine m_Vi (As := []) (rest := []) (c132_X11_tooMany l D ct qx ((ux 0)) ((ux 1)) ((ux 9)) ((ux 19)) ((ux 24)) ((ux 30)) ((ux 33)) ((ux 39)) ((ux 48)) ((ux 50)) ((ux 56)) ((ux 60)) ((ux 61)) ((ux 62)) ((ux 63)) ((ux 2)) ((ux 3)) ((ux 4)) ((ux 5)) ((ux 20)) ((ux 21)) ((ux 22)) ((ux 23)) (fun _ => 0) ((ux 25)) ((ux 26)) ((ux 27)) ((ux 28)) ((ux 29))) X hl.1 kw_1197 kd_yX11_tooMany hw [0, 2, 20, 21, 25, 27, 30] [73, 74, 75, 76, 77, 78, 79, 80, 81, 82, 83, 84, 85, 86, 87, 88, 89] rfl rfl rfl rfl (by decide) 0 rfl rfl ⟨by decide, by decide⟩ rfl rfl (Nat.le_of_ble_eq_true rfl) dL_law_942 ⟨by decide, by decide⟩ (fun r1 u2 H locs hr3 hw => ?_)
  replace hw : WD D A s.heap _ _ (mWd ct qm um) := hw
  subst hr3
  refine lv_aload_n hx hb dL_law_945 rfl (lv_at hl 1 rfl) ?_
  refine m_Vi (As := []) (rest := [.int 0]) (c133_X12_tooMany l D ct qm ((um 15)) ((um 0)) ((um 1)) ((um 2)) ((um 3)) ((um 4)) ((um 5)) ((um 6)) ((um 7)) ((um 8)) ((um 9)) ((um 10)) ((um 11)) ((um 12)) ((um 13)) ((um 14)) (fun _ => 0)) X hl.1 kw_1895 kd_yX12_tooMany hw [0, 7, 16] [1, 2, 3, 4, 5, 6, 8, 9, 10, 11, 12, 13, 14, 15] rfl rfl rfl rfl (by decide) 0 rfl rfl ⟨by decide, by decide⟩ rfl rfl (Nat.le_of_ble_eq_true rfl) dL_law_946 ⟨by decide, by decide⟩ (fun r4 u5 H locs hr6 hw => ?_)
  replace hw : WD D A s.heap _ _ [((um 0), .inl (ct 3, 2, .inl (fun _ => 0))), ((um 1), .inl (ct 0, 900, .inl (fun _ => 0))), ((um 2), .inl (ct 0, 1770, .inl (fun _ => 0))), ((um 3), .inl (ct 0, 900, .inl (fun _ => 0))), ((um 4), .inl (ct 0, 7, .inl (fun _ => 0))), ((um 5), .inl (ct 0, 56, .inl (fun _ => 0))), ((um 7), .inl (ct 0, 72, .inl (fun _ => 0))), ((um 8), .inl (ct 0, 7, .inl (fun _ => 0))), ((um 9), .inl (ct 0, 21870, .inl (fun _ => 0))), ((um 10), .inl (ct 0, 7, .inl fx1)), ((um 11), .inl (ct 0, 8, .inl (fun _ => 0))), ((um 12), .inl (ct 0, 4, .inl fx2)), ((um 13), .inl (ct 0, 4, .inl (fun _ => 0))), ((um 14), .inl (ct 2, 160, .inr (.inl (fun _ => 0))))] := hw
  subst hr6
  refine lv_icmp_eq (tgt := 1468) hx hb dL_law_949 (by decide) (fun _ => ?_) (fun h => absurd (by decide) h)
  exact law_end C0 hA0 hw (lv_sub hl [0, 1, 2, 3] rfl) (by decide) (by decide)
set_option maxHeartbeats 4000000 in
set_option maxRecDepth 100000 in
theorem law_26 {p : Program} {l : Launch} {e : Env} {s : State} {m : MethodId} {below : List Frame} {meth : Method} {c : Code} {H : Heap} {locs : List Loc} {D : va_G} {ct : Nat → ClassId} {A : Nat → Prop} {ls : Array Slot} {b : Nat} {qx qm : Nat} {ux um : Nat → Nat} {xs : Nat → Int32} (C0 : lw_At p s m meth c b 6 xs) (hK0 : KK D ct s) (hA0 : ∀ q, A q → s.heap.size ≤ q) (hw : WD D A s.heap H locs (xWd ct qx ux ++ mWd ct qm um)) (hl : lv_has ls 4 [(3, .int 0), (2, .ref qm), (1, .ref qx), (0, .ref b)]) : W p l e room_1 s m #[Value.ref b] below meth c H locs 126 76620 (lw_Z below #[Value.ref b] s) (F0 m 954 ls []) := by
  obtain ⟨hx, hb, hr, hml, hown, hts0, hX, hbl, hlocks, hgv⟩ := id C0
  have hts := tb_hts hts0
  have hK := hK0
  have X : CX p m c cL_law 4 s #[Value.ref b] RL D ct := ⟨⟨hx, hb, hml, hown, hts⟩, hK0⟩
  have hbA : ¬ A b := fun h => absurd (hA0 _ h) (Nat.not_le.mpr hbl)
  refine lv_aload_n hx hb dL_law_954 rfl (lv_at hl 2 rfl) ?_
  refine lv_aload_n hx hb dL_law_955 rfl (lv_at hl 3 rfl) ?_
  refine lv_iload_n hx hb dL_law_956 rfl (lv_at hl 0 rfl) ?_
  refine lv_iconst (v := 1) hx hb dL_law_957 (by decide) ?_
  refine kv_iadd (v := 1) hx hb (by decide) dL_law_958 ?_
  refine j_sld (j := 1) hx hb hX hbl hbA hw (by decide) (by decide) (by decide) dL_law_959 ?_
  refine m_Vi (As := [.int (xs 1)]) (rest := []) (c138_X11_best l D ct qx ((xs 1)) ((ux 0)) ((ux 1)) ((ux 9)) ((ux 19)) ((ux 24)) ((ux 30)) ((ux 33)) ((ux 39)) ((ux 48)) ((ux 50)) ((ux 56)) ((ux 60)) ((ux 61)) ((ux 62)) ((ux 63)) ((ux 2)) ((ux 3)) ((ux 4)) ((ux 5)) ((ux 20)) ((ux 21)) ((ux 22)) ((ux 23)) (fun _ => 0) ((ux 25)) ((ux 26)) ((ux 27)) ((ux 28)) ((ux 29))) X hl.1 kw_1201 kd_yX11_best hw [0, 2, 20, 21, 25, 27, 29, 30] [73, 74, 75, 76, 77, 78, 79, 80, 81, 82, 83, 84, 85, 86, 87, 88, 89] rfl rfl rfl rfl (by decide) 0 rfl rfl ⟨by decide, by decide⟩ rfl rfl (Nat.le_of_ble_eq_true rfl) dL_law_960 ⟨by decide, by decide⟩ (fun r1 u2 H locs hr3 hw => ?_)
  replace hw : WD D A s.heap _ _ (mWd ct qm um) := hw
  rcases hr3 with ⟨⟨h4, h5⟩, rfl⟩ | ⟨⟨h6, h7, h8⟩, rfl⟩ | ⟨h9, rfl⟩
  · skip
    refine lv_aload_n hx hb dL_law_963 rfl (lv_at hl 1 rfl) ?_
    refine lv_aload_n hx hb dL_law_964 rfl (lv_at hl 3 rfl) ?_
    refine lv_iload_n hx hb dL_law_965 rfl (lv_at hl 0 rfl) ?_
    refine lv_iconst (v := 1) hx hb dL_law_966 (by decide) ?_
    refine kv_iadd (v := 1) hx hb (by decide) dL_law_967 ?_
    refine j_sld (j := 1) hx hb hX hbl hbA hw (by decide) (by decide) (by decide) dL_law_968 ?_
    refine m_Vi (As := [.int (xs 1)]) (rest := [.int (-1)]) (c144_X12_best l D ct qm ((xs 1)) ((um 15)) ((um 0)) ((um 1)) ((um 2)) ((um 3)) ((um 4)) ((um 5)) ((um 6)) ((um 7)) ((um 8)) ((um 9)) ((um 10)) ((um 11)) ((um 12)) ((um 13)) ((um 14))) X hl.1 kw_1899 kd_yX12_best hw [0, 7, 16] [1, 2, 3, 4, 5, 6, 8, 9, 10, 11, 12, 13, 14, 15] rfl rfl rfl rfl (by decide) 0 rfl rfl ⟨by decide, by decide⟩ rfl rfl (Nat.le_of_ble_eq_true rfl) dL_law_969 ⟨by decide, by decide⟩ (fun r10 u11 H locs hr12 hw => ?_)
    replace hw : WD D A s.heap _ _ [((um 0), .inl (ct 3, 2, .inl (fun _ => 0))), ((um 1), .inl (ct 0, 900, .inl (fun _ => 0))), ((um 2), .inl (ct 0, 1770, .inl (fun _ => 0))), ((um 3), .inl (ct 0, 900, .inl (fun _ => 0))), ((um 4), .inl (ct 0, 7, .inl (fun _ => 0))), ((um 5), .inl (ct 0, 56, .inl (fun _ => 0))), ((um 7), .inl (ct 0, 72, .inl (fun _ => 0))), ((um 8), .inl (ct 0, 7, .inl (fun _ => 0))), ((um 9), .inl (ct 0, 21870, .inl (fun _ => 0))), ((um 10), .inl (ct 0, 7, .inl fx1)), ((um 11), .inl (ct 0, 8, .inl (fun _ => 0))), ((um 12), .inl (ct 0, 4, .inl fx2)), ((um 13), .inl (ct 0, 4, .inl (fun _ => 0))), ((um 14), .inl (ct 2, 160, .inr (.inl (fun _ => 0))))] := hw
    rcases hr12 with ⟨⟨h13, h14, h15⟩, rfl⟩ | ⟨⟨h16, h17⟩, rfl⟩ | ⟨h18, rfl⟩
    · skip
      exfalso; omega
    · skip
      exfalso; omega
    · skip
      refine lv_icmp_eq (tgt := 1468) hx hb dL_law_972 (by decide) (fun _ => ?_) (fun h => absurd (by decide) h)
      exact law_end C0 hA0 hw (lv_sub hl [0, 1, 2, 3] rfl) (by decide) (by decide)
  · skip
    refine lv_aload_n hx hb dL_law_963 rfl (lv_at hl 1 rfl) ?_
    refine lv_aload_n hx hb dL_law_964 rfl (lv_at hl 3 rfl) ?_
    refine lv_iload_n hx hb dL_law_965 rfl (lv_at hl 0 rfl) ?_
    refine lv_iconst (v := 1) hx hb dL_law_966 (by decide) ?_
    refine kv_iadd (v := 1) hx hb (by decide) dL_law_967 ?_
    refine j_sld (j := 1) hx hb hX hbl hbA hw (by decide) (by decide) (by decide) dL_law_968 ?_
    refine m_Vi (As := [.int (xs 1)]) (rest := [.int 0]) (c144_X12_best l D ct qm ((xs 1)) ((um 15)) ((um 0)) ((um 1)) ((um 2)) ((um 3)) ((um 4)) ((um 5)) ((um 6)) ((um 7)) ((um 8)) ((um 9)) ((um 10)) ((um 11)) ((um 12)) ((um 13)) ((um 14))) X hl.1 kw_1899 kd_yX12_best hw [0, 7, 16] [1, 2, 3, 4, 5, 6, 8, 9, 10, 11, 12, 13, 14, 15] rfl rfl rfl rfl (by decide) 0 rfl rfl ⟨by decide, by decide⟩ rfl rfl (Nat.le_of_ble_eq_true rfl) dL_law_969 ⟨by decide, by decide⟩ (fun r19 u20 H locs hr21 hw => ?_)
    replace hw : WD D A s.heap _ _ [((um 0), .inl (ct 3, 2, .inl (fun _ => 0))), ((um 1), .inl (ct 0, 900, .inl (fun _ => 0))), ((um 2), .inl (ct 0, 1770, .inl (fun _ => 0))), ((um 3), .inl (ct 0, 900, .inl (fun _ => 0))), ((um 4), .inl (ct 0, 7, .inl (fun _ => 0))), ((um 5), .inl (ct 0, 56, .inl (fun _ => 0))), ((um 7), .inl (ct 0, 72, .inl (fun _ => 0))), ((um 8), .inl (ct 0, 7, .inl (fun _ => 0))), ((um 9), .inl (ct 0, 21870, .inl (fun _ => 0))), ((um 10), .inl (ct 0, 7, .inl fx1)), ((um 11), .inl (ct 0, 8, .inl (fun _ => 0))), ((um 12), .inl (ct 0, 4, .inl fx2)), ((um 13), .inl (ct 0, 4, .inl (fun _ => 0))), ((um 14), .inl (ct 2, 160, .inr (.inl (fun _ => 0))))] := hw
    rcases hr21 with ⟨⟨h22, h23, h24⟩, rfl⟩ | ⟨⟨h25, h26⟩, rfl⟩ | ⟨h27, rfl⟩
    · skip
      refine lv_icmp_eq (tgt := 1468) hx hb dL_law_972 (by decide) (fun _ => ?_) (fun h => absurd (by decide) h)
      exact law_end C0 hA0 hw (lv_sub hl [0, 1, 2, 3] rfl) (by decide) (by decide)
    · skip
      exfalso; omega
    · skip
      exfalso; omega
  · skip
    refine lv_aload_n hx hb dL_law_963 rfl (lv_at hl 1 rfl) ?_
    refine lv_aload_n hx hb dL_law_964 rfl (lv_at hl 3 rfl) ?_
    refine lv_iload_n hx hb dL_law_965 rfl (lv_at hl 0 rfl) ?_
    refine lv_iconst (v := 1) hx hb dL_law_966 (by decide) ?_
    refine kv_iadd (v := 1) hx hb (by decide) dL_law_967 ?_
    refine j_sld (j := 1) hx hb hX hbl hbA hw (by decide) (by decide) (by decide) dL_law_968 ?_
    refine m_Vi (As := [.int (xs 1)]) (rest := [.int (-2)]) (c144_X12_best l D ct qm ((xs 1)) ((um 15)) ((um 0)) ((um 1)) ((um 2)) ((um 3)) ((um 4)) ((um 5)) ((um 6)) ((um 7)) ((um 8)) ((um 9)) ((um 10)) ((um 11)) ((um 12)) ((um 13)) ((um 14))) X hl.1 kw_1899 kd_yX12_best hw [0, 7, 16] [1, 2, 3, 4, 5, 6, 8, 9, 10, 11, 12, 13, 14, 15] rfl rfl rfl rfl (by decide) 0 rfl rfl ⟨by decide, by decide⟩ rfl rfl (Nat.le_of_ble_eq_true rfl) dL_law_969 ⟨by decide, by decide⟩ (fun r28 u29 H locs hr30 hw => ?_)
    replace hw : WD D A s.heap _ _ [((um 0), .inl (ct 3, 2, .inl (fun _ => 0))), ((um 1), .inl (ct 0, 900, .inl (fun _ => 0))), ((um 2), .inl (ct 0, 1770, .inl (fun _ => 0))), ((um 3), .inl (ct 0, 900, .inl (fun _ => 0))), ((um 4), .inl (ct 0, 7, .inl (fun _ => 0))), ((um 5), .inl (ct 0, 56, .inl (fun _ => 0))), ((um 7), .inl (ct 0, 72, .inl (fun _ => 0))), ((um 8), .inl (ct 0, 7, .inl (fun _ => 0))), ((um 9), .inl (ct 0, 21870, .inl (fun _ => 0))), ((um 10), .inl (ct 0, 7, .inl fx1)), ((um 11), .inl (ct 0, 8, .inl (fun _ => 0))), ((um 12), .inl (ct 0, 4, .inl fx2)), ((um 13), .inl (ct 0, 4, .inl (fun _ => 0))), ((um 14), .inl (ct 2, 160, .inr (.inl (fun _ => 0))))] := hw
    rcases hr30 with ⟨⟨h31, h32, h33⟩, rfl⟩ | ⟨⟨h34, h35⟩, rfl⟩ | ⟨h36, rfl⟩
    · skip
      exfalso; omega
    · skip
      refine lv_icmp_eq (tgt := 1468) hx hb dL_law_972 (by decide) (fun _ => ?_) (fun h => absurd (by decide) h)
      exact law_end C0 hA0 hw (lv_sub hl [0, 1, 2, 3] rfl) (by decide) (by decide)
    · skip
      exfalso; omega
set_option maxHeartbeats 4000000 in
set_option maxRecDepth 100000 in
theorem law_27 {p : Program} {l : Launch} {e : Env} {s : State} {m : MethodId} {below : List Frame} {meth : Method} {c : Code} {H : Heap} {locs : List Loc} {D : va_G} {ct : Nat → ClassId} {A : Nat → Prop} {ls : Array Slot} {b : Nat} {qx qm : Nat} {ux um : Nat → Nat} {xs : Nat → Int32} (C0 : lw_At p s m meth c b 6 xs) (hK0 : KK D ct s) (hA0 : ∀ q, A q → s.heap.size ≤ q) (hw : WD D A s.heap H locs (xWd ct qx ux ++ mWd ct qm um)) (hl : lv_has ls 4 [(3, .int 0), (2, .ref qm), (1, .ref qx), (0, .ref b)]) : W p l e room_1 s m #[Value.ref b] below meth c H locs 126 76620 (lw_Z below #[Value.ref b] s) (F0 m 977 ls []) := by
  obtain ⟨hx, hb, hr, hml, hown, hts0, hX, hbl, hlocks, hgv⟩ := id C0
  have hts := tb_hts hts0
  have hK := hK0
  have X : CX p m c cL_law 4 s #[Value.ref b] RL D ct := ⟨⟨hx, hb, hml, hown, hts⟩, hK0⟩
  have hbA : ¬ A b := fun h => absurd (hA0 _ h) (Nat.not_le.mpr hbl)
  refine lv_aload_n hx hb dL_law_977 rfl (lv_at hl 2 rfl) ?_
  refine lv_aload_n hx hb dL_law_978 rfl (lv_at hl 3 rfl) ?_
  refine lv_iload_n hx hb dL_law_979 rfl (lv_at hl 0 rfl) ?_
  refine lv_iconst (v := 1) hx hb dL_law_980 (by decide) ?_
  refine kv_iadd (v := 1) hx hb (by decide) dL_law_981 ?_
  refine j_sld (j := 1) hx hb hX hbl hbA hw (by decide) (by decide) (by decide) dL_law_982 ?_
  refine m_Vi (As := [.int (xs 1)]) (rest := []) (c145_X11_fairest l D ct qx ((xs 1)) ((ux 0)) ((ux 1)) ((ux 9)) ((ux 19)) ((ux 24)) ((ux 30)) ((ux 33)) ((ux 39)) ((ux 48)) ((ux 50)) ((ux 56)) ((ux 60)) ((ux 61)) ((ux 62)) ((ux 63)) ((ux 2)) ((ux 3)) ((ux 4)) ((ux 5)) ((ux 20)) ((ux 21)) ((ux 22)) ((ux 23)) (fun _ => 0) ((ux 25)) ((ux 26)) ((ux 27)) ((ux 28)) ((ux 29))) X hl.1 kw_1225 kd_yX11_fairest hw [0, 2, 20, 21, 25, 27, 30] [73, 74, 75, 76, 77, 78, 79, 80, 81, 82, 83, 84, 85, 86, 87, 88, 89] rfl rfl rfl rfl (by decide) 0 rfl rfl ⟨by decide, by decide⟩ rfl rfl (Nat.le_of_ble_eq_true rfl) dL_law_983 ⟨by decide, by decide⟩ (fun r1 u2 H locs hr3 hw => ?_)
  replace hw : WD D A s.heap _ _ (mWd ct qm um) := hw
  rcases hr3 with ⟨⟨h4, h5⟩, rfl⟩ | ⟨⟨h6, h7, h8⟩, rfl⟩ | ⟨h9, rfl⟩
  · skip
    refine lv_aload_n hx hb dL_law_986 rfl (lv_at hl 1 rfl) ?_
    refine lv_aload_n hx hb dL_law_987 rfl (lv_at hl 3 rfl) ?_
    refine lv_iload_n hx hb dL_law_988 rfl (lv_at hl 0 rfl) ?_
    refine lv_iconst (v := 1) hx hb dL_law_989 (by decide) ?_
    refine kv_iadd (v := 1) hx hb (by decide) dL_law_990 ?_
    refine j_sld (j := 1) hx hb hX hbl hbA hw (by decide) (by decide) (by decide) dL_law_991 ?_
    refine m_Vi (As := [.int (xs 1)]) (rest := [.int (-1)]) (c150_X12_fairest l D ct qm ((xs 1)) ((um 15)) ((um 0)) ((um 1)) ((um 2)) ((um 3)) ((um 4)) ((um 5)) ((um 6)) ((um 7)) ((um 8)) ((um 9)) ((um 10)) ((um 11)) ((um 12)) ((um 13)) ((um 14))) X hl.1 kw_1933 kd_yX12_fairest hw [0, 7, 16] [1, 2, 3, 4, 5, 6, 8, 9, 10, 11, 12, 13, 14, 15] rfl rfl rfl rfl (by decide) 0 rfl rfl ⟨by decide, by decide⟩ rfl rfl (Nat.le_of_ble_eq_true rfl) dL_law_992 ⟨by decide, by decide⟩ (fun r10 u11 H locs hr12 hw => ?_)
    replace hw : WD D A s.heap _ _ [((um 0), .inl (ct 3, 2, .inl (fun _ => 0))), ((um 1), .inl (ct 0, 900, .inl (fun _ => 0))), ((um 2), .inl (ct 0, 1770, .inl (fun _ => 0))), ((um 3), .inl (ct 0, 900, .inl (fun _ => 0))), ((um 4), .inl (ct 0, 7, .inl (fun _ => 0))), ((um 5), .inl (ct 0, 56, .inl (fun _ => 0))), ((um 7), .inl (ct 0, 72, .inl (fun _ => 0))), ((um 8), .inl (ct 0, 7, .inl (fun _ => 0))), ((um 9), .inl (ct 0, 21870, .inl (fun _ => 0))), ((um 10), .inl (ct 0, 7, .inl fx1)), ((um 11), .inl (ct 0, 8, .inl (fun _ => 0))), ((um 12), .inl (ct 0, 4, .inl fx2)), ((um 13), .inl (ct 0, 4, .inl (fun _ => 0))), ((um 14), .inl (ct 2, 160, .inr (.inl (fun _ => 0))))] := hw
    rcases hr12 with ⟨⟨h13, h14, h15⟩, rfl⟩ | ⟨⟨h16, h17⟩, rfl⟩ | ⟨h18, rfl⟩
    · skip
      exfalso; omega
    · skip
      exfalso; omega
    · skip
      refine lv_icmp_eq (tgt := 1468) hx hb dL_law_995 (by decide) (fun _ => ?_) (fun h => absurd (by decide) h)
      exact law_end C0 hA0 hw (lv_sub hl [0, 1, 2, 3] rfl) (by decide) (by decide)
  · skip
    refine lv_aload_n hx hb dL_law_986 rfl (lv_at hl 1 rfl) ?_
    refine lv_aload_n hx hb dL_law_987 rfl (lv_at hl 3 rfl) ?_
    refine lv_iload_n hx hb dL_law_988 rfl (lv_at hl 0 rfl) ?_
    refine lv_iconst (v := 1) hx hb dL_law_989 (by decide) ?_
    refine kv_iadd (v := 1) hx hb (by decide) dL_law_990 ?_
    refine j_sld (j := 1) hx hb hX hbl hbA hw (by decide) (by decide) (by decide) dL_law_991 ?_
    refine m_Vi (As := [.int (xs 1)]) (rest := [.int 0]) (c150_X12_fairest l D ct qm ((xs 1)) ((um 15)) ((um 0)) ((um 1)) ((um 2)) ((um 3)) ((um 4)) ((um 5)) ((um 6)) ((um 7)) ((um 8)) ((um 9)) ((um 10)) ((um 11)) ((um 12)) ((um 13)) ((um 14))) X hl.1 kw_1933 kd_yX12_fairest hw [0, 7, 16] [1, 2, 3, 4, 5, 6, 8, 9, 10, 11, 12, 13, 14, 15] rfl rfl rfl rfl (by decide) 0 rfl rfl ⟨by decide, by decide⟩ rfl rfl (Nat.le_of_ble_eq_true rfl) dL_law_992 ⟨by decide, by decide⟩ (fun r19 u20 H locs hr21 hw => ?_)
    replace hw : WD D A s.heap _ _ [((um 0), .inl (ct 3, 2, .inl (fun _ => 0))), ((um 1), .inl (ct 0, 900, .inl (fun _ => 0))), ((um 2), .inl (ct 0, 1770, .inl (fun _ => 0))), ((um 3), .inl (ct 0, 900, .inl (fun _ => 0))), ((um 4), .inl (ct 0, 7, .inl (fun _ => 0))), ((um 5), .inl (ct 0, 56, .inl (fun _ => 0))), ((um 7), .inl (ct 0, 72, .inl (fun _ => 0))), ((um 8), .inl (ct 0, 7, .inl (fun _ => 0))), ((um 9), .inl (ct 0, 21870, .inl (fun _ => 0))), ((um 10), .inl (ct 0, 7, .inl fx1)), ((um 11), .inl (ct 0, 8, .inl (fun _ => 0))), ((um 12), .inl (ct 0, 4, .inl fx2)), ((um 13), .inl (ct 0, 4, .inl (fun _ => 0))), ((um 14), .inl (ct 2, 160, .inr (.inl (fun _ => 0))))] := hw
    rcases hr21 with ⟨⟨h22, h23, h24⟩, rfl⟩ | ⟨⟨h25, h26⟩, rfl⟩ | ⟨h27, rfl⟩
    · skip
      refine lv_icmp_eq (tgt := 1468) hx hb dL_law_995 (by decide) (fun _ => ?_) (fun h => absurd (by decide) h)
      exact law_end C0 hA0 hw (lv_sub hl [0, 1, 2, 3] rfl) (by decide) (by decide)
    · skip
      exfalso; omega
    · skip
      exfalso; omega
  · skip
    refine lv_aload_n hx hb dL_law_986 rfl (lv_at hl 1 rfl) ?_
    refine lv_aload_n hx hb dL_law_987 rfl (lv_at hl 3 rfl) ?_
    refine lv_iload_n hx hb dL_law_988 rfl (lv_at hl 0 rfl) ?_
    refine lv_iconst (v := 1) hx hb dL_law_989 (by decide) ?_
    refine kv_iadd (v := 1) hx hb (by decide) dL_law_990 ?_
    refine j_sld (j := 1) hx hb hX hbl hbA hw (by decide) (by decide) (by decide) dL_law_991 ?_
    refine m_Vi (As := [.int (xs 1)]) (rest := [.int (-2)]) (c150_X12_fairest l D ct qm ((xs 1)) ((um 15)) ((um 0)) ((um 1)) ((um 2)) ((um 3)) ((um 4)) ((um 5)) ((um 6)) ((um 7)) ((um 8)) ((um 9)) ((um 10)) ((um 11)) ((um 12)) ((um 13)) ((um 14))) X hl.1 kw_1933 kd_yX12_fairest hw [0, 7, 16] [1, 2, 3, 4, 5, 6, 8, 9, 10, 11, 12, 13, 14, 15] rfl rfl rfl rfl (by decide) 0 rfl rfl ⟨by decide, by decide⟩ rfl rfl (Nat.le_of_ble_eq_true rfl) dL_law_992 ⟨by decide, by decide⟩ (fun r28 u29 H locs hr30 hw => ?_)
    replace hw : WD D A s.heap _ _ [((um 0), .inl (ct 3, 2, .inl (fun _ => 0))), ((um 1), .inl (ct 0, 900, .inl (fun _ => 0))), ((um 2), .inl (ct 0, 1770, .inl (fun _ => 0))), ((um 3), .inl (ct 0, 900, .inl (fun _ => 0))), ((um 4), .inl (ct 0, 7, .inl (fun _ => 0))), ((um 5), .inl (ct 0, 56, .inl (fun _ => 0))), ((um 7), .inl (ct 0, 72, .inl (fun _ => 0))), ((um 8), .inl (ct 0, 7, .inl (fun _ => 0))), ((um 9), .inl (ct 0, 21870, .inl (fun _ => 0))), ((um 10), .inl (ct 0, 7, .inl fx1)), ((um 11), .inl (ct 0, 8, .inl (fun _ => 0))), ((um 12), .inl (ct 0, 4, .inl fx2)), ((um 13), .inl (ct 0, 4, .inl (fun _ => 0))), ((um 14), .inl (ct 2, 160, .inr (.inl (fun _ => 0))))] := hw
    rcases hr30 with ⟨⟨h31, h32, h33⟩, rfl⟩ | ⟨⟨h34, h35⟩, rfl⟩ | ⟨h36, rfl⟩
    · skip
      exfalso; omega
    · skip
      refine lv_icmp_eq (tgt := 1468) hx hb dL_law_995 (by decide) (fun _ => ?_) (fun h => absurd (by decide) h)
      exact law_end C0 hA0 hw (lv_sub hl [0, 1, 2, 3] rfl) (by decide) (by decide)
    · skip
      exfalso; omega
set_option maxHeartbeats 4000000 in
set_option maxRecDepth 100000 in
theorem law_28 {p : Program} {l : Launch} {e : Env} {s : State} {m : MethodId} {below : List Frame} {meth : Method} {c : Code} {H : Heap} {locs : List Loc} {D : va_G} {ct : Nat → ClassId} {A : Nat → Prop} {ls : Array Slot} {b : Nat} {qx qm : Nat} {ux um : Nat → Nat} {xs : Nat → Int32} (C0 : lw_At p s m meth c b 6 xs) (hK0 : KK D ct s) (hA0 : ∀ q, A q → s.heap.size ≤ q) (hw : WD D A s.heap H locs (xWd ct qx ux ++ mWd ct qm um)) (hl : lv_has ls 4 [(3, .int 0), (2, .ref qm), (1, .ref qx), (0, .ref b)]) : W p l e room_1 s m #[Value.ref b] below meth c H locs 126 76620 (lw_Z below #[Value.ref b] s) (F0 m 1000 ls []) := by
  obtain ⟨hx, hb, hr, hml, hown, hts0, hX, hbl, hlocks, hgv⟩ := id C0
  have hts := tb_hts hts0
  have hK := hK0
  have X : CX p m c cL_law 4 s #[Value.ref b] RL D ct := ⟨⟨hx, hb, hml, hown, hts⟩, hK0⟩
  have hbA : ¬ A b := fun h => absurd (hA0 _ h) (Nat.not_le.mpr hbl)
  refine lv_aload_n hx hb dL_law_1000 rfl (lv_at hl 2 rfl) ?_
  refine lv_aload_n hx hb dL_law_1001 rfl (lv_at hl 3 rfl) ?_
  refine lv_iload_n hx hb dL_law_1002 rfl (lv_at hl 0 rfl) ?_
  refine lv_iconst (v := 1) hx hb dL_law_1003 (by decide) ?_
  refine kv_iadd (v := 1) hx hb (by decide) dL_law_1004 ?_
  refine j_sld (j := 1) hx hb hX hbl hbA hw (by decide) (by decide) (by decide) dL_law_1005 ?_
  refine m_Vi (As := [.int (xs 1)]) (rest := []) (c154_X11_stillest l D ct qx ((xs 1)) ((ux 0)) ((ux 1)) ((ux 9)) ((ux 19)) ((ux 24)) ((ux 30)) ((ux 33)) ((ux 39)) ((ux 48)) ((ux 50)) ((ux 56)) ((ux 60)) ((ux 61)) ((ux 62)) ((ux 63)) ((ux 2)) ((ux 3)) ((ux 4)) ((ux 5)) ((ux 20)) ((ux 21)) ((ux 22)) ((ux 23)) (fun _ => 0) ((ux 25)) ((ux 26)) ((ux 27)) ((ux 28)) ((ux 29)) ((ux 34)) ((ux 35)) ((ux 36)) ((ux 37)) ((ux 38))) X hl.1 kw_1238 kd_yX11_stillest hw [0, 2, 20, 21, 25, 27, 30, 34, 35, 37, 38, 39, 64] [73, 74, 75, 76, 77, 78, 79, 80, 81, 82, 83, 84, 85, 86, 87, 88, 89] rfl rfl rfl rfl (by decide) 0 rfl rfl ⟨by decide, by decide⟩ rfl rfl (Nat.le_of_ble_eq_true rfl) dL_law_1006 ⟨by decide, by decide⟩ (fun r1 u2 H locs hr3 hw => ?_)
  replace hw : WD D A s.heap _ _ (mWd ct qm um) := hw
  rcases hr3 with ⟨⟨h4, h5⟩, rfl⟩ | ⟨⟨h6, h7, h8⟩, rfl⟩ | ⟨h9, rfl⟩
  · skip
    refine lv_aload_n hx hb dL_law_1009 rfl (lv_at hl 1 rfl) ?_
    refine lv_aload_n hx hb dL_law_1010 rfl (lv_at hl 3 rfl) ?_
    refine lv_iload_n hx hb dL_law_1011 rfl (lv_at hl 0 rfl) ?_
    refine lv_iconst (v := 1) hx hb dL_law_1012 (by decide) ?_
    refine kv_iadd (v := 1) hx hb (by decide) dL_law_1013 ?_
    refine j_sld (j := 1) hx hb hX hbl hbA hw (by decide) (by decide) (by decide) dL_law_1014 ?_
    refine m_Vi (As := [.int (xs 1)]) (rest := [.int (-1)]) (c159_X12_stillest l D ct qm ((xs 1)) ((um 15)) ((um 0)) ((um 1)) ((um 2)) ((um 3)) ((um 4)) ((um 5)) ((um 6)) ((um 7)) ((um 8)) ((um 9)) ((um 10)) ((um 11)) ((um 12)) ((um 13)) ((um 14))) X hl.1 kw_1937 kd_yX12_stillest hw [0, 7, 16] [1, 2, 3, 4, 5, 6, 8, 9, 10, 11, 12, 13, 14, 15] rfl rfl rfl rfl (by decide) 0 rfl rfl ⟨by decide, by decide⟩ rfl rfl (Nat.le_of_ble_eq_true rfl) dL_law_1015 ⟨by decide, by decide⟩ (fun r10 u11 H locs hr12 hw => ?_)
    replace hw : WD D A s.heap _ _ [((um 0), .inl (ct 3, 2, .inl (fun _ => 0))), ((um 1), .inl (ct 0, 900, .inl (fun _ => 0))), ((um 2), .inl (ct 0, 1770, .inl (fun _ => 0))), ((um 3), .inl (ct 0, 900, .inl (fun _ => 0))), ((um 4), .inl (ct 0, 7, .inl (fun _ => 0))), ((um 5), .inl (ct 0, 56, .inl (fun _ => 0))), ((um 7), .inl (ct 0, 72, .inl (fun _ => 0))), ((um 8), .inl (ct 0, 7, .inl (fun _ => 0))), ((um 9), .inl (ct 0, 21870, .inl (fun _ => 0))), ((um 10), .inl (ct 0, 7, .inl fx1)), ((um 11), .inl (ct 0, 8, .inl (fun _ => 0))), ((um 12), .inl (ct 0, 4, .inl fx2)), ((um 13), .inl (ct 0, 4, .inl (fun _ => 0))), ((um 14), .inl (ct 2, 160, .inr (.inl (fun _ => 0))))] := hw
    rcases hr12 with ⟨⟨h13, h14, h15⟩, rfl⟩ | ⟨⟨h16, h17⟩, rfl⟩ | ⟨h18, rfl⟩
    · skip
      exfalso; omega
    · skip
      exfalso; omega
    · skip
      refine lv_icmp_eq (tgt := 1468) hx hb dL_law_1018 (by decide) (fun _ => ?_) (fun h => absurd (by decide) h)
      exact law_end C0 hA0 hw (lv_sub hl [0, 1, 2, 3] rfl) (by decide) (by decide)
  · skip
    refine lv_aload_n hx hb dL_law_1009 rfl (lv_at hl 1 rfl) ?_
    refine lv_aload_n hx hb dL_law_1010 rfl (lv_at hl 3 rfl) ?_
    refine lv_iload_n hx hb dL_law_1011 rfl (lv_at hl 0 rfl) ?_
    refine lv_iconst (v := 1) hx hb dL_law_1012 (by decide) ?_
    refine kv_iadd (v := 1) hx hb (by decide) dL_law_1013 ?_
    refine j_sld (j := 1) hx hb hX hbl hbA hw (by decide) (by decide) (by decide) dL_law_1014 ?_
    refine m_Vi (As := [.int (xs 1)]) (rest := [.int 0]) (c159_X12_stillest l D ct qm ((xs 1)) ((um 15)) ((um 0)) ((um 1)) ((um 2)) ((um 3)) ((um 4)) ((um 5)) ((um 6)) ((um 7)) ((um 8)) ((um 9)) ((um 10)) ((um 11)) ((um 12)) ((um 13)) ((um 14))) X hl.1 kw_1937 kd_yX12_stillest hw [0, 7, 16] [1, 2, 3, 4, 5, 6, 8, 9, 10, 11, 12, 13, 14, 15] rfl rfl rfl rfl (by decide) 0 rfl rfl ⟨by decide, by decide⟩ rfl rfl (Nat.le_of_ble_eq_true rfl) dL_law_1015 ⟨by decide, by decide⟩ (fun r19 u20 H locs hr21 hw => ?_)
    replace hw : WD D A s.heap _ _ [((um 0), .inl (ct 3, 2, .inl (fun _ => 0))), ((um 1), .inl (ct 0, 900, .inl (fun _ => 0))), ((um 2), .inl (ct 0, 1770, .inl (fun _ => 0))), ((um 3), .inl (ct 0, 900, .inl (fun _ => 0))), ((um 4), .inl (ct 0, 7, .inl (fun _ => 0))), ((um 5), .inl (ct 0, 56, .inl (fun _ => 0))), ((um 7), .inl (ct 0, 72, .inl (fun _ => 0))), ((um 8), .inl (ct 0, 7, .inl (fun _ => 0))), ((um 9), .inl (ct 0, 21870, .inl (fun _ => 0))), ((um 10), .inl (ct 0, 7, .inl fx1)), ((um 11), .inl (ct 0, 8, .inl (fun _ => 0))), ((um 12), .inl (ct 0, 4, .inl fx2)), ((um 13), .inl (ct 0, 4, .inl (fun _ => 0))), ((um 14), .inl (ct 2, 160, .inr (.inl (fun _ => 0))))] := hw
    rcases hr21 with ⟨⟨h22, h23, h24⟩, rfl⟩ | ⟨⟨h25, h26⟩, rfl⟩ | ⟨h27, rfl⟩
    · skip
      refine lv_icmp_eq (tgt := 1468) hx hb dL_law_1018 (by decide) (fun _ => ?_) (fun h => absurd (by decide) h)
      exact law_end C0 hA0 hw (lv_sub hl [0, 1, 2, 3] rfl) (by decide) (by decide)
    · skip
      exfalso; omega
    · skip
      exfalso; omega
  · skip
    refine lv_aload_n hx hb dL_law_1009 rfl (lv_at hl 1 rfl) ?_
    refine lv_aload_n hx hb dL_law_1010 rfl (lv_at hl 3 rfl) ?_
    refine lv_iload_n hx hb dL_law_1011 rfl (lv_at hl 0 rfl) ?_
    refine lv_iconst (v := 1) hx hb dL_law_1012 (by decide) ?_
    refine kv_iadd (v := 1) hx hb (by decide) dL_law_1013 ?_
    refine j_sld (j := 1) hx hb hX hbl hbA hw (by decide) (by decide) (by decide) dL_law_1014 ?_
    refine m_Vi (As := [.int (xs 1)]) (rest := [.int (-2)]) (c159_X12_stillest l D ct qm ((xs 1)) ((um 15)) ((um 0)) ((um 1)) ((um 2)) ((um 3)) ((um 4)) ((um 5)) ((um 6)) ((um 7)) ((um 8)) ((um 9)) ((um 10)) ((um 11)) ((um 12)) ((um 13)) ((um 14))) X hl.1 kw_1937 kd_yX12_stillest hw [0, 7, 16] [1, 2, 3, 4, 5, 6, 8, 9, 10, 11, 12, 13, 14, 15] rfl rfl rfl rfl (by decide) 0 rfl rfl ⟨by decide, by decide⟩ rfl rfl (Nat.le_of_ble_eq_true rfl) dL_law_1015 ⟨by decide, by decide⟩ (fun r28 u29 H locs hr30 hw => ?_)
    replace hw : WD D A s.heap _ _ [((um 0), .inl (ct 3, 2, .inl (fun _ => 0))), ((um 1), .inl (ct 0, 900, .inl (fun _ => 0))), ((um 2), .inl (ct 0, 1770, .inl (fun _ => 0))), ((um 3), .inl (ct 0, 900, .inl (fun _ => 0))), ((um 4), .inl (ct 0, 7, .inl (fun _ => 0))), ((um 5), .inl (ct 0, 56, .inl (fun _ => 0))), ((um 7), .inl (ct 0, 72, .inl (fun _ => 0))), ((um 8), .inl (ct 0, 7, .inl (fun _ => 0))), ((um 9), .inl (ct 0, 21870, .inl (fun _ => 0))), ((um 10), .inl (ct 0, 7, .inl fx1)), ((um 11), .inl (ct 0, 8, .inl (fun _ => 0))), ((um 12), .inl (ct 0, 4, .inl fx2)), ((um 13), .inl (ct 0, 4, .inl (fun _ => 0))), ((um 14), .inl (ct 2, 160, .inr (.inl (fun _ => 0))))] := hw
    rcases hr30 with ⟨⟨h31, h32, h33⟩, rfl⟩ | ⟨⟨h34, h35⟩, rfl⟩ | ⟨h36, rfl⟩
    · skip
      exfalso; omega
    · skip
      refine lv_icmp_eq (tgt := 1468) hx hb dL_law_1018 (by decide) (fun _ => ?_) (fun h => absurd (by decide) h)
      exact law_end C0 hA0 hw (lv_sub hl [0, 1, 2, 3] rfl) (by decide) (by decide)
    · skip
      exfalso; omega
set_option maxHeartbeats 4000000 in
set_option maxRecDepth 100000 in
theorem law_29 {p : Program} {l : Launch} {e : Env} {s : State} {m : MethodId} {below : List Frame} {meth : Method} {c : Code} {H : Heap} {locs : List Loc} {D : va_G} {ct : Nat → ClassId} {A : Nat → Prop} {ls : Array Slot} {b : Nat} {qx qm : Nat} {ux um : Nat → Nat} {xs : Nat → Int32} (C0 : lw_At p s m meth c b 6 xs) (hK0 : KK D ct s) (hA0 : ∀ q, A q → s.heap.size ≤ q) (hw : WD D A s.heap H locs (xWd ct qx ux ++ mWd ct qm um)) (hl : lv_has ls 4 [(3, .int 0), (2, .ref qm), (1, .ref qx), (0, .ref b)]) : W p l e room_1 s m #[Value.ref b] below meth c H locs 126 76620 (lw_Z below #[Value.ref b] s) (F0 m 1023 ls []) := by
  obtain ⟨hx, hb, hr, hml, hown, hts0, hX, hbl, hlocks, hgv⟩ := id C0
  have hts := tb_hts hts0
  have hK := hK0
  have X : CX p m c cL_law 4 s #[Value.ref b] RL D ct := ⟨⟨hx, hb, hml, hown, hts⟩, hK0⟩
  have hbA : ¬ A b := fun h => absurd (hA0 _ h) (Nat.not_le.mpr hbl)
  refine lv_aload_n hx hb dL_law_1023 rfl (lv_at hl 2 rfl) ?_
  refine m_Vi (As := []) (rest := []) (c160_X11_bestMending l D ct qx ((ux 0)) ((ux 1)) ((ux 9)) ((ux 19)) ((ux 24)) ((ux 30)) ((ux 33)) ((ux 39)) ((ux 48)) ((ux 50)) ((ux 56)) ((ux 60)) ((ux 61)) ((ux 62)) ((ux 63)) ((ux 2)) ((ux 3)) ((ux 4)) ((ux 5)) ((ux 20)) ((ux 21)) ((ux 22)) ((ux 23)) (fun _ => 0) ((ux 25)) ((ux 26)) ((ux 27)) ((ux 28)) ((ux 29))) X hl.1 kw_1264 kd_yX11_bestMending hw [0, 2, 20, 21, 25, 27, 29, 30] [73, 74, 75, 76, 77, 78, 79, 80, 81, 82, 83, 84, 85, 86, 87, 88, 89] rfl rfl rfl rfl (by decide) 0 rfl rfl ⟨by decide, by decide⟩ rfl rfl (Nat.le_of_ble_eq_true rfl) dL_law_1024 ⟨by decide, by decide⟩ (fun r1 u2 H locs hr3 hw => ?_)
  replace hw : WD D A s.heap _ _ (mWd ct qm um) := hw
  subst hr3
  refine lv_aload_n hx hb dL_law_1027 rfl (lv_at hl 1 rfl) ?_
  refine m_Vi (As := []) (rest := [.int (-1)]) (c161_X12_bestMending l D ct qm ((um 15)) ((um 0)) ((um 1)) ((um 2)) ((um 3)) ((um 4)) ((um 5)) ((um 6)) ((um 7)) ((um 8)) ((um 9)) ((um 10)) ((um 11)) ((um 12)) ((um 13)) ((um 14))) X hl.1 kw_1941 kd_yX12_bestMending hw [0, 7, 16] [1, 2, 3, 4, 5, 6, 8, 9, 10, 11, 12, 13, 14, 15] rfl rfl rfl rfl (by decide) 0 rfl rfl ⟨by decide, by decide⟩ rfl rfl (Nat.le_of_ble_eq_true rfl) dL_law_1028 ⟨by decide, by decide⟩ (fun r4 u5 H locs hr6 hw => ?_)
  replace hw : WD D A s.heap _ _ [((um 0), .inl (ct 3, 2, .inl (fun _ => 0))), ((um 1), .inl (ct 0, 900, .inl (fun _ => 0))), ((um 2), .inl (ct 0, 1770, .inl (fun _ => 0))), ((um 3), .inl (ct 0, 900, .inl (fun _ => 0))), ((um 4), .inl (ct 0, 7, .inl (fun _ => 0))), ((um 5), .inl (ct 0, 56, .inl (fun _ => 0))), ((um 7), .inl (ct 0, 72, .inl (fun _ => 0))), ((um 8), .inl (ct 0, 7, .inl (fun _ => 0))), ((um 9), .inl (ct 0, 21870, .inl (fun _ => 0))), ((um 10), .inl (ct 0, 7, .inl fx1)), ((um 11), .inl (ct 0, 8, .inl (fun _ => 0))), ((um 12), .inl (ct 0, 4, .inl fx2)), ((um 13), .inl (ct 0, 4, .inl (fun _ => 0))), ((um 14), .inl (ct 2, 160, .inr (.inl (fun _ => 0))))] := hw
  subst hr6
  refine lv_icmp_eq (tgt := 1468) hx hb dL_law_1031 (by decide) (fun _ => ?_) (fun h => absurd (by decide) h)
  exact law_end C0 hA0 hw (lv_sub hl [0, 1, 2, 3] rfl) (by decide) (by decide)
set_option maxHeartbeats 4000000 in
set_option maxRecDepth 100000 in
theorem law_30 {p : Program} {l : Launch} {e : Env} {s : State} {m : MethodId} {below : List Frame} {meth : Method} {c : Code} {H : Heap} {locs : List Loc} {D : va_G} {ct : Nat → ClassId} {A : Nat → Prop} {ls : Array Slot} {b : Nat} {qx qm : Nat} {ux um : Nat → Nat} {xs : Nat → Int32} (C0 : lw_At p s m meth c b 6 xs) (hK0 : KK D ct s) (hA0 : ∀ q, A q → s.heap.size ≤ q) (hw : WD D A s.heap H locs (xWd ct qx ux ++ mWd ct qm um)) (hl : lv_has ls 4 [(3, .int 0), (2, .ref qm), (1, .ref qx), (0, .ref b)]) : W p l e room_1 s m #[Value.ref b] below meth c H locs 126 76620 (lw_Z below #[Value.ref b] s) (F0 m 1036 ls []) := by
  obtain ⟨hx, hb, hr, hml, hown, hts0, hX, hbl, hlocks, hgv⟩ := id C0
  have hts := tb_hts hts0
  have hK := hK0
  have X : CX p m c cL_law 4 s #[Value.ref b] RL D ct := ⟨⟨hx, hb, hml, hown, hts⟩, hK0⟩
  have hbA : ¬ A b := fun h => absurd (hA0 _ h) (Nat.not_le.mpr hbl)
  refine lv_aload_n hx hb dL_law_1036 rfl (lv_at hl 2 rfl) ?_
  refine m_Vi (As := []) (rest := []) (c163_X11_thisMap l D ct qx ((ux 0)) ((ux 1)) ((ux 9)) ((ux 19)) ((ux 24)) ((ux 30)) ((ux 33)) ((ux 39)) ((ux 48)) ((ux 50)) ((ux 56)) ((ux 60)) ((ux 61)) ((ux 62)) ((ux 63)) ((ux 2)) ((ux 3)) ((ux 4)) ((ux 5)) ((ux 8)) ((ux 6)) ((ux 7)) ((ux 20)) ((ux 21)) ((ux 22)) ((ux 23)) (fun _ => 0) ((ux 25)) ((ux 26)) ((ux 27)) ((ux 28)) ((ux 29))) X hl.1 kw_1269 kd_yX11_thisMap hw [0, 2, 6, 20, 21, 25, 27, 30] [73, 74, 75, 76, 77, 78, 79, 80, 81, 82, 83, 84, 85, 86, 87, 88, 89] rfl rfl rfl rfl (by decide) 0 rfl rfl ⟨by decide, by decide⟩ rfl rfl (Nat.le_of_ble_eq_true rfl) dL_law_1037 ⟨by decide, by decide⟩ (fun r1 u2 H locs hr3 hw => ?_)
  replace hw : WD D A s.heap _ _ (mWd ct qm um) := hw
  subst hr3
  refine lv_aload_n hx hb dL_law_1040 rfl (lv_at hl 1 rfl) ?_
  refine m_Vi (As := []) (rest := [.int 0]) (c164_X12_thisMap l D ct qm ((um 15)) ((um 0)) ((um 1)) ((um 2)) ((um 3)) ((um 4)) ((um 5)) ((um 6)) ((um 7)) ((um 8)) ((um 9)) ((um 10)) ((um 11)) ((um 12)) ((um 13)) ((um 14)) (fun _ => 0)) X hl.1 kw_1945 kd_yX12_thisMap hw [0, 7, 16] [1, 2, 3, 4, 5, 6, 8, 9, 10, 11, 12, 13, 14, 15] rfl rfl rfl rfl (by decide) 0 rfl rfl ⟨by decide, by decide⟩ rfl rfl (Nat.le_of_ble_eq_true rfl) dL_law_1041 ⟨by decide, by decide⟩ (fun r4 u5 H locs hr6 hw => ?_)
  replace hw : WD D A s.heap _ _ [((um 0), .inl (ct 3, 2, .inl (fun _ => 0))), ((um 1), .inl (ct 0, 900, .inl (fun _ => 0))), ((um 2), .inl (ct 0, 1770, .inl (fun _ => 0))), ((um 3), .inl (ct 0, 900, .inl (fun _ => 0))), ((um 4), .inl (ct 0, 7, .inl (fun _ => 0))), ((um 5), .inl (ct 0, 56, .inl (fun _ => 0))), ((um 7), .inl (ct 0, 72, .inl (fun _ => 0))), ((um 8), .inl (ct 0, 7, .inl (fun _ => 0))), ((um 9), .inl (ct 0, 21870, .inl (fun _ => 0))), ((um 10), .inl (ct 0, 7, .inl fx1)), ((um 11), .inl (ct 0, 8, .inl (fun _ => 0))), ((um 12), .inl (ct 0, 4, .inl fx2)), ((um 13), .inl (ct 0, 4, .inl (fun _ => 0))), ((um 14), .inl (ct 2, 160, .inr (.inl (fun _ => 0))))] := hw
  subst hr6
  refine lv_icmp_eq (tgt := 1468) hx hb dL_law_1044 (by decide) (fun _ => ?_) (fun h => absurd (by decide) h)
  exact law_end C0 hA0 hw (lv_sub hl [0, 1, 2, 3] rfl) (by decide) (by decide)
set_option maxHeartbeats 4000000 in
set_option maxRecDepth 100000 in
theorem law_31 {p : Program} {l : Launch} {e : Env} {s : State} {m : MethodId} {below : List Frame} {meth : Method} {c : Code} {H : Heap} {locs : List Loc} {D : va_G} {ct : Nat → ClassId} {A : Nat → Prop} {ls : Array Slot} {b : Nat} {qx qm : Nat} {ux um : Nat → Nat} {xs : Nat → Int32} (C0 : lw_At p s m meth c b 6 xs) (hK0 : KK D ct s) (hA0 : ∀ q, A q → s.heap.size ≤ q) (hw : WD D A s.heap H locs (xWd ct qx ux ++ mWd ct qm um)) (hl : lv_has ls 4 [(3, .int 0), (2, .ref qm), (1, .ref qx), (0, .ref b)]) : W p l e room_1 s m #[Value.ref b] below meth c H locs 126 76620 (lw_Z below #[Value.ref b] s) (F0 m 1049 ls []) := by
  obtain ⟨hx, hb, hr, hml, hown, hts0, hX, hbl, hlocks, hgv⟩ := id C0
  have hts := tb_hts hts0
  have hK := hK0
  have X : CX p m c cL_law 4 s #[Value.ref b] RL D ct := ⟨⟨hx, hb, hml, hown, hts⟩, hK0⟩
  have hbA : ¬ A b := fun h => absurd (hA0 _ h) (Nat.not_le.mpr hbl)
  refine lv_aload_n hx hb dL_law_1049 rfl (lv_at hl 2 rfl) ?_
  refine m_Vi (As := []) (rest := []) (c166_X11_harm l D ct qx ((ux 0)) ((ux 1)) ((ux 9)) ((ux 19)) ((ux 24)) ((ux 30)) ((ux 33)) ((ux 39)) ((ux 48)) ((ux 50)) ((ux 56)) ((ux 60)) ((ux 61)) ((ux 62)) ((ux 63)) ((ux 2)) ((ux 3)) ((ux 4)) ((ux 5)) ((ux 34)) ((ux 35)) ((ux 36)) ((ux 37)) ((ux 38))) X hl.1 kw_1277 kd_yX11_harm hw [0, 2, 34] [73, 74, 75, 76, 77, 78, 79, 80, 81, 82, 83, 84, 85, 86, 87, 88, 89] rfl rfl rfl rfl (by decide) 0 rfl rfl ⟨by decide, by decide⟩ rfl rfl (Nat.le_of_ble_eq_true rfl) dL_law_1050 ⟨by decide, by decide⟩ (fun r1 u2 H locs hr3 hw => ?_)
  replace hw : WD D A s.heap _ _ (mWd ct qm um) := hw
  subst hr3
  refine lv_aload_n hx hb dL_law_1053 rfl (lv_at hl 1 rfl) ?_
  refine m_Vi (As := []) (rest := [.int 0]) (c167_X12_harm l D ct qm ((um 15)) ((um 0)) ((um 1)) ((um 2)) ((um 3)) ((um 4)) ((um 5)) ((um 6)) ((um 7)) ((um 8)) ((um 9)) ((um 10)) ((um 11)) ((um 12)) ((um 13)) ((um 14))) X hl.1 kw_1949 kd_yX12_harm hw [0, 16] [1, 2, 3, 4, 5, 6, 7, 8, 9, 10, 11, 12, 13, 14, 15] rfl rfl rfl rfl (by decide) 0 rfl rfl ⟨by decide, by decide⟩ rfl rfl (Nat.le_of_ble_eq_true rfl) dL_law_1054 ⟨by decide, by decide⟩ (fun r4 u5 H locs hr6 hw => ?_)
  replace hw : WD D A s.heap _ _ [((um 0), .inl (ct 3, 2, .inl (fun _ => 0))), ((um 1), .inl (ct 0, 900, .inl (fun _ => 0))), ((um 2), .inl (ct 0, 1770, .inl (fun _ => 0))), ((um 3), .inl (ct 0, 900, .inl (fun _ => 0))), ((um 4), .inl (ct 0, 7, .inl (fun _ => 0))), ((um 5), .inl (ct 0, 56, .inl (fun _ => 0))), ((um 6), .inl (ct 0, 40320, .inl (fun _ => 0))), ((um 7), .inl (ct 0, 72, .inl (fun _ => 0))), ((um 8), .inl (ct 0, 7, .inl (fun _ => 0))), ((um 9), .inl (ct 0, 21870, .inl (fun _ => 0))), ((um 10), .inl (ct 0, 7, .inl fx1)), ((um 11), .inl (ct 0, 8, .inl (fun _ => 0))), ((um 12), .inl (ct 0, 4, .inl fx2)), ((um 13), .inl (ct 0, 4, .inl (fun _ => 0))), ((um 14), .inl (ct 2, 160, .inr (.inl (fun _ => 0))))] := hw
  subst hr6
  refine lv_icmp_eq (tgt := 1468) hx hb dL_law_1057 (by decide) (fun _ => ?_) (fun h => absurd (by decide) h)
  exact law_end C0 hA0 hw (lv_sub hl [0, 1, 2, 3] rfl) (by decide) (by decide)
set_option maxHeartbeats 4000000 in
set_option maxRecDepth 100000 in
theorem law_32 {p : Program} {l : Launch} {e : Env} {s : State} {m : MethodId} {below : List Frame} {meth : Method} {c : Code} {H : Heap} {locs : List Loc} {D : va_G} {ct : Nat → ClassId} {A : Nat → Prop} {ls : Array Slot} {b : Nat} {qx qm : Nat} {ux um : Nat → Nat} {xs : Nat → Int32} (C0 : lw_At p s m meth c b 6 xs) (hK0 : KK D ct s) (hA0 : ∀ q, A q → s.heap.size ≤ q) (hw : WD D A s.heap H locs (xWd ct qx ux ++ mWd ct qm um)) (hl : lv_has ls 4 [(3, .int 0), (2, .ref qm), (1, .ref qx), (0, .ref b)]) : W p l e room_1 s m #[Value.ref b] below meth c H locs 126 76620 (lw_Z below #[Value.ref b] s) (F0 m 1062 ls []) := by
  obtain ⟨hx, hb, hr, hml, hown, hts0, hX, hbl, hlocks, hgv⟩ := id C0
  have hts := tb_hts hts0
  have hK := hK0
  have X : CX p m c cL_law 4 s #[Value.ref b] RL D ct := ⟨⟨hx, hb, hml, hown, hts⟩, hK0⟩
  have hbA : ¬ A b := fun h => absurd (hA0 _ h) (Nat.not_le.mpr hbl)
  refine lv_aload_n hx hb dL_law_1062 rfl (lv_at hl 2 rfl) ?_
  refine lv_aload_n hx hb dL_law_1063 rfl (lv_at hl 3 rfl) ?_
  refine lv_iload_n hx hb dL_law_1064 rfl (lv_at hl 0 rfl) ?_
  refine lv_iconst (v := 1) hx hb dL_law_1065 (by decide) ?_
  refine kv_iadd (v := 1) hx hb (by decide) dL_law_1066 ?_
  refine j_sld (j := 1) hx hb hX hbl hbA hw (by decide) (by decide) (by decide) dL_law_1067 ?_
  refine m_Vi (As := [.int (xs 1)]) (rest := []) (c168_X11_envies l D ct qx ((xs 1)) ((ux 0)) ((ux 1)) ((ux 9)) ((ux 19)) ((ux 24)) ((ux 30)) ((ux 33)) ((ux 39)) ((ux 48)) ((ux 50)) ((ux 56)) ((ux 60)) ((ux 61)) ((ux 62)) ((ux 63)) ((ux 2)) ((ux 3)) ((ux 4)) ((ux 5))) X hl.1 kw_1286 kd_yX11_envies hw [0, 2] [73, 74, 75, 76, 77, 78, 79, 80, 81, 82, 83, 84, 85, 86, 87, 88, 89] rfl rfl rfl rfl (by decide) 0 rfl rfl ⟨by decide, by decide⟩ rfl rfl (Nat.le_of_ble_eq_true rfl) dL_law_1068 ⟨by decide, by decide⟩ (fun r1 u2 H locs hr3 hw => ?_)
  replace hw : WD D A s.heap _ _ (mWd ct qm um) := hw
  subst hr3
  refine lv_aload_n hx hb dL_law_1071 rfl (lv_at hl 1 rfl) ?_
  refine lv_aload_n hx hb dL_law_1072 rfl (lv_at hl 3 rfl) ?_
  refine lv_iload_n hx hb dL_law_1073 rfl (lv_at hl 0 rfl) ?_
  refine lv_iconst (v := 1) hx hb dL_law_1074 (by decide) ?_
  refine kv_iadd (v := 1) hx hb (by decide) dL_law_1075 ?_
  refine j_sld (j := 1) hx hb hX hbl hbA hw (by decide) (by decide) (by decide) dL_law_1076 ?_
  refine m_Vi (As := [.int (xs 1)]) (rest := [.int (-2)]) (c169_X12_envies l D ct qm ((xs 1)) ((um 15)) ((um 0)) ((um 1)) ((um 2)) ((um 3)) ((um 4)) ((um 5)) ((um 6)) ((um 7)) ((um 8)) ((um 9)) ((um 10)) ((um 11)) ((um 12)) ((um 13)) ((um 14))) X hl.1 kw_1953 kd_yX12_envies hw [0, 16] [1, 2, 3, 4, 5, 6, 7, 8, 9, 10, 11, 12, 13, 14, 15] rfl rfl rfl rfl (by decide) 0 rfl rfl ⟨by decide, by decide⟩ rfl rfl (Nat.le_of_ble_eq_true rfl) dL_law_1077 ⟨by decide, by decide⟩ (fun r4 u5 H locs hr6 hw => ?_)
  replace hw : WD D A s.heap _ _ [((um 0), .inl (ct 3, 2, .inl (fun _ => 0))), ((um 1), .inl (ct 0, 900, .inl (fun _ => 0))), ((um 2), .inl (ct 0, 1770, .inl (fun _ => 0))), ((um 3), .inl (ct 0, 900, .inl (fun _ => 0))), ((um 4), .inl (ct 0, 7, .inl (fun _ => 0))), ((um 5), .inl (ct 0, 56, .inl (fun _ => 0))), ((um 6), .inl (ct 0, 40320, .inl (fun _ => 0))), ((um 7), .inl (ct 0, 72, .inl (fun _ => 0))), ((um 8), .inl (ct 0, 7, .inl (fun _ => 0))), ((um 9), .inl (ct 0, 21870, .inl (fun _ => 0))), ((um 10), .inl (ct 0, 7, .inl fx1)), ((um 11), .inl (ct 0, 8, .inl (fun _ => 0))), ((um 12), .inl (ct 0, 4, .inl fx2)), ((um 13), .inl (ct 0, 4, .inl (fun _ => 0))), ((um 14), .inl (ct 2, 160, .inr (.inl (fun _ => 0))))] := hw
  subst hr6
  refine lv_icmp_eq (tgt := 1468) hx hb dL_law_1080 (by decide) (fun _ => ?_) (fun h => absurd (by decide) h)
  exact law_end C0 hA0 hw (lv_sub hl [0, 1, 2, 3] rfl) (by decide) (by decide)
set_option maxHeartbeats 4000000 in
set_option maxRecDepth 100000 in
theorem law_33 {p : Program} {l : Launch} {e : Env} {s : State} {m : MethodId} {below : List Frame} {meth : Method} {c : Code} {H : Heap} {locs : List Loc} {D : va_G} {ct : Nat → ClassId} {A : Nat → Prop} {ls : Array Slot} {b : Nat} {qx qm : Nat} {ux um : Nat → Nat} {xs : Nat → Int32} (C0 : lw_At p s m meth c b 6 xs) (hK0 : KK D ct s) (hA0 : ∀ q, A q → s.heap.size ≤ q) (hw : WD D A s.heap H locs (xWd ct qx ux ++ mWd ct qm um)) (hl : lv_has ls 4 [(3, .int 0), (2, .ref qm), (1, .ref qx), (0, .ref b)]) : W p l e room_1 s m #[Value.ref b] below meth c H locs 126 76620 (lw_Z below #[Value.ref b] s) (F0 m 1085 ls []) := by
  obtain ⟨hx, hb, hr, hml, hown, hts0, hX, hbl, hlocks, hgv⟩ := id C0
  have hts := tb_hts hts0
  have hK := hK0
  have X : CX p m c cL_law 4 s #[Value.ref b] RL D ct := ⟨⟨hx, hb, hml, hown, hts⟩, hK0⟩
  have hbA : ¬ A b := fun h => absurd (hA0 _ h) (Nat.not_le.mpr hbl)
  refine lv_aload_n hx hb dL_law_1085 rfl (lv_at hl 2 rfl) ?_
  refine m_Vi (As := []) (rest := []) (c170_X11_wouldSwap l D ct qx ((ux 0)) ((ux 1)) ((ux 9)) ((ux 19)) ((ux 24)) ((ux 30)) ((ux 33)) ((ux 39)) ((ux 48)) ((ux 50)) ((ux 56)) ((ux 60)) ((ux 61)) ((ux 62)) ((ux 63)) ((ux 2)) ((ux 3)) ((ux 4)) ((ux 5)) ((ux 20)) ((ux 21)) ((ux 22)) ((ux 23))) X hl.1 kw_1295 kd_yX11_wouldSwap hw [0, 2, 20] [73, 74, 75, 76, 77, 78, 79, 80, 81, 82, 83, 84, 85, 86, 87, 88, 89] rfl rfl rfl rfl (by decide) 0 rfl rfl ⟨by decide, by decide⟩ rfl rfl (Nat.le_of_ble_eq_true rfl) dL_law_1086 ⟨by decide, by decide⟩ (fun r1 u2 H locs hr3 hw => ?_)
  replace hw : WD D A s.heap _ _ (mWd ct qm um) := hw
  subst hr3
  refine lv_aload_n hx hb dL_law_1089 rfl (lv_at hl 1 rfl) ?_
  refine m_Vi (As := []) (rest := [.int (-1)]) (c171_X12_wouldSwap l D ct qm ((um 15)) ((um 0)) ((um 1)) ((um 2)) ((um 3)) ((um 4)) ((um 5)) ((um 6)) ((um 7)) ((um 8)) ((um 9)) ((um 10)) ((um 11)) ((um 12)) ((um 13)) ((um 14))) X hl.1 kw_1961 kd_yX12_wouldSwap hw [0, 16] [1, 2, 3, 4, 5, 6, 7, 8, 9, 10, 11, 12, 13, 14, 15] rfl rfl rfl rfl (by decide) 0 rfl rfl ⟨by decide, by decide⟩ rfl rfl (Nat.le_of_ble_eq_true rfl) dL_law_1090 ⟨by decide, by decide⟩ (fun r4 u5 H locs hr6 hw => ?_)
  replace hw : WD D A s.heap _ _ [((um 0), .inl (ct 3, 2, .inl (fun _ => 0))), ((um 1), .inl (ct 0, 900, .inl (fun _ => 0))), ((um 2), .inl (ct 0, 1770, .inl (fun _ => 0))), ((um 3), .inl (ct 0, 900, .inl (fun _ => 0))), ((um 4), .inl (ct 0, 7, .inl (fun _ => 0))), ((um 5), .inl (ct 0, 56, .inl (fun _ => 0))), ((um 6), .inl (ct 0, 40320, .inl (fun _ => 0))), ((um 7), .inl (ct 0, 72, .inl (fun _ => 0))), ((um 8), .inl (ct 0, 7, .inl (fun _ => 0))), ((um 9), .inl (ct 0, 21870, .inl (fun _ => 0))), ((um 10), .inl (ct 0, 7, .inl fx1)), ((um 11), .inl (ct 0, 8, .inl (fun _ => 0))), ((um 12), .inl (ct 0, 4, .inl fx2)), ((um 13), .inl (ct 0, 4, .inl (fun _ => 0))), ((um 14), .inl (ct 2, 160, .inr (.inl (fun _ => 0))))] := hw
  subst hr6
  refine lv_icmp_eq (tgt := 1468) hx hb dL_law_1093 (by decide) (fun _ => ?_) (fun h => absurd (by decide) h)
  exact law_end C0 hA0 hw (lv_sub hl [0, 1, 2, 3] rfl) (by decide) (by decide)
set_option maxHeartbeats 4000000 in
set_option maxRecDepth 100000 in
theorem law_34 {p : Program} {l : Launch} {e : Env} {s : State} {m : MethodId} {below : List Frame} {meth : Method} {c : Code} {H : Heap} {locs : List Loc} {D : va_G} {ct : Nat → ClassId} {A : Nat → Prop} {ls : Array Slot} {b : Nat} {qx qm : Nat} {ux um : Nat → Nat} {xs : Nat → Int32} (C0 : lw_At p s m meth c b 6 xs) (hK0 : KK D ct s) (hA0 : ∀ q, A q → s.heap.size ≤ q) (hw : WD D A s.heap H locs (xWd ct qx ux ++ mWd ct qm um)) (hl : lv_has ls 4 [(3, .int 0), (2, .ref qm), (1, .ref qx), (0, .ref b)]) : W p l e room_1 s m #[Value.ref b] below meth c H locs 126 76620 (lw_Z below #[Value.ref b] s) (F0 m 1098 ls []) := by
  obtain ⟨hx, hb, hr, hml, hown, hts0, hX, hbl, hlocks, hgv⟩ := id C0
  have hts := tb_hts hts0
  have hK := hK0
  have X : CX p m c cL_law 4 s #[Value.ref b] RL D ct := ⟨⟨hx, hb, hml, hown, hts⟩, hK0⟩
  have hbA : ¬ A b := fun h => absurd (hA0 _ h) (Nat.not_le.mpr hbl)
  refine lv_aload_n hx hb dL_law_1098 rfl (lv_at hl 2 rfl) ?_
  refine lv_aload_n hx hb dL_law_1099 rfl (lv_at hl 3 rfl) ?_
  refine lv_iload_n hx hb dL_law_1100 rfl (lv_at hl 0 rfl) ?_
  refine lv_iconst (v := 1) hx hb dL_law_1101 (by decide) ?_
  refine kv_iadd (v := 1) hx hb (by decide) dL_law_1102 ?_
  refine j_sld (j := 1) hx hb hX hbl hbA hw (by decide) (by decide) (by decide) dL_law_1103 ?_
  refine m_Vi (As := [.int (xs 1)]) (rest := []) (c172_X11_byRings l D ct qx ((xs 1)) ((ux 0)) ((ux 1)) ((ux 9)) ((ux 19)) ((ux 24)) ((ux 30)) ((ux 33)) ((ux 39)) ((ux 48)) ((ux 50)) ((ux 56)) ((ux 60)) ((ux 61)) ((ux 62)) ((ux 63)) ((ux 2)) ((ux 3)) ((ux 4)) ((ux 5))) X hl.1 kw_1299 kd_yX11_byRings hw [0, 2] [73, 74, 75, 76, 77, 78, 79, 80, 81, 82, 83, 84, 85, 86, 87, 88, 89] rfl rfl rfl rfl (by decide) 0 rfl rfl ⟨by decide, by decide⟩ rfl rfl (Nat.le_of_ble_eq_true rfl) dL_law_1104 ⟨by decide, by decide⟩ (fun r1 u2 H locs hr3 hw => ?_)
  replace hw : WD D A s.heap _ _ (mWd ct qm um) := hw
  subst hr3
  refine lv_aload_n hx hb dL_law_1107 rfl (lv_at hl 1 rfl) ?_
  refine lv_aload_n hx hb dL_law_1108 rfl (lv_at hl 3 rfl) ?_
  refine lv_iload_n hx hb dL_law_1109 rfl (lv_at hl 0 rfl) ?_
  refine lv_iconst (v := 1) hx hb dL_law_1110 (by decide) ?_
  refine kv_iadd (v := 1) hx hb (by decide) dL_law_1111 ?_
  refine j_sld (j := 1) hx hb hX hbl hbA hw (by decide) (by decide) (by decide) dL_law_1112 ?_
  refine m_Vi (As := [.int (xs 1)]) (rest := [.int (-2)]) (c173_X12_byRings l D ct qm ((xs 1)) ((um 15)) ((um 0)) ((um 1)) ((um 2)) ((um 3)) ((um 4)) ((um 5)) ((um 6)) ((um 7)) ((um 8)) ((um 9)) ((um 10)) ((um 11)) ((um 12)) ((um 13)) ((um 14))) X hl.1 kw_1965 kd_yX12_byRings hw [0, 16] [1, 2, 3, 4, 5, 6, 7, 8, 9, 10, 11, 12, 13, 14, 15] rfl rfl rfl rfl (by decide) 0 rfl rfl ⟨by decide, by decide⟩ rfl rfl (Nat.le_of_ble_eq_true rfl) dL_law_1113 ⟨by decide, by decide⟩ (fun r4 u5 H locs hr6 hw => ?_)
  replace hw : WD D A s.heap _ _ [((um 0), .inl (ct 3, 2, .inl (fun _ => 0))), ((um 1), .inl (ct 0, 900, .inl (fun _ => 0))), ((um 2), .inl (ct 0, 1770, .inl (fun _ => 0))), ((um 3), .inl (ct 0, 900, .inl (fun _ => 0))), ((um 4), .inl (ct 0, 7, .inl (fun _ => 0))), ((um 5), .inl (ct 0, 56, .inl (fun _ => 0))), ((um 6), .inl (ct 0, 40320, .inl (fun _ => 0))), ((um 7), .inl (ct 0, 72, .inl (fun _ => 0))), ((um 8), .inl (ct 0, 7, .inl (fun _ => 0))), ((um 9), .inl (ct 0, 21870, .inl (fun _ => 0))), ((um 10), .inl (ct 0, 7, .inl fx1)), ((um 11), .inl (ct 0, 8, .inl (fun _ => 0))), ((um 12), .inl (ct 0, 4, .inl fx2)), ((um 13), .inl (ct 0, 4, .inl (fun _ => 0))), ((um 14), .inl (ct 2, 160, .inr (.inl (fun _ => 0))))] := hw
  subst hr6
  refine lv_icmp_eq (tgt := 1468) hx hb dL_law_1116 (by decide) (fun _ => ?_) (fun h => absurd (by decide) h)
  exact law_end C0 hA0 hw (lv_sub hl [0, 1, 2, 3] rfl) (by decide) (by decide)
set_option maxHeartbeats 4000000 in
set_option maxRecDepth 100000 in
theorem law_35 {p : Program} {l : Launch} {e : Env} {s : State} {m : MethodId} {below : List Frame} {meth : Method} {c : Code} {H : Heap} {locs : List Loc} {D : va_G} {ct : Nat → ClassId} {A : Nat → Prop} {ls : Array Slot} {b : Nat} {qx qm : Nat} {ux um : Nat → Nat} {xs : Nat → Int32} (C0 : lw_At p s m meth c b 6 xs) (hK0 : KK D ct s) (hA0 : ∀ q, A q → s.heap.size ≤ q) (hw : WD D A s.heap H locs (xWd ct qx ux ++ mWd ct qm um)) (hl : lv_has ls 4 [(3, .int 0), (2, .ref qm), (1, .ref qx), (0, .ref b)]) : W p l e room_1 s m #[Value.ref b] below meth c H locs 126 76620 (lw_Z below #[Value.ref b] s) (F0 m 1121 ls []) := by
  obtain ⟨hx, hb, hr, hml, hown, hts0, hX, hbl, hlocks, hgv⟩ := id C0
  have hts := tb_hts hts0
  have hK := hK0
  have X : CX p m c cL_law 4 s #[Value.ref b] RL D ct := ⟨⟨hx, hb, hml, hown, hts⟩, hK0⟩
  have hbA : ¬ A b := fun h => absurd (hA0 _ h) (Nat.not_le.mpr hbl)
  refine lv_aload_n hx hb dL_law_1121 rfl (lv_at hl 2 rfl) ?_
  refine m_Vi (As := []) (rest := []) (c174_X11_ringsMany l D ct qx ((ux 0)) ((ux 1)) ((ux 9)) ((ux 19)) ((ux 24)) ((ux 30)) ((ux 33)) ((ux 39)) ((ux 48)) ((ux 50)) ((ux 56)) ((ux 60)) ((ux 61)) ((ux 62)) ((ux 63)) ((ux 2)) ((ux 3)) ((ux 4)) ((ux 5)) ((ux 20)) ((ux 21)) ((ux 22)) ((ux 23)) ((ux 31)) ((ux 32))) X hl.1 kw_1304 kd_yX11_ringsMany hw [0, 2, 20, 31] [73, 74, 75, 76, 77, 78, 79, 80, 81, 82, 83, 84, 85, 86, 87, 88, 89] rfl rfl rfl rfl (by decide) 0 rfl rfl ⟨by decide, by decide⟩ rfl rfl (Nat.le_of_ble_eq_true rfl) dL_law_1122 ⟨by decide, by decide⟩ (fun r1 u2 H locs hr3 hw => ?_)
  replace hw : WD D A s.heap _ _ (mWd ct qm um) := hw
  subst hr3
  refine lv_aload_n hx hb dL_law_1125 rfl (lv_at hl 1 rfl) ?_
  refine m_Vi (As := []) (rest := [.int 0]) (c175_X12_ringsMany l D ct qm ((um 15)) ((um 0)) ((um 1)) ((um 2)) ((um 3)) ((um 4)) ((um 5)) ((um 6)) ((um 7)) ((um 8)) ((um 9)) ((um 10)) ((um 11)) ((um 12)) ((um 13)) ((um 14))) X hl.1 kw_1969 kd_yX12_ringsMany hw [0, 16] [1, 2, 3, 4, 5, 6, 7, 8, 9, 10, 11, 12, 13, 14, 15] rfl rfl rfl rfl (by decide) 0 rfl rfl ⟨by decide, by decide⟩ rfl rfl (Nat.le_of_ble_eq_true rfl) dL_law_1126 ⟨by decide, by decide⟩ (fun r4 u5 H locs hr6 hw => ?_)
  replace hw : WD D A s.heap _ _ [((um 0), .inl (ct 3, 2, .inl (fun _ => 0))), ((um 1), .inl (ct 0, 900, .inl (fun _ => 0))), ((um 2), .inl (ct 0, 1770, .inl (fun _ => 0))), ((um 3), .inl (ct 0, 900, .inl (fun _ => 0))), ((um 4), .inl (ct 0, 7, .inl (fun _ => 0))), ((um 5), .inl (ct 0, 56, .inl (fun _ => 0))), ((um 6), .inl (ct 0, 40320, .inl (fun _ => 0))), ((um 7), .inl (ct 0, 72, .inl (fun _ => 0))), ((um 8), .inl (ct 0, 7, .inl (fun _ => 0))), ((um 9), .inl (ct 0, 21870, .inl (fun _ => 0))), ((um 10), .inl (ct 0, 7, .inl fx1)), ((um 11), .inl (ct 0, 8, .inl (fun _ => 0))), ((um 12), .inl (ct 0, 4, .inl fx2)), ((um 13), .inl (ct 0, 4, .inl (fun _ => 0))), ((um 14), .inl (ct 2, 160, .inr (.inl (fun _ => 0))))] := hw
  subst hr6
  refine lv_icmp_eq (tgt := 1468) hx hb dL_law_1129 (by decide) (fun _ => ?_) (fun h => absurd (by decide) h)
  exact law_end C0 hA0 hw (lv_sub hl [0, 1, 2, 3] rfl) (by decide) (by decide)
set_option maxHeartbeats 4000000 in
set_option maxRecDepth 100000 in
theorem law_36 {p : Program} {l : Launch} {e : Env} {s : State} {m : MethodId} {below : List Frame} {meth : Method} {c : Code} {H : Heap} {locs : List Loc} {D : va_G} {ct : Nat → ClassId} {A : Nat → Prop} {ls : Array Slot} {b : Nat} {qx qm : Nat} {ux um : Nat → Nat} {xs : Nat → Int32} (C0 : lw_At p s m meth c b 6 xs) (hK0 : KK D ct s) (hA0 : ∀ q, A q → s.heap.size ≤ q) (hw : WD D A s.heap H locs (xWd ct qx ux ++ mWd ct qm um)) (hl : lv_has ls 4 [(3, .int 0), (2, .ref qm), (1, .ref qx), (0, .ref b)]) : W p l e room_1 s m #[Value.ref b] below meth c H locs 126 76620 (lw_Z below #[Value.ref b] s) (F0 m 1134 ls []) := by
  obtain ⟨hx, hb, hr, hml, hown, hts0, hX, hbl, hlocks, hgv⟩ := id C0
  have hts := tb_hts hts0
  have hK := hK0
  have X : CX p m c cL_law 4 s #[Value.ref b] RL D ct := ⟨⟨hx, hb, hml, hown, hts⟩, hK0⟩
  have hbA : ¬ A b := fun h => absurd (hA0 _ h) (Nat.not_le.mpr hbl)
  refine lv_aload_n hx hb dL_law_1134 rfl (lv_at hl 2 rfl) ?_
  refine lv_aload_n hx hb dL_law_1135 rfl (lv_at hl 3 rfl) ?_
  refine lv_iload_n hx hb dL_law_1136 rfl (lv_at hl 0 rfl) ?_
  refine lv_iconst (v := 1) hx hb dL_law_1137 (by decide) ?_
  refine kv_iadd (v := 1) hx hb (by decide) dL_law_1138 ?_
  refine j_sld (j := 1) hx hb hX hbl hbA hw (by decide) (by decide) (by decide) dL_law_1139 ?_
  refine lv_aload_n hx hb dL_law_1140 rfl (lv_at hl 3 rfl) ?_
  refine lv_iload_n hx hb dL_law_1141 rfl (lv_at hl 0 rfl) ?_
  refine lv_iconst (v := 2) hx hb dL_law_1142 (by decide) ?_
  refine kv_iadd (v := 2) hx hb (by decide) dL_law_1143 ?_
  refine j_sld (j := 2) hx hb hX hbl hbA hw (by decide) (by decide) (by decide) dL_law_1144 ?_
  refine m_Vi (As := [.int (xs 1), .int (xs 2)]) (rest := []) (c182_X11_moving l D ct qx ((xs 1)) ((xs 2)) ((ux 0)) ((ux 1)) ((ux 9)) ((ux 19)) ((ux 24)) ((ux 30)) ((ux 33)) ((ux 39)) ((ux 48)) ((ux 50)) ((ux 56)) ((ux 60)) ((ux 61)) ((ux 62)) ((ux 63)) ((ux 2)) ((ux 3)) ((ux 4)) ((ux 5)) ((ux 20)) ((ux 21)) ((ux 22)) ((ux 23)) (fun _ => 0) ((ux 25)) ((ux 26)) ((ux 27)) ((ux 28)) ((ux 29)) ((ux 40)) ((ux 41)) ((ux 42)) ((ux 43)) ((ux 44)) ((ux 45)) ((ux 46)) ((ux 47))) X hl.1 kw_1308 kd_yX11_moving hw [0, 2, 20, 21, 25, 27, 30, 40, 48] [73, 74, 75, 76, 77, 78, 79, 80, 81, 82, 83, 84, 85, 86, 87, 88, 89] rfl rfl rfl rfl (by decide) 0 rfl rfl ⟨by decide, by decide⟩ rfl rfl (Nat.le_of_ble_eq_true rfl) dL_law_1145 ⟨by decide, by decide⟩ (fun r1 u2 H locs hr3 hw => ?_)
  replace hw : WD D A s.heap _ _ (mWd ct qm um) := hw
  rcases hr3 with ⟨h4, rfl⟩ | ⟨h5, rfl⟩ | ⟨⟨h6, h7, h8, h9⟩, rfl⟩ | ⟨⟨h10, h11, h12⟩, rfl⟩
  · skip
    refine lv_aload_n hx hb dL_law_1148 rfl (lv_at hl 1 rfl) ?_
    refine lv_aload_n hx hb dL_law_1149 rfl (lv_at hl 3 rfl) ?_
    refine lv_iload_n hx hb dL_law_1150 rfl (lv_at hl 0 rfl) ?_
    refine lv_iconst (v := 1) hx hb dL_law_1151 (by decide) ?_
    refine kv_iadd (v := 1) hx hb (by decide) dL_law_1152 ?_
    refine j_sld (j := 1) hx hb hX hbl hbA hw (by decide) (by decide) (by decide) dL_law_1153 ?_
    refine lv_aload_n hx hb dL_law_1154 rfl (lv_at hl 3 rfl) ?_
    refine lv_iload_n hx hb dL_law_1155 rfl (lv_at hl 0 rfl) ?_
    refine lv_iconst (v := 2) hx hb dL_law_1156 (by decide) ?_
    refine kv_iadd (v := 2) hx hb (by decide) dL_law_1157 ?_
    refine j_sld (j := 2) hx hb hX hbl hbA hw (by decide) (by decide) (by decide) dL_law_1158 ?_
    refine m_Vi (As := [.int (xs 1), .int (xs 2)]) (rest := [.int (-2)]) (c185_X12_moving l D ct qm ((xs 1)) ((xs 2)) ((um 15)) ((um 0)) ((um 1)) ((um 2)) ((um 3)) ((um 4)) ((um 5)) ((um 6)) ((um 7)) ((um 8)) ((um 9)) ((um 10)) ((um 11)) ((um 12)) ((um 13)) ((um 14))) X hl.1 kw_1973 kd_yX12_moving hw [0, 7, 10, 16] [1, 2, 3, 4, 5, 6, 8, 9, 11, 12, 13, 14, 15] rfl rfl rfl rfl (by decide) 0 rfl rfl ⟨by decide, by decide⟩ rfl rfl (Nat.le_of_ble_eq_true rfl) dL_law_1159 ⟨by decide, by decide⟩ (fun r13 u14 H locs hr15 hw => ?_)
    replace hw : WD D A s.heap _ _ [((um 0), .inl (ct 3, 2, .inl (fun _ => 0))), ((um 1), .inl (ct 0, 900, .inl (fun _ => 0))), ((um 2), .inl (ct 0, 1770, .inl (fun _ => 0))), ((um 3), .inl (ct 0, 900, .inl (fun _ => 0))), ((um 4), .inl (ct 0, 7, .inl (fun _ => 0))), ((um 5), .inl (ct 0, 56, .inl (fun _ => 0))), ((um 7), .inl (ct 0, 72, .inl (fun _ => 0))), ((um 8), .inl (ct 0, 7, .inl (fun _ => 0))), ((um 10), .inl (ct 0, 7, .inl fx1)), ((um 11), .inl (ct 0, 8, .inl (fun _ => 0))), ((um 12), .inl (ct 0, 4, .inl fx2)), ((um 13), .inl (ct 0, 4, .inl (fun _ => 0))), ((um 14), .inl (ct 2, 160, .inr (.inl (fun _ => 0))))] := hw
    rcases hr15 with ⟨h16, rfl⟩ | ⟨h17, rfl⟩ | ⟨⟨h18, h19, h20, h21⟩, rfl⟩ | ⟨⟨h22, h23, h24⟩, rfl⟩
    · skip
      refine lv_icmp_eq (tgt := 1468) hx hb dL_law_1162 (by decide) (fun _ => ?_) (fun h => absurd (by decide) h)
      exact law_end C0 hA0 hw (lv_sub hl [0, 1, 2, 3] rfl) (by decide) (by decide)
    · skip
      exfalso; omega
    · skip
      exfalso; omega
    · skip
      exfalso; omega
  · skip
    refine lv_aload_n hx hb dL_law_1148 rfl (lv_at hl 1 rfl) ?_
    refine lv_aload_n hx hb dL_law_1149 rfl (lv_at hl 3 rfl) ?_
    refine lv_iload_n hx hb dL_law_1150 rfl (lv_at hl 0 rfl) ?_
    refine lv_iconst (v := 1) hx hb dL_law_1151 (by decide) ?_
    refine kv_iadd (v := 1) hx hb (by decide) dL_law_1152 ?_
    refine j_sld (j := 1) hx hb hX hbl hbA hw (by decide) (by decide) (by decide) dL_law_1153 ?_
    refine lv_aload_n hx hb dL_law_1154 rfl (lv_at hl 3 rfl) ?_
    refine lv_iload_n hx hb dL_law_1155 rfl (lv_at hl 0 rfl) ?_
    refine lv_iconst (v := 2) hx hb dL_law_1156 (by decide) ?_
    refine kv_iadd (v := 2) hx hb (by decide) dL_law_1157 ?_
    refine j_sld (j := 2) hx hb hX hbl hbA hw (by decide) (by decide) (by decide) dL_law_1158 ?_
    refine m_Vi (As := [.int (xs 1), .int (xs 2)]) (rest := [.int 0]) (c185_X12_moving l D ct qm ((xs 1)) ((xs 2)) ((um 15)) ((um 0)) ((um 1)) ((um 2)) ((um 3)) ((um 4)) ((um 5)) ((um 6)) ((um 7)) ((um 8)) ((um 9)) ((um 10)) ((um 11)) ((um 12)) ((um 13)) ((um 14))) X hl.1 kw_1973 kd_yX12_moving hw [0, 7, 10, 16] [1, 2, 3, 4, 5, 6, 8, 9, 11, 12, 13, 14, 15] rfl rfl rfl rfl (by decide) 0 rfl rfl ⟨by decide, by decide⟩ rfl rfl (Nat.le_of_ble_eq_true rfl) dL_law_1159 ⟨by decide, by decide⟩ (fun r25 u26 H locs hr27 hw => ?_)
    replace hw : WD D A s.heap _ _ [((um 0), .inl (ct 3, 2, .inl (fun _ => 0))), ((um 1), .inl (ct 0, 900, .inl (fun _ => 0))), ((um 2), .inl (ct 0, 1770, .inl (fun _ => 0))), ((um 3), .inl (ct 0, 900, .inl (fun _ => 0))), ((um 4), .inl (ct 0, 7, .inl (fun _ => 0))), ((um 5), .inl (ct 0, 56, .inl (fun _ => 0))), ((um 7), .inl (ct 0, 72, .inl (fun _ => 0))), ((um 8), .inl (ct 0, 7, .inl (fun _ => 0))), ((um 10), .inl (ct 0, 7, .inl fx1)), ((um 11), .inl (ct 0, 8, .inl (fun _ => 0))), ((um 12), .inl (ct 0, 4, .inl fx2)), ((um 13), .inl (ct 0, 4, .inl (fun _ => 0))), ((um 14), .inl (ct 2, 160, .inr (.inl (fun _ => 0))))] := hw
    rcases hr27 with ⟨h28, rfl⟩ | ⟨h29, rfl⟩ | ⟨⟨h30, h31, h32, h33⟩, rfl⟩ | ⟨⟨h34, h35, h36⟩, rfl⟩
    · skip
      exfalso; omega
    · skip
      refine lv_icmp_eq (tgt := 1468) hx hb dL_law_1162 (by decide) (fun _ => ?_) (fun h => absurd (by decide) h)
      exact law_end C0 hA0 hw (lv_sub hl [0, 1, 2, 3] rfl) (by decide) (by decide)
    · skip
      exfalso; omega
    · skip
      exfalso; omega
  · skip
    refine lv_aload_n hx hb dL_law_1148 rfl (lv_at hl 1 rfl) ?_
    refine lv_aload_n hx hb dL_law_1149 rfl (lv_at hl 3 rfl) ?_
    refine lv_iload_n hx hb dL_law_1150 rfl (lv_at hl 0 rfl) ?_
    refine lv_iconst (v := 1) hx hb dL_law_1151 (by decide) ?_
    refine kv_iadd (v := 1) hx hb (by decide) dL_law_1152 ?_
    refine j_sld (j := 1) hx hb hX hbl hbA hw (by decide) (by decide) (by decide) dL_law_1153 ?_
    refine lv_aload_n hx hb dL_law_1154 rfl (lv_at hl 3 rfl) ?_
    refine lv_iload_n hx hb dL_law_1155 rfl (lv_at hl 0 rfl) ?_
    refine lv_iconst (v := 2) hx hb dL_law_1156 (by decide) ?_
    refine kv_iadd (v := 2) hx hb (by decide) dL_law_1157 ?_
    refine j_sld (j := 2) hx hb hX hbl hbA hw (by decide) (by decide) (by decide) dL_law_1158 ?_
    refine m_Vi (As := [.int (xs 1), .int (xs 2)]) (rest := [.int (-1)]) (c185_X12_moving l D ct qm ((xs 1)) ((xs 2)) ((um 15)) ((um 0)) ((um 1)) ((um 2)) ((um 3)) ((um 4)) ((um 5)) ((um 6)) ((um 7)) ((um 8)) ((um 9)) ((um 10)) ((um 11)) ((um 12)) ((um 13)) ((um 14))) X hl.1 kw_1973 kd_yX12_moving hw [0, 7, 10, 16] [1, 2, 3, 4, 5, 6, 8, 9, 11, 12, 13, 14, 15] rfl rfl rfl rfl (by decide) 0 rfl rfl ⟨by decide, by decide⟩ rfl rfl (Nat.le_of_ble_eq_true rfl) dL_law_1159 ⟨by decide, by decide⟩ (fun r37 u38 H locs hr39 hw => ?_)
    replace hw : WD D A s.heap _ _ [((um 0), .inl (ct 3, 2, .inl (fun _ => 0))), ((um 1), .inl (ct 0, 900, .inl (fun _ => 0))), ((um 2), .inl (ct 0, 1770, .inl (fun _ => 0))), ((um 3), .inl (ct 0, 900, .inl (fun _ => 0))), ((um 4), .inl (ct 0, 7, .inl (fun _ => 0))), ((um 5), .inl (ct 0, 56, .inl (fun _ => 0))), ((um 7), .inl (ct 0, 72, .inl (fun _ => 0))), ((um 8), .inl (ct 0, 7, .inl (fun _ => 0))), ((um 10), .inl (ct 0, 7, .inl fx1)), ((um 11), .inl (ct 0, 8, .inl (fun _ => 0))), ((um 12), .inl (ct 0, 4, .inl fx2)), ((um 13), .inl (ct 0, 4, .inl (fun _ => 0))), ((um 14), .inl (ct 2, 160, .inr (.inl (fun _ => 0))))] := hw
    rcases hr39 with ⟨h40, rfl⟩ | ⟨h41, rfl⟩ | ⟨⟨h42, h43, h44, h45⟩, rfl⟩ | ⟨⟨h46, h47, h48⟩, rfl⟩
    · skip
      exfalso; omega
    · skip
      exfalso; omega
    · skip
      refine lv_icmp_eq (tgt := 1468) hx hb dL_law_1162 (by decide) (fun _ => ?_) (fun h => absurd (by decide) h)
      exact law_end C0 hA0 hw (lv_sub hl [0, 1, 2, 3] rfl) (by decide) (by decide)
    · skip
      exfalso; omega
  · skip
    refine lv_aload_n hx hb dL_law_1148 rfl (lv_at hl 1 rfl) ?_
    refine lv_aload_n hx hb dL_law_1149 rfl (lv_at hl 3 rfl) ?_
    refine lv_iload_n hx hb dL_law_1150 rfl (lv_at hl 0 rfl) ?_
    refine lv_iconst (v := 1) hx hb dL_law_1151 (by decide) ?_
    refine kv_iadd (v := 1) hx hb (by decide) dL_law_1152 ?_
    refine j_sld (j := 1) hx hb hX hbl hbA hw (by decide) (by decide) (by decide) dL_law_1153 ?_
    refine lv_aload_n hx hb dL_law_1154 rfl (lv_at hl 3 rfl) ?_
    refine lv_iload_n hx hb dL_law_1155 rfl (lv_at hl 0 rfl) ?_
    refine lv_iconst (v := 2) hx hb dL_law_1156 (by decide) ?_
    refine kv_iadd (v := 2) hx hb (by decide) dL_law_1157 ?_
    refine j_sld (j := 2) hx hb hX hbl hbA hw (by decide) (by decide) (by decide) dL_law_1158 ?_
    refine m_Vi (As := [.int (xs 1), .int (xs 2)]) (rest := [.int (-3)]) (c185_X12_moving l D ct qm ((xs 1)) ((xs 2)) ((um 15)) ((um 0)) ((um 1)) ((um 2)) ((um 3)) ((um 4)) ((um 5)) ((um 6)) ((um 7)) ((um 8)) ((um 9)) ((um 10)) ((um 11)) ((um 12)) ((um 13)) ((um 14))) X hl.1 kw_1973 kd_yX12_moving hw [0, 7, 10, 16] [1, 2, 3, 4, 5, 6, 8, 9, 11, 12, 13, 14, 15] rfl rfl rfl rfl (by decide) 0 rfl rfl ⟨by decide, by decide⟩ rfl rfl (Nat.le_of_ble_eq_true rfl) dL_law_1159 ⟨by decide, by decide⟩ (fun r49 u50 H locs hr51 hw => ?_)
    replace hw : WD D A s.heap _ _ [((um 0), .inl (ct 3, 2, .inl (fun _ => 0))), ((um 1), .inl (ct 0, 900, .inl (fun _ => 0))), ((um 2), .inl (ct 0, 1770, .inl (fun _ => 0))), ((um 3), .inl (ct 0, 900, .inl (fun _ => 0))), ((um 4), .inl (ct 0, 7, .inl (fun _ => 0))), ((um 5), .inl (ct 0, 56, .inl (fun _ => 0))), ((um 7), .inl (ct 0, 72, .inl (fun _ => 0))), ((um 8), .inl (ct 0, 7, .inl (fun _ => 0))), ((um 10), .inl (ct 0, 7, .inl fx1)), ((um 11), .inl (ct 0, 8, .inl (fun _ => 0))), ((um 12), .inl (ct 0, 4, .inl fx2)), ((um 13), .inl (ct 0, 4, .inl (fun _ => 0))), ((um 14), .inl (ct 2, 160, .inr (.inl (fun _ => 0))))] := hw
    rcases hr51 with ⟨h52, rfl⟩ | ⟨h53, rfl⟩ | ⟨⟨h54, h55, h56, h57⟩, rfl⟩ | ⟨⟨h58, h59, h60⟩, rfl⟩
    · skip
      exfalso; omega
    · skip
      exfalso; omega
    · skip
      exfalso; omega
    · skip
      refine lv_icmp_eq (tgt := 1468) hx hb dL_law_1162 (by decide) (fun _ => ?_) (fun h => absurd (by decide) h)
      exact law_end C0 hA0 hw (lv_sub hl [0, 1, 2, 3] rfl) (by decide) (by decide)
set_option maxHeartbeats 4000000 in
set_option maxRecDepth 100000 in
theorem law_37 {p : Program} {l : Launch} {e : Env} {s : State} {m : MethodId} {below : List Frame} {meth : Method} {c : Code} {H : Heap} {locs : List Loc} {D : va_G} {ct : Nat → ClassId} {A : Nat → Prop} {ls : Array Slot} {b : Nat} {qx qm : Nat} {ux um : Nat → Nat} {xs : Nat → Int32} (C0 : lw_At p s m meth c b 6 xs) (hK0 : KK D ct s) (hA0 : ∀ q, A q → s.heap.size ≤ q) (hw : WD D A s.heap H locs (xWd ct qx ux ++ mWd ct qm um)) (hl : lv_has ls 4 [(3, .int 0), (2, .ref qm), (1, .ref qx), (0, .ref b)]) : W p l e room_1 s m #[Value.ref b] below meth c H locs 126 76620 (lw_Z below #[Value.ref b] s) (F0 m 1167 ls []) := by
  obtain ⟨hx, hb, hr, hml, hown, hts0, hX, hbl, hlocks, hgv⟩ := id C0
  have hts := tb_hts hts0
  have hK := hK0
  have X : CX p m c cL_law 4 s #[Value.ref b] RL D ct := ⟨⟨hx, hb, hml, hown, hts⟩, hK0⟩
  have hbA : ¬ A b := fun h => absurd (hA0 _ h) (Nat.not_le.mpr hbl)
  refine lv_aload_n hx hb dL_law_1167 rfl (lv_at hl 2 rfl) ?_
  refine m_Vi (As := []) (rest := []) (c187_X11_nearest l D ct qx ((ux 0)) ((ux 1)) ((ux 9)) ((ux 19)) ((ux 24)) ((ux 30)) ((ux 33)) ((ux 39)) ((ux 48)) ((ux 50)) ((ux 56)) ((ux 60)) ((ux 61)) ((ux 62)) ((ux 63)) ((ux 2)) ((ux 3)) ((ux 4)) ((ux 5)) ((ux 20)) ((ux 21)) ((ux 22)) ((ux 23)) (fun _ => 0) ((ux 25)) ((ux 26)) ((ux 27)) ((ux 28)) ((ux 29)) ((ux 40)) ((ux 41)) ((ux 42)) ((ux 43)) ((ux 44)) ((ux 45)) ((ux 46)) ((ux 47))) X hl.1 kw_1356 kd_yX11_nearest hw [0, 2, 20, 21, 25, 27, 30, 40, 48] [73, 74, 75, 76, 77, 78, 79, 80, 81, 82, 83, 84, 85, 86, 87, 88, 89] rfl rfl rfl rfl (by decide) 0 rfl rfl ⟨by decide, by decide⟩ rfl rfl (Nat.le_of_ble_eq_true rfl) dL_law_1168 ⟨by decide, by decide⟩ (fun r1 u2 H locs hr3 hw => ?_)
  replace hw : WD D A s.heap _ _ (mWd ct qm um) := hw
  subst hr3
  refine lv_aload_n hx hb dL_law_1171 rfl (lv_at hl 1 rfl) ?_
  refine m_Vi (As := []) (rest := [.int 0]) (c188_X12_nearest l D ct qm ((um 15)) ((um 0)) ((um 1)) ((um 2)) ((um 3)) ((um 4)) ((um 5)) ((um 6)) ((um 7)) ((um 8)) ((um 9)) ((um 10)) ((um 11)) ((um 12)) ((um 13)) ((um 14))) X hl.1 kw_1989 kd_yX12_nearest hw [0, 7, 10, 16] [1, 2, 3, 4, 5, 6, 8, 9, 11, 12, 13, 14, 15] rfl rfl rfl rfl (by decide) 0 rfl rfl ⟨by decide, by decide⟩ rfl rfl (Nat.le_of_ble_eq_true rfl) dL_law_1172 ⟨by decide, by decide⟩ (fun r4 u5 H locs hr6 hw => ?_)
  replace hw : WD D A s.heap _ _ [((um 0), .inl (ct 3, 2, .inl (fun _ => 0))), ((um 1), .inl (ct 0, 900, .inl (fun _ => 0))), ((um 2), .inl (ct 0, 1770, .inl (fun _ => 0))), ((um 3), .inl (ct 0, 900, .inl (fun _ => 0))), ((um 4), .inl (ct 0, 7, .inl (fun _ => 0))), ((um 5), .inl (ct 0, 56, .inl (fun _ => 0))), ((um 7), .inl (ct 0, 72, .inl (fun _ => 0))), ((um 8), .inl (ct 0, 7, .inl (fun _ => 0))), ((um 10), .inl (ct 0, 7, .inl fx1)), ((um 11), .inl (ct 0, 8, .inl (fun _ => 0))), ((um 12), .inl (ct 0, 4, .inl fx2)), ((um 13), .inl (ct 0, 4, .inl (fun _ => 0))), ((um 14), .inl (ct 2, 160, .inr (.inl (fun _ => 0))))] := hw
  subst hr6
  refine lv_icmp_eq (tgt := 1468) hx hb dL_law_1175 (by decide) (fun _ => ?_) (fun h => absurd (by decide) h)
  exact law_end C0 hA0 hw (lv_sub hl [0, 1, 2, 3] rfl) (by decide) (by decide)
set_option maxHeartbeats 4000000 in
set_option maxRecDepth 100000 in
theorem law_38 {p : Program} {l : Launch} {e : Env} {s : State} {m : MethodId} {below : List Frame} {meth : Method} {c : Code} {H : Heap} {locs : List Loc} {D : va_G} {ct : Nat → ClassId} {A : Nat → Prop} {ls : Array Slot} {b : Nat} {qx qm : Nat} {ux um : Nat → Nat} {xs : Nat → Int32} (C0 : lw_At p s m meth c b 6 xs) (hK0 : KK D ct s) (hA0 : ∀ q, A q → s.heap.size ≤ q) (hw : WD D A s.heap H locs (xWd ct qx ux ++ mWd ct qm um)) (hl : lv_has ls 4 [(3, .int 0), (2, .ref qm), (1, .ref qx), (0, .ref b)]) : W p l e room_1 s m #[Value.ref b] below meth c H locs 126 76620 (lw_Z below #[Value.ref b] s) (F0 m 1180 ls []) := by
  obtain ⟨hx, hb, hr, hml, hown, hts0, hX, hbl, hlocks, hgv⟩ := id C0
  have hts := tb_hts hts0
  have hK := hK0
  have X : CX p m c cL_law 4 s #[Value.ref b] RL D ct := ⟨⟨hx, hb, hml, hown, hts⟩, hK0⟩
  have hbA : ¬ A b := fun h => absurd (hA0 _ h) (Nat.not_le.mpr hbl)
  refine lv_aload_n hx hb dL_law_1180 rfl (lv_at hl 2 rfl) ?_
  refine lv_aload_n hx hb dL_law_1181 rfl (lv_at hl 3 rfl) ?_
  refine lv_iload_n hx hb dL_law_1182 rfl (lv_at hl 0 rfl) ?_
  refine lv_iconst (v := 1) hx hb dL_law_1183 (by decide) ?_
  refine kv_iadd (v := 1) hx hb (by decide) dL_law_1184 ?_
  refine j_sld (j := 1) hx hb hX hbl hbA hw (by decide) (by decide) (by decide) dL_law_1185 ?_
  refine m_Vi (As := [.int (xs 1)]) (rest := []) (c190_X11_seen l D ct qx ((xs 1)) ((ux 0)) ((ux 1)) ((ux 9)) ((ux 19)) ((ux 24)) ((ux 30)) ((ux 33)) ((ux 39)) ((ux 48)) ((ux 50)) ((ux 56)) ((ux 60)) ((ux 61)) ((ux 62)) ((ux 63)) ((ux 64)) ((ux 66)) ((ux 68)) ((ux 70)) ((ux 65)) ((ux 67)) ((ux 69)) ((ux 71))) X hl.1 kw_1364 kd_yX11_seen hw [0, 61, 65, 67, 69, 71] [73, 74, 75, 76, 77, 78, 79, 80, 81, 82, 83, 84, 85, 86, 87, 88, 89] rfl rfl rfl rfl (by decide) 0 rfl rfl ⟨by decide, by decide⟩ rfl rfl (Nat.le_of_ble_eq_true rfl) dL_law_1186 ⟨by decide, by decide⟩ (fun r1 u2 H locs hr3 hw => ?_)
  replace hw : WD D A s.heap _ _ (mWd ct qm um) := hw
  rcases hr3 with ⟨h4, rfl⟩ | ⟨h5, rfl⟩
  · skip
    refine lv_aload_n hx hb dL_law_1189 rfl (lv_at hl 1 rfl) ?_
    refine lv_aload_n hx hb dL_law_1190 rfl (lv_at hl 3 rfl) ?_
    refine lv_iload_n hx hb dL_law_1191 rfl (lv_at hl 0 rfl) ?_
    refine lv_iconst (v := 1) hx hb dL_law_1192 (by decide) ?_
    refine kv_iadd (v := 1) hx hb (by decide) dL_law_1193 ?_
    refine j_sld (j := 1) hx hb hX hbl hbA hw (by decide) (by decide) (by decide) dL_law_1194 ?_
    refine m_Vi (As := [.int (xs 1)]) (rest := [.int (-2)]) (c192_X12_seen l D ct qm ((xs 1)) ((um 15)) ((um 0)) ((um 1)) ((um 2)) ((um 3)) ((um 4)) ((um 5)) ((um 6)) ((um 7)) ((um 8)) ((um 9)) ((um 10)) ((um 11)) ((um 12)) ((um 13)) ((um 14))) X hl.1 kw_1993 kd_yX12_seen hw [0, 13] [1, 2, 3, 4, 5, 6, 7, 8, 9, 10, 11, 12, 14, 15, 16] rfl rfl rfl rfl (by decide) 0 rfl rfl ⟨by decide, by decide⟩ rfl rfl (Nat.le_of_ble_eq_true rfl) dL_law_1195 ⟨by decide, by decide⟩ (fun r6 u7 H locs hr8 hw => ?_)
    replace hw : WD D A s.heap _ _ [((um 0), .inl (ct 3, 2, .inl (fun _ => 0))), ((um 1), .inl (ct 0, 900, .inl (fun _ => 0))), ((um 2), .inl (ct 0, 1770, .inl (fun _ => 0))), ((um 3), .inl (ct 0, 900, .inl (fun _ => 0))), ((um 4), .inl (ct 0, 7, .inl (fun _ => 0))), ((um 5), .inl (ct 0, 56, .inl (fun _ => 0))), ((um 6), .inl (ct 0, 40320, .inl (fun _ => 0))), ((um 7), .inl (ct 0, 72, .inl (fun _ => 0))), ((um 8), .inl (ct 0, 7, .inl (fun _ => 0))), ((um 9), .inl (ct 0, 21870, .inl (fun _ => 0))), ((um 10), .inl (ct 0, 7, .inl fx1)), ((um 11), .inl (ct 0, 8, .inl (fun _ => 0))), ((um 13), .inl (ct 0, 4, .inl (fun _ => 0))), ((um 14), .inl (ct 2, 160, .inr (.inl (fun _ => 0)))), ((um 15), .inl (ct 0, 5310, .inl fx0))] := hw
    rcases hr8 with ⟨h9, rfl⟩ | ⟨h10, rfl⟩
    · skip
      refine lv_icmp_eq (tgt := 1468) hx hb dL_law_1198 (by decide) (fun _ => ?_) (fun h => absurd (by decide) h)
      exact law_end C0 hA0 hw (lv_sub hl [0, 1, 2, 3] rfl) (by decide) (by decide)
    · skip
      exfalso; omega
  · skip
    refine lv_aload_n hx hb dL_law_1189 rfl (lv_at hl 1 rfl) ?_
    refine lv_aload_n hx hb dL_law_1190 rfl (lv_at hl 3 rfl) ?_
    refine lv_iload_n hx hb dL_law_1191 rfl (lv_at hl 0 rfl) ?_
    refine lv_iconst (v := 1) hx hb dL_law_1192 (by decide) ?_
    refine kv_iadd (v := 1) hx hb (by decide) dL_law_1193 ?_
    refine j_sld (j := 1) hx hb hX hbl hbA hw (by decide) (by decide) (by decide) dL_law_1194 ?_
    refine m_Vi (As := [.int (xs 1)]) (rest := [.int (-6)]) (c192_X12_seen l D ct qm ((xs 1)) ((um 15)) ((um 0)) ((um 1)) ((um 2)) ((um 3)) ((um 4)) ((um 5)) ((um 6)) ((um 7)) ((um 8)) ((um 9)) ((um 10)) ((um 11)) ((um 12)) ((um 13)) ((um 14))) X hl.1 kw_1993 kd_yX12_seen hw [0, 13] [1, 2, 3, 4, 5, 6, 7, 8, 9, 10, 11, 12, 14, 15, 16] rfl rfl rfl rfl (by decide) 0 rfl rfl ⟨by decide, by decide⟩ rfl rfl (Nat.le_of_ble_eq_true rfl) dL_law_1195 ⟨by decide, by decide⟩ (fun r11 u12 H locs hr13 hw => ?_)
    replace hw : WD D A s.heap _ _ [((um 0), .inl (ct 3, 2, .inl (fun _ => 0))), ((um 1), .inl (ct 0, 900, .inl (fun _ => 0))), ((um 2), .inl (ct 0, 1770, .inl (fun _ => 0))), ((um 3), .inl (ct 0, 900, .inl (fun _ => 0))), ((um 4), .inl (ct 0, 7, .inl (fun _ => 0))), ((um 5), .inl (ct 0, 56, .inl (fun _ => 0))), ((um 6), .inl (ct 0, 40320, .inl (fun _ => 0))), ((um 7), .inl (ct 0, 72, .inl (fun _ => 0))), ((um 8), .inl (ct 0, 7, .inl (fun _ => 0))), ((um 9), .inl (ct 0, 21870, .inl (fun _ => 0))), ((um 10), .inl (ct 0, 7, .inl fx1)), ((um 11), .inl (ct 0, 8, .inl (fun _ => 0))), ((um 13), .inl (ct 0, 4, .inl (fun _ => 0))), ((um 14), .inl (ct 2, 160, .inr (.inl (fun _ => 0)))), ((um 15), .inl (ct 0, 5310, .inl fx0))] := hw
    rcases hr13 with ⟨h14, rfl⟩ | ⟨h15, rfl⟩
    · skip
      exfalso; omega
    · skip
      refine lv_icmp_eq (tgt := 1468) hx hb dL_law_1198 (by decide) (fun _ => ?_) (fun h => absurd (by decide) h)
      exact law_end C0 hA0 hw (lv_sub hl [0, 1, 2, 3] rfl) (by decide) (by decide)
set_option maxHeartbeats 4000000 in
set_option maxRecDepth 100000 in
theorem law_39 {p : Program} {l : Launch} {e : Env} {s : State} {m : MethodId} {below : List Frame} {meth : Method} {c : Code} {H : Heap} {locs : List Loc} {D : va_G} {ct : Nat → ClassId} {A : Nat → Prop} {ls : Array Slot} {b : Nat} {qx qm : Nat} {ux um : Nat → Nat} {xs : Nat → Int32} (C0 : lw_At p s m meth c b 6 xs) (hK0 : KK D ct s) (hA0 : ∀ q, A q → s.heap.size ≤ q) (hw : WD D A s.heap H locs (xWd ct qx ux ++ mWd ct qm um)) (hl : lv_has ls 4 [(3, .int 0), (2, .ref qm), (1, .ref qx), (0, .ref b)]) : W p l e room_1 s m #[Value.ref b] below meth c H locs 126 76620 (lw_Z below #[Value.ref b] s) (F0 m 1203 ls []) := by
  obtain ⟨hx, hb, hr, hml, hown, hts0, hX, hbl, hlocks, hgv⟩ := id C0
  have hts := tb_hts hts0
  have hK := hK0
  have X : CX p m c cL_law 4 s #[Value.ref b] RL D ct := ⟨⟨hx, hb, hml, hown, hts⟩, hK0⟩
  have hbA : ¬ A b := fun h => absurd (hA0 _ h) (Nat.not_le.mpr hbl)
  refine lv_aload_n hx hb dL_law_1203 rfl (lv_at hl 2 rfl) ?_
  refine lv_aload_n hx hb dL_law_1204 rfl (lv_at hl 3 rfl) ?_
  refine lv_iload_n hx hb dL_law_1205 rfl (lv_at hl 0 rfl) ?_
  refine lv_iconst (v := 1) hx hb dL_law_1206 (by decide) ?_
  refine kv_iadd (v := 1) hx hb (by decide) dL_law_1207 ?_
  refine j_sld (j := 1) hx hb hX hbl hbA hw (by decide) (by decide) (by decide) dL_law_1208 ?_
  refine lv_aload_n hx hb dL_law_1209 rfl (lv_at hl 3 rfl) ?_
  refine lv_iload_n hx hb dL_law_1210 rfl (lv_at hl 0 rfl) ?_
  refine lv_iconst (v := 2) hx hb dL_law_1211 (by decide) ?_
  refine kv_iadd (v := 2) hx hb (by decide) dL_law_1212 ?_
  refine j_sld (j := 2) hx hb hX hbl hbA hw (by decide) (by decide) (by decide) dL_law_1213 ?_
  refine m_Vi (As := [.int (xs 1), .int (xs 2)]) (rest := []) (c193_X11_had l D ct qx ((xs 1)) ((xs 2)) ((ux 0)) ((ux 1)) ((ux 9)) ((ux 19)) ((ux 24)) ((ux 30)) ((ux 33)) ((ux 39)) ((ux 48)) ((ux 50)) ((ux 56)) ((ux 60)) ((ux 61)) ((ux 62)) ((ux 63)) ((ux 2)) ((ux 3)) ((ux 4)) ((ux 5))) X hl.1 kw_1378 kd_yX11_had hw [0, 2] [73, 74, 75, 76, 77, 78, 79, 80, 81, 82, 83, 84, 85, 86, 87, 88, 89] rfl rfl rfl rfl (by decide) 0 rfl rfl ⟨by decide, by decide⟩ rfl rfl (Nat.le_of_ble_eq_true rfl) dL_law_1214 ⟨by decide, by decide⟩ (fun r1 u2 H locs hr3 hw => ?_)
  replace hw : WD D A s.heap _ _ (mWd ct qm um) := hw
  subst hr3
  refine lv_aload_n hx hb dL_law_1217 rfl (lv_at hl 1 rfl) ?_
  refine lv_aload_n hx hb dL_law_1218 rfl (lv_at hl 3 rfl) ?_
  refine lv_iload_n hx hb dL_law_1219 rfl (lv_at hl 0 rfl) ?_
  refine lv_iconst (v := 1) hx hb dL_law_1220 (by decide) ?_
  refine kv_iadd (v := 1) hx hb (by decide) dL_law_1221 ?_
  refine j_sld (j := 1) hx hb hX hbl hbA hw (by decide) (by decide) (by decide) dL_law_1222 ?_
  refine lv_aload_n hx hb dL_law_1223 rfl (lv_at hl 3 rfl) ?_
  refine lv_iload_n hx hb dL_law_1224 rfl (lv_at hl 0 rfl) ?_
  refine lv_iconst (v := 2) hx hb dL_law_1225 (by decide) ?_
  refine kv_iadd (v := 2) hx hb (by decide) dL_law_1226 ?_
  refine j_sld (j := 2) hx hb hX hbl hbA hw (by decide) (by decide) (by decide) dL_law_1227 ?_
  refine m_Vi (As := [.int (xs 1), .int (xs 2)]) (rest := [.int (-2)]) (c194_X12_had l D ct qm ((xs 1)) ((xs 2)) ((um 15)) ((um 0)) ((um 1)) ((um 2)) ((um 3)) ((um 4)) ((um 5)) ((um 6)) ((um 7)) ((um 8)) ((um 9)) ((um 10)) ((um 11)) ((um 12)) ((um 13)) ((um 14))) X hl.1 kw_2015 kd_yX12_had hw [0, 16] [1, 2, 3, 4, 5, 6, 7, 8, 9, 10, 11, 12, 13, 14, 15] rfl rfl rfl rfl (by decide) 0 rfl rfl ⟨by decide, by decide⟩ rfl rfl (Nat.le_of_ble_eq_true rfl) dL_law_1228 ⟨by decide, by decide⟩ (fun r4 u5 H locs hr6 hw => ?_)
  replace hw : WD D A s.heap _ _ [((um 0), .inl (ct 3, 2, .inl (fun _ => 0))), ((um 1), .inl (ct 0, 900, .inl (fun _ => 0))), ((um 2), .inl (ct 0, 1770, .inl (fun _ => 0))), ((um 3), .inl (ct 0, 900, .inl (fun _ => 0))), ((um 4), .inl (ct 0, 7, .inl (fun _ => 0))), ((um 5), .inl (ct 0, 56, .inl (fun _ => 0))), ((um 6), .inl (ct 0, 40320, .inl (fun _ => 0))), ((um 7), .inl (ct 0, 72, .inl (fun _ => 0))), ((um 8), .inl (ct 0, 7, .inl (fun _ => 0))), ((um 9), .inl (ct 0, 21870, .inl (fun _ => 0))), ((um 10), .inl (ct 0, 7, .inl fx1)), ((um 11), .inl (ct 0, 8, .inl (fun _ => 0))), ((um 12), .inl (ct 0, 4, .inl fx2)), ((um 13), .inl (ct 0, 4, .inl (fun _ => 0))), ((um 14), .inl (ct 2, 160, .inr (.inl (fun _ => 0))))] := hw
  subst hr6
  refine lv_icmp_eq (tgt := 1468) hx hb dL_law_1231 (by decide) (fun _ => ?_) (fun h => absurd (by decide) h)
  exact law_end C0 hA0 hw (lv_sub hl [0, 1, 2, 3] rfl) (by decide) (by decide)
set_option maxHeartbeats 4000000 in
set_option maxRecDepth 100000 in
theorem law_40 {p : Program} {l : Launch} {e : Env} {s : State} {m : MethodId} {below : List Frame} {meth : Method} {c : Code} {H : Heap} {locs : List Loc} {D : va_G} {ct : Nat → ClassId} {A : Nat → Prop} {ls : Array Slot} {b : Nat} {qx qm : Nat} {ux um : Nat → Nat} {xs : Nat → Int32} (C0 : lw_At p s m meth c b 6 xs) (hK0 : KK D ct s) (hA0 : ∀ q, A q → s.heap.size ≤ q) (hw : WD D A s.heap H locs (xWd ct qx ux ++ mWd ct qm um)) (hl : lv_has ls 4 [(3, .int 0), (2, .ref qm), (1, .ref qx), (0, .ref b)]) : W p l e room_1 s m #[Value.ref b] below meth c H locs 126 76620 (lw_Z below #[Value.ref b] s) (F0 m 1236 ls []) := by
  obtain ⟨hx, hb, hr, hml, hown, hts0, hX, hbl, hlocks, hgv⟩ := id C0
  have hts := tb_hts hts0
  have hK := hK0
  have X : CX p m c cL_law 4 s #[Value.ref b] RL D ct := ⟨⟨hx, hb, hml, hown, hts⟩, hK0⟩
  have hbA : ¬ A b := fun h => absurd (hA0 _ h) (Nat.not_le.mpr hbl)
  refine lv_aload_n hx hb dL_law_1236 rfl (lv_at hl 2 rfl) ?_
  refine lv_aload_n hx hb dL_law_1237 rfl (lv_at hl 3 rfl) ?_
  refine lv_iload_n hx hb dL_law_1238 rfl (lv_at hl 0 rfl) ?_
  refine lv_iconst (v := 1) hx hb dL_law_1239 (by decide) ?_
  refine kv_iadd (v := 1) hx hb (by decide) dL_law_1240 ?_
  refine j_sld (j := 1) hx hb hX hbl hbA hw (by decide) (by decide) (by decide) dL_law_1241 ?_
  refine m_Vi (As := [.int (xs 1)]) (rest := []) (c195_X11_wall l D ct qx ((xs 1)) ((ux 0)) ((ux 1)) ((ux 9)) ((ux 19)) ((ux 24)) ((ux 30)) ((ux 33)) ((ux 39)) ((ux 48)) ((ux 50)) ((ux 56)) ((ux 60)) ((ux 61)) ((ux 62)) ((ux 63)) ((ux 64)) ((ux 66)) ((ux 68)) ((ux 70)) ((ux 65)) ((ux 67)) ((ux 69)) ((ux 71))) X hl.1 kw_1382 kd_yX11_wall hw [0, 61, 65, 67, 69, 71] [73, 74, 75, 76, 77, 78, 79, 80, 81, 82, 83, 84, 85, 86, 87, 88, 89] rfl rfl rfl rfl (by decide) 0 rfl rfl ⟨by decide, by decide⟩ rfl rfl (Nat.le_of_ble_eq_true rfl) dL_law_1242 ⟨by decide, by decide⟩ (fun r1 u2 H locs hr3 hw => ?_)
  replace hw : WD D A s.heap _ _ (mWd ct qm um) := hw
  rcases hr3 with ⟨h4, rfl⟩ | ⟨h5, rfl⟩
  · skip
    refine lv_aload_n hx hb dL_law_1245 rfl (lv_at hl 1 rfl) ?_
    refine lv_aload_n hx hb dL_law_1246 rfl (lv_at hl 3 rfl) ?_
    refine lv_iload_n hx hb dL_law_1247 rfl (lv_at hl 0 rfl) ?_
    refine lv_iconst (v := 1) hx hb dL_law_1248 (by decide) ?_
    refine kv_iadd (v := 1) hx hb (by decide) dL_law_1249 ?_
    refine j_sld (j := 1) hx hb hX hbl hbA hw (by decide) (by decide) (by decide) dL_law_1250 ?_
    refine m_Vi (As := [.int (xs 1)]) (rest := [.int (-2)]) (c196_X12_wall l D ct qm ((xs 1)) ((um 15)) ((um 0)) ((um 1)) ((um 2)) ((um 3)) ((um 4)) ((um 5)) ((um 6)) ((um 7)) ((um 8)) ((um 9)) ((um 10)) ((um 11)) ((um 12)) ((um 13)) ((um 14))) X hl.1 kw_2019 kd_yX12_wall hw [0, 13] [1, 2, 3, 4, 5, 6, 7, 8, 9, 10, 11, 12, 14, 15, 16] rfl rfl rfl rfl (by decide) 0 rfl rfl ⟨by decide, by decide⟩ rfl rfl (Nat.le_of_ble_eq_true rfl) dL_law_1251 ⟨by decide, by decide⟩ (fun r6 u7 H locs hr8 hw => ?_)
    replace hw : WD D A s.heap _ _ [((um 0), .inl (ct 3, 2, .inl (fun _ => 0))), ((um 1), .inl (ct 0, 900, .inl (fun _ => 0))), ((um 2), .inl (ct 0, 1770, .inl (fun _ => 0))), ((um 3), .inl (ct 0, 900, .inl (fun _ => 0))), ((um 4), .inl (ct 0, 7, .inl (fun _ => 0))), ((um 5), .inl (ct 0, 56, .inl (fun _ => 0))), ((um 6), .inl (ct 0, 40320, .inl (fun _ => 0))), ((um 7), .inl (ct 0, 72, .inl (fun _ => 0))), ((um 8), .inl (ct 0, 7, .inl (fun _ => 0))), ((um 9), .inl (ct 0, 21870, .inl (fun _ => 0))), ((um 10), .inl (ct 0, 7, .inl fx1)), ((um 11), .inl (ct 0, 8, .inl (fun _ => 0))), ((um 13), .inl (ct 0, 4, .inl (fun _ => 0))), ((um 14), .inl (ct 2, 160, .inr (.inl (fun _ => 0)))), ((um 15), .inl (ct 0, 5310, .inl fx0))] := hw
    rcases hr8 with ⟨h9, rfl⟩ | ⟨h10, rfl⟩
    · skip
      refine lv_icmp_eq (tgt := 1468) hx hb dL_law_1254 (by decide) (fun _ => ?_) (fun h => absurd (by decide) h)
      exact law_end C0 hA0 hw (lv_sub hl [0, 1, 2, 3] rfl) (by decide) (by decide)
    · skip
      exfalso; omega
  · skip
    refine lv_aload_n hx hb dL_law_1245 rfl (lv_at hl 1 rfl) ?_
    refine lv_aload_n hx hb dL_law_1246 rfl (lv_at hl 3 rfl) ?_
    refine lv_iload_n hx hb dL_law_1247 rfl (lv_at hl 0 rfl) ?_
    refine lv_iconst (v := 1) hx hb dL_law_1248 (by decide) ?_
    refine kv_iadd (v := 1) hx hb (by decide) dL_law_1249 ?_
    refine j_sld (j := 1) hx hb hX hbl hbA hw (by decide) (by decide) (by decide) dL_law_1250 ?_
    refine m_Vi (As := [.int (xs 1)]) (rest := [.int (-6)]) (c196_X12_wall l D ct qm ((xs 1)) ((um 15)) ((um 0)) ((um 1)) ((um 2)) ((um 3)) ((um 4)) ((um 5)) ((um 6)) ((um 7)) ((um 8)) ((um 9)) ((um 10)) ((um 11)) ((um 12)) ((um 13)) ((um 14))) X hl.1 kw_2019 kd_yX12_wall hw [0, 13] [1, 2, 3, 4, 5, 6, 7, 8, 9, 10, 11, 12, 14, 15, 16] rfl rfl rfl rfl (by decide) 0 rfl rfl ⟨by decide, by decide⟩ rfl rfl (Nat.le_of_ble_eq_true rfl) dL_law_1251 ⟨by decide, by decide⟩ (fun r11 u12 H locs hr13 hw => ?_)
    replace hw : WD D A s.heap _ _ [((um 0), .inl (ct 3, 2, .inl (fun _ => 0))), ((um 1), .inl (ct 0, 900, .inl (fun _ => 0))), ((um 2), .inl (ct 0, 1770, .inl (fun _ => 0))), ((um 3), .inl (ct 0, 900, .inl (fun _ => 0))), ((um 4), .inl (ct 0, 7, .inl (fun _ => 0))), ((um 5), .inl (ct 0, 56, .inl (fun _ => 0))), ((um 6), .inl (ct 0, 40320, .inl (fun _ => 0))), ((um 7), .inl (ct 0, 72, .inl (fun _ => 0))), ((um 8), .inl (ct 0, 7, .inl (fun _ => 0))), ((um 9), .inl (ct 0, 21870, .inl (fun _ => 0))), ((um 10), .inl (ct 0, 7, .inl fx1)), ((um 11), .inl (ct 0, 8, .inl (fun _ => 0))), ((um 13), .inl (ct 0, 4, .inl (fun _ => 0))), ((um 14), .inl (ct 2, 160, .inr (.inl (fun _ => 0)))), ((um 15), .inl (ct 0, 5310, .inl fx0))] := hw
    rcases hr13 with ⟨h14, rfl⟩ | ⟨h15, rfl⟩
    · skip
      exfalso; omega
    · skip
      refine lv_icmp_eq (tgt := 1468) hx hb dL_law_1254 (by decide) (fun _ => ?_) (fun h => absurd (by decide) h)
      exact law_end C0 hA0 hw (lv_sub hl [0, 1, 2, 3] rfl) (by decide) (by decide)
set_option maxHeartbeats 4000000 in
set_option maxRecDepth 100000 in
theorem law_41 {p : Program} {l : Launch} {e : Env} {s : State} {m : MethodId} {below : List Frame} {meth : Method} {c : Code} {H : Heap} {locs : List Loc} {D : va_G} {ct : Nat → ClassId} {A : Nat → Prop} {ls : Array Slot} {b : Nat} {qx qm : Nat} {ux um : Nat → Nat} {xs : Nat → Int32} (C0 : lw_At p s m meth c b 6 xs) (hK0 : KK D ct s) (hA0 : ∀ q, A q → s.heap.size ≤ q) (hw : WD D A s.heap H locs (xWd ct qx ux ++ mWd ct qm um)) (hl : lv_has ls 4 [(3, .int 0), (2, .ref qm), (1, .ref qx), (0, .ref b)]) : W p l e room_1 s m #[Value.ref b] below meth c H locs 126 76620 (lw_Z below #[Value.ref b] s) (F0 m 1259 ls []) := by
  obtain ⟨hx, hb, hr, hml, hown, hts0, hX, hbl, hlocks, hgv⟩ := id C0
  have hts := tb_hts hts0
  have hK := hK0
  have X : CX p m c cL_law 4 s #[Value.ref b] RL D ct := ⟨⟨hx, hb, hml, hown, hts⟩, hK0⟩
  have hbA : ¬ A b := fun h => absurd (hA0 _ h) (Nat.not_le.mpr hbl)
  refine lv_aload_n hx hb dL_law_1259 rfl (lv_at hl 2 rfl) ?_
  refine lv_aload_n hx hb dL_law_1260 rfl (lv_at hl 3 rfl) ?_
  refine lv_iload_n hx hb dL_law_1261 rfl (lv_at hl 0 rfl) ?_
  refine lv_iconst (v := 1) hx hb dL_law_1262 (by decide) ?_
  refine kv_iadd (v := 1) hx hb (by decide) dL_law_1263 ?_
  refine j_sld (j := 1) hx hb hX hbl hbA hw (by decide) (by decide) (by decide) dL_law_1264 ?_
  refine lv_aload_n hx hb dL_law_1265 rfl (lv_at hl 3 rfl) ?_
  refine lv_iload_n hx hb dL_law_1266 rfl (lv_at hl 0 rfl) ?_
  refine lv_iconst (v := 2) hx hb dL_law_1267 (by decide) ?_
  refine kv_iadd (v := 2) hx hb (by decide) dL_law_1268 ?_
  refine j_sld (j := 2) hx hb hX hbl hbA hw (by decide) (by decide) (by decide) dL_law_1269 ?_
  refine lv_aload_n hx hb dL_law_1270 rfl (lv_at hl 3 rfl) ?_
  refine lv_iload_n hx hb dL_law_1271 rfl (lv_at hl 0 rfl) ?_
  refine lv_iconst (v := 3) hx hb dL_law_1272 (by decide) ?_
  refine kv_iadd (v := 3) hx hb (by decide) dL_law_1273 ?_
  refine j_sld (j := 3) hx hb hX hbl hbA hw (by decide) (by decide) (by decide) dL_law_1274 ?_
  refine m_Vi (As := [.int (xs 1), .int (xs 2), .int (xs 3)]) (rest := []) (c199_X11_numbers l D ct qx ((xs 1)) ((xs 2)) ((xs 3)) ((ux 0)) ((ux 1)) ((ux 9)) ((ux 19)) ((ux 24)) ((ux 30)) ((ux 33)) ((ux 39)) ((ux 48)) ((ux 50)) ((ux 56)) ((ux 60)) ((ux 61)) ((ux 62)) ((ux 63)) ((ux 64)) ((ux 66)) ((ux 68)) ((ux 70)) ((ux 65)) (fun _ => 0) ((ux 67)) ((ux 69)) ((ux 71))) X hl.1 kw_1391 kd_yX11_numbers hw [0, 61, 65, 66, 67, 68, 69, 70, 71, 72] [73, 74, 75, 76, 77, 78, 79, 80, 81, 82, 83, 84, 85, 86, 87, 88, 89] rfl rfl rfl rfl (by decide) 0 rfl rfl ⟨by decide, by decide⟩ rfl rfl (Nat.le_of_ble_eq_true rfl) dL_law_1275 ⟨by decide, by decide⟩ (fun r1 u2 H locs hr3 hw => ?_)
  replace hw : WD D A s.heap _ _ (mWd ct qm um) := hw
  rcases hr3 with ⟨h4, rfl⟩ | ⟨h5, rfl⟩ | ⟨h6, rfl⟩
  · skip
    refine lv_aload_n hx hb dL_law_1278 rfl (lv_at hl 1 rfl) ?_
    refine lv_aload_n hx hb dL_law_1279 rfl (lv_at hl 3 rfl) ?_
    refine lv_iload_n hx hb dL_law_1280 rfl (lv_at hl 0 rfl) ?_
    refine lv_iconst (v := 1) hx hb dL_law_1281 (by decide) ?_
    refine kv_iadd (v := 1) hx hb (by decide) dL_law_1282 ?_
    refine j_sld (j := 1) hx hb hX hbl hbA hw (by decide) (by decide) (by decide) dL_law_1283 ?_
    refine lv_aload_n hx hb dL_law_1284 rfl (lv_at hl 3 rfl) ?_
    refine lv_iload_n hx hb dL_law_1285 rfl (lv_at hl 0 rfl) ?_
    refine lv_iconst (v := 2) hx hb dL_law_1286 (by decide) ?_
    refine kv_iadd (v := 2) hx hb (by decide) dL_law_1287 ?_
    refine j_sld (j := 2) hx hb hX hbl hbA hw (by decide) (by decide) (by decide) dL_law_1288 ?_
    refine lv_aload_n hx hb dL_law_1289 rfl (lv_at hl 3 rfl) ?_
    refine lv_iload_n hx hb dL_law_1290 rfl (lv_at hl 0 rfl) ?_
    refine lv_iconst (v := 3) hx hb dL_law_1291 (by decide) ?_
    refine kv_iadd (v := 3) hx hb (by decide) dL_law_1292 ?_
    refine j_sld (j := 3) hx hb hX hbl hbA hw (by decide) (by decide) (by decide) dL_law_1293 ?_
    refine m_Vi (As := [.int (xs 1), .int (xs 2), .int (xs 3)]) (rest := [.int (-2)]) (c201_X12_numbers l D ct qm ((xs 1)) ((xs 2)) ((xs 3)) ((um 15)) ((um 0)) ((um 1)) ((um 2)) ((um 3)) ((um 4)) ((um 5)) ((um 6)) ((um 7)) ((um 8)) ((um 9)) ((um 10)) ((um 11)) ((um 12)) ((um 13)) ((um 14)) fx2 (fun _ => 0) (fun _ => 0)) X hl.1 kw_2027 kd_yX12_numbers hw [0, 13, 14, 15] [1, 2, 3, 4, 5, 6, 7, 8, 9, 10, 11, 12, 16] rfl rfl rfl rfl (by decide) 0 rfl rfl ⟨by decide, by decide⟩ rfl rfl (Nat.le_of_ble_eq_true rfl) dL_law_1294 ⟨by decide, by decide⟩ (fun r7 u8 H locs hr9 hw => ?_)
    replace hw : WD D A s.heap _ _ [((um 0), .inl (ct 3, 2, .inl (fun _ => 0))), ((um 1), .inl (ct 0, 900, .inl (fun _ => 0))), ((um 2), .inl (ct 0, 1770, .inl (fun _ => 0))), ((um 3), .inl (ct 0, 900, .inl (fun _ => 0))), ((um 4), .inl (ct 0, 7, .inl (fun _ => 0))), ((um 5), .inl (ct 0, 56, .inl (fun _ => 0))), ((um 6), .inl (ct 0, 40320, .inl (fun _ => 0))), ((um 7), .inl (ct 0, 72, .inl (fun _ => 0))), ((um 8), .inl (ct 0, 7, .inl (fun _ => 0))), ((um 9), .inl (ct 0, 21870, .inl (fun _ => 0))), ((um 10), .inl (ct 0, 7, .inl fx1)), ((um 11), .inl (ct 0, 8, .inl (fun _ => 0))), ((um 15), .inl (ct 0, 5310, .inl fx0))] := hw
    rcases hr9 with ⟨h10, rfl⟩ | ⟨⟨h11, h12, h13, h14, h15⟩, rfl⟩ | ⟨h16, rfl⟩
    · skip
      refine lv_icmp_eq (tgt := 1468) hx hb dL_law_1297 (by decide) (fun _ => ?_) (fun h => absurd (by decide) h)
      exact law_end C0 hA0 hw (lv_sub hl [0, 1, 2, 3] rfl) (by decide) (by decide)
    · skip
      exfalso; omega
    · skip
      exfalso; omega
  · skip
    refine lv_aload_n hx hb dL_law_1278 rfl (lv_at hl 1 rfl) ?_
    refine lv_aload_n hx hb dL_law_1279 rfl (lv_at hl 3 rfl) ?_
    refine lv_iload_n hx hb dL_law_1280 rfl (lv_at hl 0 rfl) ?_
    refine lv_iconst (v := 1) hx hb dL_law_1281 (by decide) ?_
    refine kv_iadd (v := 1) hx hb (by decide) dL_law_1282 ?_
    refine j_sld (j := 1) hx hb hX hbl hbA hw (by decide) (by decide) (by decide) dL_law_1283 ?_
    refine lv_aload_n hx hb dL_law_1284 rfl (lv_at hl 3 rfl) ?_
    refine lv_iload_n hx hb dL_law_1285 rfl (lv_at hl 0 rfl) ?_
    refine lv_iconst (v := 2) hx hb dL_law_1286 (by decide) ?_
    refine kv_iadd (v := 2) hx hb (by decide) dL_law_1287 ?_
    refine j_sld (j := 2) hx hb hX hbl hbA hw (by decide) (by decide) (by decide) dL_law_1288 ?_
    refine lv_aload_n hx hb dL_law_1289 rfl (lv_at hl 3 rfl) ?_
    refine lv_iload_n hx hb dL_law_1290 rfl (lv_at hl 0 rfl) ?_
    refine lv_iconst (v := 3) hx hb dL_law_1291 (by decide) ?_
    refine kv_iadd (v := 3) hx hb (by decide) dL_law_1292 ?_
    refine j_sld (j := 3) hx hb hX hbl hbA hw (by decide) (by decide) (by decide) dL_law_1293 ?_
    refine m_Vi (As := [.int (xs 1), .int (xs 2), .int (xs 3)]) (rest := [.int (-3)]) (c201_X12_numbers l D ct qm ((xs 1)) ((xs 2)) ((xs 3)) ((um 15)) ((um 0)) ((um 1)) ((um 2)) ((um 3)) ((um 4)) ((um 5)) ((um 6)) ((um 7)) ((um 8)) ((um 9)) ((um 10)) ((um 11)) ((um 12)) ((um 13)) ((um 14)) fx2 (fun _ => 0) (fun _ => 0)) X hl.1 kw_2027 kd_yX12_numbers hw [0, 13, 14, 15] [1, 2, 3, 4, 5, 6, 7, 8, 9, 10, 11, 12, 16] rfl rfl rfl rfl (by decide) 0 rfl rfl ⟨by decide, by decide⟩ rfl rfl (Nat.le_of_ble_eq_true rfl) dL_law_1294 ⟨by decide, by decide⟩ (fun r17 u18 H locs hr19 hw => ?_)
    replace hw : WD D A s.heap _ _ [((um 0), .inl (ct 3, 2, .inl (fun _ => 0))), ((um 1), .inl (ct 0, 900, .inl (fun _ => 0))), ((um 2), .inl (ct 0, 1770, .inl (fun _ => 0))), ((um 3), .inl (ct 0, 900, .inl (fun _ => 0))), ((um 4), .inl (ct 0, 7, .inl (fun _ => 0))), ((um 5), .inl (ct 0, 56, .inl (fun _ => 0))), ((um 6), .inl (ct 0, 40320, .inl (fun _ => 0))), ((um 7), .inl (ct 0, 72, .inl (fun _ => 0))), ((um 8), .inl (ct 0, 7, .inl (fun _ => 0))), ((um 9), .inl (ct 0, 21870, .inl (fun _ => 0))), ((um 10), .inl (ct 0, 7, .inl fx1)), ((um 11), .inl (ct 0, 8, .inl (fun _ => 0))), ((um 15), .inl (ct 0, 5310, .inl fx0))] := hw
    rcases hr19 with ⟨h20, rfl⟩ | ⟨⟨h21, h22, h23, h24, h25⟩, rfl⟩ | ⟨h26, rfl⟩
    · skip
      exfalso; omega
    · skip
      refine lv_icmp_eq (tgt := 1468) hx hb dL_law_1297 (by decide) (fun _ => ?_) (fun h => absurd (by decide) h)
      exact law_end C0 hA0 hw (lv_sub hl [0, 1, 2, 3] rfl) (by decide) (by decide)
    · skip
      exfalso; omega
  · skip
    refine lv_aload_n hx hb dL_law_1278 rfl (lv_at hl 1 rfl) ?_
    refine lv_aload_n hx hb dL_law_1279 rfl (lv_at hl 3 rfl) ?_
    refine lv_iload_n hx hb dL_law_1280 rfl (lv_at hl 0 rfl) ?_
    refine lv_iconst (v := 1) hx hb dL_law_1281 (by decide) ?_
    refine kv_iadd (v := 1) hx hb (by decide) dL_law_1282 ?_
    refine j_sld (j := 1) hx hb hX hbl hbA hw (by decide) (by decide) (by decide) dL_law_1283 ?_
    refine lv_aload_n hx hb dL_law_1284 rfl (lv_at hl 3 rfl) ?_
    refine lv_iload_n hx hb dL_law_1285 rfl (lv_at hl 0 rfl) ?_
    refine lv_iconst (v := 2) hx hb dL_law_1286 (by decide) ?_
    refine kv_iadd (v := 2) hx hb (by decide) dL_law_1287 ?_
    refine j_sld (j := 2) hx hb hX hbl hbA hw (by decide) (by decide) (by decide) dL_law_1288 ?_
    refine lv_aload_n hx hb dL_law_1289 rfl (lv_at hl 3 rfl) ?_
    refine lv_iload_n hx hb dL_law_1290 rfl (lv_at hl 0 rfl) ?_
    refine lv_iconst (v := 3) hx hb dL_law_1291 (by decide) ?_
    refine kv_iadd (v := 3) hx hb (by decide) dL_law_1292 ?_
    refine j_sld (j := 3) hx hb hX hbl hbA hw (by decide) (by decide) (by decide) dL_law_1293 ?_
    refine m_Vi (As := [.int (xs 1), .int (xs 2), .int (xs 3)]) (rest := [.int 0]) (c201_X12_numbers l D ct qm ((xs 1)) ((xs 2)) ((xs 3)) ((um 15)) ((um 0)) ((um 1)) ((um 2)) ((um 3)) ((um 4)) ((um 5)) ((um 6)) ((um 7)) ((um 8)) ((um 9)) ((um 10)) ((um 11)) ((um 12)) ((um 13)) ((um 14)) fx2 (fun _ => 0) (fun _ => 0)) X hl.1 kw_2027 kd_yX12_numbers hw [0, 13, 14, 15] [1, 2, 3, 4, 5, 6, 7, 8, 9, 10, 11, 12, 16] rfl rfl rfl rfl (by decide) 0 rfl rfl ⟨by decide, by decide⟩ rfl rfl (Nat.le_of_ble_eq_true rfl) dL_law_1294 ⟨by decide, by decide⟩ (fun r27 u28 H locs hr29 hw => ?_)
    replace hw : WD D A s.heap _ _ [((um 0), .inl (ct 3, 2, .inl (fun _ => 0))), ((um 1), .inl (ct 0, 900, .inl (fun _ => 0))), ((um 2), .inl (ct 0, 1770, .inl (fun _ => 0))), ((um 3), .inl (ct 0, 900, .inl (fun _ => 0))), ((um 4), .inl (ct 0, 7, .inl (fun _ => 0))), ((um 5), .inl (ct 0, 56, .inl (fun _ => 0))), ((um 6), .inl (ct 0, 40320, .inl (fun _ => 0))), ((um 7), .inl (ct 0, 72, .inl (fun _ => 0))), ((um 8), .inl (ct 0, 7, .inl (fun _ => 0))), ((um 9), .inl (ct 0, 21870, .inl (fun _ => 0))), ((um 10), .inl (ct 0, 7, .inl fx1)), ((um 11), .inl (ct 0, 8, .inl (fun _ => 0))), ((um 15), .inl (ct 0, 5310, .inl fx0))] := hw
    rcases hr29 with ⟨h30, rfl⟩ | ⟨⟨h31, h32, h33, h34, h35⟩, rfl⟩ | ⟨h36, rfl⟩
    · skip
      exfalso; omega
    · skip
      exfalso; omega
    · skip
      refine lv_icmp_eq (tgt := 1468) hx hb dL_law_1297 (by decide) (fun _ => ?_) (fun h => absurd (by decide) h)
      exact law_end C0 hA0 hw (lv_sub hl [0, 1, 2, 3] rfl) (by decide) (by decide)
set_option maxHeartbeats 4000000 in
set_option maxRecDepth 100000 in
theorem law_42 {p : Program} {l : Launch} {e : Env} {s : State} {m : MethodId} {below : List Frame} {meth : Method} {c : Code} {H : Heap} {locs : List Loc} {D : va_G} {ct : Nat → ClassId} {A : Nat → Prop} {ls : Array Slot} {b : Nat} {qx qm : Nat} {ux um : Nat → Nat} {xs : Nat → Int32} (C0 : lw_At p s m meth c b 6 xs) (hK0 : KK D ct s) (hA0 : ∀ q, A q → s.heap.size ≤ q) (hw : WD D A s.heap H locs (xWd ct qx ux ++ mWd ct qm um)) (hl : lv_has ls 4 [(3, .int 0), (2, .ref qm), (1, .ref qx), (0, .ref b)]) : W p l e room_1 s m #[Value.ref b] below meth c H locs 126 76620 (lw_Z below #[Value.ref b] s) (F0 m 1302 ls []) := by
  obtain ⟨hx, hb, hr, hml, hown, hts0, hX, hbl, hlocks, hgv⟩ := id C0
  have hts := tb_hts hts0
  have hK := hK0
  have X : CX p m c cL_law 4 s #[Value.ref b] RL D ct := ⟨⟨hx, hb, hml, hown, hts⟩, hK0⟩
  have hbA : ¬ A b := fun h => absurd (hA0 _ h) (Nat.not_le.mpr hbl)
  refine lv_aload_n hx hb dL_law_1302 rfl (lv_at hl 2 rfl) ?_
  refine lv_aload_n hx hb dL_law_1303 rfl (lv_at hl 3 rfl) ?_
  refine lv_iload_n hx hb dL_law_1304 rfl (lv_at hl 0 rfl) ?_
  refine lv_iconst (v := 1) hx hb dL_law_1305 (by decide) ?_
  refine kv_iadd (v := 1) hx hb (by decide) dL_law_1306 ?_
  refine j_sld (j := 1) hx hb hX hbl hbA hw (by decide) (by decide) (by decide) dL_law_1307 ?_
  refine lv_aload_n hx hb dL_law_1308 rfl (lv_at hl 3 rfl) ?_
  refine lv_iload_n hx hb dL_law_1309 rfl (lv_at hl 0 rfl) ?_
  refine lv_iconst (v := 2) hx hb dL_law_1310 (by decide) ?_
  refine kv_iadd (v := 2) hx hb (by decide) dL_law_1311 ?_
  refine j_sld (j := 2) hx hb hX hbl hbA hw (by decide) (by decide) (by decide) dL_law_1312 ?_
  refine lv_aload_n hx hb dL_law_1313 rfl (lv_at hl 3 rfl) ?_
  refine lv_iload_n hx hb dL_law_1314 rfl (lv_at hl 0 rfl) ?_
  refine lv_iconst (v := 3) hx hb dL_law_1315 (by decide) ?_
  refine kv_iadd (v := 3) hx hb (by decide) dL_law_1316 ?_
  refine j_sld (j := 3) hx hb hX hbl hbA hw (by decide) (by decide) (by decide) dL_law_1317 ?_
  refine lv_i2l (v := (xs 3).toInt64) hx hb dL_law_1318 rfl ?_
  refine lv_bipush (v := 32) hx hb dL_law_1319 (by decide) ?_
  refine lv_lshl (v := ((xs 3).toInt64 <<< ((32 : Int32).toInt64 &&& 63))) hx hb dL_law_1321 rfl ?_
  refine lv_aload_n hx hb dL_law_1322 rfl (lv_at hl 3 rfl) ?_
  refine lv_iload_n hx hb dL_law_1323 rfl (lv_at hl 0 rfl) ?_
  refine lv_iconst (v := 4) hx hb dL_law_1324 (by decide) ?_
  refine kv_iadd (v := 4) hx hb (by decide) dL_law_1325 ?_
  refine j_sld (j := 4) hx hb hX hbl hbA hw (by decide) (by decide) (by decide) dL_law_1326 ?_
  refine lv_i2l (v := (xs 4).toInt64) hx hb dL_law_1327 rfl ?_
  refine lv_ldc2 hx hb hown (hts _ wd_2060) dL_law_1328 ?_
  refine kv_land (v := ((xs 4).toInt64 &&& 4294967295)) hx hb rfl dL_law_1331 ?_
  refine kv_lor (v := (((xs 3).toInt64 <<< ((32 : Int32).toInt64 &&& 63)) ||| ((xs 4).toInt64 &&& 4294967295))) hx hb rfl dL_law_1332 ?_
  refine m_Vl (As := [.int (xs 1), .int (xs 2), .long (((xs 3).toInt64 <<< ((32 : Int32).toInt64 &&& 63)) ||| ((xs 4).toInt64 &&& 4294967295))]) (rest := []) (c202_X11_write l D ct qx ((xs 1)) ((xs 2)) ((((xs 3).toInt64 <<< ((32 : Int32).toInt64 &&& 63)) ||| ((xs 4).toInt64 &&& 4294967295))) ((ux 0)) ((ux 1)) ((ux 9)) ((ux 19)) ((ux 24)) ((ux 30)) ((ux 33)) ((ux 39)) ((ux 48)) ((ux 50)) ((ux 56)) ((ux 60)) ((ux 61)) ((ux 62)) ((ux 63)) ((ux 64)) ((ux 66)) ((ux 68)) ((ux 70)) ((ux 65)) ((ux 67)) ((ux 69)) ((ux 71))) X hl.1 kw_1402 kd_yX11_write hw [0, 61, 65, 67, 69, 71] [73, 74, 75, 76, 77, 78, 79, 80, 81, 82, 83, 84, 85, 86, 87, 88, 89] rfl rfl rfl rfl (by decide) 0 rfl rfl ⟨by decide, by decide⟩ rfl rfl (Nat.le_of_ble_eq_true rfl) dL_law_1333 ⟨by decide, by decide⟩ (fun r1 u2 H locs hr3 hw => ?_)
  replace hw : WD D A s.heap _ _ (mWd ct qm um) := hw
  rcases hr3 with ⟨h4, rfl⟩ | ⟨h5, rfl⟩
  · skip
    refine lv_aload_n hx hb dL_law_1336 rfl (lv_at hl 1 rfl) ?_
    refine lv_aload_n hx hb dL_law_1337 rfl (lv_at hl 3 rfl) ?_
    refine lv_iload_n hx hb dL_law_1338 rfl (lv_at hl 0 rfl) ?_
    refine lv_iconst (v := 1) hx hb dL_law_1339 (by decide) ?_
    refine kv_iadd (v := 1) hx hb (by decide) dL_law_1340 ?_
    refine j_sld (j := 1) hx hb hX hbl hbA hw (by decide) (by decide) (by decide) dL_law_1341 ?_
    refine lv_aload_n hx hb dL_law_1342 rfl (lv_at hl 3 rfl) ?_
    refine lv_iload_n hx hb dL_law_1343 rfl (lv_at hl 0 rfl) ?_
    refine lv_iconst (v := 2) hx hb dL_law_1344 (by decide) ?_
    refine kv_iadd (v := 2) hx hb (by decide) dL_law_1345 ?_
    refine j_sld (j := 2) hx hb hX hbl hbA hw (by decide) (by decide) (by decide) dL_law_1346 ?_
    refine lv_aload_n hx hb dL_law_1347 rfl (lv_at hl 3 rfl) ?_
    refine lv_iload_n hx hb dL_law_1348 rfl (lv_at hl 0 rfl) ?_
    refine lv_iconst (v := 3) hx hb dL_law_1349 (by decide) ?_
    refine kv_iadd (v := 3) hx hb (by decide) dL_law_1350 ?_
    refine j_sld (j := 3) hx hb hX hbl hbA hw (by decide) (by decide) (by decide) dL_law_1351 ?_
    refine lv_i2l (v := (xs 3).toInt64) hx hb dL_law_1352 rfl ?_
    refine lv_bipush (v := 32) hx hb dL_law_1353 (by decide) ?_
    refine lv_lshl (v := ((xs 3).toInt64 <<< ((32 : Int32).toInt64 &&& 63))) hx hb dL_law_1355 rfl ?_
    refine lv_aload_n hx hb dL_law_1356 rfl (lv_at hl 3 rfl) ?_
    refine lv_iload_n hx hb dL_law_1357 rfl (lv_at hl 0 rfl) ?_
    refine lv_iconst (v := 4) hx hb dL_law_1358 (by decide) ?_
    refine kv_iadd (v := 4) hx hb (by decide) dL_law_1359 ?_
    refine j_sld (j := 4) hx hb hX hbl hbA hw (by decide) (by decide) (by decide) dL_law_1360 ?_
    refine lv_i2l (v := (xs 4).toInt64) hx hb dL_law_1361 rfl ?_
    refine lv_ldc2 hx hb hown (hts _ wd_2060) dL_law_1362 ?_
    refine kv_land (v := ((xs 4).toInt64 &&& 4294967295)) hx hb rfl dL_law_1365 ?_
    refine kv_lor (v := (((xs 3).toInt64 <<< ((32 : Int32).toInt64 &&& 63)) ||| ((xs 4).toInt64 &&& 4294967295))) hx hb rfl dL_law_1366 ?_
    refine m_Vl (As := [.int (xs 1), .int (xs 2), .long (((xs 3).toInt64 <<< ((32 : Int32).toInt64 &&& 63)) ||| ((xs 4).toInt64 &&& 4294967295))]) (rest := [.long (-2)]) (c203_X12_write l D ct qm ((xs 1)) ((xs 2)) ((((xs 3).toInt64 <<< ((32 : Int32).toInt64 &&& 63)) ||| ((xs 4).toInt64 &&& 4294967295))) ((um 15)) ((um 0)) ((um 1)) ((um 2)) ((um 3)) ((um 4)) ((um 5)) ((um 6)) ((um 7)) ((um 8)) ((um 9)) ((um 10)) ((um 11)) ((um 12)) ((um 13)) ((um 14))) X hl.1 kw_2032 kd_yX12_write hw [0, 13] [1, 2, 3, 4, 5, 6, 7, 8, 9, 10, 11, 12, 14, 15, 16] rfl rfl rfl rfl (by decide) 0 rfl rfl ⟨by decide, by decide⟩ rfl rfl (Nat.le_of_ble_eq_true rfl) dL_law_1367 ⟨by decide, by decide⟩ (fun r6 u7 H locs hr8 hw => ?_)
    replace hw : WD D A s.heap _ _ [((um 0), .inl (ct 3, 2, .inl (fun _ => 0))), ((um 1), .inl (ct 0, 900, .inl (fun _ => 0))), ((um 2), .inl (ct 0, 1770, .inl (fun _ => 0))), ((um 3), .inl (ct 0, 900, .inl (fun _ => 0))), ((um 4), .inl (ct 0, 7, .inl (fun _ => 0))), ((um 5), .inl (ct 0, 56, .inl (fun _ => 0))), ((um 6), .inl (ct 0, 40320, .inl (fun _ => 0))), ((um 7), .inl (ct 0, 72, .inl (fun _ => 0))), ((um 8), .inl (ct 0, 7, .inl (fun _ => 0))), ((um 9), .inl (ct 0, 21870, .inl (fun _ => 0))), ((um 10), .inl (ct 0, 7, .inl fx1)), ((um 11), .inl (ct 0, 8, .inl (fun _ => 0))), ((um 13), .inl (ct 0, 4, .inl (fun _ => 0))), ((um 14), .inl (ct 2, 160, .inr (.inl (fun _ => 0)))), ((um 15), .inl (ct 0, 5310, .inl fx0))] := hw
    rcases hr8 with ⟨h9, rfl⟩ | ⟨h10, rfl⟩
    · skip
      refine kv_lcmp (v := 0) hx hb (by decide) dL_law_1370 ?_
      refine lv_if_eq (tgt := 1468) hx hb dL_law_1371 (by decide) (fun _ => ?_) (fun h => absurd (by decide) h)
      exact law_end C0 hA0 hw (lv_sub hl [0, 1, 2, 3] rfl) (by decide) (by decide)
    · skip
      exfalso; omega
  · skip
    refine lv_aload_n hx hb dL_law_1336 rfl (lv_at hl 1 rfl) ?_
    refine lv_aload_n hx hb dL_law_1337 rfl (lv_at hl 3 rfl) ?_
    refine lv_iload_n hx hb dL_law_1338 rfl (lv_at hl 0 rfl) ?_
    refine lv_iconst (v := 1) hx hb dL_law_1339 (by decide) ?_
    refine kv_iadd (v := 1) hx hb (by decide) dL_law_1340 ?_
    refine j_sld (j := 1) hx hb hX hbl hbA hw (by decide) (by decide) (by decide) dL_law_1341 ?_
    refine lv_aload_n hx hb dL_law_1342 rfl (lv_at hl 3 rfl) ?_
    refine lv_iload_n hx hb dL_law_1343 rfl (lv_at hl 0 rfl) ?_
    refine lv_iconst (v := 2) hx hb dL_law_1344 (by decide) ?_
    refine kv_iadd (v := 2) hx hb (by decide) dL_law_1345 ?_
    refine j_sld (j := 2) hx hb hX hbl hbA hw (by decide) (by decide) (by decide) dL_law_1346 ?_
    refine lv_aload_n hx hb dL_law_1347 rfl (lv_at hl 3 rfl) ?_
    refine lv_iload_n hx hb dL_law_1348 rfl (lv_at hl 0 rfl) ?_
    refine lv_iconst (v := 3) hx hb dL_law_1349 (by decide) ?_
    refine kv_iadd (v := 3) hx hb (by decide) dL_law_1350 ?_
    refine j_sld (j := 3) hx hb hX hbl hbA hw (by decide) (by decide) (by decide) dL_law_1351 ?_
    refine lv_i2l (v := (xs 3).toInt64) hx hb dL_law_1352 rfl ?_
    refine lv_bipush (v := 32) hx hb dL_law_1353 (by decide) ?_
    refine lv_lshl (v := ((xs 3).toInt64 <<< ((32 : Int32).toInt64 &&& 63))) hx hb dL_law_1355 rfl ?_
    refine lv_aload_n hx hb dL_law_1356 rfl (lv_at hl 3 rfl) ?_
    refine lv_iload_n hx hb dL_law_1357 rfl (lv_at hl 0 rfl) ?_
    refine lv_iconst (v := 4) hx hb dL_law_1358 (by decide) ?_
    refine kv_iadd (v := 4) hx hb (by decide) dL_law_1359 ?_
    refine j_sld (j := 4) hx hb hX hbl hbA hw (by decide) (by decide) (by decide) dL_law_1360 ?_
    refine lv_i2l (v := (xs 4).toInt64) hx hb dL_law_1361 rfl ?_
    refine lv_ldc2 hx hb hown (hts _ wd_2060) dL_law_1362 ?_
    refine kv_land (v := ((xs 4).toInt64 &&& 4294967295)) hx hb rfl dL_law_1365 ?_
    refine kv_lor (v := (((xs 3).toInt64 <<< ((32 : Int32).toInt64 &&& 63)) ||| ((xs 4).toInt64 &&& 4294967295))) hx hb rfl dL_law_1366 ?_
    refine m_Vl (As := [.int (xs 1), .int (xs 2), .long (((xs 3).toInt64 <<< ((32 : Int32).toInt64 &&& 63)) ||| ((xs 4).toInt64 &&& 4294967295))]) (rest := [.long (-6)]) (c203_X12_write l D ct qm ((xs 1)) ((xs 2)) ((((xs 3).toInt64 <<< ((32 : Int32).toInt64 &&& 63)) ||| ((xs 4).toInt64 &&& 4294967295))) ((um 15)) ((um 0)) ((um 1)) ((um 2)) ((um 3)) ((um 4)) ((um 5)) ((um 6)) ((um 7)) ((um 8)) ((um 9)) ((um 10)) ((um 11)) ((um 12)) ((um 13)) ((um 14))) X hl.1 kw_2032 kd_yX12_write hw [0, 13] [1, 2, 3, 4, 5, 6, 7, 8, 9, 10, 11, 12, 14, 15, 16] rfl rfl rfl rfl (by decide) 0 rfl rfl ⟨by decide, by decide⟩ rfl rfl (Nat.le_of_ble_eq_true rfl) dL_law_1367 ⟨by decide, by decide⟩ (fun r11 u12 H locs hr13 hw => ?_)
    replace hw : WD D A s.heap _ _ [((um 0), .inl (ct 3, 2, .inl (fun _ => 0))), ((um 1), .inl (ct 0, 900, .inl (fun _ => 0))), ((um 2), .inl (ct 0, 1770, .inl (fun _ => 0))), ((um 3), .inl (ct 0, 900, .inl (fun _ => 0))), ((um 4), .inl (ct 0, 7, .inl (fun _ => 0))), ((um 5), .inl (ct 0, 56, .inl (fun _ => 0))), ((um 6), .inl (ct 0, 40320, .inl (fun _ => 0))), ((um 7), .inl (ct 0, 72, .inl (fun _ => 0))), ((um 8), .inl (ct 0, 7, .inl (fun _ => 0))), ((um 9), .inl (ct 0, 21870, .inl (fun _ => 0))), ((um 10), .inl (ct 0, 7, .inl fx1)), ((um 11), .inl (ct 0, 8, .inl (fun _ => 0))), ((um 13), .inl (ct 0, 4, .inl (fun _ => 0))), ((um 14), .inl (ct 2, 160, .inr (.inl (fun _ => 0)))), ((um 15), .inl (ct 0, 5310, .inl fx0))] := hw
    rcases hr13 with ⟨h14, rfl⟩ | ⟨h15, rfl⟩
    · skip
      exfalso; omega
    · skip
      refine kv_lcmp (v := 0) hx hb (by decide) dL_law_1370 ?_
      refine lv_if_eq (tgt := 1468) hx hb dL_law_1371 (by decide) (fun _ => ?_) (fun h => absurd (by decide) h)
      exact law_end C0 hA0 hw (lv_sub hl [0, 1, 2, 3] rfl) (by decide) (by decide)
set_option maxHeartbeats 4000000 in
set_option maxRecDepth 100000 in
theorem law_43 {p : Program} {l : Launch} {e : Env} {s : State} {m : MethodId} {below : List Frame} {meth : Method} {c : Code} {H : Heap} {locs : List Loc} {D : va_G} {ct : Nat → ClassId} {A : Nat → Prop} {ls : Array Slot} {b : Nat} {qx qm : Nat} {ux um : Nat → Nat} {xs : Nat → Int32} (C0 : lw_At p s m meth c b 6 xs) (hK0 : KK D ct s) (hA0 : ∀ q, A q → s.heap.size ≤ q) (hw : WD D A s.heap H locs (xWd ct qx ux ++ mWd ct qm um)) (hl : lv_has ls 4 [(3, .int 0), (2, .ref qm), (1, .ref qx), (0, .ref b)]) : W p l e room_1 s m #[Value.ref b] below meth c H locs 126 76620 (lw_Z below #[Value.ref b] s) (F0 m 1376 ls []) := by
  obtain ⟨hx, hb, hr, hml, hown, hts0, hX, hbl, hlocks, hgv⟩ := id C0
  have hts := tb_hts hts0
  have hK := hK0
  have X : CX p m c cL_law 4 s #[Value.ref b] RL D ct := ⟨⟨hx, hb, hml, hown, hts⟩, hK0⟩
  have hbA : ¬ A b := fun h => absurd (hA0 _ h) (Nat.not_le.mpr hbl)
  refine lv_aload_n hx hb dL_law_1376 rfl (lv_at hl 2 rfl) ?_
  refine lv_aload_n hx hb dL_law_1377 rfl (lv_at hl 3 rfl) ?_
  refine lv_iload_n hx hb dL_law_1378 rfl (lv_at hl 0 rfl) ?_
  refine lv_iconst (v := 1) hx hb dL_law_1379 (by decide) ?_
  refine kv_iadd (v := 1) hx hb (by decide) dL_law_1380 ?_
  refine j_sld (j := 1) hx hb hX hbl hbA hw (by decide) (by decide) (by decide) dL_law_1381 ?_
  refine m_Vi (As := [.int (xs 1)]) (rest := []) (c204_X11_lists l D ct qx ((xs 1)) ((ux 0)) ((ux 1)) ((ux 9)) ((ux 19)) ((ux 24)) ((ux 30)) ((ux 33)) ((ux 39)) ((ux 48)) ((ux 50)) ((ux 56)) ((ux 60)) ((ux 61)) ((ux 62)) ((ux 63)) ((ux 64)) ((ux 66)) ((ux 68)) ((ux 70)) ((ux 65)) ((ux 67)) ((ux 69)) ((ux 71))) X hl.1 kw_1411 kd_yX11_lists hw [0, 61, 65, 67, 69, 71] [73, 74, 75, 76, 77, 78, 79, 80, 81, 82, 83, 84, 85, 86, 87, 88, 89] rfl rfl rfl rfl (by decide) 0 rfl rfl ⟨by decide, by decide⟩ rfl rfl (Nat.le_of_ble_eq_true rfl) dL_law_1382 ⟨by decide, by decide⟩ (fun r1 u2 H locs hr3 hw => ?_)
  replace hw : WD D A s.heap _ _ (mWd ct qm um) := hw
  rcases hr3 with ⟨h4, rfl⟩ | ⟨h5, rfl⟩
  · skip
    refine lv_aload_n hx hb dL_law_1385 rfl (lv_at hl 1 rfl) ?_
    refine lv_aload_n hx hb dL_law_1386 rfl (lv_at hl 3 rfl) ?_
    refine lv_iload_n hx hb dL_law_1387 rfl (lv_at hl 0 rfl) ?_
    refine lv_iconst (v := 1) hx hb dL_law_1388 (by decide) ?_
    refine kv_iadd (v := 1) hx hb (by decide) dL_law_1389 ?_
    refine j_sld (j := 1) hx hb hX hbl hbA hw (by decide) (by decide) (by decide) dL_law_1390 ?_
    refine m_Vi (As := [.int (xs 1)]) (rest := [.int (-2)]) (c205_X12_lists l D ct qm ((xs 1)) ((um 15)) ((um 0)) ((um 1)) ((um 2)) ((um 3)) ((um 4)) ((um 5)) ((um 6)) ((um 7)) ((um 8)) ((um 9)) ((um 10)) ((um 11)) ((um 12)) ((um 13)) ((um 14))) X hl.1 kw_2040 kd_yX12_lists hw [0, 13] [1, 2, 3, 4, 5, 6, 7, 8, 9, 10, 11, 12, 14, 15, 16] rfl rfl rfl rfl (by decide) 0 rfl rfl ⟨by decide, by decide⟩ rfl rfl (Nat.le_of_ble_eq_true rfl) dL_law_1391 ⟨by decide, by decide⟩ (fun r6 u7 H locs hr8 hw => ?_)
    replace hw : WD D A s.heap _ _ [((um 0), .inl (ct 3, 2, .inl (fun _ => 0))), ((um 1), .inl (ct 0, 900, .inl (fun _ => 0))), ((um 2), .inl (ct 0, 1770, .inl (fun _ => 0))), ((um 3), .inl (ct 0, 900, .inl (fun _ => 0))), ((um 4), .inl (ct 0, 7, .inl (fun _ => 0))), ((um 5), .inl (ct 0, 56, .inl (fun _ => 0))), ((um 6), .inl (ct 0, 40320, .inl (fun _ => 0))), ((um 7), .inl (ct 0, 72, .inl (fun _ => 0))), ((um 8), .inl (ct 0, 7, .inl (fun _ => 0))), ((um 9), .inl (ct 0, 21870, .inl (fun _ => 0))), ((um 10), .inl (ct 0, 7, .inl fx1)), ((um 11), .inl (ct 0, 8, .inl (fun _ => 0))), ((um 13), .inl (ct 0, 4, .inl (fun _ => 0))), ((um 14), .inl (ct 2, 160, .inr (.inl (fun _ => 0)))), ((um 15), .inl (ct 0, 5310, .inl fx0))] := hw
    rcases hr8 with ⟨h9, rfl⟩ | ⟨h10, rfl⟩
    · skip
      refine lv_icmp_eq (tgt := 1468) hx hb dL_law_1394 (by decide) (fun _ => ?_) (fun h => absurd (by decide) h)
      exact law_end C0 hA0 hw (lv_sub hl [0, 1, 2, 3] rfl) (by decide) (by decide)
    · skip
      exfalso; omega
  · skip
    refine lv_aload_n hx hb dL_law_1385 rfl (lv_at hl 1 rfl) ?_
    refine lv_aload_n hx hb dL_law_1386 rfl (lv_at hl 3 rfl) ?_
    refine lv_iload_n hx hb dL_law_1387 rfl (lv_at hl 0 rfl) ?_
    refine lv_iconst (v := 1) hx hb dL_law_1388 (by decide) ?_
    refine kv_iadd (v := 1) hx hb (by decide) dL_law_1389 ?_
    refine j_sld (j := 1) hx hb hX hbl hbA hw (by decide) (by decide) (by decide) dL_law_1390 ?_
    refine m_Vi (As := [.int (xs 1)]) (rest := [.int (-6)]) (c205_X12_lists l D ct qm ((xs 1)) ((um 15)) ((um 0)) ((um 1)) ((um 2)) ((um 3)) ((um 4)) ((um 5)) ((um 6)) ((um 7)) ((um 8)) ((um 9)) ((um 10)) ((um 11)) ((um 12)) ((um 13)) ((um 14))) X hl.1 kw_2040 kd_yX12_lists hw [0, 13] [1, 2, 3, 4, 5, 6, 7, 8, 9, 10, 11, 12, 14, 15, 16] rfl rfl rfl rfl (by decide) 0 rfl rfl ⟨by decide, by decide⟩ rfl rfl (Nat.le_of_ble_eq_true rfl) dL_law_1391 ⟨by decide, by decide⟩ (fun r11 u12 H locs hr13 hw => ?_)
    replace hw : WD D A s.heap _ _ [((um 0), .inl (ct 3, 2, .inl (fun _ => 0))), ((um 1), .inl (ct 0, 900, .inl (fun _ => 0))), ((um 2), .inl (ct 0, 1770, .inl (fun _ => 0))), ((um 3), .inl (ct 0, 900, .inl (fun _ => 0))), ((um 4), .inl (ct 0, 7, .inl (fun _ => 0))), ((um 5), .inl (ct 0, 56, .inl (fun _ => 0))), ((um 6), .inl (ct 0, 40320, .inl (fun _ => 0))), ((um 7), .inl (ct 0, 72, .inl (fun _ => 0))), ((um 8), .inl (ct 0, 7, .inl (fun _ => 0))), ((um 9), .inl (ct 0, 21870, .inl (fun _ => 0))), ((um 10), .inl (ct 0, 7, .inl fx1)), ((um 11), .inl (ct 0, 8, .inl (fun _ => 0))), ((um 13), .inl (ct 0, 4, .inl (fun _ => 0))), ((um 14), .inl (ct 2, 160, .inr (.inl (fun _ => 0)))), ((um 15), .inl (ct 0, 5310, .inl fx0))] := hw
    rcases hr13 with ⟨h14, rfl⟩ | ⟨h15, rfl⟩
    · skip
      exfalso; omega
    · skip
      refine lv_icmp_eq (tgt := 1468) hx hb dL_law_1394 (by decide) (fun _ => ?_) (fun h => absurd (by decide) h)
      exact law_end C0 hA0 hw (lv_sub hl [0, 1, 2, 3] rfl) (by decide) (by decide)
set_option maxHeartbeats 4000000 in
set_option maxRecDepth 100000 in
theorem law_44 {p : Program} {l : Launch} {e : Env} {s : State} {m : MethodId} {below : List Frame} {meth : Method} {c : Code} {H : Heap} {locs : List Loc} {D : va_G} {ct : Nat → ClassId} {A : Nat → Prop} {ls : Array Slot} {b : Nat} {qx qm : Nat} {ux um : Nat → Nat} {xs : Nat → Int32} (C0 : lw_At p s m meth c b 6 xs) (hK0 : KK D ct s) (hA0 : ∀ q, A q → s.heap.size ≤ q) (hw : WD D A s.heap H locs (xWd ct qx ux ++ mWd ct qm um)) (hl : lv_has ls 4 [(3, .int 0), (2, .ref qm), (1, .ref qx), (0, .ref b)]) : W p l e room_1 s m #[Value.ref b] below meth c H locs 126 76620 (lw_Z below #[Value.ref b] s) (F0 m 1399 ls []) := by
  obtain ⟨hx, hb, hr, hml, hown, hts0, hX, hbl, hlocks, hgv⟩ := id C0
  have hts := tb_hts hts0
  have hK := hK0
  have X : CX p m c cL_law 4 s #[Value.ref b] RL D ct := ⟨⟨hx, hb, hml, hown, hts⟩, hK0⟩
  have hbA : ¬ A b := fun h => absurd (hA0 _ h) (Nat.not_le.mpr hbl)
  refine lv_aload_n hx hb dL_law_1399 rfl (lv_at hl 2 rfl) ?_
  refine lv_aload_n hx hb dL_law_1400 rfl (lv_at hl 3 rfl) ?_
  refine lv_iload_n hx hb dL_law_1401 rfl (lv_at hl 0 rfl) ?_
  refine lv_iconst (v := 1) hx hb dL_law_1402 (by decide) ?_
  refine kv_iadd (v := 1) hx hb (by decide) dL_law_1403 ?_
  refine j_sld (j := 1) hx hb hX hbl hbA hw (by decide) (by decide) (by decide) dL_law_1404 ?_
  refine m_Vi (As := [.int (xs 1)]) (rest := []) (c209_X11_image l D ct qx ((xs 1)) ((ux 0)) ((ux 1)) ((ux 9)) ((ux 19)) ((ux 24)) ((ux 30)) ((ux 33)) ((ux 39)) ((ux 48)) ((ux 50)) ((ux 56)) ((ux 60)) ((ux 61)) ((ux 62)) ((ux 63)) ((ux 2)) ((ux 3)) ((ux 4)) ((ux 5)) (fun _ => 0) ((ux 8)) ((ux 6)) ((ux 7)) (va_cpy (fun _ => (-1)) (fun _ => 0) 0 0 7)) X hl.1 kw_1416 kd_yX11_image hw [0, 2, 3, 4, 5, 6, 7, 8, 9, 62] [73, 74, 75, 76, 77, 78, 79, 80, 81, 82, 83, 84, 85, 86, 87, 88, 89] rfl rfl rfl rfl (by decide) 0 rfl rfl ⟨by decide, by decide⟩ rfl rfl (Nat.le_of_ble_eq_true rfl) dL_law_1405 ⟨by decide, by decide⟩ (fun r1 u2 H locs hr3 hw => ?_)
  replace hw : WD D A s.heap _ _ (mWd ct qm um) := hw
  rcases hr3 with ⟨h4, rfl⟩ | ⟨h5, rfl⟩
  · skip
    refine lv_aload_n hx hb dL_law_1408 rfl (lv_at hl 1 rfl) ?_
    refine lv_aload_n hx hb dL_law_1409 rfl (lv_at hl 3 rfl) ?_
    refine lv_iload_n hx hb dL_law_1410 rfl (lv_at hl 0 rfl) ?_
    refine lv_iconst (v := 1) hx hb dL_law_1411 (by decide) ?_
    refine kv_iadd (v := 1) hx hb (by decide) dL_law_1412 ?_
    refine j_sld (j := 1) hx hb hX hbl hbA hw (by decide) (by decide) (by decide) dL_law_1413 ?_
    refine m_Vi (As := [.int (xs 1)]) (rest := [.int (-2)]) (c210_X12_image l D ct qm ((xs 1)) ((um 15)) ((um 0)) ((um 1)) ((um 2)) ((um 3)) ((um 4)) ((um 5)) ((um 6)) ((um 7)) ((um 8)) ((um 9)) ((um 10)) ((um 11)) ((um 12)) ((um 13)) ((um 14)) (fun _ => 0)) X hl.1 kw_2044 kd_yX12_image hw [0, 1, 16] [2, 3, 4, 5, 6, 7, 8, 9, 10, 11, 12, 13, 14, 15] rfl rfl rfl rfl (by decide) 0 rfl rfl ⟨by decide, by decide⟩ rfl rfl (Nat.le_of_ble_eq_true rfl) dL_law_1414 ⟨by decide, by decide⟩ (fun r6 u7 H locs hr8 hw => ?_)
    replace hw : WD D A s.heap _ _ [((um 1), .inl (ct 0, 900, .inl (fun _ => 0))), ((um 2), .inl (ct 0, 1770, .inl (fun _ => 0))), ((um 3), .inl (ct 0, 900, .inl (fun _ => 0))), ((um 4), .inl (ct 0, 7, .inl (fun _ => 0))), ((um 5), .inl (ct 0, 56, .inl (fun _ => 0))), ((um 6), .inl (ct 0, 40320, .inl (fun _ => 0))), ((um 7), .inl (ct 0, 72, .inl (fun _ => 0))), ((um 8), .inl (ct 0, 7, .inl (fun _ => 0))), ((um 9), .inl (ct 0, 21870, .inl (fun _ => 0))), ((um 10), .inl (ct 0, 7, .inl fx1)), ((um 11), .inl (ct 0, 8, .inl (fun _ => 0))), ((um 12), .inl (ct 0, 4, .inl fx2)), ((um 13), .inl (ct 0, 4, .inl (fun _ => 0))), ((um 14), .inl (ct 2, 160, .inr (.inl (fun _ => 0))))] := hw
    rcases hr8 with ⟨h9, rfl⟩ | ⟨h10, rfl⟩
    · skip
      refine lv_icmp_eq (tgt := 1468) hx hb dL_law_1417 (by decide) (fun _ => ?_) (fun h => absurd (by decide) h)
      exact law_end C0 hA0 hw (lv_sub hl [0, 1, 2, 3] rfl) (by decide) (by decide)
    · skip
      exfalso; omega
  · skip
    refine lv_aload_n hx hb dL_law_1408 rfl (lv_at hl 1 rfl) ?_
    refine lv_aload_n hx hb dL_law_1409 rfl (lv_at hl 3 rfl) ?_
    refine lv_iload_n hx hb dL_law_1410 rfl (lv_at hl 0 rfl) ?_
    refine lv_iconst (v := 1) hx hb dL_law_1411 (by decide) ?_
    refine kv_iadd (v := 1) hx hb (by decide) dL_law_1412 ?_
    refine j_sld (j := 1) hx hb hX hbl hbA hw (by decide) (by decide) (by decide) dL_law_1413 ?_
    refine m_Vi (As := [.int (xs 1)]) (rest := [.int 0]) (c210_X12_image l D ct qm ((xs 1)) ((um 15)) ((um 0)) ((um 1)) ((um 2)) ((um 3)) ((um 4)) ((um 5)) ((um 6)) ((um 7)) ((um 8)) ((um 9)) ((um 10)) ((um 11)) ((um 12)) ((um 13)) ((um 14)) (fun _ => 0)) X hl.1 kw_2044 kd_yX12_image hw [0, 1, 16] [2, 3, 4, 5, 6, 7, 8, 9, 10, 11, 12, 13, 14, 15] rfl rfl rfl rfl (by decide) 0 rfl rfl ⟨by decide, by decide⟩ rfl rfl (Nat.le_of_ble_eq_true rfl) dL_law_1414 ⟨by decide, by decide⟩ (fun r11 u12 H locs hr13 hw => ?_)
    replace hw : WD D A s.heap _ _ [((um 1), .inl (ct 0, 900, .inl (fun _ => 0))), ((um 2), .inl (ct 0, 1770, .inl (fun _ => 0))), ((um 3), .inl (ct 0, 900, .inl (fun _ => 0))), ((um 4), .inl (ct 0, 7, .inl (fun _ => 0))), ((um 5), .inl (ct 0, 56, .inl (fun _ => 0))), ((um 6), .inl (ct 0, 40320, .inl (fun _ => 0))), ((um 7), .inl (ct 0, 72, .inl (fun _ => 0))), ((um 8), .inl (ct 0, 7, .inl (fun _ => 0))), ((um 9), .inl (ct 0, 21870, .inl (fun _ => 0))), ((um 10), .inl (ct 0, 7, .inl fx1)), ((um 11), .inl (ct 0, 8, .inl (fun _ => 0))), ((um 12), .inl (ct 0, 4, .inl fx2)), ((um 13), .inl (ct 0, 4, .inl (fun _ => 0))), ((um 14), .inl (ct 2, 160, .inr (.inl (fun _ => 0))))] := hw
    rcases hr13 with ⟨h14, rfl⟩ | ⟨h15, rfl⟩
    · skip
      exfalso; omega
    · skip
      refine lv_icmp_eq (tgt := 1468) hx hb dL_law_1417 (by decide) (fun _ => ?_) (fun h => absurd (by decide) h)
      exact law_end C0 hA0 hw (lv_sub hl [0, 1, 2, 3] rfl) (by decide) (by decide)
set_option maxHeartbeats 4000000 in
set_option maxRecDepth 100000 in
theorem law_45 {p : Program} {l : Launch} {e : Env} {s : State} {m : MethodId} {below : List Frame} {meth : Method} {c : Code} {H : Heap} {locs : List Loc} {D : va_G} {ct : Nat → ClassId} {A : Nat → Prop} {ls : Array Slot} {b : Nat} {qx qm : Nat} {ux um : Nat → Nat} {xs : Nat → Int32} (C0 : lw_At p s m meth c b 6 xs) (hK0 : KK D ct s) (hA0 : ∀ q, A q → s.heap.size ≤ q) (hw : WD D A s.heap H locs (xWd ct qx ux ++ mWd ct qm um)) (hl : lv_has ls 4 [(3, .int 0), (2, .ref qm), (1, .ref qx), (0, .ref b)]) : W p l e room_1 s m #[Value.ref b] below meth c H locs 126 76620 (lw_Z below #[Value.ref b] s) (F0 m 1422 ls []) := by
  obtain ⟨hx, hb, hr, hml, hown, hts0, hX, hbl, hlocks, hgv⟩ := id C0
  have hts := tb_hts hts0
  have hK := hK0
  have X : CX p m c cL_law 4 s #[Value.ref b] RL D ct := ⟨⟨hx, hb, hml, hown, hts⟩, hK0⟩
  have hbA : ¬ A b := fun h => absurd (hA0 _ h) (Nat.not_le.mpr hbl)
  refine lv_aload_n hx hb dL_law_1422 rfl (lv_at hl 2 rfl) ?_
  refine lv_aload_n hx hb dL_law_1423 rfl (lv_at hl 3 rfl) ?_
  refine lv_iload_n hx hb dL_law_1424 rfl (lv_at hl 0 rfl) ?_
  refine lv_iconst (v := 1) hx hb dL_law_1425 (by decide) ?_
  refine kv_iadd (v := 1) hx hb (by decide) dL_law_1426 ?_
  refine j_sld (j := 1) hx hb hX hbl hbA hw (by decide) (by decide) (by decide) dL_law_1427 ?_
  refine m_Vi (As := [.int (xs 1)]) (rest := []) (c211_X11_restore l D ct qx ((xs 1)) ((ux 0)) ((ux 1)) ((ux 9)) ((ux 19)) ((ux 24)) ((ux 30)) ((ux 33)) ((ux 39)) ((ux 48)) ((ux 50)) ((ux 56)) ((ux 60)) ((ux 61)) ((ux 62)) ((ux 63))) X hl.1 kw_1420 kd_yX11_restore hw [0, 62] [73, 74, 75, 76, 77, 78, 79, 80, 81, 82, 83, 84, 85, 86, 87, 88, 89] rfl rfl rfl rfl (by decide) 0 rfl rfl ⟨by decide, by decide⟩ rfl rfl (Nat.le_of_ble_eq_true rfl) dL_law_1428 ⟨by decide, by decide⟩ (fun r1 u2 H locs hr3 hw => ?_)
  replace hw : WD D A s.heap _ _ (mWd ct qm um) := hw
  rcases hr3 with ⟨h4, rfl⟩ | ⟨h5, rfl⟩
  · skip
    refine lv_aload_n hx hb dL_law_1431 rfl (lv_at hl 1 rfl) ?_
    refine lv_aload_n hx hb dL_law_1432 rfl (lv_at hl 3 rfl) ?_
    refine lv_iload_n hx hb dL_law_1433 rfl (lv_at hl 0 rfl) ?_
    refine lv_iconst (v := 1) hx hb dL_law_1434 (by decide) ?_
    refine kv_iadd (v := 1) hx hb (by decide) dL_law_1435 ?_
    refine j_sld (j := 1) hx hb hX hbl hbA hw (by decide) (by decide) (by decide) dL_law_1436 ?_
    refine m_Vi (As := [.int (xs 1)]) (rest := [.int (-2)]) (c212_X12_restore l D ct qm ((xs 1)) ((um 15)) ((um 0)) ((um 1)) ((um 2)) ((um 3)) ((um 4)) ((um 5)) ((um 6)) ((um 7)) ((um 8)) ((um 9)) ((um 10)) ((um 11)) ((um 12)) ((um 13)) ((um 14))) X hl.1 kw_2048 kd_yX12_restore hw [0, 1] [2, 3, 4, 5, 6, 7, 8, 9, 10, 11, 12, 13, 14, 15, 16] rfl rfl rfl rfl (by decide) 0 rfl rfl ⟨by decide, by decide⟩ rfl rfl (Nat.le_of_ble_eq_true rfl) dL_law_1437 ⟨by decide, by decide⟩ (fun r6 u7 H locs hr8 hw => ?_)
    replace hw : WD D A s.heap _ _ [((um 1), .inl (ct 0, 900, .inl (fun _ => 0))), ((um 2), .inl (ct 0, 1770, .inl (fun _ => 0))), ((um 3), .inl (ct 0, 900, .inl (fun _ => 0))), ((um 4), .inl (ct 0, 7, .inl (fun _ => 0))), ((um 5), .inl (ct 0, 56, .inl (fun _ => 0))), ((um 6), .inl (ct 0, 40320, .inl (fun _ => 0))), ((um 7), .inl (ct 0, 72, .inl (fun _ => 0))), ((um 8), .inl (ct 0, 7, .inl (fun _ => 0))), ((um 9), .inl (ct 0, 21870, .inl (fun _ => 0))), ((um 10), .inl (ct 0, 7, .inl fx1)), ((um 11), .inl (ct 0, 8, .inl (fun _ => 0))), ((um 12), .inl (ct 0, 4, .inl fx2)), ((um 13), .inl (ct 0, 4, .inl (fun _ => 0))), ((um 14), .inl (ct 2, 160, .inr (.inl (fun _ => 0)))), ((um 15), .inl (ct 0, 5310, .inl fx0))] := hw
    rcases hr8 with ⟨h9, rfl⟩ | ⟨h10, rfl⟩
    · skip
      refine lv_icmp_eq (tgt := 1468) hx hb dL_law_1440 (by decide) (fun _ => ?_) (fun h => absurd (by decide) h)
      exact law_end C0 hA0 hw (lv_sub hl [0, 1, 2, 3] rfl) (by decide) (by decide)
    · skip
      exfalso; omega
  · skip
    refine lv_aload_n hx hb dL_law_1431 rfl (lv_at hl 1 rfl) ?_
    refine lv_aload_n hx hb dL_law_1432 rfl (lv_at hl 3 rfl) ?_
    refine lv_iload_n hx hb dL_law_1433 rfl (lv_at hl 0 rfl) ?_
    refine lv_iconst (v := 1) hx hb dL_law_1434 (by decide) ?_
    refine kv_iadd (v := 1) hx hb (by decide) dL_law_1435 ?_
    refine j_sld (j := 1) hx hb hX hbl hbA hw (by decide) (by decide) (by decide) dL_law_1436 ?_
    refine m_Vi (As := [.int (xs 1)]) (rest := [.int (-5)]) (c212_X12_restore l D ct qm ((xs 1)) ((um 15)) ((um 0)) ((um 1)) ((um 2)) ((um 3)) ((um 4)) ((um 5)) ((um 6)) ((um 7)) ((um 8)) ((um 9)) ((um 10)) ((um 11)) ((um 12)) ((um 13)) ((um 14))) X hl.1 kw_2048 kd_yX12_restore hw [0, 1] [2, 3, 4, 5, 6, 7, 8, 9, 10, 11, 12, 13, 14, 15, 16] rfl rfl rfl rfl (by decide) 0 rfl rfl ⟨by decide, by decide⟩ rfl rfl (Nat.le_of_ble_eq_true rfl) dL_law_1437 ⟨by decide, by decide⟩ (fun r11 u12 H locs hr13 hw => ?_)
    replace hw : WD D A s.heap _ _ [((um 1), .inl (ct 0, 900, .inl (fun _ => 0))), ((um 2), .inl (ct 0, 1770, .inl (fun _ => 0))), ((um 3), .inl (ct 0, 900, .inl (fun _ => 0))), ((um 4), .inl (ct 0, 7, .inl (fun _ => 0))), ((um 5), .inl (ct 0, 56, .inl (fun _ => 0))), ((um 6), .inl (ct 0, 40320, .inl (fun _ => 0))), ((um 7), .inl (ct 0, 72, .inl (fun _ => 0))), ((um 8), .inl (ct 0, 7, .inl (fun _ => 0))), ((um 9), .inl (ct 0, 21870, .inl (fun _ => 0))), ((um 10), .inl (ct 0, 7, .inl fx1)), ((um 11), .inl (ct 0, 8, .inl (fun _ => 0))), ((um 12), .inl (ct 0, 4, .inl fx2)), ((um 13), .inl (ct 0, 4, .inl (fun _ => 0))), ((um 14), .inl (ct 2, 160, .inr (.inl (fun _ => 0)))), ((um 15), .inl (ct 0, 5310, .inl fx0))] := hw
    rcases hr13 with ⟨h14, rfl⟩ | ⟨h15, rfl⟩
    · skip
      exfalso; omega
    · skip
      refine lv_icmp_eq (tgt := 1468) hx hb dL_law_1440 (by decide) (fun _ => ?_) (fun h => absurd (by decide) h)
      exact law_end C0 hA0 hw (lv_sub hl [0, 1, 2, 3] rfl) (by decide) (by decide)
set_option maxHeartbeats 4000000 in
set_option maxRecDepth 100000 in
theorem law_46 {p : Program} {l : Launch} {e : Env} {s : State} {m : MethodId} {below : List Frame} {meth : Method} {c : Code} {H : Heap} {locs : List Loc} {D : va_G} {ct : Nat → ClassId} {A : Nat → Prop} {ls : Array Slot} {b : Nat} {qx qm : Nat} {ux um : Nat → Nat} {xs : Nat → Int32} (C0 : lw_At p s m meth c b 6 xs) (hK0 : KK D ct s) (hA0 : ∀ q, A q → s.heap.size ≤ q) (hw : WD D A s.heap H locs (xWd ct qx ux ++ mWd ct qm um)) (hl : lv_has ls 4 [(3, .int 0), (2, .ref qm), (1, .ref qx), (0, .ref b)]) : W p l e room_1 s m #[Value.ref b] below meth c H locs 126 76620 (lw_Z below #[Value.ref b] s) (F0 m 1445 ls []) := by
  obtain ⟨hx, hb, hr, hml, hown, hts0, hX, hbl, hlocks, hgv⟩ := id C0
  have hts := tb_hts hts0
  have hK := hK0
  have X : CX p m c cL_law 4 s #[Value.ref b] RL D ct := ⟨⟨hx, hb, hml, hown, hts⟩, hK0⟩
  have hbA : ¬ A b := fun h => absurd (hA0 _ h) (Nat.not_le.mpr hbl)
  refine lv_aload_n hx hb dL_law_1445 rfl (lv_at hl 2 rfl) ?_
  refine lv_aload_n hx hb dL_law_1446 rfl (lv_at hl 3 rfl) ?_
  refine lv_iload_n hx hb dL_law_1447 rfl (lv_at hl 0 rfl) ?_
  refine lv_iconst (v := 1) hx hb dL_law_1448 (by decide) ?_
  refine kv_iadd (v := 1) hx hb (by decide) dL_law_1449 ?_
  refine j_sld (j := 1) hx hb hX hbl hbA hw (by decide) (by decide) (by decide) dL_law_1450 ?_
  refine m_Vi (As := [.int (xs 1)]) (rest := []) (c215_X11_count l D ct qx ((xs 1)) ((ux 0)) ((ux 1)) ((ux 9)) ((ux 19)) ((ux 24)) ((ux 30)) ((ux 33)) ((ux 39)) ((ux 48)) ((ux 50)) ((ux 56)) ((ux 60)) ((ux 61)) ((ux 62)) ((ux 63)) ((ux 2)) ((ux 3)) ((ux 4)) ((ux 5)) ((ux 8)) ((ux 6)) ((ux 7)) ((ux 51))) X hl.1 kw_1424 kd_yX11_count hw [0, 2, 6, 51] [73, 74, 75, 76, 77, 78, 79, 80, 81, 82, 83, 84, 85, 86, 87, 88, 89] rfl rfl rfl rfl (by decide) 0 rfl rfl ⟨by decide, by decide⟩ rfl rfl (Nat.le_of_ble_eq_true rfl) dL_law_1451 ⟨by decide, by decide⟩ (fun r1 u2 H locs hr3 hw => ?_)
  replace hw : WD D A s.heap _ _ (mWd ct qm um) := hw
  rcases hr3 with ⟨h4, rfl⟩ | ⟨⟨h5, h6, h7, h8, h9, h10, h11, h12, h13⟩, rfl⟩
  · skip
    refine lv_aload_n hx hb dL_law_1454 rfl (lv_at hl 1 rfl) ?_
    refine lv_aload_n hx hb dL_law_1455 rfl (lv_at hl 3 rfl) ?_
    refine lv_iload_n hx hb dL_law_1456 rfl (lv_at hl 0 rfl) ?_
    refine lv_iconst (v := 1) hx hb dL_law_1457 (by decide) ?_
    refine kv_iadd (v := 1) hx hb (by decide) dL_law_1458 ?_
    refine j_sld (j := 1) hx hb hX hbl hbA hw (by decide) (by decide) (by decide) dL_law_1459 ?_
    refine m_Vi (As := [.int (xs 1)]) (rest := [.int 0]) (c218_X12_count l D ct qm ((xs 1)) ((um 15)) ((um 0)) ((um 1)) ((um 2)) ((um 3)) ((um 4)) ((um 5)) ((um 6)) ((um 7)) ((um 8)) ((um 9)) ((um 10)) ((um 11)) ((um 12)) ((um 13)) ((um 14))) X hl.1 kw_2052 kd_yX12_count hw [0, 16] [1, 2, 3, 4, 5, 6, 7, 8, 9, 10, 11, 12, 13, 14, 15] rfl rfl rfl rfl (by decide) 0 rfl rfl ⟨by decide, by decide⟩ rfl rfl (Nat.le_of_ble_eq_true rfl) dL_law_1460 ⟨by decide, by decide⟩ (fun r14 u15 H locs hr16 hw => ?_)
    replace hw : WD D A s.heap _ _ [((um 0), .inl (ct 3, 2, .inl (fun _ => 0))), ((um 1), .inl (ct 0, 900, .inl (fun _ => 0))), ((um 2), .inl (ct 0, 1770, .inl (fun _ => 0))), ((um 3), .inl (ct 0, 900, .inl (fun _ => 0))), ((um 4), .inl (ct 0, 7, .inl (fun _ => 0))), ((um 5), .inl (ct 0, 56, .inl (fun _ => 0))), ((um 6), .inl (ct 0, 40320, .inl (fun _ => 0))), ((um 7), .inl (ct 0, 72, .inl (fun _ => 0))), ((um 8), .inl (ct 0, 7, .inl (fun _ => 0))), ((um 9), .inl (ct 0, 21870, .inl (fun _ => 0))), ((um 10), .inl (ct 0, 7, .inl fx1)), ((um 11), .inl (ct 0, 8, .inl (fun _ => 0))), ((um 12), .inl (ct 0, 4, .inl fx2)), ((um 13), .inl (ct 0, 4, .inl (fun _ => 0))), ((um 14), .inl (ct 2, 160, .inr (.inl (fun _ => 0))))] := hw
    rcases hr16 with ⟨h17, rfl⟩ | ⟨⟨h18, h19, h20, h21, h22, h23, h24, h25, h26⟩, rfl⟩
    · skip
      refine lv_icmp_eq (tgt := 1468) hx hb dL_law_1463 (by decide) (fun _ => ?_) (fun h => absurd (by decide) h)
      exact law_end C0 hA0 hw (lv_sub hl [0, 1, 2, 3] rfl) (by decide) (by decide)
    · skip
      exfalso; omega
  · skip
    refine lv_aload_n hx hb dL_law_1454 rfl (lv_at hl 1 rfl) ?_
    refine lv_aload_n hx hb dL_law_1455 rfl (lv_at hl 3 rfl) ?_
    refine lv_iload_n hx hb dL_law_1456 rfl (lv_at hl 0 rfl) ?_
    refine lv_iconst (v := 1) hx hb dL_law_1457 (by decide) ?_
    refine kv_iadd (v := 1) hx hb (by decide) dL_law_1458 ?_
    refine j_sld (j := 1) hx hb hX hbl hbA hw (by decide) (by decide) (by decide) dL_law_1459 ?_
    refine m_Vi (As := [.int (xs 1)]) (rest := [.int (-1)]) (c218_X12_count l D ct qm ((xs 1)) ((um 15)) ((um 0)) ((um 1)) ((um 2)) ((um 3)) ((um 4)) ((um 5)) ((um 6)) ((um 7)) ((um 8)) ((um 9)) ((um 10)) ((um 11)) ((um 12)) ((um 13)) ((um 14))) X hl.1 kw_2052 kd_yX12_count hw [0, 16] [1, 2, 3, 4, 5, 6, 7, 8, 9, 10, 11, 12, 13, 14, 15] rfl rfl rfl rfl (by decide) 0 rfl rfl ⟨by decide, by decide⟩ rfl rfl (Nat.le_of_ble_eq_true rfl) dL_law_1460 ⟨by decide, by decide⟩ (fun r27 u28 H locs hr29 hw => ?_)
    replace hw : WD D A s.heap _ _ [((um 0), .inl (ct 3, 2, .inl (fun _ => 0))), ((um 1), .inl (ct 0, 900, .inl (fun _ => 0))), ((um 2), .inl (ct 0, 1770, .inl (fun _ => 0))), ((um 3), .inl (ct 0, 900, .inl (fun _ => 0))), ((um 4), .inl (ct 0, 7, .inl (fun _ => 0))), ((um 5), .inl (ct 0, 56, .inl (fun _ => 0))), ((um 6), .inl (ct 0, 40320, .inl (fun _ => 0))), ((um 7), .inl (ct 0, 72, .inl (fun _ => 0))), ((um 8), .inl (ct 0, 7, .inl (fun _ => 0))), ((um 9), .inl (ct 0, 21870, .inl (fun _ => 0))), ((um 10), .inl (ct 0, 7, .inl fx1)), ((um 11), .inl (ct 0, 8, .inl (fun _ => 0))), ((um 12), .inl (ct 0, 4, .inl fx2)), ((um 13), .inl (ct 0, 4, .inl (fun _ => 0))), ((um 14), .inl (ct 2, 160, .inr (.inl (fun _ => 0))))] := hw
    rcases hr29 with ⟨h30, rfl⟩ | ⟨⟨h31, h32, h33, h34, h35, h36, h37, h38, h39⟩, rfl⟩
    · skip
      exfalso; omega
    · skip
      refine lv_icmp_eq (tgt := 1468) hx hb dL_law_1463 (by decide) (fun _ => ?_) (fun h => absurd (by decide) h)
      exact law_end C0 hA0 hw (lv_sub hl [0, 1, 2, 3] rfl) (by decide) (by decide)
