set_option maxHeartbeats 4000000 in
set_option maxRecDepth 100000 in
theorem law_top {p : Program} {l : Launch} {e : Env} {s : State} {m : MethodId} {below : List Frame} {meth : Method} {c : Code} {H : Heap} {locs : List Loc} {D : va_G} {ct : Nat → ClassId} {A : Nat → Prop} {ls : Array Slot} {b L : Nat} {qx qm : Nat} {ux um : Nat → Nat} {xs : Nat → Int32} (hL : L ≤ 6) (C0 : lw_At p s m meth c b L xs) (hK0 : KK D ct s) (hA0 : ∀ q, A q → s.heap.size ≤ q) (hw : WD D A s.heap H locs (xWd ct qx ux ++ mWd ct qm um)) (hl : lv_has ls 4 [(3, .int 0), (2, .ref qm), (1, .ref qx), (0, .ref b)]) : W p l e room_1 s m #[Value.ref b] below meth c H locs 126 76620 (lw_Z below #[Value.ref b] s) (F0 m 18 ls []) := by
  obtain ⟨hx, hb, hr, hml, hown, hts0, hX, hbl, hlocks, hgv⟩ := id C0
  have hts := tb_hts hts0
  have hK := hK0
  have X : CX p m c cL_law 4 s #[Value.ref b] RL D ct := ⟨⟨hx, hb, hml, hown, hts⟩, hK0⟩
  have hbA : ¬ A b := fun h => absurd (hA0 _ h) (Nat.not_le.mpr hbl)
  refine lv_iload_n hx hb dL_law_18 rfl (lv_at hl 0 rfl) ?_
  refine lv_aload_n hx hb dL_law_19 rfl (lv_at hl 3 rfl) ?_
  refine va_slen hx hb hX hbl hbA hw.2.2.1 dL_law_20 ?_
  refine lv_bipush (v := 6) hx hb dL_law_21 (by decide) ?_
  rcases (show L = 0 ∨ L = 1 ∨ L = 2 ∨ L = 3 ∨ L = 4 ∨ L = 5 ∨ L = 6 by omega) with rfl | rfl | rfl | rfl | rfl | rfl | rfl
  · refine kv_isub (v := (-6)) hx hb (by decide) dL_law_23 ?_
    refine lv_icmp_gt (tgt := 1474) hx hb dL_law_24 (by decide) (fun _ => ?_) (fun h => absurd (by decide) h)
    exact law_out C0 hA0 hw (by decide) (by decide)
  · refine kv_isub (v := (-5)) hx hb (by decide) dL_law_23 ?_
    refine lv_icmp_gt (tgt := 1474) hx hb dL_law_24 (by decide) (fun _ => ?_) (fun h => absurd (by decide) h)
    exact law_out C0 hA0 hw (by decide) (by decide)
  · refine kv_isub (v := (-4)) hx hb (by decide) dL_law_23 ?_
    refine lv_icmp_gt (tgt := 1474) hx hb dL_law_24 (by decide) (fun _ => ?_) (fun h => absurd (by decide) h)
    exact law_out C0 hA0 hw (by decide) (by decide)
  · refine kv_isub (v := (-3)) hx hb (by decide) dL_law_23 ?_
    refine lv_icmp_gt (tgt := 1474) hx hb dL_law_24 (by decide) (fun _ => ?_) (fun h => absurd (by decide) h)
    exact law_out C0 hA0 hw (by decide) (by decide)
  · refine kv_isub (v := (-2)) hx hb (by decide) dL_law_23 ?_
    refine lv_icmp_gt (tgt := 1474) hx hb dL_law_24 (by decide) (fun _ => ?_) (fun h => absurd (by decide) h)
    exact law_out C0 hA0 hw (by decide) (by decide)
  · refine kv_isub (v := (-1)) hx hb (by decide) dL_law_23 ?_
    refine lv_icmp_gt (tgt := 1474) hx hb dL_law_24 (by decide) (fun _ => ?_) (fun h => absurd (by decide) h)
    exact law_out C0 hA0 hw (by decide) (by decide)
  · refine kv_isub (v := 0) hx hb (by decide) dL_law_23 ?_
    refine lv_icmp_gt (tgt := 1474) hx hb dL_law_24 (by decide) (fun h => absurd h (by decide)) (fun _ => ?_)
    refine lv_aload_n hx hb dL_law_27 rfl (lv_at hl 3 rfl) ?_
    refine lv_iload_n hx hb dL_law_28 rfl (lv_at hl 0 rfl) ?_
    refine j_sld (j := 0) hx hb hX hbl hbA hw (by decide) (by decide) (by decide) dL_law_29 ?_
    refine lv_bipush (v := 63) hx hb dL_law_30 (by decide) ?_
    obtain ⟨j, hj, ej⟩ := pk_andE (xs 0) (m := 63) 6 (by decide)
    refine kv_iand (v := nI j) hx hb ej dL_law_32 ?_
    clear ej
    rcases j with _ | j
    · refine lv_tableIn (off := 203) (tgt := 236) hx hb dL_law_33 (by decide) (by decide) (by decide) (by decide) ?_
      exact law_0 C0 hK0 hA0 hw hl
    rcases j with _ | j
    · refine lv_tableIn (off := 266) (tgt := 299) hx hb dL_law_33 (by decide) (by decide) (by decide) (by decide) ?_
      exact law_1 C0 hK0 hA0 hw hl
    rcases j with _ | j
    · refine lv_tableIn (off := 289) (tgt := 322) hx hb dL_law_33 (by decide) (by decide) (by decide) (by decide) ?_
      exact law_2 C0 hK0 hA0 hw hl
    rcases j with _ | j
    · refine lv_tableIn (off := 312) (tgt := 345) hx hb dL_law_33 (by decide) (by decide) (by decide) (by decide) ?_
      exact law_3 C0 hK0 hA0 hw hl
    rcases j with _ | j
    · refine lv_tableIn (off := 345) (tgt := 378) hx hb dL_law_33 (by decide) (by decide) (by decide) (by decide) ?_
      exact law_4 C0 hK0 hA0 hw hl
    rcases j with _ | j
    · refine lv_tableIn (off := 378) (tgt := 411) hx hb dL_law_33 (by decide) (by decide) (by decide) (by decide) ?_
      exact law_5 C0 hK0 hA0 hw hl
    rcases j with _ | j
    · refine lv_tableIn (off := 411) (tgt := 444) hx hb dL_law_33 (by decide) (by decide) (by decide) (by decide) ?_
      exact law_6 C0 hK0 hA0 hw hl
    rcases j with _ | j
    · refine lv_tableIn (off := 444) (tgt := 477) hx hb dL_law_33 (by decide) (by decide) (by decide) (by decide) ?_
      exact law_7 C0 hK0 hA0 hw hl
    rcases j with _ | j
    · refine lv_tableIn (off := 477) (tgt := 510) hx hb dL_law_33 (by decide) (by decide) (by decide) (by decide) ?_
      exact law_8 C0 hK0 hA0 hw hl
    rcases j with _ | j
    · refine lv_tableIn (off := 500) (tgt := 533) hx hb dL_law_33 (by decide) (by decide) (by decide) (by decide) ?_
      exact law_9 C0 hK0 hA0 hw hl
    rcases j with _ | j
    · refine lv_tableIn (off := 513) (tgt := 546) hx hb dL_law_33 (by decide) (by decide) (by decide) (by decide) ?_
      exact law_10 C0 hK0 hA0 hw hl
    rcases j with _ | j
    · refine lv_tableIn (off := 546) (tgt := 579) hx hb dL_law_33 (by decide) (by decide) (by decide) (by decide) ?_
      exact law_11 C0 hK0 hA0 hw hl
    rcases j with _ | j
    · refine lv_tableIn (off := 569) (tgt := 602) hx hb dL_law_33 (by decide) (by decide) (by decide) (by decide) ?_
      exact law_12 C0 hK0 hA0 hw hl
    rcases j with _ | j
    · refine lv_tableIn (off := 592) (tgt := 625) hx hb dL_law_33 (by decide) (by decide) (by decide) (by decide) ?_
      exact law_13 C0 hK0 hA0 hw hl
    rcases j with _ | j
    · refine lv_tableIn (off := 615) (tgt := 648) hx hb dL_law_33 (by decide) (by decide) (by decide) (by decide) ?_
      exact law_14 C0 hK0 hA0 hw hl
    rcases j with _ | j
    · refine lv_tableIn (off := 638) (tgt := 671) hx hb dL_law_33 (by decide) (by decide) (by decide) (by decide) ?_
      exact law_15 C0 hK0 hA0 hw hl
    rcases j with _ | j
    · refine lv_tableIn (off := 671) (tgt := 704) hx hb dL_law_33 (by decide) (by decide) (by decide) (by decide) ?_
      exact law_16 C0 hK0 hA0 hw hl
    rcases j with _ | j
    · refine lv_tableIn (off := 694) (tgt := 727) hx hb dL_law_33 (by decide) (by decide) (by decide) (by decide) ?_
      exact law_17 C0 hK0 hA0 hw hl
    rcases j with _ | j
    · refine lv_tableIn (off := 727) (tgt := 760) hx hb dL_law_33 (by decide) (by decide) (by decide) (by decide) ?_
      exact law_18 C0 hK0 hA0 hw hl
    rcases j with _ | j
    · refine lv_tableIn (off := 740) (tgt := 773) hx hb dL_law_33 (by decide) (by decide) (by decide) (by decide) ?_
      exact law_19 C0 hK0 hA0 hw hl
    rcases j with _ | j
    · refine lv_tableIn (off := 773) (tgt := 806) hx hb dL_law_33 (by decide) (by decide) (by decide) (by decide) ?_
      exact law_20 C0 hK0 hA0 hw hl
    rcases j with _ | j
    · refine lv_tableIn (off := 806) (tgt := 839) hx hb dL_law_33 (by decide) (by decide) (by decide) (by decide) ?_
      exact law_21 C0 hK0 hA0 hw hl
    rcases j with _ | j
    · refine lv_tableIn (off := 839) (tgt := 872) hx hb dL_law_33 (by decide) (by decide) (by decide) (by decide) ?_
      exact law_22 C0 hK0 hA0 hw hl
    rcases j with _ | j
    · refine lv_tableIn (off := 852) (tgt := 885) hx hb dL_law_33 (by decide) (by decide) (by decide) (by decide) ?_
      exact law_23 C0 hK0 hA0 hw hl
    rcases j with _ | j
    · refine lv_tableIn (off := 875) (tgt := 908) hx hb dL_law_33 (by decide) (by decide) (by decide) (by decide) ?_
      exact law_24 C0 hK0 hA0 hw hl
    rcases j with _ | j
    · refine lv_tableIn (off := 908) (tgt := 941) hx hb dL_law_33 (by decide) (by decide) (by decide) (by decide) ?_
      exact law_25 C0 hK0 hA0 hw hl
    rcases j with _ | j
    · refine lv_tableIn (off := 921) (tgt := 954) hx hb dL_law_33 (by decide) (by decide) (by decide) (by decide) ?_
      exact law_26 C0 hK0 hA0 hw hl
    rcases j with _ | j
    · refine lv_tableIn (off := 944) (tgt := 977) hx hb dL_law_33 (by decide) (by decide) (by decide) (by decide) ?_
      exact law_27 C0 hK0 hA0 hw hl
    rcases j with _ | j
    · refine lv_tableIn (off := 967) (tgt := 1000) hx hb dL_law_33 (by decide) (by decide) (by decide) (by decide) ?_
      exact law_28 C0 hK0 hA0 hw hl
    rcases j with _ | j
    · refine lv_tableIn (off := 990) (tgt := 1023) hx hb dL_law_33 (by decide) (by decide) (by decide) (by decide) ?_
      exact law_29 C0 hK0 hA0 hw hl
    rcases j with _ | j
    · refine lv_tableIn (off := 1003) (tgt := 1036) hx hb dL_law_33 (by decide) (by decide) (by decide) (by decide) ?_
      exact law_30 C0 hK0 hA0 hw hl
    rcases j with _ | j
    · refine lv_tableIn (off := 1016) (tgt := 1049) hx hb dL_law_33 (by decide) (by decide) (by decide) (by decide) ?_
      exact law_31 C0 hK0 hA0 hw hl
    rcases j with _ | j
    · refine lv_tableIn (off := 1029) (tgt := 1062) hx hb dL_law_33 (by decide) (by decide) (by decide) (by decide) ?_
      exact law_32 C0 hK0 hA0 hw hl
    rcases j with _ | j
    · refine lv_tableIn (off := 1052) (tgt := 1085) hx hb dL_law_33 (by decide) (by decide) (by decide) (by decide) ?_
      exact law_33 C0 hK0 hA0 hw hl
    rcases j with _ | j
    · refine lv_tableIn (off := 1065) (tgt := 1098) hx hb dL_law_33 (by decide) (by decide) (by decide) (by decide) ?_
      exact law_34 C0 hK0 hA0 hw hl
    rcases j with _ | j
    · refine lv_tableIn (off := 1088) (tgt := 1121) hx hb dL_law_33 (by decide) (by decide) (by decide) (by decide) ?_
      exact law_35 C0 hK0 hA0 hw hl
    rcases j with _ | j
    · refine lv_tableIn (off := 1101) (tgt := 1134) hx hb dL_law_33 (by decide) (by decide) (by decide) (by decide) ?_
      exact law_36 C0 hK0 hA0 hw hl
    rcases j with _ | j
    · refine lv_tableIn (off := 1134) (tgt := 1167) hx hb dL_law_33 (by decide) (by decide) (by decide) (by decide) ?_
      exact law_37 C0 hK0 hA0 hw hl
    rcases j with _ | j
    · refine lv_tableIn (off := 1147) (tgt := 1180) hx hb dL_law_33 (by decide) (by decide) (by decide) (by decide) ?_
      exact law_38 C0 hK0 hA0 hw hl
    rcases j with _ | j
    · refine lv_tableIn (off := 1170) (tgt := 1203) hx hb dL_law_33 (by decide) (by decide) (by decide) (by decide) ?_
      exact law_39 C0 hK0 hA0 hw hl
    rcases j with _ | j
    · refine lv_tableIn (off := 1203) (tgt := 1236) hx hb dL_law_33 (by decide) (by decide) (by decide) (by decide) ?_
      exact law_40 C0 hK0 hA0 hw hl
    rcases j with _ | j
    · refine lv_tableIn (off := 1226) (tgt := 1259) hx hb dL_law_33 (by decide) (by decide) (by decide) (by decide) ?_
      exact law_41 C0 hK0 hA0 hw hl
    rcases j with _ | j
    · refine lv_tableIn (off := 1269) (tgt := 1302) hx hb dL_law_33 (by decide) (by decide) (by decide) (by decide) ?_
      exact law_42 C0 hK0 hA0 hw hl
    rcases j with _ | j
    · refine lv_tableIn (off := 1343) (tgt := 1376) hx hb dL_law_33 (by decide) (by decide) (by decide) (by decide) ?_
      exact law_43 C0 hK0 hA0 hw hl
    rcases j with _ | j
    · refine lv_tableIn (off := 1366) (tgt := 1399) hx hb dL_law_33 (by decide) (by decide) (by decide) (by decide) ?_
      exact law_44 C0 hK0 hA0 hw hl
    rcases j with _ | j
    · refine lv_tableIn (off := 1389) (tgt := 1422) hx hb dL_law_33 (by decide) (by decide) (by decide) (by decide) ?_
      exact law_45 C0 hK0 hA0 hw hl
    rcases j with _ | j
    · refine lv_tableIn (off := 1412) (tgt := 1445) hx hb dL_law_33 (by decide) (by decide) (by decide) (by decide) ?_
      exact law_46 C0 hK0 hA0 hw hl
    refine lv_tableOut (tgt := 1468) hx hb dL_law_33 (Or.inr (by rw [nI_toInt (by omega)]; omega)) (by decide) ?_
    exact law_end C0 hA0 hw hl (by decide) (by decide)
set_option maxHeartbeats 4000000 in
set_option maxRecDepth 100000 in
theorem whole_start {p : Program} {e : Env} {s : State} {m : MethodId} {below : List Frame} {meth : Method} {c : Code} (l : Launch) {b L : Nat} {xs : Nat → Int32} (hL : L ≤ 6) (C0 : lw_At p s m meth c b L xs) : W p l e room_1 s m #[Value.ref b] below meth c s.heap [] 0 0 (lw_Z below #[Value.ref b] s) (entryFrame m ([Value.ref b] : List Value).toArray 4) := by
  obtain ⟨hx, hb, hr, hml, hown, hts0, hX, hbl, hlocks, hgv⟩ := id C0
  have hts := tb_hts hts0
  obtain ⟨D, ct, hK0⟩ := kk_all hts0
  have hK := hK0
  have X : CX p m c cL_law 4 s #[Value.ref b] RL D ct := ⟨⟨hx, hb, hml, hown, hts⟩, hK0⟩
  obtain ⟨A, hA, hA0⟩ : ∃ A : Nat → Prop, (∀ q, s.heap.size ≤ q → A q) ∧ ∀ q, A q → s.heap.size ≤ q := ⟨fun q => s.heap.size ≤ q, fun _ h => h, fun _ h => h⟩
  have hw : WD D A s.heap s.heap [] [] := ⟨fun k q h => by simp at h, ⟨fun i j p q h => by simp at h, fun k q h => by simp at h⟩, va_S.rf, hA⟩
  have hl := lv_entry ([.ref b]) (n := 4) (Nat.le_of_ble_eq_true rfl)
  rw [lg_entry_eq]
  generalize (lg_sl ([.ref b]) ++ List.replicate (4 - (lg_sl ([.ref b])).length) Slot.unset).toArray = ls at hl ⊢
  replace hl : lv_has ls 4 [(0, .ref b)] := hl
  refine k_new (ci := 11) (fs := [.null, .int 0, .null, .null, .null, .null, .null, .null, .null, .null, .null, .null, .null, .null, .null, .null, .int 0, .int 0]) X hw inT11 tyX11 tyX11_ok wd_151 wd_152 wd_129 rfl (by decide) (by decide) (by decide) dL_law_0 (fun q1 H hw => ?_)
  replace hw : WD D A s.heap _ _ [(q1, .inr (11, [.null, .int 0, .null, .null, .null, .null, .null, .null, .null, .null, .null, .null, .null, .null, .null, .null, .int 0, .int 0]))] := hw
  refine lv_dup hx hb dL_law_3 rfl ?_
  refine m_Iv (As := []) (rest := [.ref q1]) (c13_X11_init l D ct q1) X hl.1 wd_155 wd_129 wd_153 wd_154 rfl kd_yX11_init hw [0] [] rfl rfl rfl rfl (by decide) ⟨by decide, by decide⟩ rfl rfl (Nat.le_of_ble_eq_true rfl) dL_law_4 ⟨by decide, by decide⟩ (fun u3 H locs hr4 hw => ?_)
  replace hw : WD D A s.heap _ _ [(q1, .inr (11, [.ref (u3 0), .int 0, .ref (u3 1), .ref (u3 9), .ref (u3 19), .ref (u3 24), .ref (u3 30), .ref (u3 33), .ref (u3 39), .ref (u3 48), .ref (u3 50), .ref (u3 56), .ref (u3 60), .ref (u3 61), .ref (u3 62), .ref (u3 63), .int (-1), .int (-1)])), ((u3 0), .inl (ct 1, 900, .inl (fun _ => 0))), ((u3 1), .inr (2, [.int 0, .int 0, .int 0, .ref (u3 2), .ref (u3 3), .ref (u3 4), .int 0, .int 0, .int 0, .int 0, .int 0, .ref (u3 5), .int 0])), ((u3 2), .inl (ct 0, 32, .inl (fun _ => 0))), ((u3 3), .inl (ct 0, 35, .inl (fun _ => 0))), ((u3 4), .inl (ct 0, 900, .inl (fun _ => 0))), ((u3 5), .inr (4, [.ref (u3 8), .ref (u3 6), .ref (u3 7), .int 0])), ((u3 6), .inl (ct 0, 56, .inl (fun _ => 0))), ((u3 7), .inl (ct 0, 8, .inl (fun _ => 0))), ((u3 8), .inl (ct 0, 7, .inl (va_cpy (fun _ => (-1)) (fun _ => 0) 0 0 7))), ((u3 9), .inr (7, [.ref (u3 10), .int 0, .int (-1), .ref (u3 18), .int 0, .int 0, .int 0, .int 0, .int 0])), ((u3 10), .inr (2, [.int 0, .int 0, .int 0, .ref (u3 11), .ref (u3 12), .ref (u3 13), .int 0, .int 0, .int 0, .int 0, .int 0, .ref (u3 14), .int 0])), ((u3 11), .inl (ct 0, 32, .inl (fun _ => 0))), ((u3 12), .inl (ct 0, 35, .inl (fun _ => 0))), ((u3 13), .inl (ct 0, 900, .inl (fun _ => 0))), ((u3 14), .inr (4, [.ref (u3 17), .ref (u3 15), .ref (u3 16), .int 0])), ((u3 15), .inl (ct 0, 56, .inl (fun _ => 0))), ((u3 16), .inl (ct 0, 8, .inl (fun _ => 0))), ((u3 17), .inl (ct 0, 7, .inl (va_cpy (fun _ => (-1)) (fun _ => 0) 0 0 7))), ((u3 18), .inl (ct 1, 0, .inl (fun _ => 0))), ((u3 19), .inr (9, [.ref (u3 20), .ref (u3 21), .ref (u3 1), .ref (u3 22), .ref (u3 23), .int (-1)])), ((u3 20), .inl (ct 0, 7, .inl (fun _ => 0))), ((u3 21), .inl (ct 0, 56, .inl (fun _ => 0))), ((u3 22), .inl (ct 0, 13, .inl (fun _ => 0))), ((u3 23), .inl (ct 0, 64, .inl (fun _ => 0))), ((u3 24), .inr (5, [.ref (u3 25), .ref (u3 26), .ref (u3 27), .ref (u3 28), .ref (u3 29), .int 0, .int 0])), ((u3 25), .inl (ct 0, 56, .inl (fun _ => 0))), ((u3 26), .inl (ct 0, 256, .inl (fun _ => 0))), ((u3 27), .inl (ct 0, 256, .inl (fun _ => 0))), ((u3 28), .inl (ct 0, 256, .inl (fun _ => 0))), ((u3 29), .inl (ct 0, 7, .inl (fun _ => 0))), ((u3 30), .inr (8, [.ref (u3 31), .int 0, .int 0, .ref (u3 32), .ref (u3 1), .ref (u3 19)])), ((u3 31), .inl (ct 0, 7, .inl (fun _ => 0))), ((u3 32), .inl (ct 0, 7, .inl (fun _ => 0))), ((u3 33), .inr (6, [.int (-1), .ref (u3 34), .ref (u3 1), .ref (u3 35), .ref (u3 36), .ref (u3 37), .ref (u3 38), .int (-1)])), ((u3 34), .inl (ct 0, 7, .inl (fun _ => 0))), ((u3 35), .inl (ct 0, 8, .inl (fun _ => 0))), ((u3 36), .inl (ct 0, 8, .inl (fun _ => 0))), ((u3 37), .inl (ct 0, 8, .inl (fun _ => 0))), ((u3 38), .inl (ct 0, 7, .inl (fun _ => 0))), ((u3 39), .inr (3, [.ref (u3 1), .int 0, .ref (u3 40), .ref (u3 41), .ref (u3 42), .ref (u3 43), .ref (u3 44), .ref (u3 45), .ref (u3 46), .ref (u3 47)])), ((u3 40), .inl (ct 0, 7, .inl (fun _ => 0))), ((u3 41), .inl (ct 0, 7, .inl (fun _ => 0))), ((u3 42), .inl (ct 0, 7, .inl (fun _ => 0))), ((u3 43), .inl (ct 0, 7, .inl (fun _ => 0))), ((u3 44), .inl (ct 0, 7, .inl (fun _ => 0))), ((u3 45), .inl (ct 0, 7, .inl (fun _ => 0))), ((u3 46), .inl (ct 0, 7, .inl (fun _ => 0))), ((u3 47), .inl (ct 0, 0, .inl (fun _ => 0))), ((u3 48), .inr (0, [.int 0, .int 0, .int (-1), .ref (u3 1), .ref (u3 19), .ref (u3 24), .ref (u3 30), .ref (u3 49), .int 0])), ((u3 49), .inl (ct 0, 7, .inl (fun _ => 0))), ((u3 50), .inr (1, [.int 0, .int 0, .ref (u3 51)])), ((u3 51), .inl (ct 4, 10, .inr (.inr (.inr (.inr (va_up (va_up (va_up (va_up (va_up (va_up (va_up (va_up (va_up (va_up (fun _ => none) 0 (some (u3 52))) 1 (some (u3 72))) 2 (some (u3 73))) 3 (some (u3 74))) 4 (some (u3 75))) 5 (some (u3 76))) 6 (some (u3 77))) 7 (some (u3 78))) 8 (some (u3 79))) 9 (some (u3 80)))))))), ((u3 52), .inr (4, [.ref (u3 55), .ref (u3 53), .ref (u3 54), .int 0])), ((u3 53), .inl (ct 0, 56, .inl (fun _ => 0))), ((u3 54), .inl (ct 0, 8, .inl (fun _ => 0))), ((u3 55), .inl (ct 0, 7, .inl (va_cpy (fun _ => (-1)) (fun _ => 0) 0 0 7))), ((u3 56), .inr (4, [.ref (u3 59), .ref (u3 57), .ref (u3 58), .int 0])), ((u3 57), .inl (ct 0, 56, .inl (fun _ => 0))), ((u3 58), .inl (ct 0, 8, .inl (fun _ => 0))), ((u3 59), .inl (ct 0, 7, .inl (va_cpy (fun _ => (-1)) (fun _ => 0) 0 0 7))), ((u3 60), .inl (ct 5, 4, .inr (.inr (.inr (.inr (va_up (va_up (va_up (va_up (fun _ => none) 0 (some (u3 64))) 1 (some (u3 66))) 2 (some (u3 68))) 3 (some (u3 70)))))))), ((u3 61), .inl (ct 6, 2, .inr (.inr (.inr (.inr (fun _ => none)))))), ((u3 62), .inl (ct 0, 7, .inl (fun _ => 0))), ((u3 63), .inl (ct 0, 7, .inl (fun _ => 0))), ((u3 64), .inr (10, [.int (-1), .ref (u3 65), .int 0])), ((u3 65), .inl (ct 2, 40, .inr (.inl (fun _ => 0)))), ((u3 66), .inr (10, [.int (-1), .ref (u3 67), .int 0])), ((u3 67), .inl (ct 2, 40, .inr (.inl (fun _ => 0)))), ((u3 68), .inr (10, [.int (-1), .ref (u3 69), .int 0])), ((u3 69), .inl (ct 2, 40, .inr (.inl (fun _ => 0)))), ((u3 70), .inr (10, [.int (-1), .ref (u3 71), .int 0])), ((u3 71), .inl (ct 2, 40, .inr (.inl (fun _ => 0))))] := hw
  refine lv_astore_n (lv' := [(1, .ref q1), (0, .ref b)]) hx hb dL_law_7 rfl hl (by decide) rfl (fun ls hl => ?_)
  refine k_new (ci := 12) (fs := [.int 0, .null, .null, .null, .null, .int 0, .int 0, .int 0, .int 0, .int 0, .int 0, .int 0, .int 0, .int 0, .int 0, .null, .null, .null, .null, .int 0, .null, .null, .int 0, .int 0, .int 0, .null, .null, .null, .null, .null, .null]) X hw inT12 tyX12 tyX12_ok wd_1432 wd_1433 wd_142 rfl (by decide) (by decide) (by decide) dL_law_8 (fun q5 H hw => ?_)
  replace hw : WD D A s.heap _ _ [(q1, .inr (11, [.ref (u3 0), .int 0, .ref (u3 1), .ref (u3 9), .ref (u3 19), .ref (u3 24), .ref (u3 30), .ref (u3 33), .ref (u3 39), .ref (u3 48), .ref (u3 50), .ref (u3 56), .ref (u3 60), .ref (u3 61), .ref (u3 62), .ref (u3 63), .int (-1), .int (-1)])), ((u3 0), .inl (ct 1, 900, .inl (fun _ => 0))), ((u3 1), .inr (2, [.int 0, .int 0, .int 0, .ref (u3 2), .ref (u3 3), .ref (u3 4), .int 0, .int 0, .int 0, .int 0, .int 0, .ref (u3 5), .int 0])), ((u3 2), .inl (ct 0, 32, .inl (fun _ => 0))), ((u3 3), .inl (ct 0, 35, .inl (fun _ => 0))), ((u3 4), .inl (ct 0, 900, .inl (fun _ => 0))), ((u3 5), .inr (4, [.ref (u3 8), .ref (u3 6), .ref (u3 7), .int 0])), ((u3 6), .inl (ct 0, 56, .inl (fun _ => 0))), ((u3 7), .inl (ct 0, 8, .inl (fun _ => 0))), ((u3 8), .inl (ct 0, 7, .inl (va_cpy (fun _ => (-1)) (fun _ => 0) 0 0 7))), ((u3 9), .inr (7, [.ref (u3 10), .int 0, .int (-1), .ref (u3 18), .int 0, .int 0, .int 0, .int 0, .int 0])), ((u3 10), .inr (2, [.int 0, .int 0, .int 0, .ref (u3 11), .ref (u3 12), .ref (u3 13), .int 0, .int 0, .int 0, .int 0, .int 0, .ref (u3 14), .int 0])), ((u3 11), .inl (ct 0, 32, .inl (fun _ => 0))), ((u3 12), .inl (ct 0, 35, .inl (fun _ => 0))), ((u3 13), .inl (ct 0, 900, .inl (fun _ => 0))), ((u3 14), .inr (4, [.ref (u3 17), .ref (u3 15), .ref (u3 16), .int 0])), ((u3 15), .inl (ct 0, 56, .inl (fun _ => 0))), ((u3 16), .inl (ct 0, 8, .inl (fun _ => 0))), ((u3 17), .inl (ct 0, 7, .inl (va_cpy (fun _ => (-1)) (fun _ => 0) 0 0 7))), ((u3 18), .inl (ct 1, 0, .inl (fun _ => 0))), ((u3 19), .inr (9, [.ref (u3 20), .ref (u3 21), .ref (u3 1), .ref (u3 22), .ref (u3 23), .int (-1)])), ((u3 20), .inl (ct 0, 7, .inl (fun _ => 0))), ((u3 21), .inl (ct 0, 56, .inl (fun _ => 0))), ((u3 22), .inl (ct 0, 13, .inl (fun _ => 0))), ((u3 23), .inl (ct 0, 64, .inl (fun _ => 0))), ((u3 24), .inr (5, [.ref (u3 25), .ref (u3 26), .ref (u3 27), .ref (u3 28), .ref (u3 29), .int 0, .int 0])), ((u3 25), .inl (ct 0, 56, .inl (fun _ => 0))), ((u3 26), .inl (ct 0, 256, .inl (fun _ => 0))), ((u3 27), .inl (ct 0, 256, .inl (fun _ => 0))), ((u3 28), .inl (ct 0, 256, .inl (fun _ => 0))), ((u3 29), .inl (ct 0, 7, .inl (fun _ => 0))), ((u3 30), .inr (8, [.ref (u3 31), .int 0, .int 0, .ref (u3 32), .ref (u3 1), .ref (u3 19)])), ((u3 31), .inl (ct 0, 7, .inl (fun _ => 0))), ((u3 32), .inl (ct 0, 7, .inl (fun _ => 0))), ((u3 33), .inr (6, [.int (-1), .ref (u3 34), .ref (u3 1), .ref (u3 35), .ref (u3 36), .ref (u3 37), .ref (u3 38), .int (-1)])), ((u3 34), .inl (ct 0, 7, .inl (fun _ => 0))), ((u3 35), .inl (ct 0, 8, .inl (fun _ => 0))), ((u3 36), .inl (ct 0, 8, .inl (fun _ => 0))), ((u3 37), .inl (ct 0, 8, .inl (fun _ => 0))), ((u3 38), .inl (ct 0, 7, .inl (fun _ => 0))), ((u3 39), .inr (3, [.ref (u3 1), .int 0, .ref (u3 40), .ref (u3 41), .ref (u3 42), .ref (u3 43), .ref (u3 44), .ref (u3 45), .ref (u3 46), .ref (u3 47)])), ((u3 40), .inl (ct 0, 7, .inl (fun _ => 0))), ((u3 41), .inl (ct 0, 7, .inl (fun _ => 0))), ((u3 42), .inl (ct 0, 7, .inl (fun _ => 0))), ((u3 43), .inl (ct 0, 7, .inl (fun _ => 0))), ((u3 44), .inl (ct 0, 7, .inl (fun _ => 0))), ((u3 45), .inl (ct 0, 7, .inl (fun _ => 0))), ((u3 46), .inl (ct 0, 7, .inl (fun _ => 0))), ((u3 47), .inl (ct 0, 0, .inl (fun _ => 0))), ((u3 48), .inr (0, [.int 0, .int 0, .int (-1), .ref (u3 1), .ref (u3 19), .ref (u3 24), .ref (u3 30), .ref (u3 49), .int 0])), ((u3 49), .inl (ct 0, 7, .inl (fun _ => 0))), ((u3 50), .inr (1, [.int 0, .int 0, .ref (u3 51)])), ((u3 51), .inl (ct 4, 10, .inr (.inr (.inr (.inr (va_up (va_up (va_up (va_up (va_up (va_up (va_up (va_up (va_up (va_up (fun _ => none) 0 (some (u3 52))) 1 (some (u3 72))) 2 (some (u3 73))) 3 (some (u3 74))) 4 (some (u3 75))) 5 (some (u3 76))) 6 (some (u3 77))) 7 (some (u3 78))) 8 (some (u3 79))) 9 (some (u3 80)))))))), ((u3 52), .inr (4, [.ref (u3 55), .ref (u3 53), .ref (u3 54), .int 0])), ((u3 53), .inl (ct 0, 56, .inl (fun _ => 0))), ((u3 54), .inl (ct 0, 8, .inl (fun _ => 0))), ((u3 55), .inl (ct 0, 7, .inl (va_cpy (fun _ => (-1)) (fun _ => 0) 0 0 7))), ((u3 56), .inr (4, [.ref (u3 59), .ref (u3 57), .ref (u3 58), .int 0])), ((u3 57), .inl (ct 0, 56, .inl (fun _ => 0))), ((u3 58), .inl (ct 0, 8, .inl (fun _ => 0))), ((u3 59), .inl (ct 0, 7, .inl (va_cpy (fun _ => (-1)) (fun _ => 0) 0 0 7))), ((u3 60), .inl (ct 5, 4, .inr (.inr (.inr (.inr (va_up (va_up (va_up (va_up (fun _ => none) 0 (some (u3 64))) 1 (some (u3 66))) 2 (some (u3 68))) 3 (some (u3 70)))))))), ((u3 61), .inl (ct 6, 2, .inr (.inr (.inr (.inr (fun _ => none)))))), ((u3 62), .inl (ct 0, 7, .inl (fun _ => 0))), ((u3 63), .inl (ct 0, 7, .inl (fun _ => 0))), ((u3 64), .inr (10, [.int (-1), .ref (u3 65), .int 0])), ((u3 65), .inl (ct 2, 40, .inr (.inl (fun _ => 0)))), ((u3 66), .inr (10, [.int (-1), .ref (u3 67), .int 0])), ((u3 67), .inl (ct 2, 40, .inr (.inl (fun _ => 0)))), ((u3 68), .inr (10, [.int (-1), .ref (u3 69), .int 0])), ((u3 69), .inl (ct 2, 40, .inr (.inl (fun _ => 0)))), ((u3 70), .inr (10, [.int (-1), .ref (u3 71), .int 0])), ((u3 71), .inl (ct 2, 40, .inr (.inl (fun _ => 0)))), (q5, .inr (12, [.int 0, .null, .null, .null, .null, .int 0, .int 0, .int 0, .int 0, .int 0, .int 0, .int 0, .int 0, .int 0, .int 0, .null, .null, .null, .null, .int 0, .null, .null, .int 0, .int 0, .int 0, .null, .null, .null, .null, .null, .null]))] := hw
  refine lv_dup hx hb dL_law_11 rfl ?_
  refine m_Iv (As := []) (rest := [.ref q5]) (c15_X12_init l D ct q5) X hl.1 wd_1436 wd_142 wd_1434 wd_1435 rfl kd_yX12_init hw [73] [0, 1, 2, 3, 4, 5, 6, 7, 8, 9, 10, 11, 12, 13, 14, 15, 16, 17, 18, 19, 20, 21, 22, 23, 24, 25, 26, 27, 28, 29, 30, 31, 32, 33, 34, 35, 36, 37, 38, 39, 40, 41, 42, 43, 44, 45, 46, 47, 48, 49, 50, 51, 52, 53, 54, 55, 56, 57, 58, 59, 60, 61, 62, 63, 64, 65, 66, 67, 68, 69, 70, 71, 72] rfl rfl rfl rfl (by decide) ⟨by decide, by decide⟩ rfl rfl (Nat.le_of_ble_eq_true rfl) dL_law_12 ⟨by decide, by decide⟩ (fun u7 H locs hr8 hw => ?_)
  replace hw : WD D A s.heap _ _ [(q1, .inr (11, [.ref (u3 0), .int 0, .ref (u3 1), .ref (u3 9), .ref (u3 19), .ref (u3 24), .ref (u3 30), .ref (u3 33), .ref (u3 39), .ref (u3 48), .ref (u3 50), .ref (u3 56), .ref (u3 60), .ref (u3 61), .ref (u3 62), .ref (u3 63), .int (-1), .int (-1)])), ((u3 0), .inl (ct 1, 900, .inl (fun _ => 0))), ((u3 1), .inr (2, [.int 0, .int 0, .int 0, .ref (u3 2), .ref (u3 3), .ref (u3 4), .int 0, .int 0, .int 0, .int 0, .int 0, .ref (u3 5), .int 0])), ((u3 2), .inl (ct 0, 32, .inl (fun _ => 0))), ((u3 3), .inl (ct 0, 35, .inl (fun _ => 0))), ((u3 4), .inl (ct 0, 900, .inl (fun _ => 0))), ((u3 5), .inr (4, [.ref (u3 8), .ref (u3 6), .ref (u3 7), .int 0])), ((u3 6), .inl (ct 0, 56, .inl (fun _ => 0))), ((u3 7), .inl (ct 0, 8, .inl (fun _ => 0))), ((u3 8), .inl (ct 0, 7, .inl (va_cpy (fun _ => (-1)) (fun _ => 0) 0 0 7))), ((u3 9), .inr (7, [.ref (u3 10), .int 0, .int (-1), .ref (u3 18), .int 0, .int 0, .int 0, .int 0, .int 0])), ((u3 10), .inr (2, [.int 0, .int 0, .int 0, .ref (u3 11), .ref (u3 12), .ref (u3 13), .int 0, .int 0, .int 0, .int 0, .int 0, .ref (u3 14), .int 0])), ((u3 11), .inl (ct 0, 32, .inl (fun _ => 0))), ((u3 12), .inl (ct 0, 35, .inl (fun _ => 0))), ((u3 13), .inl (ct 0, 900, .inl (fun _ => 0))), ((u3 14), .inr (4, [.ref (u3 17), .ref (u3 15), .ref (u3 16), .int 0])), ((u3 15), .inl (ct 0, 56, .inl (fun _ => 0))), ((u3 16), .inl (ct 0, 8, .inl (fun _ => 0))), ((u3 17), .inl (ct 0, 7, .inl (va_cpy (fun _ => (-1)) (fun _ => 0) 0 0 7))), ((u3 18), .inl (ct 1, 0, .inl (fun _ => 0))), ((u3 19), .inr (9, [.ref (u3 20), .ref (u3 21), .ref (u3 1), .ref (u3 22), .ref (u3 23), .int (-1)])), ((u3 20), .inl (ct 0, 7, .inl (fun _ => 0))), ((u3 21), .inl (ct 0, 56, .inl (fun _ => 0))), ((u3 22), .inl (ct 0, 13, .inl (fun _ => 0))), ((u3 23), .inl (ct 0, 64, .inl (fun _ => 0))), ((u3 24), .inr (5, [.ref (u3 25), .ref (u3 26), .ref (u3 27), .ref (u3 28), .ref (u3 29), .int 0, .int 0])), ((u3 25), .inl (ct 0, 56, .inl (fun _ => 0))), ((u3 26), .inl (ct 0, 256, .inl (fun _ => 0))), ((u3 27), .inl (ct 0, 256, .inl (fun _ => 0))), ((u3 28), .inl (ct 0, 256, .inl (fun _ => 0))), ((u3 29), .inl (ct 0, 7, .inl (fun _ => 0))), ((u3 30), .inr (8, [.ref (u3 31), .int 0, .int 0, .ref (u3 32), .ref (u3 1), .ref (u3 19)])), ((u3 31), .inl (ct 0, 7, .inl (fun _ => 0))), ((u3 32), .inl (ct 0, 7, .inl (fun _ => 0))), ((u3 33), .inr (6, [.int (-1), .ref (u3 34), .ref (u3 1), .ref (u3 35), .ref (u3 36), .ref (u3 37), .ref (u3 38), .int (-1)])), ((u3 34), .inl (ct 0, 7, .inl (fun _ => 0))), ((u3 35), .inl (ct 0, 8, .inl (fun _ => 0))), ((u3 36), .inl (ct 0, 8, .inl (fun _ => 0))), ((u3 37), .inl (ct 0, 8, .inl (fun _ => 0))), ((u3 38), .inl (ct 0, 7, .inl (fun _ => 0))), ((u3 39), .inr (3, [.ref (u3 1), .int 0, .ref (u3 40), .ref (u3 41), .ref (u3 42), .ref (u3 43), .ref (u3 44), .ref (u3 45), .ref (u3 46), .ref (u3 47)])), ((u3 40), .inl (ct 0, 7, .inl (fun _ => 0))), ((u3 41), .inl (ct 0, 7, .inl (fun _ => 0))), ((u3 42), .inl (ct 0, 7, .inl (fun _ => 0))), ((u3 43), .inl (ct 0, 7, .inl (fun _ => 0))), ((u3 44), .inl (ct 0, 7, .inl (fun _ => 0))), ((u3 45), .inl (ct 0, 7, .inl (fun _ => 0))), ((u3 46), .inl (ct 0, 7, .inl (fun _ => 0))), ((u3 47), .inl (ct 0, 0, .inl (fun _ => 0))), ((u3 48), .inr (0, [.int 0, .int 0, .int (-1), .ref (u3 1), .ref (u3 19), .ref (u3 24), .ref (u3 30), .ref (u3 49), .int 0])), ((u3 49), .inl (ct 0, 7, .inl (fun _ => 0))), ((u3 50), .inr (1, [.int 0, .int 0, .ref (u3 51)])), ((u3 51), .inl (ct 4, 10, .inr (.inr (.inr (.inr (va_up (va_up (va_up (va_up (va_up (va_up (va_up (va_up (va_up (va_up (fun _ => none) 0 (some (u3 52))) 1 (some (u3 72))) 2 (some (u3 73))) 3 (some (u3 74))) 4 (some (u3 75))) 5 (some (u3 76))) 6 (some (u3 77))) 7 (some (u3 78))) 8 (some (u3 79))) 9 (some (u3 80)))))))), ((u3 52), .inr (4, [.ref (u3 55), .ref (u3 53), .ref (u3 54), .int 0])), ((u3 53), .inl (ct 0, 56, .inl (fun _ => 0))), ((u3 54), .inl (ct 0, 8, .inl (fun _ => 0))), ((u3 55), .inl (ct 0, 7, .inl (va_cpy (fun _ => (-1)) (fun _ => 0) 0 0 7))), ((u3 56), .inr (4, [.ref (u3 59), .ref (u3 57), .ref (u3 58), .int 0])), ((u3 57), .inl (ct 0, 56, .inl (fun _ => 0))), ((u3 58), .inl (ct 0, 8, .inl (fun _ => 0))), ((u3 59), .inl (ct 0, 7, .inl (va_cpy (fun _ => (-1)) (fun _ => 0) 0 0 7))), ((u3 60), .inl (ct 5, 4, .inr (.inr (.inr (.inr (va_up (va_up (va_up (va_up (fun _ => none) 0 (some (u3 64))) 1 (some (u3 66))) 2 (some (u3 68))) 3 (some (u3 70)))))))), ((u3 61), .inl (ct 6, 2, .inr (.inr (.inr (.inr (fun _ => none)))))), ((u3 62), .inl (ct 0, 7, .inl (fun _ => 0))), ((u3 63), .inl (ct 0, 7, .inl (fun _ => 0))), ((u3 64), .inr (10, [.int (-1), .ref (u3 65), .int 0])), ((u3 65), .inl (ct 2, 40, .inr (.inl (fun _ => 0)))), ((u3 66), .inr (10, [.int (-1), .ref (u3 67), .int 0])), ((u3 67), .inl (ct 2, 40, .inr (.inl (fun _ => 0)))), ((u3 68), .inr (10, [.int (-1), .ref (u3 69), .int 0])), ((u3 69), .inl (ct 2, 40, .inr (.inl (fun _ => 0)))), ((u3 70), .inr (10, [.int (-1), .ref (u3 71), .int 0])), ((u3 71), .inl (ct 2, 40, .inr (.inl (fun _ => 0)))), (q5, .inr (12, [.int 0, .ref (u7 15), .ref (u7 0), .ref (u7 1), .ref (u7 2), .int 0, .int 0, .int 0, .int 0, .int 0, .int 0, .int 0, .int 0, .int 0, .int (-1), .ref (u7 3), .ref (u7 4), .ref (u7 5), .ref (u7 6), .int 0, .ref (u7 7), .ref (u7 8), .int 0, .int 0, .int 0, .ref (u7 9), .ref (u7 10), .ref (u7 11), .ref (u7 12), .ref (u7 13), .ref (u7 14)])), ((u7 0), .inl (ct 3, 2, .inl (fun _ => 0))), ((u7 1), .inl (ct 0, 900, .inl (fun _ => 0))), ((u7 2), .inl (ct 0, 1770, .inl (fun _ => 0))), ((u7 3), .inl (ct 0, 900, .inl (fun _ => 0))), ((u7 4), .inl (ct 0, 7, .inl (fun _ => 0))), ((u7 5), .inl (ct 0, 56, .inl (fun _ => 0))), ((u7 6), .inl (ct 0, 40320, .inl (fun _ => 0))), ((u7 7), .inl (ct 0, 72, .inl (fun _ => 0))), ((u7 8), .inl (ct 0, 7, .inl (fun _ => 0))), ((u7 9), .inl (ct 0, 21870, .inl (fun _ => 0))), ((u7 10), .inl (ct 0, 7, .inl fx1)), ((u7 11), .inl (ct 0, 8, .inl (fun _ => 0))), ((u7 12), .inl (ct 0, 4, .inl fx2)), ((u7 13), .inl (ct 0, 4, .inl (fun _ => 0))), ((u7 14), .inl (ct 2, 160, .inr (.inl (fun _ => 0)))), ((u7 15), .inl (ct 0, 5310, .inl fx0))] := hw
  refine lv_astore_n (lv' := [(2, .ref q5), (1, .ref q1), (0, .ref b)]) hx hb dL_law_15 rfl hl (by decide) rfl (fun ls hl => ?_)
  refine lv_iconst (v := 0) hx hb dL_law_16 (by decide) ?_
  refine lv_istore_n (lv' := [(3, .int 0), (2, .ref q5), (1, .ref q1), (0, .ref b)]) hx hb dL_law_17 rfl hl (by decide) rfl (fun ls hl => ?_)
  replace hw : WD D A s.heap _ _ (xWd ct q1 u3 ++ mWd ct q5 u7) := hw
  replace hl := lv_sub hl [0, 1, 2, 3] rfl
  replace hl : lv_has ls 4 [(3, .int 0), (2, .ref q5), (1, .ref q1), (0, .ref b)] := hl
  refine W.widen (k := 126) (n := 76620) (by decide) (by decide) ?_
  exact law_top hL C0 hK0 hA0 hw hl
