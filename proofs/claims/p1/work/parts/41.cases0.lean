set_option maxHeartbeats 4000000 in
set_option maxRecDepth 100000 in
theorem law_0 {p : Program} {l : Launch} {e : Env} {s : State} {m : MethodId} {below : List Frame} {meth : Method} {c : Code} {H : Heap} {locs : List Loc} {D : va_G} {ct : Nat → ClassId} {A : Nat → Prop} {ls : Array Slot} {b : Nat} {qx qm : Nat} {ux um : Nat → Nat} {xs : Nat → Int32} (C0 : lw_At p s m meth c b 6 xs) (hK0 : KK D ct s) (hA0 : ∀ q, A q → s.heap.size ≤ q) (hw : WD D A s.heap H locs (xWd ct qx ux ++ mWd ct qm um)) (hl : lv_has ls 4 [(3, .int 0), (2, .ref qm), (1, .ref qx), (0, .ref b)]) : W p l e room_1 s m #[Value.ref b] below meth c H locs 126 76620 (lw_Z below #[Value.ref b] s) (F0 m 236 ls []) := by
  obtain ⟨hx, hb, hr, hml, hown, hts0, hX, hbl, hlocks, hgv⟩ := id C0
  have hts := tb_hts hts0
  have hK := hK0
  have X : CX p m c cL_law 4 s #[Value.ref b] RL D ct := ⟨⟨hx, hb, hml, hown, hts⟩, hK0⟩
  have hbA : ¬ A b := fun h => absurd (hA0 _ h) (Nat.not_le.mpr hbl)
  refine lv_aload_n hx hb dL_law_236 rfl (lv_at hl 2 rfl) ?_
  refine lv_aload_n hx hb dL_law_237 rfl (lv_at hl 3 rfl) ?_
  refine lv_iload_n hx hb dL_law_238 rfl (lv_at hl 0 rfl) ?_
  refine lv_iconst (v := 1) hx hb dL_law_239 (by decide) ?_
  refine kv_iadd (v := 1) hx hb (by decide) dL_law_240 ?_
  refine j_sld (j := 1) hx hb hX hbl hbA hw (by decide) (by decide) (by decide) dL_law_241 ?_
  refine lv_aload_n hx hb dL_law_242 rfl (lv_at hl 3 rfl) ?_
  refine lv_iload_n hx hb dL_law_243 rfl (lv_at hl 0 rfl) ?_
  refine lv_iconst (v := 2) hx hb dL_law_244 (by decide) ?_
  refine kv_iadd (v := 2) hx hb (by decide) dL_law_245 ?_
  refine j_sld (j := 2) hx hb hX hbl hbA hw (by decide) (by decide) (by decide) dL_law_246 ?_
  refine lv_aload_n hx hb dL_law_247 rfl (lv_at hl 3 rfl) ?_
  refine lv_iload_n hx hb dL_law_248 rfl (lv_at hl 0 rfl) ?_
  refine lv_iconst (v := 3) hx hb dL_law_249 (by decide) ?_
  refine kv_iadd (v := 3) hx hb (by decide) dL_law_250 ?_
  refine j_sld (j := 3) hx hb hX hbl hbA hw (by decide) (by decide) (by decide) dL_law_251 ?_
  refine lv_aload_n hx hb dL_law_252 rfl (lv_at hl 3 rfl) ?_
  refine lv_iload_n hx hb dL_law_253 rfl (lv_at hl 0 rfl) ?_
  refine lv_iconst (v := 4) hx hb dL_law_254 (by decide) ?_
  refine kv_iadd (v := 4) hx hb (by decide) dL_law_255 ?_
  refine j_sld (j := 4) hx hb hX hbl hbA hw (by decide) (by decide) (by decide) dL_law_256 ?_
  refine lv_aload_n hx hb dL_law_257 rfl (lv_at hl 3 rfl) ?_
  refine lv_iload_n hx hb dL_law_258 rfl (lv_at hl 0 rfl) ?_
  refine lv_iconst (v := 5) hx hb dL_law_259 (by decide) ?_
  refine kv_iadd (v := 5) hx hb (by decide) dL_law_260 ?_
  refine j_sld (j := 5) hx hb hX hbl hbA hw (by decide) (by decide) (by decide) dL_law_261 ?_
  refine m_Vi (As := [.int (xs 1), .int (xs 2), .int (xs 3), .int (xs 4), .int (xs 5)]) (rest := []) (c21_X11_feed l D ct qx ((xs 1)) ((xs 2)) ((xs 3)) ((xs 4)) ((xs 5)) ((ux 0)) ((ux 1)) ((ux 9)) ((ux 19)) ((ux 24)) ((ux 30)) ((ux 33)) ((ux 39)) ((ux 48)) ((ux 50)) ((ux 56)) ((ux 60)) ((ux 61)) ((ux 62)) ((ux 63)) (fun _ => 0)) X hl.1 kw_620 kd_yX11_feed hw [0, 1] [73, 74, 75, 76, 77, 78, 79, 80, 81, 82, 83, 84, 85, 86, 87, 88, 89] rfl rfl rfl rfl (by decide) 0 rfl rfl ⟨by decide, by decide⟩ rfl rfl (Nat.le_of_ble_eq_true rfl) dL_law_262 ⟨by decide, by decide⟩ (fun r1 u2 H locs hr3 hw => ?_)
  replace hw : WD D A s.heap _ _ (mWd ct qm um) := hw
  subst hr3
  refine lv_aload_n hx hb dL_law_265 rfl (lv_at hl 1 rfl) ?_
  refine lv_aload_n hx hb dL_law_266 rfl (lv_at hl 3 rfl) ?_
  refine lv_iload_n hx hb dL_law_267 rfl (lv_at hl 0 rfl) ?_
  refine lv_iconst (v := 1) hx hb dL_law_268 (by decide) ?_
  refine kv_iadd (v := 1) hx hb (by decide) dL_law_269 ?_
  refine j_sld (j := 1) hx hb hX hbl hbA hw (by decide) (by decide) (by decide) dL_law_270 ?_
  refine lv_aload_n hx hb dL_law_271 rfl (lv_at hl 3 rfl) ?_
  refine lv_iload_n hx hb dL_law_272 rfl (lv_at hl 0 rfl) ?_
  refine lv_iconst (v := 2) hx hb dL_law_273 (by decide) ?_
  refine kv_iadd (v := 2) hx hb (by decide) dL_law_274 ?_
  refine j_sld (j := 2) hx hb hX hbl hbA hw (by decide) (by decide) (by decide) dL_law_275 ?_
  refine lv_aload_n hx hb dL_law_276 rfl (lv_at hl 3 rfl) ?_
  refine lv_iload_n hx hb dL_law_277 rfl (lv_at hl 0 rfl) ?_
  refine lv_iconst (v := 3) hx hb dL_law_278 (by decide) ?_
  refine kv_iadd (v := 3) hx hb (by decide) dL_law_279 ?_
  refine j_sld (j := 3) hx hb hX hbl hbA hw (by decide) (by decide) (by decide) dL_law_280 ?_
  refine lv_aload_n hx hb dL_law_281 rfl (lv_at hl 3 rfl) ?_
  refine lv_iload_n hx hb dL_law_282 rfl (lv_at hl 0 rfl) ?_
  refine lv_iconst (v := 4) hx hb dL_law_283 (by decide) ?_
  refine kv_iadd (v := 4) hx hb (by decide) dL_law_284 ?_
  refine j_sld (j := 4) hx hb hX hbl hbA hw (by decide) (by decide) (by decide) dL_law_285 ?_
  refine lv_aload_n hx hb dL_law_286 rfl (lv_at hl 3 rfl) ?_
  refine lv_iload_n hx hb dL_law_287 rfl (lv_at hl 0 rfl) ?_
  refine lv_iconst (v := 5) hx hb dL_law_288 (by decide) ?_
  refine kv_iadd (v := 5) hx hb (by decide) dL_law_289 ?_
  refine j_sld (j := 5) hx hb hX hbl hbA hw (by decide) (by decide) (by decide) dL_law_290 ?_
  refine m_Vi (As := [.int (xs 1), .int (xs 2), .int (xs 3), .int (xs 4), .int (xs 5)]) (rest := [.int 20]) (c22_X12_feed l D ct qm ((xs 1)) ((xs 2)) ((xs 3)) ((xs 4)) ((xs 5)) ((um 15)) ((um 0)) ((um 1)) ((um 2)) ((um 3)) ((um 4)) ((um 5)) ((um 6)) ((um 7)) ((um 8)) ((um 9)) ((um 10)) ((um 11)) ((um 12)) ((um 13)) ((um 14)) (fun _ => 0)) X hl.1 kw_1537 kd_yX12_feed hw [0, 2] [1, 3, 4, 5, 6, 7, 8, 9, 10, 11, 12, 13, 14, 15, 16] rfl rfl rfl rfl (by decide) 0 rfl rfl ⟨by decide, by decide⟩ rfl rfl (Nat.le_of_ble_eq_true rfl) dL_law_291 ⟨by decide, by decide⟩ (fun r4 u5 H locs hr6 hw => ?_)
  replace hw : WD D A s.heap _ _ [((um 0), .inl (ct 3, 2, .inl (fun _ => 0))), ((um 2), .inl (ct 0, 1770, .inl (fun _ => 0))), ((um 3), .inl (ct 0, 900, .inl (fun _ => 0))), ((um 4), .inl (ct 0, 7, .inl (fun _ => 0))), ((um 5), .inl (ct 0, 56, .inl (fun _ => 0))), ((um 6), .inl (ct 0, 40320, .inl (fun _ => 0))), ((um 7), .inl (ct 0, 72, .inl (fun _ => 0))), ((um 8), .inl (ct 0, 7, .inl (fun _ => 0))), ((um 9), .inl (ct 0, 21870, .inl (fun _ => 0))), ((um 10), .inl (ct 0, 7, .inl fx1)), ((um 11), .inl (ct 0, 8, .inl (fun _ => 0))), ((um 12), .inl (ct 0, 4, .inl fx2)), ((um 13), .inl (ct 0, 4, .inl (fun _ => 0))), ((um 14), .inl (ct 2, 160, .inr (.inl (fun _ => 0)))), ((um 15), .inl (ct 0, 5310, .inl fx0))] := hw
  subst hr6
  refine lv_icmp_eq (tgt := 1468) hx hb dL_law_294 (by decide) (fun _ => ?_) (fun h => absurd (by decide) h)
  exact law_end C0 hA0 hw (lv_sub hl [0, 1, 2, 3] rfl) (by decide) (by decide)
set_option maxHeartbeats 4000000 in
set_option maxRecDepth 100000 in
theorem law_1 {p : Program} {l : Launch} {e : Env} {s : State} {m : MethodId} {below : List Frame} {meth : Method} {c : Code} {H : Heap} {locs : List Loc} {D : va_G} {ct : Nat → ClassId} {A : Nat → Prop} {ls : Array Slot} {b : Nat} {qx qm : Nat} {ux um : Nat → Nat} {xs : Nat → Int32} (C0 : lw_At p s m meth c b 6 xs) (hK0 : KK D ct s) (hA0 : ∀ q, A q → s.heap.size ≤ q) (hw : WD D A s.heap H locs (xWd ct qx ux ++ mWd ct qm um)) (hl : lv_has ls 4 [(3, .int 0), (2, .ref qm), (1, .ref qx), (0, .ref b)]) : W p l e room_1 s m #[Value.ref b] below meth c H locs 126 76620 (lw_Z below #[Value.ref b] s) (F0 m 299 ls []) := by
  obtain ⟨hx, hb, hr, hml, hown, hts0, hX, hbl, hlocks, hgv⟩ := id C0
  have hts := tb_hts hts0
  have hK := hK0
  have X : CX p m c cL_law 4 s #[Value.ref b] RL D ct := ⟨⟨hx, hb, hml, hown, hts⟩, hK0⟩
  have hbA : ¬ A b := fun h => absurd (hA0 _ h) (Nat.not_le.mpr hbl)
  refine lv_aload_n hx hb dL_law_299 rfl (lv_at hl 2 rfl) ?_
  refine lv_aload_n hx hb dL_law_300 rfl (lv_at hl 3 rfl) ?_
  refine lv_iload_n hx hb dL_law_301 rfl (lv_at hl 0 rfl) ?_
  refine lv_iconst (v := 1) hx hb dL_law_302 (by decide) ?_
  refine kv_iadd (v := 1) hx hb (by decide) dL_law_303 ?_
  refine j_sld (j := 1) hx hb hX hbl hbA hw (by decide) (by decide) (by decide) dL_law_304 ?_
  refine m_Vi (As := [.int (xs 1)]) (rest := []) (c34_X11_tower l D ct qx ((xs 1)) ((ux 0)) ((ux 1)) ((ux 9)) ((ux 19)) ((ux 24)) ((ux 30)) ((ux 33)) ((ux 39)) ((ux 48)) ((ux 50)) ((ux 56)) ((ux 60)) ((ux 61)) ((ux 62)) ((ux 63)) (fun _ => 0) ((ux 2)) ((ux 3)) ((ux 4)) ((ux 5)) ((ux 8)) ((ux 6)) ((ux 7)) (va_cpy (fun _ => (-1)) (fun _ => 0) 0 0 7) ((ux 10)) ((ux 18)) ((ux 11)) ((ux 12)) ((ux 13)) ((ux 14)) ((ux 17)) ((ux 15)) ((ux 16)) ((ux 51))) X hl.1 kw_628 kd_yX11_tower hw [0, 1, 2, 3, 4, 5, 6, 7, 8, 9, 10, 11, 12, 13, 14, 15, 16, 17, 18, 51] [73, 74, 75, 76, 77, 78, 79, 80, 81, 82, 83, 84, 85, 86, 87, 88, 89] rfl rfl rfl rfl (by decide) 0 rfl rfl ⟨by decide, by decide⟩ rfl rfl (Nat.le_of_ble_eq_true rfl) dL_law_305 ⟨by decide, by decide⟩ (fun r1 u2 H locs hr3 hw => ?_)
  replace hw : WD D A s.heap _ _ (mWd ct qm um) := hw
  rcases hr3 with ⟨h4, rfl⟩ | ⟨⟨h5, h6, h7⟩, rfl⟩
  · skip
    refine lv_aload_n hx hb dL_law_308 rfl (lv_at hl 1 rfl) ?_
    refine lv_aload_n hx hb dL_law_309 rfl (lv_at hl 3 rfl) ?_
    refine lv_iload_n hx hb dL_law_310 rfl (lv_at hl 0 rfl) ?_
    refine lv_iconst (v := 1) hx hb dL_law_311 (by decide) ?_
    refine kv_iadd (v := 1) hx hb (by decide) dL_law_312 ?_
    refine j_sld (j := 1) hx hb hX hbl hbA hw (by decide) (by decide) (by decide) dL_law_313 ?_
    refine m_Vi (As := [.int (xs 1)]) (rest := [.int (-3)]) (c39_X12_tower l D ct qm ((xs 1)) ((um 15)) ((um 0)) ((um 1)) ((um 2)) ((um 3)) ((um 4)) ((um 5)) ((um 6)) ((um 7)) ((um 8)) ((um 9)) ((um 10)) ((um 11)) ((um 12)) ((um 13)) ((um 14))) X hl.1 kw_1541 kd_yX12_tower hw [0, 3, 16] [1, 2, 4, 5, 6, 7, 8, 9, 10, 11, 12, 13, 14, 15] rfl rfl rfl rfl (by decide) 0 rfl rfl ⟨by decide, by decide⟩ rfl rfl (Nat.le_of_ble_eq_true rfl) dL_law_314 ⟨by decide, by decide⟩ (fun r8 u9 H locs hr10 hw => ?_)
    replace hw : WD D A s.heap _ _ [((um 0), .inl (ct 3, 2, .inl (fun _ => 0))), ((um 1), .inl (ct 0, 900, .inl (fun _ => 0))), ((um 3), .inl (ct 0, 900, .inl (fun _ => 0))), ((um 4), .inl (ct 0, 7, .inl (fun _ => 0))), ((um 5), .inl (ct 0, 56, .inl (fun _ => 0))), ((um 6), .inl (ct 0, 40320, .inl (fun _ => 0))), ((um 7), .inl (ct 0, 72, .inl (fun _ => 0))), ((um 8), .inl (ct 0, 7, .inl (fun _ => 0))), ((um 9), .inl (ct 0, 21870, .inl (fun _ => 0))), ((um 10), .inl (ct 0, 7, .inl fx1)), ((um 11), .inl (ct 0, 8, .inl (fun _ => 0))), ((um 12), .inl (ct 0, 4, .inl fx2)), ((um 13), .inl (ct 0, 4, .inl (fun _ => 0))), ((um 14), .inl (ct 2, 160, .inr (.inl (fun _ => 0))))] := hw
    rcases hr10 with ⟨h11, rfl⟩ | ⟨⟨h12, h13, h14⟩, rfl⟩
    · skip
      refine lv_icmp_eq (tgt := 1468) hx hb dL_law_317 (by decide) (fun _ => ?_) (fun h => absurd (by decide) h)
      exact law_end C0 hA0 hw (lv_sub hl [0, 1, 2, 3] rfl) (by decide) (by decide)
    · skip
      exfalso; omega
  · skip
    refine lv_aload_n hx hb dL_law_308 rfl (lv_at hl 1 rfl) ?_
    refine lv_aload_n hx hb dL_law_309 rfl (lv_at hl 3 rfl) ?_
    refine lv_iload_n hx hb dL_law_310 rfl (lv_at hl 0 rfl) ?_
    refine lv_iconst (v := 1) hx hb dL_law_311 (by decide) ?_
    refine kv_iadd (v := 1) hx hb (by decide) dL_law_312 ?_
    refine j_sld (j := 1) hx hb hX hbl hbA hw (by decide) (by decide) (by decide) dL_law_313 ?_
    refine m_Vi (As := [.int (xs 1)]) (rest := [.int 0]) (c39_X12_tower l D ct qm ((xs 1)) ((um 15)) ((um 0)) ((um 1)) ((um 2)) ((um 3)) ((um 4)) ((um 5)) ((um 6)) ((um 7)) ((um 8)) ((um 9)) ((um 10)) ((um 11)) ((um 12)) ((um 13)) ((um 14))) X hl.1 kw_1541 kd_yX12_tower hw [0, 3, 16] [1, 2, 4, 5, 6, 7, 8, 9, 10, 11, 12, 13, 14, 15] rfl rfl rfl rfl (by decide) 0 rfl rfl ⟨by decide, by decide⟩ rfl rfl (Nat.le_of_ble_eq_true rfl) dL_law_314 ⟨by decide, by decide⟩ (fun r15 u16 H locs hr17 hw => ?_)
    replace hw : WD D A s.heap _ _ [((um 0), .inl (ct 3, 2, .inl (fun _ => 0))), ((um 1), .inl (ct 0, 900, .inl (fun _ => 0))), ((um 3), .inl (ct 0, 900, .inl (fun _ => 0))), ((um 4), .inl (ct 0, 7, .inl (fun _ => 0))), ((um 5), .inl (ct 0, 56, .inl (fun _ => 0))), ((um 6), .inl (ct 0, 40320, .inl (fun _ => 0))), ((um 7), .inl (ct 0, 72, .inl (fun _ => 0))), ((um 8), .inl (ct 0, 7, .inl (fun _ => 0))), ((um 9), .inl (ct 0, 21870, .inl (fun _ => 0))), ((um 10), .inl (ct 0, 7, .inl fx1)), ((um 11), .inl (ct 0, 8, .inl (fun _ => 0))), ((um 12), .inl (ct 0, 4, .inl fx2)), ((um 13), .inl (ct 0, 4, .inl (fun _ => 0))), ((um 14), .inl (ct 2, 160, .inr (.inl (fun _ => 0))))] := hw
    rcases hr17 with ⟨h18, rfl⟩ | ⟨⟨h19, h20, h21⟩, rfl⟩
    · skip
      exfalso; omega
    · skip
      refine lv_icmp_eq (tgt := 1468) hx hb dL_law_317 (by decide) (fun _ => ?_) (fun h => absurd (by decide) h)
      exact law_end C0 hA0 hw (lv_sub hl [0, 1, 2, 3] rfl) (by decide) (by decide)
set_option maxHeartbeats 4000000 in
set_option maxRecDepth 100000 in
theorem law_2 {p : Program} {l : Launch} {e : Env} {s : State} {m : MethodId} {below : List Frame} {meth : Method} {c : Code} {H : Heap} {locs : List Loc} {D : va_G} {ct : Nat → ClassId} {A : Nat → Prop} {ls : Array Slot} {b : Nat} {qx qm : Nat} {ux um : Nat → Nat} {xs : Nat → Int32} (C0 : lw_At p s m meth c b 6 xs) (hK0 : KK D ct s) (hA0 : ∀ q, A q → s.heap.size ≤ q) (hw : WD D A s.heap H locs (xWd ct qx ux ++ mWd ct qm um)) (hl : lv_has ls 4 [(3, .int 0), (2, .ref qm), (1, .ref qx), (0, .ref b)]) : W p l e room_1 s m #[Value.ref b] below meth c H locs 126 76620 (lw_Z below #[Value.ref b] s) (F0 m 322 ls []) := by
  obtain ⟨hx, hb, hr, hml, hown, hts0, hX, hbl, hlocks, hgv⟩ := id C0
  have hts := tb_hts hts0
  have hK := hK0
  have X : CX p m c cL_law 4 s #[Value.ref b] RL D ct := ⟨⟨hx, hb, hml, hown, hts⟩, hK0⟩
  have hbA : ¬ A b := fun h => absurd (hA0 _ h) (Nat.not_le.mpr hbl)
  refine lv_aload_n hx hb dL_law_322 rfl (lv_at hl 2 rfl) ?_
  refine lv_aload_n hx hb dL_law_323 rfl (lv_at hl 3 rfl) ?_
  refine lv_iload_n hx hb dL_law_324 rfl (lv_at hl 0 rfl) ?_
  refine lv_iconst (v := 1) hx hb dL_law_325 (by decide) ?_
  refine kv_iadd (v := 1) hx hb (by decide) dL_law_326 ?_
  refine j_sld (j := 1) hx hb hX hbl hbA hw (by decide) (by decide) (by decide) dL_law_327 ?_
  refine m_Vi (As := [.int (xs 1)]) (rest := []) (c40_X11_fault l D ct qx ((xs 1)) ((ux 0)) ((ux 1)) ((ux 9)) ((ux 19)) ((ux 24)) ((ux 30)) ((ux 33)) ((ux 39)) ((ux 48)) ((ux 50)) ((ux 56)) ((ux 60)) ((ux 61)) ((ux 62)) ((ux 63)) ((ux 10)) ((ux 18))) X hl.1 kw_873 kd_yX11_fault hw [0, 10] [73, 74, 75, 76, 77, 78, 79, 80, 81, 82, 83, 84, 85, 86, 87, 88, 89] rfl rfl rfl rfl (by decide) 0 rfl rfl ⟨by decide, by decide⟩ rfl rfl (Nat.le_of_ble_eq_true rfl) dL_law_328 ⟨by decide, by decide⟩ (fun r1 u2 H locs hr3 hw => ?_)
  replace hw : WD D A s.heap _ _ (mWd ct qm um) := hw
  rcases hr3 with ⟨h4, rfl⟩ | ⟨h5, rfl⟩
  · skip
    refine lv_aload_n hx hb dL_law_331 rfl (lv_at hl 1 rfl) ?_
    refine lv_aload_n hx hb dL_law_332 rfl (lv_at hl 3 rfl) ?_
    refine lv_iload_n hx hb dL_law_333 rfl (lv_at hl 0 rfl) ?_
    refine lv_iconst (v := 1) hx hb dL_law_334 (by decide) ?_
    refine kv_iadd (v := 1) hx hb (by decide) dL_law_335 ?_
    refine j_sld (j := 1) hx hb hX hbl hbA hw (by decide) (by decide) (by decide) dL_law_336 ?_
    refine m_Vi (As := [.int (xs 1)]) (rest := [.int 0]) (c41_X12_fault l D ct qm ((xs 1)) ((um 15)) ((um 0)) ((um 1)) ((um 2)) ((um 3)) ((um 4)) ((um 5)) ((um 6)) ((um 7)) ((um 8)) ((um 9)) ((um 10)) ((um 11)) ((um 12)) ((um 13)) ((um 14))) X hl.1 kw_1646 kd_yX12_fault hw [0] [1, 2, 3, 4, 5, 6, 7, 8, 9, 10, 11, 12, 13, 14, 15, 16] rfl rfl rfl rfl (by decide) 0 rfl rfl ⟨by decide, by decide⟩ rfl rfl (Nat.le_of_ble_eq_true rfl) dL_law_337 ⟨by decide, by decide⟩ (fun r6 u7 H locs hr8 hw => ?_)
    replace hw : WD D A s.heap _ _ [((um 0), .inl (ct 3, 2, .inl (fun _ => 0))), ((um 1), .inl (ct 0, 900, .inl (fun _ => 0))), ((um 2), .inl (ct 0, 1770, .inl (fun _ => 0))), ((um 3), .inl (ct 0, 900, .inl (fun _ => 0))), ((um 4), .inl (ct 0, 7, .inl (fun _ => 0))), ((um 5), .inl (ct 0, 56, .inl (fun _ => 0))), ((um 6), .inl (ct 0, 40320, .inl (fun _ => 0))), ((um 7), .inl (ct 0, 72, .inl (fun _ => 0))), ((um 8), .inl (ct 0, 7, .inl (fun _ => 0))), ((um 9), .inl (ct 0, 21870, .inl (fun _ => 0))), ((um 10), .inl (ct 0, 7, .inl fx1)), ((um 11), .inl (ct 0, 8, .inl (fun _ => 0))), ((um 12), .inl (ct 0, 4, .inl fx2)), ((um 13), .inl (ct 0, 4, .inl (fun _ => 0))), ((um 14), .inl (ct 2, 160, .inr (.inl (fun _ => 0)))), ((um 15), .inl (ct 0, 5310, .inl fx0))] := hw
    rcases hr8 with ⟨h9, rfl⟩ | ⟨⟨h10, h11⟩, rfl⟩
    · skip
      exfalso; omega
    · skip
      refine lv_icmp_eq (tgt := 1468) hx hb dL_law_340 (by decide) (fun _ => ?_) (fun h => absurd (by decide) h)
      exact law_end C0 hA0 hw (lv_sub hl [0, 1, 2, 3] rfl) (by decide) (by decide)
  · skip
    refine lv_aload_n hx hb dL_law_331 rfl (lv_at hl 1 rfl) ?_
    refine lv_aload_n hx hb dL_law_332 rfl (lv_at hl 3 rfl) ?_
    refine lv_iload_n hx hb dL_law_333 rfl (lv_at hl 0 rfl) ?_
    refine lv_iconst (v := 1) hx hb dL_law_334 (by decide) ?_
    refine kv_iadd (v := 1) hx hb (by decide) dL_law_335 ?_
    refine j_sld (j := 1) hx hb hX hbl hbA hw (by decide) (by decide) (by decide) dL_law_336 ?_
    refine m_Vi (As := [.int (xs 1)]) (rest := [.int (-1)]) (c41_X12_fault l D ct qm ((xs 1)) ((um 15)) ((um 0)) ((um 1)) ((um 2)) ((um 3)) ((um 4)) ((um 5)) ((um 6)) ((um 7)) ((um 8)) ((um 9)) ((um 10)) ((um 11)) ((um 12)) ((um 13)) ((um 14))) X hl.1 kw_1646 kd_yX12_fault hw [0] [1, 2, 3, 4, 5, 6, 7, 8, 9, 10, 11, 12, 13, 14, 15, 16] rfl rfl rfl rfl (by decide) 0 rfl rfl ⟨by decide, by decide⟩ rfl rfl (Nat.le_of_ble_eq_true rfl) dL_law_337 ⟨by decide, by decide⟩ (fun r12 u13 H locs hr14 hw => ?_)
    replace hw : WD D A s.heap _ _ [((um 0), .inl (ct 3, 2, .inl (fun _ => 0))), ((um 1), .inl (ct 0, 900, .inl (fun _ => 0))), ((um 2), .inl (ct 0, 1770, .inl (fun _ => 0))), ((um 3), .inl (ct 0, 900, .inl (fun _ => 0))), ((um 4), .inl (ct 0, 7, .inl (fun _ => 0))), ((um 5), .inl (ct 0, 56, .inl (fun _ => 0))), ((um 6), .inl (ct 0, 40320, .inl (fun _ => 0))), ((um 7), .inl (ct 0, 72, .inl (fun _ => 0))), ((um 8), .inl (ct 0, 7, .inl (fun _ => 0))), ((um 9), .inl (ct 0, 21870, .inl (fun _ => 0))), ((um 10), .inl (ct 0, 7, .inl fx1)), ((um 11), .inl (ct 0, 8, .inl (fun _ => 0))), ((um 12), .inl (ct 0, 4, .inl fx2)), ((um 13), .inl (ct 0, 4, .inl (fun _ => 0))), ((um 14), .inl (ct 2, 160, .inr (.inl (fun _ => 0)))), ((um 15), .inl (ct 0, 5310, .inl fx0))] := hw
    rcases hr14 with ⟨h15, rfl⟩ | ⟨⟨h16, h17⟩, rfl⟩
    · skip
      refine lv_icmp_eq (tgt := 1468) hx hb dL_law_340 (by decide) (fun _ => ?_) (fun h => absurd (by decide) h)
      exact law_end C0 hA0 hw (lv_sub hl [0, 1, 2, 3] rfl) (by decide) (by decide)
    · skip
      exfalso; omega
set_option maxHeartbeats 4000000 in
set_option maxRecDepth 100000 in
theorem law_3 {p : Program} {l : Launch} {e : Env} {s : State} {m : MethodId} {below : List Frame} {meth : Method} {c : Code} {H : Heap} {locs : List Loc} {D : va_G} {ct : Nat → ClassId} {A : Nat → Prop} {ls : Array Slot} {b : Nat} {qx qm : Nat} {ux um : Nat → Nat} {xs : Nat → Int32} (C0 : lw_At p s m meth c b 6 xs) (hK0 : KK D ct s) (hA0 : ∀ q, A q → s.heap.size ≤ q) (hw : WD D A s.heap H locs (xWd ct qx ux ++ mWd ct qm um)) (hl : lv_has ls 4 [(3, .int 0), (2, .ref qm), (1, .ref qx), (0, .ref b)]) : W p l e room_1 s m #[Value.ref b] below meth c H locs 126 76620 (lw_Z below #[Value.ref b] s) (F0 m 345 ls []) := by
  obtain ⟨hx, hb, hr, hml, hown, hts0, hX, hbl, hlocks, hgv⟩ := id C0
  have hts := tb_hts hts0
  have hK := hK0
  have X : CX p m c cL_law 4 s #[Value.ref b] RL D ct := ⟨⟨hx, hb, hml, hown, hts⟩, hK0⟩
  have hbA : ¬ A b := fun h => absurd (hA0 _ h) (Nat.not_le.mpr hbl)
  refine lv_aload_n hx hb dL_law_345 rfl (lv_at hl 2 rfl) ?_
  refine lv_aload_n hx hb dL_law_346 rfl (lv_at hl 3 rfl) ?_
  refine lv_iload_n hx hb dL_law_347 rfl (lv_at hl 0 rfl) ?_
  refine lv_iconst (v := 1) hx hb dL_law_348 (by decide) ?_
  refine kv_iadd (v := 1) hx hb (by decide) dL_law_349 ?_
  refine j_sld (j := 1) hx hb hX hbl hbA hw (by decide) (by decide) (by decide) dL_law_350 ?_
  refine lv_aload_n hx hb dL_law_351 rfl (lv_at hl 3 rfl) ?_
  refine lv_iload_n hx hb dL_law_352 rfl (lv_at hl 0 rfl) ?_
  refine lv_iconst (v := 2) hx hb dL_law_353 (by decide) ?_
  refine kv_iadd (v := 2) hx hb (by decide) dL_law_354 ?_
  refine j_sld (j := 2) hx hb hX hbl hbA hw (by decide) (by decide) (by decide) dL_law_355 ?_
  refine m_Vi (As := [.int (xs 1), .int (xs 2)]) (rest := []) (c43_X11_flat l D ct qx ((xs 1)) ((xs 2)) ((ux 0)) ((ux 1)) ((ux 9)) ((ux 19)) ((ux 24)) ((ux 30)) ((ux 33)) ((ux 39)) ((ux 48)) ((ux 50)) ((ux 56)) ((ux 60)) ((ux 61)) ((ux 62)) ((ux 63)) ((ux 2)) ((ux 3)) ((ux 4)) ((ux 5))) X hl.1 kw_877 kd_yX11_flat hw [0, 2] [73, 74, 75, 76, 77, 78, 79, 80, 81, 82, 83, 84, 85, 86, 87, 88, 89] rfl rfl rfl rfl (by decide) 0 rfl rfl ⟨by decide, by decide⟩ rfl rfl (Nat.le_of_ble_eq_true rfl) dL_law_356 ⟨by decide, by decide⟩ (fun r1 u2 H locs hr3 hw => ?_)
  replace hw : WD D A s.heap _ _ (mWd ct qm um) := hw
  subst hr3
  refine lv_aload_n hx hb dL_law_359 rfl (lv_at hl 1 rfl) ?_
  refine lv_aload_n hx hb dL_law_360 rfl (lv_at hl 3 rfl) ?_
  refine lv_iload_n hx hb dL_law_361 rfl (lv_at hl 0 rfl) ?_
  refine lv_iconst (v := 1) hx hb dL_law_362 (by decide) ?_
  refine kv_iadd (v := 1) hx hb (by decide) dL_law_363 ?_
  refine j_sld (j := 1) hx hb hX hbl hbA hw (by decide) (by decide) (by decide) dL_law_364 ?_
  refine lv_aload_n hx hb dL_law_365 rfl (lv_at hl 3 rfl) ?_
  refine lv_iload_n hx hb dL_law_366 rfl (lv_at hl 0 rfl) ?_
  refine lv_iconst (v := 2) hx hb dL_law_367 (by decide) ?_
  refine kv_iadd (v := 2) hx hb (by decide) dL_law_368 ?_
  refine j_sld (j := 2) hx hb hX hbl hbA hw (by decide) (by decide) (by decide) dL_law_369 ?_
  refine m_Vi (As := [.int (xs 1), .int (xs 2)]) (rest := [.int (-8)]) (c46_X12_flat l D ct qm ((xs 1)) ((xs 2)) ((um 15)) ((um 0)) ((um 1)) ((um 2)) ((um 3)) ((um 4)) ((um 5)) ((um 6)) ((um 7)) ((um 8)) ((um 9)) ((um 10)) ((um 11)) ((um 12)) ((um 13)) ((um 14))) X hl.1 kw_1650 kd_yX12_flat hw [0, 16] [1, 2, 3, 4, 5, 6, 7, 8, 9, 10, 11, 12, 13, 14, 15] rfl rfl rfl rfl (by decide) 0 rfl rfl ⟨by decide, by decide⟩ rfl rfl (Nat.le_of_ble_eq_true rfl) dL_law_370 ⟨by decide, by decide⟩ (fun r4 u5 H locs hr6 hw => ?_)
  replace hw : WD D A s.heap _ _ [((um 0), .inl (ct 3, 2, .inl (fun _ => 0))), ((um 1), .inl (ct 0, 900, .inl (fun _ => 0))), ((um 2), .inl (ct 0, 1770, .inl (fun _ => 0))), ((um 3), .inl (ct 0, 900, .inl (fun _ => 0))), ((um 4), .inl (ct 0, 7, .inl (fun _ => 0))), ((um 5), .inl (ct 0, 56, .inl (fun _ => 0))), ((um 6), .inl (ct 0, 40320, .inl (fun _ => 0))), ((um 7), .inl (ct 0, 72, .inl (fun _ => 0))), ((um 8), .inl (ct 0, 7, .inl (fun _ => 0))), ((um 9), .inl (ct 0, 21870, .inl (fun _ => 0))), ((um 10), .inl (ct 0, 7, .inl fx1)), ((um 11), .inl (ct 0, 8, .inl (fun _ => 0))), ((um 12), .inl (ct 0, 4, .inl fx2)), ((um 13), .inl (ct 0, 4, .inl (fun _ => 0))), ((um 14), .inl (ct 2, 160, .inr (.inl (fun _ => 0))))] := hw
  subst hr6
  refine lv_icmp_eq (tgt := 1468) hx hb dL_law_373 (by decide) (fun _ => ?_) (fun h => absurd (by decide) h)
  exact law_end C0 hA0 hw (lv_sub hl [0, 1, 2, 3] rfl) (by decide) (by decide)
set_option maxHeartbeats 4000000 in
set_option maxRecDepth 100000 in
theorem law_4 {p : Program} {l : Launch} {e : Env} {s : State} {m : MethodId} {below : List Frame} {meth : Method} {c : Code} {H : Heap} {locs : List Loc} {D : va_G} {ct : Nat → ClassId} {A : Nat → Prop} {ls : Array Slot} {b : Nat} {qx qm : Nat} {ux um : Nat → Nat} {xs : Nat → Int32} (C0 : lw_At p s m meth c b 6 xs) (hK0 : KK D ct s) (hA0 : ∀ q, A q → s.heap.size ≤ q) (hw : WD D A s.heap H locs (xWd ct qx ux ++ mWd ct qm um)) (hl : lv_has ls 4 [(3, .int 0), (2, .ref qm), (1, .ref qx), (0, .ref b)]) : W p l e room_1 s m #[Value.ref b] below meth c H locs 126 76620 (lw_Z below #[Value.ref b] s) (F0 m 378 ls []) := by
  obtain ⟨hx, hb, hr, hml, hown, hts0, hX, hbl, hlocks, hgv⟩ := id C0
  have hts := tb_hts hts0
  have hK := hK0
  have X : CX p m c cL_law 4 s #[Value.ref b] RL D ct := ⟨⟨hx, hb, hml, hown, hts⟩, hK0⟩
  have hbA : ¬ A b := fun h => absurd (hA0 _ h) (Nat.not_le.mpr hbl)
  refine lv_aload_n hx hb dL_law_378 rfl (lv_at hl 2 rfl) ?_
  refine lv_aload_n hx hb dL_law_379 rfl (lv_at hl 3 rfl) ?_
  refine lv_iload_n hx hb dL_law_380 rfl (lv_at hl 0 rfl) ?_
  refine lv_iconst (v := 1) hx hb dL_law_381 (by decide) ?_
  refine kv_iadd (v := 1) hx hb (by decide) dL_law_382 ?_
  refine j_sld (j := 1) hx hb hX hbl hbA hw (by decide) (by decide) (by decide) dL_law_383 ?_
  refine lv_aload_n hx hb dL_law_384 rfl (lv_at hl 3 rfl) ?_
  refine lv_iload_n hx hb dL_law_385 rfl (lv_at hl 0 rfl) ?_
  refine lv_iconst (v := 2) hx hb dL_law_386 (by decide) ?_
  refine kv_iadd (v := 2) hx hb (by decide) dL_law_387 ?_
  refine j_sld (j := 2) hx hb hX hbl hbA hw (by decide) (by decide) (by decide) dL_law_388 ?_
  refine m_Vi (As := [.int (xs 1), .int (xs 2)]) (rest := []) (c48_X11_household l D ct qx ((xs 1)) ((xs 2)) ((ux 0)) ((ux 1)) ((ux 9)) ((ux 19)) ((ux 24)) ((ux 30)) ((ux 33)) ((ux 39)) ((ux 48)) ((ux 50)) ((ux 56)) ((ux 60)) ((ux 61)) ((ux 62)) ((ux 63)) ((ux 2)) ((ux 3)) ((ux 4)) ((ux 5))) X hl.1 kw_887 kd_yX11_household hw [0, 2] [73, 74, 75, 76, 77, 78, 79, 80, 81, 82, 83, 84, 85, 86, 87, 88, 89] rfl rfl rfl rfl (by decide) 0 rfl rfl ⟨by decide, by decide⟩ rfl rfl (Nat.le_of_ble_eq_true rfl) dL_law_389 ⟨by decide, by decide⟩ (fun r1 u2 H locs hr3 hw => ?_)
  replace hw : WD D A s.heap _ _ (mWd ct qm um) := hw
  subst hr3
  refine lv_aload_n hx hb dL_law_392 rfl (lv_at hl 1 rfl) ?_
  refine lv_aload_n hx hb dL_law_393 rfl (lv_at hl 3 rfl) ?_
  refine lv_iload_n hx hb dL_law_394 rfl (lv_at hl 0 rfl) ?_
  refine lv_iconst (v := 1) hx hb dL_law_395 (by decide) ?_
  refine kv_iadd (v := 1) hx hb (by decide) dL_law_396 ?_
  refine j_sld (j := 1) hx hb hX hbl hbA hw (by decide) (by decide) (by decide) dL_law_397 ?_
  refine lv_aload_n hx hb dL_law_398 rfl (lv_at hl 3 rfl) ?_
  refine lv_iload_n hx hb dL_law_399 rfl (lv_at hl 0 rfl) ?_
  refine lv_iconst (v := 2) hx hb dL_law_400 (by decide) ?_
  refine kv_iadd (v := 2) hx hb (by decide) dL_law_401 ?_
  refine j_sld (j := 2) hx hb hX hbl hbA hw (by decide) (by decide) (by decide) dL_law_402 ?_
  refine m_Vi (As := [.int (xs 1), .int (xs 2)]) (rest := [.int (-8)]) (c50_X12_household l D ct qm ((xs 1)) ((xs 2)) ((um 15)) ((um 0)) ((um 1)) ((um 2)) ((um 3)) ((um 4)) ((um 5)) ((um 6)) ((um 7)) ((um 8)) ((um 9)) ((um 10)) ((um 11)) ((um 12)) ((um 13)) ((um 14))) X hl.1 kw_1663 kd_yX12_household hw [0, 16] [1, 2, 3, 4, 5, 6, 7, 8, 9, 10, 11, 12, 13, 14, 15] rfl rfl rfl rfl (by decide) 0 rfl rfl ⟨by decide, by decide⟩ rfl rfl (Nat.le_of_ble_eq_true rfl) dL_law_403 ⟨by decide, by decide⟩ (fun r4 u5 H locs hr6 hw => ?_)
  replace hw : WD D A s.heap _ _ [((um 0), .inl (ct 3, 2, .inl (fun _ => 0))), ((um 1), .inl (ct 0, 900, .inl (fun _ => 0))), ((um 2), .inl (ct 0, 1770, .inl (fun _ => 0))), ((um 3), .inl (ct 0, 900, .inl (fun _ => 0))), ((um 4), .inl (ct 0, 7, .inl (fun _ => 0))), ((um 5), .inl (ct 0, 56, .inl (fun _ => 0))), ((um 6), .inl (ct 0, 40320, .inl (fun _ => 0))), ((um 7), .inl (ct 0, 72, .inl (fun _ => 0))), ((um 8), .inl (ct 0, 7, .inl (fun _ => 0))), ((um 9), .inl (ct 0, 21870, .inl (fun _ => 0))), ((um 10), .inl (ct 0, 7, .inl fx1)), ((um 11), .inl (ct 0, 8, .inl (fun _ => 0))), ((um 12), .inl (ct 0, 4, .inl fx2)), ((um 13), .inl (ct 0, 4, .inl (fun _ => 0))), ((um 14), .inl (ct 2, 160, .inr (.inl (fun _ => 0))))] := hw
  subst hr6
  refine lv_icmp_eq (tgt := 1468) hx hb dL_law_406 (by decide) (fun _ => ?_) (fun h => absurd (by decide) h)
  exact law_end C0 hA0 hw (lv_sub hl [0, 1, 2, 3] rfl) (by decide) (by decide)
set_option maxHeartbeats 4000000 in
set_option maxRecDepth 100000 in
theorem law_5 {p : Program} {l : Launch} {e : Env} {s : State} {m : MethodId} {below : List Frame} {meth : Method} {c : Code} {H : Heap} {locs : List Loc} {D : va_G} {ct : Nat → ClassId} {A : Nat → Prop} {ls : Array Slot} {b : Nat} {qx qm : Nat} {ux um : Nat → Nat} {xs : Nat → Int32} (C0 : lw_At p s m meth c b 6 xs) (hK0 : KK D ct s) (hA0 : ∀ q, A q → s.heap.size ≤ q) (hw : WD D A s.heap H locs (xWd ct qx ux ++ mWd ct qm um)) (hl : lv_has ls 4 [(3, .int 0), (2, .ref qm), (1, .ref qx), (0, .ref b)]) : W p l e room_1 s m #[Value.ref b] below meth c H locs 126 76620 (lw_Z below #[Value.ref b] s) (F0 m 411 ls []) := by
  obtain ⟨hx, hb, hr, hml, hown, hts0, hX, hbl, hlocks, hgv⟩ := id C0
  have hts := tb_hts hts0
  have hK := hK0
  have X : CX p m c cL_law 4 s #[Value.ref b] RL D ct := ⟨⟨hx, hb, hml, hown, hts⟩, hK0⟩
  have hbA : ¬ A b := fun h => absurd (hA0 _ h) (Nat.not_le.mpr hbl)
  refine lv_aload_n hx hb dL_law_411 rfl (lv_at hl 2 rfl) ?_
  refine lv_aload_n hx hb dL_law_412 rfl (lv_at hl 3 rfl) ?_
  refine lv_iload_n hx hb dL_law_413 rfl (lv_at hl 0 rfl) ?_
  refine lv_iconst (v := 1) hx hb dL_law_414 (by decide) ?_
  refine kv_iadd (v := 1) hx hb (by decide) dL_law_415 ?_
  refine j_sld (j := 1) hx hb hX hbl hbA hw (by decide) (by decide) (by decide) dL_law_416 ?_
  refine lv_aload_n hx hb dL_law_417 rfl (lv_at hl 3 rfl) ?_
  refine lv_iload_n hx hb dL_law_418 rfl (lv_at hl 0 rfl) ?_
  refine lv_iconst (v := 2) hx hb dL_law_419 (by decide) ?_
  refine kv_iadd (v := 2) hx hb (by decide) dL_law_420 ?_
  refine j_sld (j := 2) hx hb hX hbl hbA hw (by decide) (by decide) (by decide) dL_law_421 ?_
  refine m_Vi (As := [.int (xs 1), .int (xs 2)]) (rest := []) (c52_X11_times l D ct qx ((xs 1)) ((xs 2)) ((ux 0)) ((ux 1)) ((ux 9)) ((ux 19)) ((ux 24)) ((ux 30)) ((ux 33)) ((ux 39)) ((ux 48)) ((ux 50)) ((ux 56)) ((ux 60)) ((ux 61)) ((ux 62)) ((ux 63)) ((ux 2)) ((ux 3)) ((ux 4)) ((ux 5))) X hl.1 kw_899 kd_yX11_times hw [0, 2] [73, 74, 75, 76, 77, 78, 79, 80, 81, 82, 83, 84, 85, 86, 87, 88, 89] rfl rfl rfl rfl (by decide) 0 rfl rfl ⟨by decide, by decide⟩ rfl rfl (Nat.le_of_ble_eq_true rfl) dL_law_422 ⟨by decide, by decide⟩ (fun r1 u2 H locs hr3 hw => ?_)
  replace hw : WD D A s.heap _ _ (mWd ct qm um) := hw
  subst hr3
  refine lv_aload_n hx hb dL_law_425 rfl (lv_at hl 1 rfl) ?_
  refine lv_aload_n hx hb dL_law_426 rfl (lv_at hl 3 rfl) ?_
  refine lv_iload_n hx hb dL_law_427 rfl (lv_at hl 0 rfl) ?_
  refine lv_iconst (v := 1) hx hb dL_law_428 (by decide) ?_
  refine kv_iadd (v := 1) hx hb (by decide) dL_law_429 ?_
  refine j_sld (j := 1) hx hb hX hbl hbA hw (by decide) (by decide) (by decide) dL_law_430 ?_
  refine lv_aload_n hx hb dL_law_431 rfl (lv_at hl 3 rfl) ?_
  refine lv_iload_n hx hb dL_law_432 rfl (lv_at hl 0 rfl) ?_
  refine lv_iconst (v := 2) hx hb dL_law_433 (by decide) ?_
  refine kv_iadd (v := 2) hx hb (by decide) dL_law_434 ?_
  refine j_sld (j := 2) hx hb hX hbl hbA hw (by decide) (by decide) (by decide) dL_law_435 ?_
  refine m_Vi (As := [.int (xs 1), .int (xs 2)]) (rest := [.int (-2)]) (c54_X12_times l D ct qm ((xs 1)) ((xs 2)) ((um 15)) ((um 0)) ((um 1)) ((um 2)) ((um 3)) ((um 4)) ((um 5)) ((um 6)) ((um 7)) ((um 8)) ((um 9)) ((um 10)) ((um 11)) ((um 12)) ((um 13)) ((um 14))) X hl.1 kw_1672 kd_yX12_times hw [0, 16] [1, 2, 3, 4, 5, 6, 7, 8, 9, 10, 11, 12, 13, 14, 15] rfl rfl rfl rfl (by decide) 0 rfl rfl ⟨by decide, by decide⟩ rfl rfl (Nat.le_of_ble_eq_true rfl) dL_law_436 ⟨by decide, by decide⟩ (fun r4 u5 H locs hr6 hw => ?_)
  replace hw : WD D A s.heap _ _ [((um 0), .inl (ct 3, 2, .inl (fun _ => 0))), ((um 1), .inl (ct 0, 900, .inl (fun _ => 0))), ((um 2), .inl (ct 0, 1770, .inl (fun _ => 0))), ((um 3), .inl (ct 0, 900, .inl (fun _ => 0))), ((um 4), .inl (ct 0, 7, .inl (fun _ => 0))), ((um 5), .inl (ct 0, 56, .inl (fun _ => 0))), ((um 6), .inl (ct 0, 40320, .inl (fun _ => 0))), ((um 7), .inl (ct 0, 72, .inl (fun _ => 0))), ((um 8), .inl (ct 0, 7, .inl (fun _ => 0))), ((um 9), .inl (ct 0, 21870, .inl (fun _ => 0))), ((um 10), .inl (ct 0, 7, .inl fx1)), ((um 11), .inl (ct 0, 8, .inl (fun _ => 0))), ((um 12), .inl (ct 0, 4, .inl fx2)), ((um 13), .inl (ct 0, 4, .inl (fun _ => 0))), ((um 14), .inl (ct 2, 160, .inr (.inl (fun _ => 0))))] := hw
  subst hr6
  refine lv_icmp_eq (tgt := 1468) hx hb dL_law_439 (by decide) (fun _ => ?_) (fun h => absurd (by decide) h)
  exact law_end C0 hA0 hw (lv_sub hl [0, 1, 2, 3] rfl) (by decide) (by decide)
set_option maxHeartbeats 4000000 in
set_option maxRecDepth 100000 in
theorem law_6 {p : Program} {l : Launch} {e : Env} {s : State} {m : MethodId} {below : List Frame} {meth : Method} {c : Code} {H : Heap} {locs : List Loc} {D : va_G} {ct : Nat → ClassId} {A : Nat → Prop} {ls : Array Slot} {b : Nat} {qx qm : Nat} {ux um : Nat → Nat} {xs : Nat → Int32} (C0 : lw_At p s m meth c b 6 xs) (hK0 : KK D ct s) (hA0 : ∀ q, A q → s.heap.size ≤ q) (hw : WD D A s.heap H locs (xWd ct qx ux ++ mWd ct qm um)) (hl : lv_has ls 4 [(3, .int 0), (2, .ref qm), (1, .ref qx), (0, .ref b)]) : W p l e room_1 s m #[Value.ref b] below meth c H locs 126 76620 (lw_Z below #[Value.ref b] s) (F0 m 444 ls []) := by
  obtain ⟨hx, hb, hr, hml, hown, hts0, hX, hbl, hlocks, hgv⟩ := id C0
  have hts := tb_hts hts0
  have hK := hK0
  have X : CX p m c cL_law 4 s #[Value.ref b] RL D ct := ⟨⟨hx, hb, hml, hown, hts⟩, hK0⟩
  have hbA : ¬ A b := fun h => absurd (hA0 _ h) (Nat.not_le.mpr hbl)
  refine lv_aload_n hx hb dL_law_444 rfl (lv_at hl 2 rfl) ?_
  refine lv_aload_n hx hb dL_law_445 rfl (lv_at hl 3 rfl) ?_
  refine lv_iload_n hx hb dL_law_446 rfl (lv_at hl 0 rfl) ?_
  refine lv_iconst (v := 1) hx hb dL_law_447 (by decide) ?_
  refine kv_iadd (v := 1) hx hb (by decide) dL_law_448 ?_
  refine j_sld (j := 1) hx hb hX hbl hbA hw (by decide) (by decide) (by decide) dL_law_449 ?_
  refine lv_aload_n hx hb dL_law_450 rfl (lv_at hl 3 rfl) ?_
  refine lv_iload_n hx hb dL_law_451 rfl (lv_at hl 0 rfl) ?_
  refine lv_iconst (v := 2) hx hb dL_law_452 (by decide) ?_
  refine kv_iadd (v := 2) hx hb (by decide) dL_law_453 ?_
  refine j_sld (j := 2) hx hb hX hbl hbA hw (by decide) (by decide) (by decide) dL_law_454 ?_
  refine m_Vi (As := [.int (xs 1), .int (xs 2)]) (rest := []) (c55_X11_may l D ct qx ((xs 1)) ((xs 2)) ((ux 0)) ((ux 1)) ((ux 9)) ((ux 19)) ((ux 24)) ((ux 30)) ((ux 33)) ((ux 39)) ((ux 48)) ((ux 50)) ((ux 56)) ((ux 60)) ((ux 61)) ((ux 62)) ((ux 63)) ((ux 2)) ((ux 3)) ((ux 4)) ((ux 5))) X hl.1 kw_907 kd_yX11_may hw [0, 2] [73, 74, 75, 76, 77, 78, 79, 80, 81, 82, 83, 84, 85, 86, 87, 88, 89] rfl rfl rfl rfl (by decide) 0 rfl rfl ⟨by decide, by decide⟩ rfl rfl (Nat.le_of_ble_eq_true rfl) dL_law_455 ⟨by decide, by decide⟩ (fun r1 u2 H locs hr3 hw => ?_)
  replace hw : WD D A s.heap _ _ (mWd ct qm um) := hw
  subst hr3
  refine lv_aload_n hx hb dL_law_458 rfl (lv_at hl 1 rfl) ?_
  refine lv_aload_n hx hb dL_law_459 rfl (lv_at hl 3 rfl) ?_
  refine lv_iload_n hx hb dL_law_460 rfl (lv_at hl 0 rfl) ?_
  refine lv_iconst (v := 1) hx hb dL_law_461 (by decide) ?_
  refine kv_iadd (v := 1) hx hb (by decide) dL_law_462 ?_
  refine j_sld (j := 1) hx hb hX hbl hbA hw (by decide) (by decide) (by decide) dL_law_463 ?_
  refine lv_aload_n hx hb dL_law_464 rfl (lv_at hl 3 rfl) ?_
  refine lv_iload_n hx hb dL_law_465 rfl (lv_at hl 0 rfl) ?_
  refine lv_iconst (v := 2) hx hb dL_law_466 (by decide) ?_
  refine kv_iadd (v := 2) hx hb (by decide) dL_law_467 ?_
  refine j_sld (j := 2) hx hb hX hbl hbA hw (by decide) (by decide) (by decide) dL_law_468 ?_
  refine m_Vi (As := [.int (xs 1), .int (xs 2)]) (rest := [.int (-2)]) (c56_X12_may l D ct qm ((xs 1)) ((xs 2)) ((um 15)) ((um 0)) ((um 1)) ((um 2)) ((um 3)) ((um 4)) ((um 5)) ((um 6)) ((um 7)) ((um 8)) ((um 9)) ((um 10)) ((um 11)) ((um 12)) ((um 13)) ((um 14))) X hl.1 kw_1680 kd_yX12_may hw [0, 16] [1, 2, 3, 4, 5, 6, 7, 8, 9, 10, 11, 12, 13, 14, 15] rfl rfl rfl rfl (by decide) 0 rfl rfl ⟨by decide, by decide⟩ rfl rfl (Nat.le_of_ble_eq_true rfl) dL_law_469 ⟨by decide, by decide⟩ (fun r4 u5 H locs hr6 hw => ?_)
  replace hw : WD D A s.heap _ _ [((um 0), .inl (ct 3, 2, .inl (fun _ => 0))), ((um 1), .inl (ct 0, 900, .inl (fun _ => 0))), ((um 2), .inl (ct 0, 1770, .inl (fun _ => 0))), ((um 3), .inl (ct 0, 900, .inl (fun _ => 0))), ((um 4), .inl (ct 0, 7, .inl (fun _ => 0))), ((um 5), .inl (ct 0, 56, .inl (fun _ => 0))), ((um 6), .inl (ct 0, 40320, .inl (fun _ => 0))), ((um 7), .inl (ct 0, 72, .inl (fun _ => 0))), ((um 8), .inl (ct 0, 7, .inl (fun _ => 0))), ((um 9), .inl (ct 0, 21870, .inl (fun _ => 0))), ((um 10), .inl (ct 0, 7, .inl fx1)), ((um 11), .inl (ct 0, 8, .inl (fun _ => 0))), ((um 12), .inl (ct 0, 4, .inl fx2)), ((um 13), .inl (ct 0, 4, .inl (fun _ => 0))), ((um 14), .inl (ct 2, 160, .inr (.inl (fun _ => 0))))] := hw
  subst hr6
  refine lv_icmp_eq (tgt := 1468) hx hb dL_law_472 (by decide) (fun _ => ?_) (fun h => absurd (by decide) h)
  exact law_end C0 hA0 hw (lv_sub hl [0, 1, 2, 3] rfl) (by decide) (by decide)
set_option maxHeartbeats 4000000 in
set_option maxRecDepth 100000 in
theorem law_7 {p : Program} {l : Launch} {e : Env} {s : State} {m : MethodId} {below : List Frame} {meth : Method} {c : Code} {H : Heap} {locs : List Loc} {D : va_G} {ct : Nat → ClassId} {A : Nat → Prop} {ls : Array Slot} {b : Nat} {qx qm : Nat} {ux um : Nat → Nat} {xs : Nat → Int32} (C0 : lw_At p s m meth c b 6 xs) (hK0 : KK D ct s) (hA0 : ∀ q, A q → s.heap.size ≤ q) (hw : WD D A s.heap H locs (xWd ct qx ux ++ mWd ct qm um)) (hl : lv_has ls 4 [(3, .int 0), (2, .ref qm), (1, .ref qx), (0, .ref b)]) : W p l e room_1 s m #[Value.ref b] below meth c H locs 126 76620 (lw_Z below #[Value.ref b] s) (F0 m 477 ls []) := by
  obtain ⟨hx, hb, hr, hml, hown, hts0, hX, hbl, hlocks, hgv⟩ := id C0
  have hts := tb_hts hts0
  have hK := hK0
  have X : CX p m c cL_law 4 s #[Value.ref b] RL D ct := ⟨⟨hx, hb, hml, hown, hts⟩, hK0⟩
  have hbA : ¬ A b := fun h => absurd (hA0 _ h) (Nat.not_le.mpr hbl)
  refine lv_aload_n hx hb dL_law_477 rfl (lv_at hl 2 rfl) ?_
  refine lv_aload_n hx hb dL_law_478 rfl (lv_at hl 3 rfl) ?_
  refine lv_iload_n hx hb dL_law_479 rfl (lv_at hl 0 rfl) ?_
  refine lv_iconst (v := 1) hx hb dL_law_480 (by decide) ?_
  refine kv_iadd (v := 1) hx hb (by decide) dL_law_481 ?_
  refine j_sld (j := 1) hx hb hX hbl hbA hw (by decide) (by decide) (by decide) dL_law_482 ?_
  refine lv_aload_n hx hb dL_law_483 rfl (lv_at hl 3 rfl) ?_
  refine lv_iload_n hx hb dL_law_484 rfl (lv_at hl 0 rfl) ?_
  refine lv_iconst (v := 2) hx hb dL_law_485 (by decide) ?_
  refine kv_iadd (v := 2) hx hb (by decide) dL_law_486 ?_
  refine j_sld (j := 2) hx hb hX hbl hbA hw (by decide) (by decide) (by decide) dL_law_487 ?_
  refine m_Vi (As := [.int (xs 1), .int (xs 2)]) (rest := []) (c57_X11_worth l D ct qx ((xs 1)) ((xs 2)) ((ux 0)) ((ux 1)) ((ux 9)) ((ux 19)) ((ux 24)) ((ux 30)) ((ux 33)) ((ux 39)) ((ux 48)) ((ux 50)) ((ux 56)) ((ux 60)) ((ux 61)) ((ux 62)) ((ux 63)) ((ux 2)) ((ux 3)) ((ux 4)) ((ux 5))) X hl.1 kw_940 kd_yX11_worth hw [0, 2] [73, 74, 75, 76, 77, 78, 79, 80, 81, 82, 83, 84, 85, 86, 87, 88, 89] rfl rfl rfl rfl (by decide) 0 rfl rfl ⟨by decide, by decide⟩ rfl rfl (Nat.le_of_ble_eq_true rfl) dL_law_488 ⟨by decide, by decide⟩ (fun r1 u2 H locs hr3 hw => ?_)
  replace hw : WD D A s.heap _ _ (mWd ct qm um) := hw
  subst hr3
  refine lv_aload_n hx hb dL_law_491 rfl (lv_at hl 1 rfl) ?_
  refine lv_aload_n hx hb dL_law_492 rfl (lv_at hl 3 rfl) ?_
  refine lv_iload_n hx hb dL_law_493 rfl (lv_at hl 0 rfl) ?_
  refine lv_iconst (v := 1) hx hb dL_law_494 (by decide) ?_
  refine kv_iadd (v := 1) hx hb (by decide) dL_law_495 ?_
  refine j_sld (j := 1) hx hb hX hbl hbA hw (by decide) (by decide) (by decide) dL_law_496 ?_
  refine lv_aload_n hx hb dL_law_497 rfl (lv_at hl 3 rfl) ?_
  refine lv_iload_n hx hb dL_law_498 rfl (lv_at hl 0 rfl) ?_
  refine lv_iconst (v := 2) hx hb dL_law_499 (by decide) ?_
  refine kv_iadd (v := 2) hx hb (by decide) dL_law_500 ?_
  refine j_sld (j := 2) hx hb hX hbl hbA hw (by decide) (by decide) (by decide) dL_law_501 ?_
  refine m_Vi (As := [.int (xs 1), .int (xs 2)]) (rest := [.int (-2000000)]) (c58_X12_worth l D ct qm ((xs 1)) ((xs 2)) ((um 15)) ((um 0)) ((um 1)) ((um 2)) ((um 3)) ((um 4)) ((um 5)) ((um 6)) ((um 7)) ((um 8)) ((um 9)) ((um 10)) ((um 11)) ((um 12)) ((um 13)) ((um 14))) X hl.1 kw_1703 kd_yX12_worth hw [0, 16] [1, 2, 3, 4, 5, 6, 7, 8, 9, 10, 11, 12, 13, 14, 15] rfl rfl rfl rfl (by decide) 0 rfl rfl ⟨by decide, by decide⟩ rfl rfl (Nat.le_of_ble_eq_true rfl) dL_law_502 ⟨by decide, by decide⟩ (fun r4 u5 H locs hr6 hw => ?_)
  replace hw : WD D A s.heap _ _ [((um 0), .inl (ct 3, 2, .inl (fun _ => 0))), ((um 1), .inl (ct 0, 900, .inl (fun _ => 0))), ((um 2), .inl (ct 0, 1770, .inl (fun _ => 0))), ((um 3), .inl (ct 0, 900, .inl (fun _ => 0))), ((um 4), .inl (ct 0, 7, .inl (fun _ => 0))), ((um 5), .inl (ct 0, 56, .inl (fun _ => 0))), ((um 6), .inl (ct 0, 40320, .inl (fun _ => 0))), ((um 7), .inl (ct 0, 72, .inl (fun _ => 0))), ((um 8), .inl (ct 0, 7, .inl (fun _ => 0))), ((um 9), .inl (ct 0, 21870, .inl (fun _ => 0))), ((um 10), .inl (ct 0, 7, .inl fx1)), ((um 11), .inl (ct 0, 8, .inl (fun _ => 0))), ((um 12), .inl (ct 0, 4, .inl fx2)), ((um 13), .inl (ct 0, 4, .inl (fun _ => 0))), ((um 14), .inl (ct 2, 160, .inr (.inl (fun _ => 0))))] := hw
  subst hr6
  refine lv_icmp_eq (tgt := 1468) hx hb dL_law_505 (by decide) (fun _ => ?_) (fun h => absurd (by decide) h)
  exact law_end C0 hA0 hw (lv_sub hl [0, 1, 2, 3] rfl) (by decide) (by decide)
set_option maxHeartbeats 4000000 in
set_option maxRecDepth 100000 in
theorem law_8 {p : Program} {l : Launch} {e : Env} {s : State} {m : MethodId} {below : List Frame} {meth : Method} {c : Code} {H : Heap} {locs : List Loc} {D : va_G} {ct : Nat → ClassId} {A : Nat → Prop} {ls : Array Slot} {b : Nat} {qx qm : Nat} {ux um : Nat → Nat} {xs : Nat → Int32} (C0 : lw_At p s m meth c b 6 xs) (hK0 : KK D ct s) (hA0 : ∀ q, A q → s.heap.size ≤ q) (hw : WD D A s.heap H locs (xWd ct qx ux ++ mWd ct qm um)) (hl : lv_has ls 4 [(3, .int 0), (2, .ref qm), (1, .ref qx), (0, .ref b)]) : W p l e room_1 s m #[Value.ref b] below meth c H locs 126 76620 (lw_Z below #[Value.ref b] s) (F0 m 510 ls []) := by
  obtain ⟨hx, hb, hr, hml, hown, hts0, hX, hbl, hlocks, hgv⟩ := id C0
  have hts := tb_hts hts0
  have hK := hK0
  have X : CX p m c cL_law 4 s #[Value.ref b] RL D ct := ⟨⟨hx, hb, hml, hown, hts⟩, hK0⟩
  have hbA : ¬ A b := fun h => absurd (hA0 _ h) (Nat.not_le.mpr hbl)
  refine lv_aload_n hx hb dL_law_510 rfl (lv_at hl 2 rfl) ?_
  refine lv_aload_n hx hb dL_law_511 rfl (lv_at hl 3 rfl) ?_
  refine lv_iload_n hx hb dL_law_512 rfl (lv_at hl 0 rfl) ?_
  refine lv_iconst (v := 1) hx hb dL_law_513 (by decide) ?_
  refine kv_iadd (v := 1) hx hb (by decide) dL_law_514 ?_
  refine j_sld (j := 1) hx hb hX hbl hbA hw (by decide) (by decide) (by decide) dL_law_515 ?_
  refine m_Vi (As := [.int (xs 1)]) (rest := []) (c68_X11_draws l D ct qx ((xs 1)) ((ux 0)) ((ux 1)) ((ux 9)) ((ux 19)) ((ux 24)) ((ux 30)) ((ux 33)) ((ux 39)) ((ux 48)) ((ux 50)) ((ux 56)) ((ux 60)) ((ux 61)) ((ux 62)) ((ux 63)) ((ux 2)) ((ux 3)) ((ux 4)) ((ux 5)) ((ux 8)) ((ux 6)) ((ux 7)) (fun _ => 0) (va_cpy (fun _ => (-1)) (fun _ => 0) 0 0 7) ((ux 20)) ((ux 21)) ((ux 22)) ((ux 23)) ((ux 25)) ((ux 26)) ((ux 27)) ((ux 28)) ((ux 29)) ((ux 49)) ((ux 51)) ((ux 52)) ((ux 72)) ((ux 73)) ((ux 74)) ((ux 75)) ((ux 76)) ((ux 77)) ((ux 78)) ((ux 79)) ((ux 80)) ((ux 55)) ((ux 53)) ((ux 54)) ((ux 59)) ((ux 57)) ((ux 58))) X hl.1 kw_945 kd_yX11_draws hw [0, 2, 6, 7, 8, 9, 20, 21, 25, 27, 30, 49, 51, 52, 53, 54, 55, 56, 57, 58, 59, 60] [73, 74, 75, 76, 77, 78, 79, 80, 81, 82, 83, 84, 85, 86, 87, 88, 89] rfl rfl rfl rfl (by decide) 0 rfl rfl ⟨by decide, by decide⟩ rfl rfl (Nat.le_of_ble_eq_true rfl) dL_law_516 ⟨by decide, by decide⟩ (fun r1 u2 H locs hr3 hw => ?_)
  replace hw : WD D A s.heap _ _ (mWd ct qm um) := hw
  rcases hr3 with ⟨h4, rfl⟩ | ⟨h5, rfl⟩
  · skip
    refine lv_aload_n hx hb dL_law_519 rfl (lv_at hl 1 rfl) ?_
    refine lv_aload_n hx hb dL_law_520 rfl (lv_at hl 3 rfl) ?_
    refine lv_iload_n hx hb dL_law_521 rfl (lv_at hl 0 rfl) ?_
    refine lv_iconst (v := 1) hx hb dL_law_522 (by decide) ?_
    refine kv_iadd (v := 1) hx hb (by decide) dL_law_523 ?_
    refine j_sld (j := 1) hx hb hX hbl hbA hw (by decide) (by decide) (by decide) dL_law_524 ?_
    refine m_Vi (As := [.int (xs 1)]) (rest := [.int ((((xs 1)).toInt64) - (((xs 1)).toInt64) / 1 * 1).toInt32]) (c75_X12_draws l D ct qm ((xs 1)) ((um 15)) ((um 0)) ((um 1)) ((um 2)) ((um 3)) ((um 4)) ((um 5)) ((um 6)) ((um 7)) ((um 8)) ((um 9)) ((um 10)) ((um 11)) ((um 12)) ((um 13)) ((um 14)) (fun _ => 0)) X hl.1 kw_1712 kd_yX12_draws hw [0, 7, 8, 16] [1, 2, 3, 4, 5, 6, 9, 10, 11, 12, 13, 14, 15] rfl rfl rfl rfl (by decide) 0 rfl rfl ⟨by decide, by decide⟩ rfl rfl (Nat.le_of_ble_eq_true rfl) dL_law_525 ⟨by decide, by decide⟩ (fun r6 u7 H locs hr8 hw => ?_)
    replace hw : WD D A s.heap _ _ [((um 0), .inl (ct 3, 2, .inl (fun _ => 0))), ((um 1), .inl (ct 0, 900, .inl (fun _ => 0))), ((um 2), .inl (ct 0, 1770, .inl (fun _ => 0))), ((um 3), .inl (ct 0, 900, .inl (fun _ => 0))), ((um 4), .inl (ct 0, 7, .inl (fun _ => 0))), ((um 5), .inl (ct 0, 56, .inl (fun _ => 0))), ((um 8), .inl (ct 0, 7, .inl (fun _ => 0))), ((um 9), .inl (ct 0, 21870, .inl (fun _ => 0))), ((um 10), .inl (ct 0, 7, .inl fx1)), ((um 11), .inl (ct 0, 8, .inl (fun _ => 0))), ((um 12), .inl (ct 0, 4, .inl fx2)), ((um 13), .inl (ct 0, 4, .inl (fun _ => 0))), ((um 14), .inl (ct 2, 160, .inr (.inl (fun _ => 0))))] := hw
    rcases hr8 with ⟨h9, rfl⟩ | ⟨h10, rfl⟩
    · skip
      refine lv_icmp_eq (tgt := 1468) hx hb dL_law_528 (by decide) (fun _ => ?_) (fun h => absurd rfl h)
      exact law_end C0 hA0 hw (lv_sub hl [0, 1, 2, 3] rfl) (by decide) (by decide)
    · skip
      exfalso; omega
  · skip
    refine lv_aload_n hx hb dL_law_519 rfl (lv_at hl 1 rfl) ?_
    refine lv_aload_n hx hb dL_law_520 rfl (lv_at hl 3 rfl) ?_
    refine lv_iload_n hx hb dL_law_521 rfl (lv_at hl 0 rfl) ?_
    refine lv_iconst (v := 1) hx hb dL_law_522 (by decide) ?_
    refine kv_iadd (v := 1) hx hb (by decide) dL_law_523 ?_
    refine j_sld (j := 1) hx hb hX hbl hbA hw (by decide) (by decide) (by decide) dL_law_524 ?_
    refine m_Vi (As := [.int (xs 1)]) (rest := [.int (-3)]) (c75_X12_draws l D ct qm ((xs 1)) ((um 15)) ((um 0)) ((um 1)) ((um 2)) ((um 3)) ((um 4)) ((um 5)) ((um 6)) ((um 7)) ((um 8)) ((um 9)) ((um 10)) ((um 11)) ((um 12)) ((um 13)) ((um 14)) (fun _ => 0)) X hl.1 kw_1712 kd_yX12_draws hw [0, 7, 8, 16] [1, 2, 3, 4, 5, 6, 9, 10, 11, 12, 13, 14, 15] rfl rfl rfl rfl (by decide) 0 rfl rfl ⟨by decide, by decide⟩ rfl rfl (Nat.le_of_ble_eq_true rfl) dL_law_525 ⟨by decide, by decide⟩ (fun r11 u12 H locs hr13 hw => ?_)
    replace hw : WD D A s.heap _ _ [((um 0), .inl (ct 3, 2, .inl (fun _ => 0))), ((um 1), .inl (ct 0, 900, .inl (fun _ => 0))), ((um 2), .inl (ct 0, 1770, .inl (fun _ => 0))), ((um 3), .inl (ct 0, 900, .inl (fun _ => 0))), ((um 4), .inl (ct 0, 7, .inl (fun _ => 0))), ((um 5), .inl (ct 0, 56, .inl (fun _ => 0))), ((um 8), .inl (ct 0, 7, .inl (fun _ => 0))), ((um 9), .inl (ct 0, 21870, .inl (fun _ => 0))), ((um 10), .inl (ct 0, 7, .inl fx1)), ((um 11), .inl (ct 0, 8, .inl (fun _ => 0))), ((um 12), .inl (ct 0, 4, .inl fx2)), ((um 13), .inl (ct 0, 4, .inl (fun _ => 0))), ((um 14), .inl (ct 2, 160, .inr (.inl (fun _ => 0))))] := hw
    rcases hr13 with ⟨h14, rfl⟩ | ⟨h15, rfl⟩
    · skip
      exfalso; omega
    · skip
      refine lv_icmp_eq (tgt := 1468) hx hb dL_law_528 (by decide) (fun _ => ?_) (fun h => absurd (by decide) h)
      exact law_end C0 hA0 hw (lv_sub hl [0, 1, 2, 3] rfl) (by decide) (by decide)
set_option maxHeartbeats 4000000 in
set_option maxRecDepth 100000 in
theorem law_9 {p : Program} {l : Launch} {e : Env} {s : State} {m : MethodId} {below : List Frame} {meth : Method} {c : Code} {H : Heap} {locs : List Loc} {D : va_G} {ct : Nat → ClassId} {A : Nat → Prop} {ls : Array Slot} {b : Nat} {qx qm : Nat} {ux um : Nat → Nat} {xs : Nat → Int32} (C0 : lw_At p s m meth c b 6 xs) (hK0 : KK D ct s) (hA0 : ∀ q, A q → s.heap.size ≤ q) (hw : WD D A s.heap H locs (xWd ct qx ux ++ mWd ct qm um)) (hl : lv_has ls 4 [(3, .int 0), (2, .ref qm), (1, .ref qx), (0, .ref b)]) : W p l e room_1 s m #[Value.ref b] below meth c H locs 126 76620 (lw_Z below #[Value.ref b] s) (F0 m 533 ls []) := by
  obtain ⟨hx, hb, hr, hml, hown, hts0, hX, hbl, hlocks, hgv⟩ := id C0
  have hts := tb_hts hts0
  have hK := hK0
  have X : CX p m c cL_law 4 s #[Value.ref b] RL D ct := ⟨⟨hx, hb, hml, hown, hts⟩, hK0⟩
  have hbA : ¬ A b := fun h => absurd (hA0 _ h) (Nat.not_le.mpr hbl)
  refine lv_aload_n hx hb dL_law_533 rfl (lv_at hl 2 rfl) ?_
  refine m_Vi (As := []) (rest := []) (c78_X11_rings l D ct qx ((ux 0)) ((ux 1)) ((ux 9)) ((ux 19)) ((ux 24)) ((ux 30)) ((ux 33)) ((ux 39)) ((ux 48)) ((ux 50)) ((ux 56)) ((ux 60)) ((ux 61)) ((ux 62)) ((ux 63)) ((ux 2)) ((ux 3)) ((ux 4)) ((ux 5)) ((ux 8)) ((ux 6)) ((ux 7)) (fun _ => 0) (va_cpy (fun _ => (-1)) (fun _ => 0) 0 0 7) ((ux 20)) ((ux 21)) ((ux 22)) ((ux 23)) ((ux 31)) ((ux 32)) ((ux 49)) ((ux 59)) ((ux 57)) ((ux 58))) X hl.1 kw_989 kd_yX11_rings hw [0, 2, 6, 7, 8, 9, 20, 31, 49, 57, 58, 59, 60] [73, 74, 75, 76, 77, 78, 79, 80, 81, 82, 83, 84, 85, 86, 87, 88, 89] rfl rfl rfl rfl (by decide) 0 rfl rfl ⟨by decide, by decide⟩ rfl rfl (Nat.le_of_ble_eq_true rfl) dL_law_534 ⟨by decide, by decide⟩ (fun r1 u2 H locs hr3 hw => ?_)
  replace hw : WD D A s.heap _ _ (mWd ct qm um) := hw
  subst hr3
  refine lv_aload_n hx hb dL_law_537 rfl (lv_at hl 1 rfl) ?_
  refine m_Vi (As := []) (rest := [.int 0]) (c82_X12_rings l D ct qm ((um 15)) ((um 0)) ((um 1)) ((um 2)) ((um 3)) ((um 4)) ((um 5)) ((um 6)) ((um 7)) ((um 8)) ((um 9)) ((um 10)) ((um 11)) ((um 12)) ((um 13)) ((um 14)) (fun _ => 0)) X hl.1 kw_1746 kd_yX12_rings hw [0, 8, 16] [1, 2, 3, 4, 5, 6, 7, 9, 10, 11, 12, 13, 14, 15] rfl rfl rfl rfl (by decide) 0 rfl rfl ⟨by decide, by decide⟩ rfl rfl (Nat.le_of_ble_eq_true rfl) dL_law_538 ⟨by decide, by decide⟩ (fun r4 u5 H locs hr6 hw => ?_)
  replace hw : WD D A s.heap _ _ [((um 0), .inl (ct 3, 2, .inl (fun _ => 0))), ((um 1), .inl (ct 0, 900, .inl (fun _ => 0))), ((um 2), .inl (ct 0, 1770, .inl (fun _ => 0))), ((um 3), .inl (ct 0, 900, .inl (fun _ => 0))), ((um 4), .inl (ct 0, 7, .inl (fun _ => 0))), ((um 5), .inl (ct 0, 56, .inl (fun _ => 0))), ((um 6), .inl (ct 0, 40320, .inl (fun _ => 0))), ((um 8), .inl (ct 0, 7, .inl (fun _ => 0))), ((um 9), .inl (ct 0, 21870, .inl (fun _ => 0))), ((um 10), .inl (ct 0, 7, .inl fx1)), ((um 11), .inl (ct 0, 8, .inl (fun _ => 0))), ((um 12), .inl (ct 0, 4, .inl fx2)), ((um 13), .inl (ct 0, 4, .inl (fun _ => 0))), ((um 14), .inl (ct 2, 160, .inr (.inl (fun _ => 0))))] := hw
  subst hr6
  refine lv_icmp_eq (tgt := 1468) hx hb dL_law_541 (by decide) (fun _ => ?_) (fun h => absurd (by decide) h)
  exact law_end C0 hA0 hw (lv_sub hl [0, 1, 2, 3] rfl) (by decide) (by decide)
set_option maxHeartbeats 4000000 in
set_option maxRecDepth 100000 in
theorem law_10 {p : Program} {l : Launch} {e : Env} {s : State} {m : MethodId} {below : List Frame} {meth : Method} {c : Code} {H : Heap} {locs : List Loc} {D : va_G} {ct : Nat → ClassId} {A : Nat → Prop} {ls : Array Slot} {b : Nat} {qx qm : Nat} {ux um : Nat → Nat} {xs : Nat → Int32} (C0 : lw_At p s m meth c b 6 xs) (hK0 : KK D ct s) (hA0 : ∀ q, A q → s.heap.size ≤ q) (hw : WD D A s.heap H locs (xWd ct qx ux ++ mWd ct qm um)) (hl : lv_has ls 4 [(3, .int 0), (2, .ref qm), (1, .ref qx), (0, .ref b)]) : W p l e room_1 s m #[Value.ref b] below meth c H locs 126 76620 (lw_Z below #[Value.ref b] s) (F0 m 546 ls []) := by
  obtain ⟨hx, hb, hr, hml, hown, hts0, hX, hbl, hlocks, hgv⟩ := id C0
  have hts := tb_hts hts0
  have hK := hK0
  have X : CX p m c cL_law 4 s #[Value.ref b] RL D ct := ⟨⟨hx, hb, hml, hown, hts⟩, hK0⟩
  have hbA : ¬ A b := fun h => absurd (hA0 _ h) (Nat.not_le.mpr hbl)
  refine lv_aload_n hx hb dL_law_546 rfl (lv_at hl 2 rfl) ?_
  refine lv_aload_n hx hb dL_law_547 rfl (lv_at hl 3 rfl) ?_
  refine lv_iload_n hx hb dL_law_548 rfl (lv_at hl 0 rfl) ?_
  refine lv_iconst (v := 1) hx hb dL_law_549 (by decide) ?_
  refine kv_iadd (v := 1) hx hb (by decide) dL_law_550 ?_
  refine j_sld (j := 1) hx hb hX hbl hbA hw (by decide) (by decide) (by decide) dL_law_551 ?_
  refine lv_aload_n hx hb dL_law_552 rfl (lv_at hl 3 rfl) ?_
  refine lv_iload_n hx hb dL_law_553 rfl (lv_at hl 0 rfl) ?_
  refine lv_iconst (v := 2) hx hb dL_law_554 (by decide) ?_
  refine kv_iadd (v := 2) hx hb (by decide) dL_law_555 ?_
  refine j_sld (j := 2) hx hb hX hbl hbA hw (by decide) (by decide) (by decide) dL_law_556 ?_
  refine m_Vi (As := [.int (xs 1), .int (xs 2)]) (rest := []) (c84_X11_moves l D ct qx ((xs 1)) ((xs 2)) ((ux 0)) ((ux 1)) ((ux 9)) ((ux 19)) ((ux 24)) ((ux 30)) ((ux 33)) ((ux 39)) ((ux 48)) ((ux 50)) ((ux 56)) ((ux 60)) ((ux 61)) ((ux 62)) ((ux 63)) ((ux 2)) ((ux 3)) ((ux 4)) ((ux 5)) ((ux 8)) ((ux 6)) ((ux 7)) (fun _ => 0) (va_cpy (fun _ => (-1)) (fun _ => 0) 0 0 7) ((ux 49)) ((ux 59)) ((ux 57)) ((ux 58))) X hl.1 kw_1013 kd_yX11_moves hw [0, 2, 6, 7, 8, 9, 49, 57, 58, 59, 60] [73, 74, 75, 76, 77, 78, 79, 80, 81, 82, 83, 84, 85, 86, 87, 88, 89] rfl rfl rfl rfl (by decide) 0 rfl rfl ⟨by decide, by decide⟩ rfl rfl (Nat.le_of_ble_eq_true rfl) dL_law_557 ⟨by decide, by decide⟩ (fun r1 u2 H locs hr3 hw => ?_)
  replace hw : WD D A s.heap _ _ (mWd ct qm um) := hw
  subst hr3
  refine lv_aload_n hx hb dL_law_560 rfl (lv_at hl 1 rfl) ?_
  refine lv_aload_n hx hb dL_law_561 rfl (lv_at hl 3 rfl) ?_
  refine lv_iload_n hx hb dL_law_562 rfl (lv_at hl 0 rfl) ?_
  refine lv_iconst (v := 1) hx hb dL_law_563 (by decide) ?_
  refine kv_iadd (v := 1) hx hb (by decide) dL_law_564 ?_
  refine j_sld (j := 1) hx hb hX hbl hbA hw (by decide) (by decide) (by decide) dL_law_565 ?_
  refine lv_aload_n hx hb dL_law_566 rfl (lv_at hl 3 rfl) ?_
  refine lv_iload_n hx hb dL_law_567 rfl (lv_at hl 0 rfl) ?_
  refine lv_iconst (v := 2) hx hb dL_law_568 (by decide) ?_
  refine kv_iadd (v := 2) hx hb (by decide) dL_law_569 ?_
  refine j_sld (j := 2) hx hb hX hbl hbA hw (by decide) (by decide) (by decide) dL_law_570 ?_
  refine m_Vi (As := [.int (xs 1), .int (xs 2)]) (rest := [.int (-11)]) (c86_X12_moves l D ct qm ((xs 1)) ((xs 2)) ((um 15)) ((um 0)) ((um 1)) ((um 2)) ((um 3)) ((um 4)) ((um 5)) ((um 6)) ((um 7)) ((um 8)) ((um 9)) ((um 10)) ((um 11)) ((um 12)) ((um 13)) ((um 14))) X hl.1 kw_1762 kd_yX12_moves hw [0, 16] [1, 2, 3, 4, 5, 6, 7, 8, 9, 10, 11, 12, 13, 14, 15] rfl rfl rfl rfl (by decide) 0 rfl rfl ⟨by decide, by decide⟩ rfl rfl (Nat.le_of_ble_eq_true rfl) dL_law_571 ⟨by decide, by decide⟩ (fun r4 u5 H locs hr6 hw => ?_)
  replace hw : WD D A s.heap _ _ [((um 0), .inl (ct 3, 2, .inl (fun _ => 0))), ((um 1), .inl (ct 0, 900, .inl (fun _ => 0))), ((um 2), .inl (ct 0, 1770, .inl (fun _ => 0))), ((um 3), .inl (ct 0, 900, .inl (fun _ => 0))), ((um 4), .inl (ct 0, 7, .inl (fun _ => 0))), ((um 5), .inl (ct 0, 56, .inl (fun _ => 0))), ((um 6), .inl (ct 0, 40320, .inl (fun _ => 0))), ((um 7), .inl (ct 0, 72, .inl (fun _ => 0))), ((um 8), .inl (ct 0, 7, .inl (fun _ => 0))), ((um 9), .inl (ct 0, 21870, .inl (fun _ => 0))), ((um 10), .inl (ct 0, 7, .inl fx1)), ((um 11), .inl (ct 0, 8, .inl (fun _ => 0))), ((um 12), .inl (ct 0, 4, .inl fx2)), ((um 13), .inl (ct 0, 4, .inl (fun _ => 0))), ((um 14), .inl (ct 2, 160, .inr (.inl (fun _ => 0))))] := hw
  subst hr6
  refine lv_icmp_eq (tgt := 1468) hx hb dL_law_574 (by decide) (fun _ => ?_) (fun h => absurd (by decide) h)
  exact law_end C0 hA0 hw (lv_sub hl [0, 1, 2, 3] rfl) (by decide) (by decide)
set_option maxHeartbeats 4000000 in
set_option maxRecDepth 100000 in
theorem law_11 {p : Program} {l : Launch} {e : Env} {s : State} {m : MethodId} {below : List Frame} {meth : Method} {c : Code} {H : Heap} {locs : List Loc} {D : va_G} {ct : Nat → ClassId} {A : Nat → Prop} {ls : Array Slot} {b : Nat} {qx qm : Nat} {ux um : Nat → Nat} {xs : Nat → Int32} (C0 : lw_At p s m meth c b 6 xs) (hK0 : KK D ct s) (hA0 : ∀ q, A q → s.heap.size ≤ q) (hw : WD D A s.heap H locs (xWd ct qx ux ++ mWd ct qm um)) (hl : lv_has ls 4 [(3, .int 0), (2, .ref qm), (1, .ref qx), (0, .ref b)]) : W p l e room_1 s m #[Value.ref b] below meth c H locs 126 76620 (lw_Z below #[Value.ref b] s) (F0 m 579 ls []) := by
  obtain ⟨hx, hb, hr, hml, hown, hts0, hX, hbl, hlocks, hgv⟩ := id C0
  have hts := tb_hts hts0
  have hK := hK0
  have X : CX p m c cL_law 4 s #[Value.ref b] RL D ct := ⟨⟨hx, hb, hml, hown, hts⟩, hK0⟩
  have hbA : ¬ A b := fun h => absurd (hA0 _ h) (Nat.not_le.mpr hbl)
  refine lv_aload_n hx hb dL_law_579 rfl (lv_at hl 2 rfl) ?_
  refine lv_aload_n hx hb dL_law_580 rfl (lv_at hl 3 rfl) ?_
  refine lv_iload_n hx hb dL_law_581 rfl (lv_at hl 0 rfl) ?_
  refine lv_iconst (v := 1) hx hb dL_law_582 (by decide) ?_
  refine kv_iadd (v := 1) hx hb (by decide) dL_law_583 ?_
  refine j_sld (j := 1) hx hb hX hbl hbA hw (by decide) (by decide) (by decide) dL_law_584 ?_
  refine m_Vi (As := [.int (xs 1)]) (rest := []) (c88_X11_leaves l D ct qx ((xs 1)) ((ux 0)) ((ux 1)) ((ux 9)) ((ux 19)) ((ux 24)) ((ux 30)) ((ux 33)) ((ux 39)) ((ux 48)) ((ux 50)) ((ux 56)) ((ux 60)) ((ux 61)) ((ux 62)) ((ux 63)) ((ux 2)) ((ux 3)) ((ux 4)) ((ux 5)) ((ux 8)) ((ux 6)) ((ux 7)) (fun _ => 0) (va_cpy (fun _ => (-1)) (fun _ => 0) 0 0 7) ((ux 49)) ((ux 59)) ((ux 57)) ((ux 58))) X hl.1 kw_1026 kd_yX11_leaves hw [0, 2, 6, 7, 8, 9, 49, 57, 58, 59, 60] [73, 74, 75, 76, 77, 78, 79, 80, 81, 82, 83, 84, 85, 86, 87, 88, 89] rfl rfl rfl rfl (by decide) 0 rfl rfl ⟨by decide, by decide⟩ rfl rfl (Nat.le_of_ble_eq_true rfl) dL_law_585 ⟨by decide, by decide⟩ (fun r1 u2 H locs hr3 hw => ?_)
  replace hw : WD D A s.heap _ _ (mWd ct qm um) := hw
  subst hr3
  refine lv_aload_n hx hb dL_law_588 rfl (lv_at hl 1 rfl) ?_
  refine lv_aload_n hx hb dL_law_589 rfl (lv_at hl 3 rfl) ?_
  refine lv_iload_n hx hb dL_law_590 rfl (lv_at hl 0 rfl) ?_
  refine lv_iconst (v := 1) hx hb dL_law_591 (by decide) ?_
  refine kv_iadd (v := 1) hx hb (by decide) dL_law_592 ?_
  refine j_sld (j := 1) hx hb hX hbl hbA hw (by decide) (by decide) (by decide) dL_law_593 ?_
  refine m_Vi (As := [.int (xs 1)]) (rest := [.int (-11)]) (c90_X12_leaves l D ct qm ((xs 1)) ((um 15)) ((um 0)) ((um 1)) ((um 2)) ((um 3)) ((um 4)) ((um 5)) ((um 6)) ((um 7)) ((um 8)) ((um 9)) ((um 10)) ((um 11)) ((um 12)) ((um 13)) ((um 14))) X hl.1 kw_1777 kd_yX12_leaves hw [0, 16] [1, 2, 3, 4, 5, 6, 7, 8, 9, 10, 11, 12, 13, 14, 15] rfl rfl rfl rfl (by decide) 0 rfl rfl ⟨by decide, by decide⟩ rfl rfl (Nat.le_of_ble_eq_true rfl) dL_law_594 ⟨by decide, by decide⟩ (fun r4 u5 H locs hr6 hw => ?_)
  replace hw : WD D A s.heap _ _ [((um 0), .inl (ct 3, 2, .inl (fun _ => 0))), ((um 1), .inl (ct 0, 900, .inl (fun _ => 0))), ((um 2), .inl (ct 0, 1770, .inl (fun _ => 0))), ((um 3), .inl (ct 0, 900, .inl (fun _ => 0))), ((um 4), .inl (ct 0, 7, .inl (fun _ => 0))), ((um 5), .inl (ct 0, 56, .inl (fun _ => 0))), ((um 6), .inl (ct 0, 40320, .inl (fun _ => 0))), ((um 7), .inl (ct 0, 72, .inl (fun _ => 0))), ((um 8), .inl (ct 0, 7, .inl (fun _ => 0))), ((um 9), .inl (ct 0, 21870, .inl (fun _ => 0))), ((um 10), .inl (ct 0, 7, .inl fx1)), ((um 11), .inl (ct 0, 8, .inl (fun _ => 0))), ((um 12), .inl (ct 0, 4, .inl fx2)), ((um 13), .inl (ct 0, 4, .inl (fun _ => 0))), ((um 14), .inl (ct 2, 160, .inr (.inl (fun _ => 0))))] := hw
  subst hr6
  refine lv_icmp_eq (tgt := 1468) hx hb dL_law_597 (by decide) (fun _ => ?_) (fun h => absurd (by decide) h)
  exact law_end C0 hA0 hw (lv_sub hl [0, 1, 2, 3] rfl) (by decide) (by decide)
set_option maxHeartbeats 4000000 in
set_option maxRecDepth 100000 in
theorem law_12 {p : Program} {l : Launch} {e : Env} {s : State} {m : MethodId} {below : List Frame} {meth : Method} {c : Code} {H : Heap} {locs : List Loc} {D : va_G} {ct : Nat → ClassId} {A : Nat → Prop} {ls : Array Slot} {b : Nat} {qx qm : Nat} {ux um : Nat → Nat} {xs : Nat → Int32} (C0 : lw_At p s m meth c b 6 xs) (hK0 : KK D ct s) (hA0 : ∀ q, A q → s.heap.size ≤ q) (hw : WD D A s.heap H locs (xWd ct qx ux ++ mWd ct qm um)) (hl : lv_has ls 4 [(3, .int 0), (2, .ref qm), (1, .ref qx), (0, .ref b)]) : W p l e room_1 s m #[Value.ref b] below meth c H locs 126 76620 (lw_Z below #[Value.ref b] s) (F0 m 602 ls []) := by
  obtain ⟨hx, hb, hr, hml, hown, hts0, hX, hbl, hlocks, hgv⟩ := id C0
  have hts := tb_hts hts0
  have hK := hK0
  have X : CX p m c cL_law 4 s #[Value.ref b] RL D ct := ⟨⟨hx, hb, hml, hown, hts⟩, hK0⟩
  have hbA : ¬ A b := fun h => absurd (hA0 _ h) (Nat.not_le.mpr hbl)
  refine lv_aload_n hx hb dL_law_602 rfl (lv_at hl 2 rfl) ?_
  refine lv_aload_n hx hb dL_law_603 rfl (lv_at hl 3 rfl) ?_
  refine lv_iload_n hx hb dL_law_604 rfl (lv_at hl 0 rfl) ?_
  refine lv_iconst (v := 1) hx hb dL_law_605 (by decide) ?_
  refine kv_iadd (v := 1) hx hb (by decide) dL_law_606 ?_
  refine j_sld (j := 1) hx hb hX hbl hbA hw (by decide) (by decide) (by decide) dL_law_607 ?_
  refine m_Vi (As := [.int (xs 1)]) (rest := []) (c92_X11_spoils l D ct qx ((xs 1)) ((ux 0)) ((ux 1)) ((ux 9)) ((ux 19)) ((ux 24)) ((ux 30)) ((ux 33)) ((ux 39)) ((ux 48)) ((ux 50)) ((ux 56)) ((ux 60)) ((ux 61)) ((ux 62)) ((ux 63)) ((ux 2)) ((ux 3)) ((ux 4)) ((ux 5)) ((ux 8)) ((ux 6)) ((ux 7)) (fun _ => 0) (va_cpy (fun _ => (-1)) (fun _ => 0) 0 0 7) ((ux 49)) ((ux 59)) ((ux 57)) ((ux 58))) X hl.1 kw_1034 kd_yX11_spoils hw [0, 2, 6, 7, 8, 9, 49, 57, 58, 59, 60] [73, 74, 75, 76, 77, 78, 79, 80, 81, 82, 83, 84, 85, 86, 87, 88, 89] rfl rfl rfl rfl (by decide) 0 rfl rfl ⟨by decide, by decide⟩ rfl rfl (Nat.le_of_ble_eq_true rfl) dL_law_608 ⟨by decide, by decide⟩ (fun r1 u2 H locs hr3 hw => ?_)
  replace hw : WD D A s.heap _ _ (mWd ct qm um) := hw
  subst hr3
  refine lv_aload_n hx hb dL_law_611 rfl (lv_at hl 1 rfl) ?_
  refine lv_aload_n hx hb dL_law_612 rfl (lv_at hl 3 rfl) ?_
  refine lv_iload_n hx hb dL_law_613 rfl (lv_at hl 0 rfl) ?_
  refine lv_iconst (v := 1) hx hb dL_law_614 (by decide) ?_
  refine kv_iadd (v := 1) hx hb (by decide) dL_law_615 ?_
  refine j_sld (j := 1) hx hb hX hbl hbA hw (by decide) (by decide) (by decide) dL_law_616 ?_
  refine m_Vi (As := [.int (xs 1)]) (rest := [.int (-11)]) (c94_X12_spoils l D ct qm ((xs 1)) ((um 15)) ((um 0)) ((um 1)) ((um 2)) ((um 3)) ((um 4)) ((um 5)) ((um 6)) ((um 7)) ((um 8)) ((um 9)) ((um 10)) ((um 11)) ((um 12)) ((um 13)) ((um 14))) X hl.1 kw_1785 kd_yX12_spoils hw [0, 16] [1, 2, 3, 4, 5, 6, 7, 8, 9, 10, 11, 12, 13, 14, 15] rfl rfl rfl rfl (by decide) 0 rfl rfl ⟨by decide, by decide⟩ rfl rfl (Nat.le_of_ble_eq_true rfl) dL_law_617 ⟨by decide, by decide⟩ (fun r4 u5 H locs hr6 hw => ?_)
  replace hw : WD D A s.heap _ _ [((um 0), .inl (ct 3, 2, .inl (fun _ => 0))), ((um 1), .inl (ct 0, 900, .inl (fun _ => 0))), ((um 2), .inl (ct 0, 1770, .inl (fun _ => 0))), ((um 3), .inl (ct 0, 900, .inl (fun _ => 0))), ((um 4), .inl (ct 0, 7, .inl (fun _ => 0))), ((um 5), .inl (ct 0, 56, .inl (fun _ => 0))), ((um 6), .inl (ct 0, 40320, .inl (fun _ => 0))), ((um 7), .inl (ct 0, 72, .inl (fun _ => 0))), ((um 8), .inl (ct 0, 7, .inl (fun _ => 0))), ((um 9), .inl (ct 0, 21870, .inl (fun _ => 0))), ((um 10), .inl (ct 0, 7, .inl fx1)), ((um 11), .inl (ct 0, 8, .inl (fun _ => 0))), ((um 12), .inl (ct 0, 4, .inl fx2)), ((um 13), .inl (ct 0, 4, .inl (fun _ => 0))), ((um 14), .inl (ct 2, 160, .inr (.inl (fun _ => 0))))] := hw
  subst hr6
  refine lv_icmp_eq (tgt := 1468) hx hb dL_law_620 (by decide) (fun _ => ?_) (fun h => absurd (by decide) h)
  exact law_end C0 hA0 hw (lv_sub hl [0, 1, 2, 3] rfl) (by decide) (by decide)
set_option maxHeartbeats 4000000 in
set_option maxRecDepth 100000 in
theorem law_13 {p : Program} {l : Launch} {e : Env} {s : State} {m : MethodId} {below : List Frame} {meth : Method} {c : Code} {H : Heap} {locs : List Loc} {D : va_G} {ct : Nat → ClassId} {A : Nat → Prop} {ls : Array Slot} {b : Nat} {qx qm : Nat} {ux um : Nat → Nat} {xs : Nat → Int32} (C0 : lw_At p s m meth c b 6 xs) (hK0 : KK D ct s) (hA0 : ∀ q, A q → s.heap.size ≤ q) (hw : WD D A s.heap H locs (xWd ct qx ux ++ mWd ct qm um)) (hl : lv_has ls 4 [(3, .int 0), (2, .ref qm), (1, .ref qx), (0, .ref b)]) : W p l e room_1 s m #[Value.ref b] below meth c H locs 126 76620 (lw_Z below #[Value.ref b] s) (F0 m 625 ls []) := by
  obtain ⟨hx, hb, hr, hml, hown, hts0, hX, hbl, hlocks, hgv⟩ := id C0
  have hts := tb_hts hts0
  have hK := hK0
  have X : CX p m c cL_law 4 s #[Value.ref b] RL D ct := ⟨⟨hx, hb, hml, hown, hts⟩, hK0⟩
  have hbA : ¬ A b := fun h => absurd (hA0 _ h) (Nat.not_le.mpr hbl)
  refine lv_aload_n hx hb dL_law_625 rfl (lv_at hl 2 rfl) ?_
  refine lv_aload_n hx hb dL_law_626 rfl (lv_at hl 3 rfl) ?_
  refine lv_iload_n hx hb dL_law_627 rfl (lv_at hl 0 rfl) ?_
  refine lv_iconst (v := 1) hx hb dL_law_628 (by decide) ?_
  refine kv_iadd (v := 1) hx hb (by decide) dL_law_629 ?_
  refine j_sld (j := 1) hx hb hX hbl hbA hw (by decide) (by decide) (by decide) dL_law_630 ?_
  refine m_Vi (As := [.int (xs 1)]) (rest := []) (c96_X11_mends l D ct qx ((xs 1)) ((ux 0)) ((ux 1)) ((ux 9)) ((ux 19)) ((ux 24)) ((ux 30)) ((ux 33)) ((ux 39)) ((ux 48)) ((ux 50)) ((ux 56)) ((ux 60)) ((ux 61)) ((ux 62)) ((ux 63)) ((ux 2)) ((ux 3)) ((ux 4)) ((ux 5)) ((ux 8)) ((ux 6)) ((ux 7)) (fun _ => 0) (va_cpy (fun _ => (-1)) (fun _ => 0) 0 0 7) ((ux 49)) ((ux 59)) ((ux 57)) ((ux 58))) X hl.1 kw_1046 kd_yX11_mends hw [0, 2, 6, 7, 8, 9, 49, 57, 58, 59, 60] [73, 74, 75, 76, 77, 78, 79, 80, 81, 82, 83, 84, 85, 86, 87, 88, 89] rfl rfl rfl rfl (by decide) 0 rfl rfl ⟨by decide, by decide⟩ rfl rfl (Nat.le_of_ble_eq_true rfl) dL_law_631 ⟨by decide, by decide⟩ (fun r1 u2 H locs hr3 hw => ?_)
  replace hw : WD D A s.heap _ _ (mWd ct qm um) := hw
  subst hr3
  refine lv_aload_n hx hb dL_law_634 rfl (lv_at hl 1 rfl) ?_
  refine lv_aload_n hx hb dL_law_635 rfl (lv_at hl 3 rfl) ?_
  refine lv_iload_n hx hb dL_law_636 rfl (lv_at hl 0 rfl) ?_
  refine lv_iconst (v := 1) hx hb dL_law_637 (by decide) ?_
  refine kv_iadd (v := 1) hx hb (by decide) dL_law_638 ?_
  refine j_sld (j := 1) hx hb hX hbl hbA hw (by decide) (by decide) (by decide) dL_law_639 ?_
  refine m_Vi (As := [.int (xs 1)]) (rest := [.int (-11)]) (c98_X12_mends l D ct qm ((xs 1)) ((um 15)) ((um 0)) ((um 1)) ((um 2)) ((um 3)) ((um 4)) ((um 5)) ((um 6)) ((um 7)) ((um 8)) ((um 9)) ((um 10)) ((um 11)) ((um 12)) ((um 13)) ((um 14))) X hl.1 kw_1793 kd_yX12_mends hw [0, 16] [1, 2, 3, 4, 5, 6, 7, 8, 9, 10, 11, 12, 13, 14, 15] rfl rfl rfl rfl (by decide) 0 rfl rfl ⟨by decide, by decide⟩ rfl rfl (Nat.le_of_ble_eq_true rfl) dL_law_640 ⟨by decide, by decide⟩ (fun r4 u5 H locs hr6 hw => ?_)
  replace hw : WD D A s.heap _ _ [((um 0), .inl (ct 3, 2, .inl (fun _ => 0))), ((um 1), .inl (ct 0, 900, .inl (fun _ => 0))), ((um 2), .inl (ct 0, 1770, .inl (fun _ => 0))), ((um 3), .inl (ct 0, 900, .inl (fun _ => 0))), ((um 4), .inl (ct 0, 7, .inl (fun _ => 0))), ((um 5), .inl (ct 0, 56, .inl (fun _ => 0))), ((um 6), .inl (ct 0, 40320, .inl (fun _ => 0))), ((um 7), .inl (ct 0, 72, .inl (fun _ => 0))), ((um 8), .inl (ct 0, 7, .inl (fun _ => 0))), ((um 9), .inl (ct 0, 21870, .inl (fun _ => 0))), ((um 10), .inl (ct 0, 7, .inl fx1)), ((um 11), .inl (ct 0, 8, .inl (fun _ => 0))), ((um 12), .inl (ct 0, 4, .inl fx2)), ((um 13), .inl (ct 0, 4, .inl (fun _ => 0))), ((um 14), .inl (ct 2, 160, .inr (.inl (fun _ => 0))))] := hw
  subst hr6
  refine lv_icmp_eq (tgt := 1468) hx hb dL_law_643 (by decide) (fun _ => ?_) (fun h => absurd (by decide) h)
  exact law_end C0 hA0 hw (lv_sub hl [0, 1, 2, 3] rfl) (by decide) (by decide)
set_option maxHeartbeats 4000000 in
set_option maxRecDepth 100000 in
theorem law_14 {p : Program} {l : Launch} {e : Env} {s : State} {m : MethodId} {below : List Frame} {meth : Method} {c : Code} {H : Heap} {locs : List Loc} {D : va_G} {ct : Nat → ClassId} {A : Nat → Prop} {ls : Array Slot} {b : Nat} {qx qm : Nat} {ux um : Nat → Nat} {xs : Nat → Int32} (C0 : lw_At p s m meth c b 6 xs) (hK0 : KK D ct s) (hA0 : ∀ q, A q → s.heap.size ≤ q) (hw : WD D A s.heap H locs (xWd ct qx ux ++ mWd ct qm um)) (hl : lv_has ls 4 [(3, .int 0), (2, .ref qm), (1, .ref qx), (0, .ref b)]) : W p l e room_1 s m #[Value.ref b] below meth c H locs 126 76620 (lw_Z below #[Value.ref b] s) (F0 m 648 ls []) := by
  obtain ⟨hx, hb, hr, hml, hown, hts0, hX, hbl, hlocks, hgv⟩ := id C0
  have hts := tb_hts hts0
  have hK := hK0
  have X : CX p m c cL_law 4 s #[Value.ref b] RL D ct := ⟨⟨hx, hb, hml, hown, hts⟩, hK0⟩
  have hbA : ¬ A b := fun h => absurd (hA0 _ h) (Nat.not_le.mpr hbl)
  refine lv_aload_n hx hb dL_law_648 rfl (lv_at hl 2 rfl) ?_
  refine lv_aload_n hx hb dL_law_649 rfl (lv_at hl 3 rfl) ?_
  refine lv_iload_n hx hb dL_law_650 rfl (lv_at hl 0 rfl) ?_
  refine lv_iconst (v := 1) hx hb dL_law_651 (by decide) ?_
  refine kv_iadd (v := 1) hx hb (by decide) dL_law_652 ?_
  refine j_sld (j := 1) hx hb hX hbl hbA hw (by decide) (by decide) (by decide) dL_law_653 ?_
  refine m_Vi (As := [.int (xs 1)]) (rest := []) (c99_X11_undo l D ct qx ((xs 1)) ((ux 0)) ((ux 1)) ((ux 9)) ((ux 19)) ((ux 24)) ((ux 30)) ((ux 33)) ((ux 39)) ((ux 48)) ((ux 50)) ((ux 56)) ((ux 60)) ((ux 61)) ((ux 62)) ((ux 63)) ((ux 51))) X hl.1 kw_1054 kd_yX11_undo hw [0, 51] [73, 74, 75, 76, 77, 78, 79, 80, 81, 82, 83, 84, 85, 86, 87, 88, 89] rfl rfl rfl rfl (by decide) 0 rfl rfl ⟨by decide, by decide⟩ rfl rfl (Nat.le_of_ble_eq_true rfl) dL_law_654 ⟨by decide, by decide⟩ (fun r1 u2 H locs hr3 hw => ?_)
  replace hw : WD D A s.heap _ _ (mWd ct qm um) := hw
  subst hr3
  refine lv_aload_n hx hb dL_law_657 rfl (lv_at hl 1 rfl) ?_
  refine lv_aload_n hx hb dL_law_658 rfl (lv_at hl 3 rfl) ?_
  refine lv_iload_n hx hb dL_law_659 rfl (lv_at hl 0 rfl) ?_
  refine lv_iconst (v := 1) hx hb dL_law_660 (by decide) ?_
  refine kv_iadd (v := 1) hx hb (by decide) dL_law_661 ?_
  refine j_sld (j := 1) hx hb hX hbl hbA hw (by decide) (by decide) (by decide) dL_law_662 ?_
  refine m_Vi (As := [.int (xs 1)]) (rest := [.int (-3)]) (c101_X12_undo l D ct qm ((xs 1)) ((um 15)) ((um 0)) ((um 1)) ((um 2)) ((um 3)) ((um 4)) ((um 5)) ((um 6)) ((um 7)) ((um 8)) ((um 9)) ((um 10)) ((um 11)) ((um 12)) ((um 13)) ((um 14))) X hl.1 kw_1797 kd_yX12_undo hw [0, 16] [1, 2, 3, 4, 5, 6, 7, 8, 9, 10, 11, 12, 13, 14, 15] rfl rfl rfl rfl (by decide) 0 rfl rfl ⟨by decide, by decide⟩ rfl rfl (Nat.le_of_ble_eq_true rfl) dL_law_663 ⟨by decide, by decide⟩ (fun r4 u5 H locs hr6 hw => ?_)
  replace hw : WD D A s.heap _ _ [((um 0), .inl (ct 3, 2, .inl (fun _ => 0))), ((um 1), .inl (ct 0, 900, .inl (fun _ => 0))), ((um 2), .inl (ct 0, 1770, .inl (fun _ => 0))), ((um 3), .inl (ct 0, 900, .inl (fun _ => 0))), ((um 4), .inl (ct 0, 7, .inl (fun _ => 0))), ((um 5), .inl (ct 0, 56, .inl (fun _ => 0))), ((um 6), .inl (ct 0, 40320, .inl (fun _ => 0))), ((um 7), .inl (ct 0, 72, .inl (fun _ => 0))), ((um 8), .inl (ct 0, 7, .inl (fun _ => 0))), ((um 9), .inl (ct 0, 21870, .inl (fun _ => 0))), ((um 10), .inl (ct 0, 7, .inl fx1)), ((um 11), .inl (ct 0, 8, .inl (fun _ => 0))), ((um 12), .inl (ct 0, 4, .inl fx2)), ((um 13), .inl (ct 0, 4, .inl (fun _ => 0))), ((um 14), .inl (ct 2, 160, .inr (.inl (fun _ => 0))))] := hw
  subst hr6
  refine lv_icmp_eq (tgt := 1468) hx hb dL_law_666 (by decide) (fun _ => ?_) (fun h => absurd (by decide) h)
  exact law_end C0 hA0 hw (lv_sub hl [0, 1, 2, 3] rfl) (by decide) (by decide)
set_option maxHeartbeats 4000000 in
set_option maxRecDepth 100000 in
theorem law_15 {p : Program} {l : Launch} {e : Env} {s : State} {m : MethodId} {below : List Frame} {meth : Method} {c : Code} {H : Heap} {locs : List Loc} {D : va_G} {ct : Nat → ClassId} {A : Nat → Prop} {ls : Array Slot} {b : Nat} {qx qm : Nat} {ux um : Nat → Nat} {xs : Nat → Int32} (C0 : lw_At p s m meth c b 6 xs) (hK0 : KK D ct s) (hA0 : ∀ q, A q → s.heap.size ≤ q) (hw : WD D A s.heap H locs (xWd ct qx ux ++ mWd ct qm um)) (hl : lv_has ls 4 [(3, .int 0), (2, .ref qm), (1, .ref qx), (0, .ref b)]) : W p l e room_1 s m #[Value.ref b] below meth c H locs 126 76620 (lw_Z below #[Value.ref b] s) (F0 m 671 ls []) := by
  obtain ⟨hx, hb, hr, hml, hown, hts0, hX, hbl, hlocks, hgv⟩ := id C0
  have hts := tb_hts hts0
  have hK := hK0
  have X : CX p m c cL_law 4 s #[Value.ref b] RL D ct := ⟨⟨hx, hb, hml, hown, hts⟩, hK0⟩
  have hbA : ¬ A b := fun h => absurd (hA0 _ h) (Nat.not_le.mpr hbl)
  refine lv_aload_n hx hb dL_law_671 rfl (lv_at hl 2 rfl) ?_
  refine lv_aload_n hx hb dL_law_672 rfl (lv_at hl 3 rfl) ?_
  refine lv_iload_n hx hb dL_law_673 rfl (lv_at hl 0 rfl) ?_
  refine lv_iconst (v := 1) hx hb dL_law_674 (by decide) ?_
  refine kv_iadd (v := 1) hx hb (by decide) dL_law_675 ?_
  refine j_sld (j := 1) hx hb hX hbl hbA hw (by decide) (by decide) (by decide) dL_law_676 ?_
  refine lv_aload_n hx hb dL_law_677 rfl (lv_at hl 3 rfl) ?_
  refine lv_iload_n hx hb dL_law_678 rfl (lv_at hl 0 rfl) ?_
  refine lv_iconst (v := 2) hx hb dL_law_679 (by decide) ?_
  refine kv_iadd (v := 2) hx hb (by decide) dL_law_680 ?_
  refine j_sld (j := 2) hx hb hX hbl hbA hw (by decide) (by decide) (by decide) dL_law_681 ?_
  refine m_Vi (As := [.int (xs 1), .int (xs 2)]) (rest := []) (c104_X11_judge l D ct qx ((xs 1)) ((xs 2)) ((ux 0)) ((ux 1)) ((ux 9)) ((ux 19)) ((ux 24)) ((ux 30)) ((ux 33)) ((ux 39)) ((ux 48)) ((ux 50)) ((ux 56)) ((ux 60)) ((ux 61)) ((ux 62)) ((ux 63)) ((ux 64)) ((ux 66)) ((ux 68)) ((ux 70)) ((ux 65)) ((ux 67)) ((ux 69)) ((ux 71))) X hl.1 kw_1067 kd_yX11_judge hw [0, 61, 65, 67, 69, 71] [73, 74, 75, 76, 77, 78, 79, 80, 81, 82, 83, 84, 85, 86, 87, 88, 89] rfl rfl rfl rfl (by decide) 0 rfl rfl ⟨by decide, by decide⟩ rfl rfl (Nat.le_of_ble_eq_true rfl) dL_law_682 ⟨by decide, by decide⟩ (fun r1 u2 H locs hr3 hw => ?_)
  replace hw : WD D A s.heap _ _ (mWd ct qm um) := hw
  rcases hr3 with ⟨h4, rfl⟩ | ⟨h5, rfl⟩
  · skip
    refine lv_aload_n hx hb dL_law_685 rfl (lv_at hl 1 rfl) ?_
    refine lv_aload_n hx hb dL_law_686 rfl (lv_at hl 3 rfl) ?_
    refine lv_iload_n hx hb dL_law_687 rfl (lv_at hl 0 rfl) ?_
    refine lv_iconst (v := 1) hx hb dL_law_688 (by decide) ?_
    refine kv_iadd (v := 1) hx hb (by decide) dL_law_689 ?_
    refine j_sld (j := 1) hx hb hX hbl hbA hw (by decide) (by decide) (by decide) dL_law_690 ?_
    refine lv_aload_n hx hb dL_law_691 rfl (lv_at hl 3 rfl) ?_
    refine lv_iload_n hx hb dL_law_692 rfl (lv_at hl 0 rfl) ?_
    refine lv_iconst (v := 2) hx hb dL_law_693 (by decide) ?_
    refine kv_iadd (v := 2) hx hb (by decide) dL_law_694 ?_
    refine j_sld (j := 2) hx hb hX hbl hbA hw (by decide) (by decide) (by decide) dL_law_695 ?_
    refine m_Vi (As := [.int (xs 1), .int (xs 2)]) (rest := [.int (-2)]) (c107_X12_judge l D ct qm ((xs 1)) ((xs 2)) ((um 15)) ((um 0)) ((um 1)) ((um 2)) ((um 3)) ((um 4)) ((um 5)) ((um 6)) ((um 7)) ((um 8)) ((um 9)) ((um 10)) ((um 11)) ((um 12)) ((um 13)) ((um 14))) X hl.1 kw_1802 kd_yX12_judge hw [0, 13] [1, 2, 3, 4, 5, 6, 7, 8, 9, 10, 11, 12, 14, 15, 16] rfl rfl rfl rfl (by decide) 0 rfl rfl ⟨by decide, by decide⟩ rfl rfl (Nat.le_of_ble_eq_true rfl) dL_law_696 ⟨by decide, by decide⟩ (fun r6 u7 H locs hr8 hw => ?_)
    replace hw : WD D A s.heap _ _ [((um 0), .inl (ct 3, 2, .inl (fun _ => 0))), ((um 1), .inl (ct 0, 900, .inl (fun _ => 0))), ((um 2), .inl (ct 0, 1770, .inl (fun _ => 0))), ((um 3), .inl (ct 0, 900, .inl (fun _ => 0))), ((um 4), .inl (ct 0, 7, .inl (fun _ => 0))), ((um 5), .inl (ct 0, 56, .inl (fun _ => 0))), ((um 6), .inl (ct 0, 40320, .inl (fun _ => 0))), ((um 7), .inl (ct 0, 72, .inl (fun _ => 0))), ((um 8), .inl (ct 0, 7, .inl (fun _ => 0))), ((um 9), .inl (ct 0, 21870, .inl (fun _ => 0))), ((um 10), .inl (ct 0, 7, .inl fx1)), ((um 11), .inl (ct 0, 8, .inl (fun _ => 0))), ((um 13), .inl (ct 0, 4, .inl (fun _ => 0))), ((um 14), .inl (ct 2, 160, .inr (.inl (fun _ => 0)))), ((um 15), .inl (ct 0, 5310, .inl fx0))] := hw
    rcases hr8 with ⟨h9, rfl⟩ | ⟨⟨h10, h11, h12⟩, rfl⟩
    · skip
      refine lv_icmp_eq (tgt := 1468) hx hb dL_law_699 (by decide) (fun _ => ?_) (fun h => absurd (by decide) h)
      exact law_end C0 hA0 hw (lv_sub hl [0, 1, 2, 3] rfl) (by decide) (by decide)
    · skip
      exfalso; omega
  · skip
    refine lv_aload_n hx hb dL_law_685 rfl (lv_at hl 1 rfl) ?_
    refine lv_aload_n hx hb dL_law_686 rfl (lv_at hl 3 rfl) ?_
    refine lv_iload_n hx hb dL_law_687 rfl (lv_at hl 0 rfl) ?_
    refine lv_iconst (v := 1) hx hb dL_law_688 (by decide) ?_
    refine kv_iadd (v := 1) hx hb (by decide) dL_law_689 ?_
    refine j_sld (j := 1) hx hb hX hbl hbA hw (by decide) (by decide) (by decide) dL_law_690 ?_
    refine lv_aload_n hx hb dL_law_691 rfl (lv_at hl 3 rfl) ?_
    refine lv_iload_n hx hb dL_law_692 rfl (lv_at hl 0 rfl) ?_
    refine lv_iconst (v := 2) hx hb dL_law_693 (by decide) ?_
    refine kv_iadd (v := 2) hx hb (by decide) dL_law_694 ?_
    refine j_sld (j := 2) hx hb hX hbl hbA hw (by decide) (by decide) (by decide) dL_law_695 ?_
    refine m_Vi (As := [.int (xs 1), .int (xs 2)]) (rest := [.int (-6)]) (c107_X12_judge l D ct qm ((xs 1)) ((xs 2)) ((um 15)) ((um 0)) ((um 1)) ((um 2)) ((um 3)) ((um 4)) ((um 5)) ((um 6)) ((um 7)) ((um 8)) ((um 9)) ((um 10)) ((um 11)) ((um 12)) ((um 13)) ((um 14))) X hl.1 kw_1802 kd_yX12_judge hw [0, 13] [1, 2, 3, 4, 5, 6, 7, 8, 9, 10, 11, 12, 14, 15, 16] rfl rfl rfl rfl (by decide) 0 rfl rfl ⟨by decide, by decide⟩ rfl rfl (Nat.le_of_ble_eq_true rfl) dL_law_696 ⟨by decide, by decide⟩ (fun r13 u14 H locs hr15 hw => ?_)
    replace hw : WD D A s.heap _ _ [((um 0), .inl (ct 3, 2, .inl (fun _ => 0))), ((um 1), .inl (ct 0, 900, .inl (fun _ => 0))), ((um 2), .inl (ct 0, 1770, .inl (fun _ => 0))), ((um 3), .inl (ct 0, 900, .inl (fun _ => 0))), ((um 4), .inl (ct 0, 7, .inl (fun _ => 0))), ((um 5), .inl (ct 0, 56, .inl (fun _ => 0))), ((um 6), .inl (ct 0, 40320, .inl (fun _ => 0))), ((um 7), .inl (ct 0, 72, .inl (fun _ => 0))), ((um 8), .inl (ct 0, 7, .inl (fun _ => 0))), ((um 9), .inl (ct 0, 21870, .inl (fun _ => 0))), ((um 10), .inl (ct 0, 7, .inl fx1)), ((um 11), .inl (ct 0, 8, .inl (fun _ => 0))), ((um 13), .inl (ct 0, 4, .inl (fun _ => 0))), ((um 14), .inl (ct 2, 160, .inr (.inl (fun _ => 0)))), ((um 15), .inl (ct 0, 5310, .inl fx0))] := hw
    rcases hr15 with ⟨h16, rfl⟩ | ⟨⟨h17, h18, h19⟩, rfl⟩
    · skip
      exfalso; omega
    · skip
      refine lv_icmp_eq (tgt := 1468) hx hb dL_law_699 (by decide) (fun _ => ?_) (fun h => absurd (by decide) h)
      exact law_end C0 hA0 hw (lv_sub hl [0, 1, 2, 3] rfl) (by decide) (by decide)
set_option maxHeartbeats 4000000 in
set_option maxRecDepth 100000 in
theorem law_16 {p : Program} {l : Launch} {e : Env} {s : State} {m : MethodId} {below : List Frame} {meth : Method} {c : Code} {H : Heap} {locs : List Loc} {D : va_G} {ct : Nat → ClassId} {A : Nat → Prop} {ls : Array Slot} {b : Nat} {qx qm : Nat} {ux um : Nat → Nat} {xs : Nat → Int32} (C0 : lw_At p s m meth c b 6 xs) (hK0 : KK D ct s) (hA0 : ∀ q, A q → s.heap.size ≤ q) (hw : WD D A s.heap H locs (xWd ct qx ux ++ mWd ct qm um)) (hl : lv_has ls 4 [(3, .int 0), (2, .ref qm), (1, .ref qx), (0, .ref b)]) : W p l e room_1 s m #[Value.ref b] below meth c H locs 126 76620 (lw_Z below #[Value.ref b] s) (F0 m 704 ls []) := by
  obtain ⟨hx, hb, hr, hml, hown, hts0, hX, hbl, hlocks, hgv⟩ := id C0
  have hts := tb_hts hts0
  have hK := hK0
  have X : CX p m c cL_law 4 s #[Value.ref b] RL D ct := ⟨⟨hx, hb, hml, hown, hts⟩, hK0⟩
  have hbA : ¬ A b := fun h => absurd (hA0 _ h) (Nat.not_le.mpr hbl)
  refine lv_aload_n hx hb dL_law_704 rfl (lv_at hl 2 rfl) ?_
  refine lv_aload_n hx hb dL_law_705 rfl (lv_at hl 3 rfl) ?_
  refine lv_iload_n hx hb dL_law_706 rfl (lv_at hl 0 rfl) ?_
  refine lv_iconst (v := 1) hx hb dL_law_707 (by decide) ?_
  refine kv_iadd (v := 1) hx hb (by decide) dL_law_708 ?_
  refine j_sld (j := 1) hx hb hX hbl hbA hw (by decide) (by decide) (by decide) dL_law_709 ?_
  refine m_Vi (As := [.int (xs 1)]) (rest := []) (c109_X11_perform l D ct qx ((xs 1)) ((ux 0)) ((ux 1)) ((ux 9)) ((ux 19)) ((ux 24)) ((ux 30)) ((ux 33)) ((ux 39)) ((ux 48)) ((ux 50)) ((ux 56)) ((ux 60)) ((ux 61)) ((ux 62)) ((ux 63)) ((ux 64)) ((ux 66)) ((ux 68)) ((ux 70)) ((ux 65)) ((ux 67)) ((ux 69)) ((ux 71))) X hl.1 kw_1107 kd_yX11_perform hw [0, 61, 65, 67, 69, 71] [73, 74, 75, 76, 77, 78, 79, 80, 81, 82, 83, 84, 85, 86, 87, 88, 89] rfl rfl rfl rfl (by decide) 0 rfl rfl ⟨by decide, by decide⟩ rfl rfl (Nat.le_of_ble_eq_true rfl) dL_law_710 ⟨by decide, by decide⟩ (fun r1 u2 H locs hr3 hw => ?_)
  replace hw : WD D A s.heap _ _ (mWd ct qm um) := hw
  rcases hr3 with ⟨h4, rfl⟩ | ⟨h5, rfl⟩
  · skip
    refine lv_aload_n hx hb dL_law_713 rfl (lv_at hl 1 rfl) ?_
    refine lv_aload_n hx hb dL_law_714 rfl (lv_at hl 3 rfl) ?_
    refine lv_iload_n hx hb dL_law_715 rfl (lv_at hl 0 rfl) ?_
    refine lv_iconst (v := 1) hx hb dL_law_716 (by decide) ?_
    refine kv_iadd (v := 1) hx hb (by decide) dL_law_717 ?_
    refine j_sld (j := 1) hx hb hX hbl hbA hw (by decide) (by decide) (by decide) dL_law_718 ?_
    refine m_Vi (As := [.int (xs 1)]) (rest := [.int (-2)]) (c110_X12_perform l D ct qm ((xs 1)) ((um 15)) ((um 0)) ((um 1)) ((um 2)) ((um 3)) ((um 4)) ((um 5)) ((um 6)) ((um 7)) ((um 8)) ((um 9)) ((um 10)) ((um 11)) ((um 12)) ((um 13)) ((um 14))) X hl.1 kw_1840 kd_yX12_perform hw [0, 13] [1, 2, 3, 4, 5, 6, 7, 8, 9, 10, 11, 12, 14, 15, 16] rfl rfl rfl rfl (by decide) 0 rfl rfl ⟨by decide, by decide⟩ rfl rfl (Nat.le_of_ble_eq_true rfl) dL_law_719 ⟨by decide, by decide⟩ (fun r6 u7 H locs hr8 hw => ?_)
    replace hw : WD D A s.heap _ _ [((um 0), .inl (ct 3, 2, .inl (fun _ => 0))), ((um 1), .inl (ct 0, 900, .inl (fun _ => 0))), ((um 2), .inl (ct 0, 1770, .inl (fun _ => 0))), ((um 3), .inl (ct 0, 900, .inl (fun _ => 0))), ((um 4), .inl (ct 0, 7, .inl (fun _ => 0))), ((um 5), .inl (ct 0, 56, .inl (fun _ => 0))), ((um 6), .inl (ct 0, 40320, .inl (fun _ => 0))), ((um 7), .inl (ct 0, 72, .inl (fun _ => 0))), ((um 8), .inl (ct 0, 7, .inl (fun _ => 0))), ((um 9), .inl (ct 0, 21870, .inl (fun _ => 0))), ((um 10), .inl (ct 0, 7, .inl fx1)), ((um 11), .inl (ct 0, 8, .inl (fun _ => 0))), ((um 13), .inl (ct 0, 4, .inl (fun _ => 0))), ((um 14), .inl (ct 2, 160, .inr (.inl (fun _ => 0)))), ((um 15), .inl (ct 0, 5310, .inl fx0))] := hw
    rcases hr8 with ⟨h9, rfl⟩ | ⟨h10, rfl⟩
    · skip
      refine lv_icmp_eq (tgt := 1468) hx hb dL_law_722 (by decide) (fun _ => ?_) (fun h => absurd (by decide) h)
      exact law_end C0 hA0 hw (lv_sub hl [0, 1, 2, 3] rfl) (by decide) (by decide)
    · skip
      exfalso; omega
  · skip
    refine lv_aload_n hx hb dL_law_713 rfl (lv_at hl 1 rfl) ?_
    refine lv_aload_n hx hb dL_law_714 rfl (lv_at hl 3 rfl) ?_
    refine lv_iload_n hx hb dL_law_715 rfl (lv_at hl 0 rfl) ?_
    refine lv_iconst (v := 1) hx hb dL_law_716 (by decide) ?_
    refine kv_iadd (v := 1) hx hb (by decide) dL_law_717 ?_
    refine j_sld (j := 1) hx hb hX hbl hbA hw (by decide) (by decide) (by decide) dL_law_718 ?_
    refine m_Vi (As := [.int (xs 1)]) (rest := [.int (-6)]) (c110_X12_perform l D ct qm ((xs 1)) ((um 15)) ((um 0)) ((um 1)) ((um 2)) ((um 3)) ((um 4)) ((um 5)) ((um 6)) ((um 7)) ((um 8)) ((um 9)) ((um 10)) ((um 11)) ((um 12)) ((um 13)) ((um 14))) X hl.1 kw_1840 kd_yX12_perform hw [0, 13] [1, 2, 3, 4, 5, 6, 7, 8, 9, 10, 11, 12, 14, 15, 16] rfl rfl rfl rfl (by decide) 0 rfl rfl ⟨by decide, by decide⟩ rfl rfl (Nat.le_of_ble_eq_true rfl) dL_law_719 ⟨by decide, by decide⟩ (fun r11 u12 H locs hr13 hw => ?_)
    replace hw : WD D A s.heap _ _ [((um 0), .inl (ct 3, 2, .inl (fun _ => 0))), ((um 1), .inl (ct 0, 900, .inl (fun _ => 0))), ((um 2), .inl (ct 0, 1770, .inl (fun _ => 0))), ((um 3), .inl (ct 0, 900, .inl (fun _ => 0))), ((um 4), .inl (ct 0, 7, .inl (fun _ => 0))), ((um 5), .inl (ct 0, 56, .inl (fun _ => 0))), ((um 6), .inl (ct 0, 40320, .inl (fun _ => 0))), ((um 7), .inl (ct 0, 72, .inl (fun _ => 0))), ((um 8), .inl (ct 0, 7, .inl (fun _ => 0))), ((um 9), .inl (ct 0, 21870, .inl (fun _ => 0))), ((um 10), .inl (ct 0, 7, .inl fx1)), ((um 11), .inl (ct 0, 8, .inl (fun _ => 0))), ((um 13), .inl (ct 0, 4, .inl (fun _ => 0))), ((um 14), .inl (ct 2, 160, .inr (.inl (fun _ => 0)))), ((um 15), .inl (ct 0, 5310, .inl fx0))] := hw
    rcases hr13 with ⟨h14, rfl⟩ | ⟨h15, rfl⟩
    · skip
      exfalso; omega
    · skip
      refine lv_icmp_eq (tgt := 1468) hx hb dL_law_722 (by decide) (fun _ => ?_) (fun h => absurd (by decide) h)
      exact law_end C0 hA0 hw (lv_sub hl [0, 1, 2, 3] rfl) (by decide) (by decide)
set_option maxHeartbeats 4000000 in
set_option maxRecDepth 100000 in
theorem law_17 {p : Program} {l : Launch} {e : Env} {s : State} {m : MethodId} {below : List Frame} {meth : Method} {c : Code} {H : Heap} {locs : List Loc} {D : va_G} {ct : Nat → ClassId} {A : Nat → Prop} {ls : Array Slot} {b : Nat} {qx qm : Nat} {ux um : Nat → Nat} {xs : Nat → Int32} (C0 : lw_At p s m meth c b 6 xs) (hK0 : KK D ct s) (hA0 : ∀ q, A q → s.heap.size ≤ q) (hw : WD D A s.heap H locs (xWd ct qx ux ++ mWd ct qm um)) (hl : lv_has ls 4 [(3, .int 0), (2, .ref qm), (1, .ref qx), (0, .ref b)]) : W p l e room_1 s m #[Value.ref b] below meth c H locs 126 76620 (lw_Z below #[Value.ref b] s) (F0 m 727 ls []) := by
  obtain ⟨hx, hb, hr, hml, hown, hts0, hX, hbl, hlocks, hgv⟩ := id C0
  have hts := tb_hts hts0
  have hK := hK0
  have X : CX p m c cL_law 4 s #[Value.ref b] RL D ct := ⟨⟨hx, hb, hml, hown, hts⟩, hK0⟩
  have hbA : ¬ A b := fun h => absurd (hA0 _ h) (Nat.not_le.mpr hbl)
  refine lv_aload_n hx hb dL_law_727 rfl (lv_at hl 2 rfl) ?_
  refine lv_aload_n hx hb dL_law_728 rfl (lv_at hl 3 rfl) ?_
  refine lv_iload_n hx hb dL_law_729 rfl (lv_at hl 0 rfl) ?_
  refine lv_iconst (v := 1) hx hb dL_law_730 (by decide) ?_
  refine kv_iadd (v := 1) hx hb (by decide) dL_law_731 ?_
  refine j_sld (j := 1) hx hb hX hbl hbA hw (by decide) (by decide) (by decide) dL_law_732 ?_
  refine lv_aload_n hx hb dL_law_733 rfl (lv_at hl 3 rfl) ?_
  refine lv_iload_n hx hb dL_law_734 rfl (lv_at hl 0 rfl) ?_
  refine lv_iconst (v := 2) hx hb dL_law_735 (by decide) ?_
  refine kv_iadd (v := 2) hx hb (by decide) dL_law_736 ?_
  refine j_sld (j := 2) hx hb hX hbl hbA hw (by decide) (by decide) (by decide) dL_law_737 ?_
  refine m_Vi (As := [.int (xs 1), .int (xs 2)]) (rest := []) (c111_X11_year l D ct qx ((xs 1)) ((xs 2)) ((ux 0)) ((ux 1)) ((ux 9)) ((ux 19)) ((ux 24)) ((ux 30)) ((ux 33)) ((ux 39)) ((ux 48)) ((ux 50)) ((ux 56)) ((ux 60)) ((ux 61)) ((ux 62)) ((ux 63)) ((ux 2)) ((ux 3)) ((ux 4)) ((ux 5))) X hl.1 kw_1119 kd_yX11_year hw [0, 2] [73, 74, 75, 76, 77, 78, 79, 80, 81, 82, 83, 84, 85, 86, 87, 88, 89] rfl rfl rfl rfl (by decide) 0 rfl rfl ⟨by decide, by decide⟩ rfl rfl (Nat.le_of_ble_eq_true rfl) dL_law_738 ⟨by decide, by decide⟩ (fun r1 u2 H locs hr3 hw => ?_)
  replace hw : WD D A s.heap _ _ (mWd ct qm um) := hw
  rcases hr3 with ⟨h4, rfl⟩ | ⟨⟨h5, h6⟩, rfl⟩
  · skip
    refine lv_aload_n hx hb dL_law_741 rfl (lv_at hl 1 rfl) ?_
    refine lv_aload_n hx hb dL_law_742 rfl (lv_at hl 3 rfl) ?_
    refine lv_iload_n hx hb dL_law_743 rfl (lv_at hl 0 rfl) ?_
    refine lv_iconst (v := 1) hx hb dL_law_744 (by decide) ?_
    refine kv_iadd (v := 1) hx hb (by decide) dL_law_745 ?_
    refine j_sld (j := 1) hx hb hX hbl hbA hw (by decide) (by decide) (by decide) dL_law_746 ?_
    refine lv_aload_n hx hb dL_law_747 rfl (lv_at hl 3 rfl) ?_
    refine lv_iload_n hx hb dL_law_748 rfl (lv_at hl 0 rfl) ?_
    refine lv_iconst (v := 2) hx hb dL_law_749 (by decide) ?_
    refine kv_iadd (v := 2) hx hb (by decide) dL_law_750 ?_
    refine j_sld (j := 2) hx hb hX hbl hbA hw (by decide) (by decide) (by decide) dL_law_751 ?_
    refine m_Vi (As := [.int (xs 1), .int (xs 2)]) (rest := [.int (-3)]) (c113_X12_year l D ct qm ((xs 1)) ((xs 2)) ((um 15)) ((um 0)) ((um 1)) ((um 2)) ((um 3)) ((um 4)) ((um 5)) ((um 6)) ((um 7)) ((um 8)) ((um 9)) ((um 10)) ((um 11)) ((um 12)) ((um 13)) ((um 14))) X hl.1 kw_1844 kd_yX12_year hw [0, 16] [1, 2, 3, 4, 5, 6, 7, 8, 9, 10, 11, 12, 13, 14, 15] rfl rfl rfl rfl (by decide) 0 rfl rfl ⟨by decide, by decide⟩ rfl rfl (Nat.le_of_ble_eq_true rfl) dL_law_752 ⟨by decide, by decide⟩ (fun r7 u8 H locs hr9 hw => ?_)
    replace hw : WD D A s.heap _ _ [((um 0), .inl (ct 3, 2, .inl (fun _ => 0))), ((um 1), .inl (ct 0, 900, .inl (fun _ => 0))), ((um 2), .inl (ct 0, 1770, .inl (fun _ => 0))), ((um 3), .inl (ct 0, 900, .inl (fun _ => 0))), ((um 4), .inl (ct 0, 7, .inl (fun _ => 0))), ((um 5), .inl (ct 0, 56, .inl (fun _ => 0))), ((um 6), .inl (ct 0, 40320, .inl (fun _ => 0))), ((um 7), .inl (ct 0, 72, .inl (fun _ => 0))), ((um 8), .inl (ct 0, 7, .inl (fun _ => 0))), ((um 9), .inl (ct 0, 21870, .inl (fun _ => 0))), ((um 10), .inl (ct 0, 7, .inl fx1)), ((um 11), .inl (ct 0, 8, .inl (fun _ => 0))), ((um 12), .inl (ct 0, 4, .inl fx2)), ((um 13), .inl (ct 0, 4, .inl (fun _ => 0))), ((um 14), .inl (ct 2, 160, .inr (.inl (fun _ => 0))))] := hw
    rcases hr9 with ⟨h10, rfl⟩ | ⟨⟨h11, h12⟩, rfl⟩
    · skip
      refine lv_icmp_eq (tgt := 1468) hx hb dL_law_755 (by decide) (fun _ => ?_) (fun h => absurd (by decide) h)
      exact law_end C0 hA0 hw (lv_sub hl [0, 1, 2, 3] rfl) (by decide) (by decide)
    · skip
      exfalso; omega
  · skip
    refine lv_aload_n hx hb dL_law_741 rfl (lv_at hl 1 rfl) ?_
    refine lv_aload_n hx hb dL_law_742 rfl (lv_at hl 3 rfl) ?_
    refine lv_iload_n hx hb dL_law_743 rfl (lv_at hl 0 rfl) ?_
    refine lv_iconst (v := 1) hx hb dL_law_744 (by decide) ?_
    refine kv_iadd (v := 1) hx hb (by decide) dL_law_745 ?_
    refine j_sld (j := 1) hx hb hX hbl hbA hw (by decide) (by decide) (by decide) dL_law_746 ?_
    refine lv_aload_n hx hb dL_law_747 rfl (lv_at hl 3 rfl) ?_
    refine lv_iload_n hx hb dL_law_748 rfl (lv_at hl 0 rfl) ?_
    refine lv_iconst (v := 2) hx hb dL_law_749 (by decide) ?_
    refine kv_iadd (v := 2) hx hb (by decide) dL_law_750 ?_
    refine j_sld (j := 2) hx hb hX hbl hbA hw (by decide) (by decide) (by decide) dL_law_751 ?_
    refine m_Vi (As := [.int (xs 1), .int (xs 2)]) (rest := [.int (-5)]) (c113_X12_year l D ct qm ((xs 1)) ((xs 2)) ((um 15)) ((um 0)) ((um 1)) ((um 2)) ((um 3)) ((um 4)) ((um 5)) ((um 6)) ((um 7)) ((um 8)) ((um 9)) ((um 10)) ((um 11)) ((um 12)) ((um 13)) ((um 14))) X hl.1 kw_1844 kd_yX12_year hw [0, 16] [1, 2, 3, 4, 5, 6, 7, 8, 9, 10, 11, 12, 13, 14, 15] rfl rfl rfl rfl (by decide) 0 rfl rfl ⟨by decide, by decide⟩ rfl rfl (Nat.le_of_ble_eq_true rfl) dL_law_752 ⟨by decide, by decide⟩ (fun r13 u14 H locs hr15 hw => ?_)
    replace hw : WD D A s.heap _ _ [((um 0), .inl (ct 3, 2, .inl (fun _ => 0))), ((um 1), .inl (ct 0, 900, .inl (fun _ => 0))), ((um 2), .inl (ct 0, 1770, .inl (fun _ => 0))), ((um 3), .inl (ct 0, 900, .inl (fun _ => 0))), ((um 4), .inl (ct 0, 7, .inl (fun _ => 0))), ((um 5), .inl (ct 0, 56, .inl (fun _ => 0))), ((um 6), .inl (ct 0, 40320, .inl (fun _ => 0))), ((um 7), .inl (ct 0, 72, .inl (fun _ => 0))), ((um 8), .inl (ct 0, 7, .inl (fun _ => 0))), ((um 9), .inl (ct 0, 21870, .inl (fun _ => 0))), ((um 10), .inl (ct 0, 7, .inl fx1)), ((um 11), .inl (ct 0, 8, .inl (fun _ => 0))), ((um 12), .inl (ct 0, 4, .inl fx2)), ((um 13), .inl (ct 0, 4, .inl (fun _ => 0))), ((um 14), .inl (ct 2, 160, .inr (.inl (fun _ => 0))))] := hw
    rcases hr15 with ⟨h16, rfl⟩ | ⟨⟨h17, h18⟩, rfl⟩
    · skip
      exfalso; omega
    · skip
      refine lv_icmp_eq (tgt := 1468) hx hb dL_law_755 (by decide) (fun _ => ?_) (fun h => absurd (by decide) h)
      exact law_end C0 hA0 hw (lv_sub hl [0, 1, 2, 3] rfl) (by decide) (by decide)
set_option maxHeartbeats 4000000 in
set_option maxRecDepth 100000 in
theorem law_18 {p : Program} {l : Launch} {e : Env} {s : State} {m : MethodId} {below : List Frame} {meth : Method} {c : Code} {H : Heap} {locs : List Loc} {D : va_G} {ct : Nat → ClassId} {A : Nat → Prop} {ls : Array Slot} {b : Nat} {qx qm : Nat} {ux um : Nat → Nat} {xs : Nat → Int32} (C0 : lw_At p s m meth c b 6 xs) (hK0 : KK D ct s) (hA0 : ∀ q, A q → s.heap.size ≤ q) (hw : WD D A s.heap H locs (xWd ct qx ux ++ mWd ct qm um)) (hl : lv_has ls 4 [(3, .int 0), (2, .ref qm), (1, .ref qx), (0, .ref b)]) : W p l e room_1 s m #[Value.ref b] below meth c H locs 126 76620 (lw_Z below #[Value.ref b] s) (F0 m 760 ls []) := by
  obtain ⟨hx, hb, hr, hml, hown, hts0, hX, hbl, hlocks, hgv⟩ := id C0
  have hts := tb_hts hts0
  have hK := hK0
  have X : CX p m c cL_law 4 s #[Value.ref b] RL D ct := ⟨⟨hx, hb, hml, hown, hts⟩, hK0⟩
  have hbA : ¬ A b := fun h => absurd (hA0 _ h) (Nat.not_le.mpr hbl)
  refine lv_aload_n hx hb dL_law_760 rfl (lv_at hl 2 rfl) ?_
  refine m_Vi (As := []) (rest := []) (c115_X11_maps l D ct qx ((ux 0)) ((ux 1)) ((ux 9)) ((ux 19)) ((ux 24)) ((ux 30)) ((ux 33)) ((ux 39)) ((ux 48)) ((ux 50)) ((ux 56)) ((ux 60)) ((ux 61)) ((ux 62)) ((ux 63)) ((ux 2)) ((ux 3)) ((ux 4)) ((ux 5)) ((ux 20)) ((ux 21)) ((ux 22)) ((ux 23)) (fun _ => 0) ((ux 25)) ((ux 26)) ((ux 27)) ((ux 28)) ((ux 29))) X hl.1 kw_1136 kd_yX11_maps hw [0, 2, 20, 21, 25, 27, 30] [73, 74, 75, 76, 77, 78, 79, 80, 81, 82, 83, 84, 85, 86, 87, 88, 89] rfl rfl rfl rfl (by decide) 0 rfl rfl ⟨by decide, by decide⟩ rfl rfl (Nat.le_of_ble_eq_true rfl) dL_law_761 ⟨by decide, by decide⟩ (fun r1 u2 H locs hr3 hw => ?_)
  replace hw : WD D A s.heap _ _ (mWd ct qm um) := hw
  subst hr3
  refine lv_aload_n hx hb dL_law_764 rfl (lv_at hl 1 rfl) ?_
  refine m_Vi (As := []) (rest := [.int 1]) (c116_X12_maps l D ct qm ((um 15)) ((um 0)) ((um 1)) ((um 2)) ((um 3)) ((um 4)) ((um 5)) ((um 6)) ((um 7)) ((um 8)) ((um 9)) ((um 10)) ((um 11)) ((um 12)) ((um 13)) ((um 14)) (fun _ => 0)) X hl.1 kw_1858 kd_yX12_maps hw [0, 7, 16] [1, 2, 3, 4, 5, 6, 8, 9, 10, 11, 12, 13, 14, 15] rfl rfl rfl rfl (by decide) 0 rfl rfl ⟨by decide, by decide⟩ rfl rfl (Nat.le_of_ble_eq_true rfl) dL_law_765 ⟨by decide, by decide⟩ (fun r4 u5 H locs hr6 hw => ?_)
  replace hw : WD D A s.heap _ _ [((um 0), .inl (ct 3, 2, .inl (fun _ => 0))), ((um 1), .inl (ct 0, 900, .inl (fun _ => 0))), ((um 2), .inl (ct 0, 1770, .inl (fun _ => 0))), ((um 3), .inl (ct 0, 900, .inl (fun _ => 0))), ((um 4), .inl (ct 0, 7, .inl (fun _ => 0))), ((um 5), .inl (ct 0, 56, .inl (fun _ => 0))), ((um 7), .inl (ct 0, 72, .inl (fun _ => 0))), ((um 8), .inl (ct 0, 7, .inl (fun _ => 0))), ((um 9), .inl (ct 0, 21870, .inl (fun _ => 0))), ((um 10), .inl (ct 0, 7, .inl fx1)), ((um 11), .inl (ct 0, 8, .inl (fun _ => 0))), ((um 12), .inl (ct 0, 4, .inl fx2)), ((um 13), .inl (ct 0, 4, .inl (fun _ => 0))), ((um 14), .inl (ct 2, 160, .inr (.inl (fun _ => 0))))] := hw
  subst hr6
  refine lv_icmp_eq (tgt := 1468) hx hb dL_law_768 (by decide) (fun _ => ?_) (fun h => absurd (by decide) h)
  exact law_end C0 hA0 hw (lv_sub hl [0, 1, 2, 3] rfl) (by decide) (by decide)
set_option maxHeartbeats 4000000 in
set_option maxRecDepth 100000 in
theorem law_19 {p : Program} {l : Launch} {e : Env} {s : State} {m : MethodId} {below : List Frame} {meth : Method} {c : Code} {H : Heap} {locs : List Loc} {D : va_G} {ct : Nat → ClassId} {A : Nat → Prop} {ls : Array Slot} {b : Nat} {qx qm : Nat} {ux um : Nat → Nat} {xs : Nat → Int32} (C0 : lw_At p s m meth c b 6 xs) (hK0 : KK D ct s) (hA0 : ∀ q, A q → s.heap.size ≤ q) (hw : WD D A s.heap H locs (xWd ct qx ux ++ mWd ct qm um)) (hl : lv_has ls 4 [(3, .int 0), (2, .ref qm), (1, .ref qx), (0, .ref b)]) : W p l e room_1 s m #[Value.ref b] below meth c H locs 126 76620 (lw_Z below #[Value.ref b] s) (F0 m 773 ls []) := by
  obtain ⟨hx, hb, hr, hml, hown, hts0, hX, hbl, hlocks, hgv⟩ := id C0
  have hts := tb_hts hts0
  have hK := hK0
  have X : CX p m c cL_law 4 s #[Value.ref b] RL D ct := ⟨⟨hx, hb, hml, hown, hts⟩, hK0⟩
  have hbA : ¬ A b := fun h => absurd (hA0 _ h) (Nat.not_le.mpr hbl)
  refine lv_aload_n hx hb dL_law_773 rfl (lv_at hl 2 rfl) ?_
  refine lv_aload_n hx hb dL_law_774 rfl (lv_at hl 3 rfl) ?_
  refine lv_iload_n hx hb dL_law_775 rfl (lv_at hl 0 rfl) ?_
  refine lv_iconst (v := 1) hx hb dL_law_776 (by decide) ?_
  refine kv_iadd (v := 1) hx hb (by decide) dL_law_777 ?_
  refine j_sld (j := 1) hx hb hX hbl hbA hw (by decide) (by decide) (by decide) dL_law_778 ?_
  refine lv_aload_n hx hb dL_law_779 rfl (lv_at hl 3 rfl) ?_
  refine lv_iload_n hx hb dL_law_780 rfl (lv_at hl 0 rfl) ?_
  refine lv_iconst (v := 2) hx hb dL_law_781 (by decide) ?_
  refine kv_iadd (v := 2) hx hb (by decide) dL_law_782 ?_
  refine j_sld (j := 2) hx hb hX hbl hbA hw (by decide) (by decide) (by decide) dL_law_783 ?_
  refine m_Vi (As := [.int (xs 1), .int (xs 2)]) (rest := []) (c117_X11_inMap l D ct qx ((xs 1)) ((xs 2)) ((ux 0)) ((ux 1)) ((ux 9)) ((ux 19)) ((ux 24)) ((ux 30)) ((ux 33)) ((ux 39)) ((ux 48)) ((ux 50)) ((ux 56)) ((ux 60)) ((ux 61)) ((ux 62)) ((ux 63)) ((ux 2)) ((ux 3)) ((ux 4)) ((ux 5))) X hl.1 kw_1145 kd_yX11_inMap hw [0, 2] [73, 74, 75, 76, 77, 78, 79, 80, 81, 82, 83, 84, 85, 86, 87, 88, 89] rfl rfl rfl rfl (by decide) 0 rfl rfl ⟨by decide, by decide⟩ rfl rfl (Nat.le_of_ble_eq_true rfl) dL_law_784 ⟨by decide, by decide⟩ (fun r1 u2 H locs hr3 hw => ?_)
  replace hw : WD D A s.heap _ _ (mWd ct qm um) := hw
  subst hr3
  refine lv_aload_n hx hb dL_law_787 rfl (lv_at hl 1 rfl) ?_
  refine lv_aload_n hx hb dL_law_788 rfl (lv_at hl 3 rfl) ?_
  refine lv_iload_n hx hb dL_law_789 rfl (lv_at hl 0 rfl) ?_
  refine lv_iconst (v := 1) hx hb dL_law_790 (by decide) ?_
  refine kv_iadd (v := 1) hx hb (by decide) dL_law_791 ?_
  refine j_sld (j := 1) hx hb hX hbl hbA hw (by decide) (by decide) (by decide) dL_law_792 ?_
  refine lv_aload_n hx hb dL_law_793 rfl (lv_at hl 3 rfl) ?_
  refine lv_iload_n hx hb dL_law_794 rfl (lv_at hl 0 rfl) ?_
  refine lv_iconst (v := 2) hx hb dL_law_795 (by decide) ?_
  refine kv_iadd (v := 2) hx hb (by decide) dL_law_796 ?_
  refine j_sld (j := 2) hx hb hX hbl hbA hw (by decide) (by decide) (by decide) dL_law_797 ?_
  refine m_Vi (As := [.int (xs 1), .int (xs 2)]) (rest := [.int (-2)]) (c118_X12_inMap l D ct qm ((xs 1)) ((xs 2)) ((um 15)) ((um 0)) ((um 1)) ((um 2)) ((um 3)) ((um 4)) ((um 5)) ((um 6)) ((um 7)) ((um 8)) ((um 9)) ((um 10)) ((um 11)) ((um 12)) ((um 13)) ((um 14))) X hl.1 kw_1862 kd_yX12_inMap hw [0, 16] [1, 2, 3, 4, 5, 6, 7, 8, 9, 10, 11, 12, 13, 14, 15] rfl rfl rfl rfl (by decide) 0 rfl rfl ⟨by decide, by decide⟩ rfl rfl (Nat.le_of_ble_eq_true rfl) dL_law_798 ⟨by decide, by decide⟩ (fun r4 u5 H locs hr6 hw => ?_)
  replace hw : WD D A s.heap _ _ [((um 0), .inl (ct 3, 2, .inl (fun _ => 0))), ((um 1), .inl (ct 0, 900, .inl (fun _ => 0))), ((um 2), .inl (ct 0, 1770, .inl (fun _ => 0))), ((um 3), .inl (ct 0, 900, .inl (fun _ => 0))), ((um 4), .inl (ct 0, 7, .inl (fun _ => 0))), ((um 5), .inl (ct 0, 56, .inl (fun _ => 0))), ((um 6), .inl (ct 0, 40320, .inl (fun _ => 0))), ((um 7), .inl (ct 0, 72, .inl (fun _ => 0))), ((um 8), .inl (ct 0, 7, .inl (fun _ => 0))), ((um 9), .inl (ct 0, 21870, .inl (fun _ => 0))), ((um 10), .inl (ct 0, 7, .inl fx1)), ((um 11), .inl (ct 0, 8, .inl (fun _ => 0))), ((um 12), .inl (ct 0, 4, .inl fx2)), ((um 13), .inl (ct 0, 4, .inl (fun _ => 0))), ((um 14), .inl (ct 2, 160, .inr (.inl (fun _ => 0))))] := hw
  subst hr6
  refine lv_icmp_eq (tgt := 1468) hx hb dL_law_801 (by decide) (fun _ => ?_) (fun h => absurd (by decide) h)
  exact law_end C0 hA0 hw (lv_sub hl [0, 1, 2, 3] rfl) (by decide) (by decide)
set_option maxHeartbeats 4000000 in
set_option maxRecDepth 100000 in
theorem law_20 {p : Program} {l : Launch} {e : Env} {s : State} {m : MethodId} {below : List Frame} {meth : Method} {c : Code} {H : Heap} {locs : List Loc} {D : va_G} {ct : Nat → ClassId} {A : Nat → Prop} {ls : Array Slot} {b : Nat} {qx qm : Nat} {ux um : Nat → Nat} {xs : Nat → Int32} (C0 : lw_At p s m meth c b 6 xs) (hK0 : KK D ct s) (hA0 : ∀ q, A q → s.heap.size ≤ q) (hw : WD D A s.heap H locs (xWd ct qx ux ++ mWd ct qm um)) (hl : lv_has ls 4 [(3, .int 0), (2, .ref qm), (1, .ref qx), (0, .ref b)]) : W p l e room_1 s m #[Value.ref b] below meth c H locs 126 76620 (lw_Z below #[Value.ref b] s) (F0 m 806 ls []) := by
  obtain ⟨hx, hb, hr, hml, hown, hts0, hX, hbl, hlocks, hgv⟩ := id C0
  have hts := tb_hts hts0
  have hK := hK0
  have X : CX p m c cL_law 4 s #[Value.ref b] RL D ct := ⟨⟨hx, hb, hml, hown, hts⟩, hK0⟩
  have hbA : ¬ A b := fun h => absurd (hA0 _ h) (Nat.not_le.mpr hbl)
  refine lv_aload_n hx hb dL_law_806 rfl (lv_at hl 2 rfl) ?_
  refine lv_aload_n hx hb dL_law_807 rfl (lv_at hl 3 rfl) ?_
  refine lv_iload_n hx hb dL_law_808 rfl (lv_at hl 0 rfl) ?_
  refine lv_iconst (v := 1) hx hb dL_law_809 (by decide) ?_
  refine kv_iadd (v := 1) hx hb (by decide) dL_law_810 ?_
  refine j_sld (j := 1) hx hb hX hbl hbA hw (by decide) (by decide) (by decide) dL_law_811 ?_
  refine lv_aload_n hx hb dL_law_812 rfl (lv_at hl 3 rfl) ?_
  refine lv_iload_n hx hb dL_law_813 rfl (lv_at hl 0 rfl) ?_
  refine lv_iconst (v := 2) hx hb dL_law_814 (by decide) ?_
  refine kv_iadd (v := 2) hx hb (by decide) dL_law_815 ?_
  refine j_sld (j := 2) hx hb hX hbl hbA hw (by decide) (by decide) (by decide) dL_law_816 ?_
  refine m_Vi (As := [.int (xs 1), .int (xs 2)]) (rest := []) (c119_X11_with l D ct qx ((xs 1)) ((xs 2)) ((ux 0)) ((ux 1)) ((ux 9)) ((ux 19)) ((ux 24)) ((ux 30)) ((ux 33)) ((ux 39)) ((ux 48)) ((ux 50)) ((ux 56)) ((ux 60)) ((ux 61)) ((ux 62)) ((ux 63)) ((ux 2)) ((ux 3)) ((ux 4)) ((ux 5))) X hl.1 kw_1150 kd_yX11_with hw [0, 2] [73, 74, 75, 76, 77, 78, 79, 80, 81, 82, 83, 84, 85, 86, 87, 88, 89] rfl rfl rfl rfl (by decide) 0 rfl rfl ⟨by decide, by decide⟩ rfl rfl (Nat.le_of_ble_eq_true rfl) dL_law_817 ⟨by decide, by decide⟩ (fun r1 u2 H locs hr3 hw => ?_)
  replace hw : WD D A s.heap _ _ (mWd ct qm um) := hw
  subst hr3
  refine lv_aload_n hx hb dL_law_820 rfl (lv_at hl 1 rfl) ?_
  refine lv_aload_n hx hb dL_law_821 rfl (lv_at hl 3 rfl) ?_
  refine lv_iload_n hx hb dL_law_822 rfl (lv_at hl 0 rfl) ?_
  refine lv_iconst (v := 1) hx hb dL_law_823 (by decide) ?_
  refine kv_iadd (v := 1) hx hb (by decide) dL_law_824 ?_
  refine j_sld (j := 1) hx hb hX hbl hbA hw (by decide) (by decide) (by decide) dL_law_825 ?_
  refine lv_aload_n hx hb dL_law_826 rfl (lv_at hl 3 rfl) ?_
  refine lv_iload_n hx hb dL_law_827 rfl (lv_at hl 0 rfl) ?_
  refine lv_iconst (v := 2) hx hb dL_law_828 (by decide) ?_
  refine kv_iadd (v := 2) hx hb (by decide) dL_law_829 ?_
  refine j_sld (j := 2) hx hb hX hbl hbA hw (by decide) (by decide) (by decide) dL_law_830 ?_
  refine m_Vi (As := [.int (xs 1), .int (xs 2)]) (rest := [.int (-2)]) (c120_X12_with l D ct qm ((xs 1)) ((xs 2)) ((um 15)) ((um 0)) ((um 1)) ((um 2)) ((um 3)) ((um 4)) ((um 5)) ((um 6)) ((um 7)) ((um 8)) ((um 9)) ((um 10)) ((um 11)) ((um 12)) ((um 13)) ((um 14))) X hl.1 kw_1866 kd_yX12_with hw [0, 16] [1, 2, 3, 4, 5, 6, 7, 8, 9, 10, 11, 12, 13, 14, 15] rfl rfl rfl rfl (by decide) 0 rfl rfl ⟨by decide, by decide⟩ rfl rfl (Nat.le_of_ble_eq_true rfl) dL_law_831 ⟨by decide, by decide⟩ (fun r4 u5 H locs hr6 hw => ?_)
  replace hw : WD D A s.heap _ _ [((um 0), .inl (ct 3, 2, .inl (fun _ => 0))), ((um 1), .inl (ct 0, 900, .inl (fun _ => 0))), ((um 2), .inl (ct 0, 1770, .inl (fun _ => 0))), ((um 3), .inl (ct 0, 900, .inl (fun _ => 0))), ((um 4), .inl (ct 0, 7, .inl (fun _ => 0))), ((um 5), .inl (ct 0, 56, .inl (fun _ => 0))), ((um 6), .inl (ct 0, 40320, .inl (fun _ => 0))), ((um 7), .inl (ct 0, 72, .inl (fun _ => 0))), ((um 8), .inl (ct 0, 7, .inl (fun _ => 0))), ((um 9), .inl (ct 0, 21870, .inl (fun _ => 0))), ((um 10), .inl (ct 0, 7, .inl fx1)), ((um 11), .inl (ct 0, 8, .inl (fun _ => 0))), ((um 12), .inl (ct 0, 4, .inl fx2)), ((um 13), .inl (ct 0, 4, .inl (fun _ => 0))), ((um 14), .inl (ct 2, 160, .inr (.inl (fun _ => 0))))] := hw
  subst hr6
  refine lv_icmp_eq (tgt := 1468) hx hb dL_law_834 (by decide) (fun _ => ?_) (fun h => absurd (by decide) h)
  exact law_end C0 hA0 hw (lv_sub hl [0, 1, 2, 3] rfl) (by decide) (by decide)
set_option maxHeartbeats 4000000 in
set_option maxRecDepth 100000 in
theorem law_21 {p : Program} {l : Launch} {e : Env} {s : State} {m : MethodId} {below : List Frame} {meth : Method} {c : Code} {H : Heap} {locs : List Loc} {D : va_G} {ct : Nat → ClassId} {A : Nat → Prop} {ls : Array Slot} {b : Nat} {qx qm : Nat} {ux um : Nat → Nat} {xs : Nat → Int32} (C0 : lw_At p s m meth c b 6 xs) (hK0 : KK D ct s) (hA0 : ∀ q, A q → s.heap.size ≤ q) (hw : WD D A s.heap H locs (xWd ct qx ux ++ mWd ct qm um)) (hl : lv_has ls 4 [(3, .int 0), (2, .ref qm), (1, .ref qx), (0, .ref b)]) : W p l e room_1 s m #[Value.ref b] below meth c H locs 126 76620 (lw_Z below #[Value.ref b] s) (F0 m 839 ls []) := by
  obtain ⟨hx, hb, hr, hml, hown, hts0, hX, hbl, hlocks, hgv⟩ := id C0
  have hts := tb_hts hts0
  have hK := hK0
  have X : CX p m c cL_law 4 s #[Value.ref b] RL D ct := ⟨⟨hx, hb, hml, hown, hts⟩, hK0⟩
  have hbA : ¬ A b := fun h => absurd (hA0 _ h) (Nat.not_le.mpr hbl)
  refine lv_aload_n hx hb dL_law_839 rfl (lv_at hl 2 rfl) ?_
  refine lv_aload_n hx hb dL_law_840 rfl (lv_at hl 3 rfl) ?_
  refine lv_iload_n hx hb dL_law_841 rfl (lv_at hl 0 rfl) ?_
  refine lv_iconst (v := 1) hx hb dL_law_842 (by decide) ?_
  refine kv_iadd (v := 1) hx hb (by decide) dL_law_843 ?_
  refine j_sld (j := 1) hx hb hX hbl hbA hw (by decide) (by decide) (by decide) dL_law_844 ?_
  refine lv_aload_n hx hb dL_law_845 rfl (lv_at hl 3 rfl) ?_
  refine lv_iload_n hx hb dL_law_846 rfl (lv_at hl 0 rfl) ?_
  refine lv_iconst (v := 2) hx hb dL_law_847 (by decide) ?_
  refine kv_iadd (v := 2) hx hb (by decide) dL_law_848 ?_
  refine j_sld (j := 2) hx hb hX hbl hbA hw (by decide) (by decide) (by decide) dL_law_849 ?_
  refine m_Vi (As := [.int (xs 1), .int (xs 2)]) (rest := []) (c121_X11_near l D ct qx ((xs 1)) ((xs 2)) ((ux 0)) ((ux 1)) ((ux 9)) ((ux 19)) ((ux 24)) ((ux 30)) ((ux 33)) ((ux 39)) ((ux 48)) ((ux 50)) ((ux 56)) ((ux 60)) ((ux 61)) ((ux 62)) ((ux 63)) ((ux 2)) ((ux 3)) ((ux 4)) ((ux 5))) X hl.1 kw_1163 kd_yX11_near hw [0, 2] [73, 74, 75, 76, 77, 78, 79, 80, 81, 82, 83, 84, 85, 86, 87, 88, 89] rfl rfl rfl rfl (by decide) 0 rfl rfl ⟨by decide, by decide⟩ rfl rfl (Nat.le_of_ble_eq_true rfl) dL_law_850 ⟨by decide, by decide⟩ (fun r1 u2 H locs hr3 hw => ?_)
  replace hw : WD D A s.heap _ _ (mWd ct qm um) := hw
  subst hr3
  refine lv_aload_n hx hb dL_law_853 rfl (lv_at hl 1 rfl) ?_
  refine lv_aload_n hx hb dL_law_854 rfl (lv_at hl 3 rfl) ?_
  refine lv_iload_n hx hb dL_law_855 rfl (lv_at hl 0 rfl) ?_
  refine lv_iconst (v := 1) hx hb dL_law_856 (by decide) ?_
  refine kv_iadd (v := 1) hx hb (by decide) dL_law_857 ?_
  refine j_sld (j := 1) hx hb hX hbl hbA hw (by decide) (by decide) (by decide) dL_law_858 ?_
  refine lv_aload_n hx hb dL_law_859 rfl (lv_at hl 3 rfl) ?_
  refine lv_iload_n hx hb dL_law_860 rfl (lv_at hl 0 rfl) ?_
  refine lv_iconst (v := 2) hx hb dL_law_861 (by decide) ?_
  refine kv_iadd (v := 2) hx hb (by decide) dL_law_862 ?_
  refine j_sld (j := 2) hx hb hX hbl hbA hw (by decide) (by decide) (by decide) dL_law_863 ?_
  refine m_Vi (As := [.int (xs 1), .int (xs 2)]) (rest := [.int (-2)]) (c122_X12_near l D ct qm ((xs 1)) ((xs 2)) ((um 15)) ((um 0)) ((um 1)) ((um 2)) ((um 3)) ((um 4)) ((um 5)) ((um 6)) ((um 7)) ((um 8)) ((um 9)) ((um 10)) ((um 11)) ((um 12)) ((um 13)) ((um 14))) X hl.1 kw_1874 kd_yX12_near hw [0, 16] [1, 2, 3, 4, 5, 6, 7, 8, 9, 10, 11, 12, 13, 14, 15] rfl rfl rfl rfl (by decide) 0 rfl rfl ⟨by decide, by decide⟩ rfl rfl (Nat.le_of_ble_eq_true rfl) dL_law_864 ⟨by decide, by decide⟩ (fun r4 u5 H locs hr6 hw => ?_)
  replace hw : WD D A s.heap _ _ [((um 0), .inl (ct 3, 2, .inl (fun _ => 0))), ((um 1), .inl (ct 0, 900, .inl (fun _ => 0))), ((um 2), .inl (ct 0, 1770, .inl (fun _ => 0))), ((um 3), .inl (ct 0, 900, .inl (fun _ => 0))), ((um 4), .inl (ct 0, 7, .inl (fun _ => 0))), ((um 5), .inl (ct 0, 56, .inl (fun _ => 0))), ((um 6), .inl (ct 0, 40320, .inl (fun _ => 0))), ((um 7), .inl (ct 0, 72, .inl (fun _ => 0))), ((um 8), .inl (ct 0, 7, .inl (fun _ => 0))), ((um 9), .inl (ct 0, 21870, .inl (fun _ => 0))), ((um 10), .inl (ct 0, 7, .inl fx1)), ((um 11), .inl (ct 0, 8, .inl (fun _ => 0))), ((um 12), .inl (ct 0, 4, .inl fx2)), ((um 13), .inl (ct 0, 4, .inl (fun _ => 0))), ((um 14), .inl (ct 2, 160, .inr (.inl (fun _ => 0))))] := hw
  subst hr6
  refine lv_icmp_eq (tgt := 1468) hx hb dL_law_867 (by decide) (fun _ => ?_) (fun h => absurd (by decide) h)
  exact law_end C0 hA0 hw (lv_sub hl [0, 1, 2, 3] rfl) (by decide) (by decide)
set_option maxHeartbeats 4000000 in
set_option maxRecDepth 100000 in
theorem law_22 {p : Program} {l : Launch} {e : Env} {s : State} {m : MethodId} {below : List Frame} {meth : Method} {c : Code} {H : Heap} {locs : List Loc} {D : va_G} {ct : Nat → ClassId} {A : Nat → Prop} {ls : Array Slot} {b : Nat} {qx qm : Nat} {ux um : Nat → Nat} {xs : Nat → Int32} (C0 : lw_At p s m meth c b 6 xs) (hK0 : KK D ct s) (hA0 : ∀ q, A q → s.heap.size ≤ q) (hw : WD D A s.heap H locs (xWd ct qx ux ++ mWd ct qm um)) (hl : lv_has ls 4 [(3, .int 0), (2, .ref qm), (1, .ref qx), (0, .ref b)]) : W p l e room_1 s m #[Value.ref b] below meth c H locs 126 76620 (lw_Z below #[Value.ref b] s) (F0 m 872 ls []) := by
  obtain ⟨hx, hb, hr, hml, hown, hts0, hX, hbl, hlocks, hgv⟩ := id C0
  have hts := tb_hts hts0
  have hK := hK0
  have X : CX p m c cL_law 4 s #[Value.ref b] RL D ct := ⟨⟨hx, hb, hml, hown, hts⟩, hK0⟩
  have hbA : ¬ A b := fun h => absurd (hA0 _ h) (Nat.not_le.mpr hbl)
  refine lv_aload_n hx hb dL_law_872 rfl (lv_at hl 2 rfl) ?_
  refine m_Vi (As := []) (rest := []) (c126_X11_allElse l D ct qx ((ux 0)) ((ux 1)) ((ux 9)) ((ux 19)) ((ux 24)) ((ux 30)) ((ux 33)) ((ux 39)) ((ux 48)) ((ux 50)) ((ux 56)) ((ux 60)) ((ux 61)) ((ux 62)) ((ux 63)) ((ux 2)) ((ux 3)) ((ux 4)) ((ux 5)) ((ux 20)) ((ux 21)) ((ux 22)) ((ux 23)) (fun _ => 0) ((ux 25)) ((ux 26)) ((ux 27)) ((ux 28)) ((ux 29))) X hl.1 kw_1176 kd_yX11_allElse hw [0, 2, 20, 21, 25, 27, 30, 63] [73, 74, 75, 76, 77, 78, 79, 80, 81, 82, 83, 84, 85, 86, 87, 88, 89] rfl rfl rfl rfl (by decide) 0 rfl rfl ⟨by decide, by decide⟩ rfl rfl (Nat.le_of_ble_eq_true rfl) dL_law_873 ⟨by decide, by decide⟩ (fun r1 u2 H locs hr3 hw => ?_)
  replace hw : WD D A s.heap _ _ (mWd ct qm um) := hw
  subst hr3
  refine lv_aload_n hx hb dL_law_876 rfl (lv_at hl 1 rfl) ?_
  refine m_Vi (As := []) (rest := [.int 1]) (c127_X12_allElse l D ct qm ((um 15)) ((um 0)) ((um 1)) ((um 2)) ((um 3)) ((um 4)) ((um 5)) ((um 6)) ((um 7)) ((um 8)) ((um 9)) ((um 10)) ((um 11)) ((um 12)) ((um 13)) ((um 14)) (fun _ => 0)) X hl.1 kw_1882 kd_yX12_allElse hw [0, 7, 16] [1, 2, 3, 4, 5, 6, 8, 9, 10, 11, 12, 13, 14, 15] rfl rfl rfl rfl (by decide) 0 rfl rfl ⟨by decide, by decide⟩ rfl rfl (Nat.le_of_ble_eq_true rfl) dL_law_877 ⟨by decide, by decide⟩ (fun r4 u5 H locs hr6 hw => ?_)
  replace hw : WD D A s.heap _ _ [((um 0), .inl (ct 3, 2, .inl (fun _ => 0))), ((um 1), .inl (ct 0, 900, .inl (fun _ => 0))), ((um 2), .inl (ct 0, 1770, .inl (fun _ => 0))), ((um 3), .inl (ct 0, 900, .inl (fun _ => 0))), ((um 4), .inl (ct 0, 7, .inl (fun _ => 0))), ((um 5), .inl (ct 0, 56, .inl (fun _ => 0))), ((um 7), .inl (ct 0, 72, .inl (fun _ => 0))), ((um 8), .inl (ct 0, 7, .inl (fun _ => 0))), ((um 9), .inl (ct 0, 21870, .inl (fun _ => 0))), ((um 10), .inl (ct 0, 7, .inl fx1)), ((um 11), .inl (ct 0, 8, .inl (fun _ => 0))), ((um 12), .inl (ct 0, 4, .inl fx2)), ((um 13), .inl (ct 0, 4, .inl (fun _ => 0))), ((um 14), .inl (ct 2, 160, .inr (.inl (fun _ => 0))))] := hw
  subst hr6
  refine lv_icmp_eq (tgt := 1468) hx hb dL_law_880 (by decide) (fun _ => ?_) (fun h => absurd (by decide) h)
  exact law_end C0 hA0 hw (lv_sub hl [0, 1, 2, 3] rfl) (by decide) (by decide)
set_option maxHeartbeats 4000000 in
set_option maxRecDepth 100000 in
theorem law_23 {p : Program} {l : Launch} {e : Env} {s : State} {m : MethodId} {below : List Frame} {meth : Method} {c : Code} {H : Heap} {locs : List Loc} {D : va_G} {ct : Nat → ClassId} {A : Nat → Prop} {ls : Array Slot} {b : Nat} {qx qm : Nat} {ux um : Nat → Nat} {xs : Nat → Int32} (C0 : lw_At p s m meth c b 6 xs) (hK0 : KK D ct s) (hA0 : ∀ q, A q → s.heap.size ≤ q) (hw : WD D A s.heap H locs (xWd ct qx ux ++ mWd ct qm um)) (hl : lv_has ls 4 [(3, .int 0), (2, .ref qm), (1, .ref qx), (0, .ref b)]) : W p l e room_1 s m #[Value.ref b] below meth c H locs 126 76620 (lw_Z below #[Value.ref b] s) (F0 m 885 ls []) := by
  obtain ⟨hx, hb, hr, hml, hown, hts0, hX, hbl, hlocks, hgv⟩ := id C0
  have hts := tb_hts hts0
  have hK := hK0
  have X : CX p m c cL_law 4 s #[Value.ref b] RL D ct := ⟨⟨hx, hb, hml, hown, hts⟩, hK0⟩
  have hbA : ¬ A b := fun h => absurd (hA0 _ h) (Nat.not_le.mpr hbl)
  refine lv_aload_n hx hb dL_law_885 rfl (lv_at hl 2 rfl) ?_
  refine lv_aload_n hx hb dL_law_886 rfl (lv_at hl 3 rfl) ?_
  refine lv_iload_n hx hb dL_law_887 rfl (lv_at hl 0 rfl) ?_
  refine lv_iconst (v := 1) hx hb dL_law_888 (by decide) ?_
  refine kv_iadd (v := 1) hx hb (by decide) dL_law_889 ?_
  refine j_sld (j := 1) hx hb hX hbl hbA hw (by decide) (by decide) (by decide) dL_law_890 ?_
  refine m_Vi (As := [.int (xs 1)]) (rest := []) (c128_X11_likeliest l D ct qx ((xs 1)) ((ux 0)) ((ux 1)) ((ux 9)) ((ux 19)) ((ux 24)) ((ux 30)) ((ux 33)) ((ux 39)) ((ux 48)) ((ux 50)) ((ux 56)) ((ux 60)) ((ux 61)) ((ux 62)) ((ux 63)) ((ux 2)) ((ux 3)) ((ux 4)) ((ux 5))) X hl.1 kw_1180 kd_yX11_likeliest hw [0, 2] [73, 74, 75, 76, 77, 78, 79, 80, 81, 82, 83, 84, 85, 86, 87, 88, 89] rfl rfl rfl rfl (by decide) 0 rfl rfl ⟨by decide, by decide⟩ rfl rfl (Nat.le_of_ble_eq_true rfl) dL_law_891 ⟨by decide, by decide⟩ (fun r1 u2 H locs hr3 hw => ?_)
  replace hw : WD D A s.heap _ _ (mWd ct qm um) := hw
  subst hr3
  refine lv_aload_n hx hb dL_law_894 rfl (lv_at hl 1 rfl) ?_
  refine lv_aload_n hx hb dL_law_895 rfl (lv_at hl 3 rfl) ?_
  refine lv_iload_n hx hb dL_law_896 rfl (lv_at hl 0 rfl) ?_
  refine lv_iconst (v := 1) hx hb dL_law_897 (by decide) ?_
  refine kv_iadd (v := 1) hx hb (by decide) dL_law_898 ?_
  refine j_sld (j := 1) hx hb hX hbl hbA hw (by decide) (by decide) (by decide) dL_law_899 ?_
  refine m_Vi (As := [.int (xs 1)]) (rest := [.int (-2)]) (c129_X12_likeliest l D ct qm ((xs 1)) ((um 15)) ((um 0)) ((um 1)) ((um 2)) ((um 3)) ((um 4)) ((um 5)) ((um 6)) ((um 7)) ((um 8)) ((um 9)) ((um 10)) ((um 11)) ((um 12)) ((um 13)) ((um 14))) X hl.1 kw_1886 kd_yX12_likeliest hw [0, 16] [1, 2, 3, 4, 5, 6, 7, 8, 9, 10, 11, 12, 13, 14, 15] rfl rfl rfl rfl (by decide) 0 rfl rfl ⟨by decide, by decide⟩ rfl rfl (Nat.le_of_ble_eq_true rfl) dL_law_900 ⟨by decide, by decide⟩ (fun r4 u5 H locs hr6 hw => ?_)
  replace hw : WD D A s.heap _ _ [((um 0), .inl (ct 3, 2, .inl (fun _ => 0))), ((um 1), .inl (ct 0, 900, .inl (fun _ => 0))), ((um 2), .inl (ct 0, 1770, .inl (fun _ => 0))), ((um 3), .inl (ct 0, 900, .inl (fun _ => 0))), ((um 4), .inl (ct 0, 7, .inl (fun _ => 0))), ((um 5), .inl (ct 0, 56, .inl (fun _ => 0))), ((um 6), .inl (ct 0, 40320, .inl (fun _ => 0))), ((um 7), .inl (ct 0, 72, .inl (fun _ => 0))), ((um 8), .inl (ct 0, 7, .inl (fun _ => 0))), ((um 9), .inl (ct 0, 21870, .inl (fun _ => 0))), ((um 10), .inl (ct 0, 7, .inl fx1)), ((um 11), .inl (ct 0, 8, .inl (fun _ => 0))), ((um 12), .inl (ct 0, 4, .inl fx2)), ((um 13), .inl (ct 0, 4, .inl (fun _ => 0))), ((um 14), .inl (ct 2, 160, .inr (.inl (fun _ => 0))))] := hw
  subst hr6
  refine lv_icmp_eq (tgt := 1468) hx hb dL_law_903 (by decide) (fun _ => ?_) (fun h => absurd (by decide) h)
  exact law_end C0 hA0 hw (lv_sub hl [0, 1, 2, 3] rfl) (by decide) (by decide)
