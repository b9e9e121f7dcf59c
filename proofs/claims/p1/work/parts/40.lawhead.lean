/-! THE CLAIM OUT OF ONE WALK OF THE LAW'S BODY. Your part is whole_start (and what it stands on); all else here is the same for every law, but numbers. -/
def R_law : String := "FloorsByLotLaw"
def lw_P (b : Addr) (xs : List Int32) (args : Array Value) (s : State) : Prop := args = #[.ref b] ∧ s.IntsAt b xs ∧ xs.length ≤ 6 ∧ (Jvm.Cond.and given_1 narrow_1).before args s = true
def lw_Q (_ : Array Value) (s : State) (o : Outcome) (t : State) : Prop := o = .returned (some (.int 1)) ∧ Framed s o t [] 600000 7302250
def lw_Z (below : List Frame) (a : Array Value) (s : State) : State → Prop := fun t => ∃ o, t.status = .running ∧ Ended t below o ∧ lw_Q a s o t
/-- the law's own end, with 1 on the stack, nothing written that was there before, its room as the claim has it -/
theorem lw_ret {p : Program} {l : Launch} {e : Env} {s : State} {m : MethodId} {below : List Frame} {meth : Method} {c : Code} {b : Nat} (hx : p.tables.exec = Jvm.exec) (hb : c.code = code) (hr : meth.sig.returnType = ret) (hlocks : meth.locks = false) {pc : Nat} {H : Heap} {ls : Array Slot} (hdg : decode code pc = .ok (.ireturn, 1)) : W p l e room_1 s m #[Value.ref b] below meth c H [] 600000 7302250 (lw_Z below #[Value.ref b] s) (F0 m pc ls [.int 1]) := by
  intro T hT X
  obtain ⟨fs, hret, hrun, hended, hW, hframe⟩ := X.leave (v := some (.int 1)) (hlocks := hlocks) (fun h => by rw [hr] at h; cases h)
  have hmeth' : T.vm.method? m = some meth := X.method'
  refine ⟨T.setFrames fs, ?_, .returned (some (.int 1)), hrun, hended, rfl, ⟨_, rfl⟩, hW, hframe⟩
  jvm_step X.here [X.here.top, hx, hb, hdg, hmeth', hr, ret, narrow_b1]
  (try refine ⟨rfl, ?_⟩); (try refine ⟨rfl, ?_⟩)
  first | (intro acts; rw [hret _ acts rfl rfl rfl]) | rw [hret _ _ rfl rfl rfl]
  exact Steps.refl _
/-- what holds at the law's entry: the machine, the code, the tables' words (any of lw_tbl by 'hts w (by decide +kernel)'), the script of L ints xs at the cell b, what the Statement gives of the start (any of its parts by flat_of_before) -/
def lw_At (p : Program) (s : State) (m : MethodId) (meth : Method) (c : Code) (b L : Nat) (xs : Nat → Int32) : Prop :=
  p.tables.exec = Jvm.exec ∧ c.code = code ∧ meth.sig.returnType = ret ∧ c.maxLocals = 4 ∧ s.vm.findClass R_law = some m.cls ∧ (∀ w ∈ lw_tbl, w.before #[Value.ref b] s = true) ∧ va_X b L xs s s.heap ∧ b < s.heap.size ∧ meth.locks = false ∧ (Jvm.Cond.and given_1 narrow_1).before #[Value.ref b] s = true
def xWd (ct : Nat → ClassId) (qx : Nat) (ux : Nat → Nat) : va_W := [(qx, .inr (11, [.ref (ux 0), .int 0, .ref (ux 1), .ref (ux 9), .ref (ux 19), .ref (ux 24), .ref (ux 30), .ref (ux 33), .ref (ux 39), .ref (ux 48), .ref (ux 50), .ref (ux 56), .ref (ux 60), .ref (ux 61), .ref (ux 62), .ref (ux 63), .int (-1), .int (-1)])), ((ux 0), .inl (ct 1, 900, .inl (fun _ => 0))), ((ux 1), .inr (2, [.int 0, .int 0, .int 0, .ref (ux 2), .ref (ux 3), .ref (ux 4), .int 0, .int 0, .int 0, .int 0, .int 0, .ref (ux 5), .int 0])), ((ux 2), .inl (ct 0, 32, .inl (fun _ => 0))), ((ux 3), .inl (ct 0, 35, .inl (fun _ => 0))), ((ux 4), .inl (ct 0, 900, .inl (fun _ => 0))), ((ux 5), .inr (4, [.ref (ux 8), .ref (ux 6), .ref (ux 7), .int 0])), ((ux 6), .inl (ct 0, 56, .inl (fun _ => 0))), ((ux 7), .inl (ct 0, 8, .inl (fun _ => 0))), ((ux 8), .inl (ct 0, 7, .inl (va_cpy (fun _ => (-1)) (fun _ => 0) 0 0 7))), ((ux 9), .inr (7, [.ref (ux 10), .int 0, .int (-1), .ref (ux 18), .int 0, .int 0, .int 0, .int 0, .int 0])), ((ux 10), .inr (2, [.int 0, .int 0, .int 0, .ref (ux 11), .ref (ux 12), .ref (ux 13), .int 0, .int 0, .int 0, .int 0, .int 0, .ref (ux 14), .int 0])), ((ux 11), .inl (ct 0, 32, .inl (fun _ => 0))), ((ux 12), .inl (ct 0, 35, .inl (fun _ => 0))), ((ux 13), .inl (ct 0, 900, .inl (fun _ => 0))), ((ux 14), .inr (4, [.ref (ux 17), .ref (ux 15), .ref (ux 16), .int 0])), ((ux 15), .inl (ct 0, 56, .inl (fun _ => 0))), ((ux 16), .inl (ct 0, 8, .inl (fun _ => 0))), ((ux 17), .inl (ct 0, 7, .inl (va_cpy (fun _ => (-1)) (fun _ => 0) 0 0 7))), ((ux 18), .inl (ct 1, 0, .inl (fun _ => 0))), ((ux 19), .inr (9, [.ref (ux 20), .ref (ux 21), .ref (ux 1), .ref (ux 22), .ref (ux 23), .int (-1)])), ((ux 20), .inl (ct 0, 7, .inl (fun _ => 0))), ((ux 21), .inl (ct 0, 56, .inl (fun _ => 0))), ((ux 22), .inl (ct 0, 13, .inl (fun _ => 0))), ((ux 23), .inl (ct 0, 64, .inl (fun _ => 0))), ((ux 24), .inr (5, [.ref (ux 25), .ref (ux 26), .ref (ux 27), .ref (ux 28), .ref (ux 29), .int 0, .int 0])), ((ux 25), .inl (ct 0, 56, .inl (fun _ => 0))), ((ux 26), .inl (ct 0, 256, .inl (fun _ => 0))), ((ux 27), .inl (ct 0, 256, .inl (fun _ => 0))), ((ux 28), .inl (ct 0, 256, .inl (fun _ => 0))), ((ux 29), .inl (ct 0, 7, .inl (fun _ => 0))), ((ux 30), .inr (8, [.ref (ux 31), .int 0, .int 0, .ref (ux 32), .ref (ux 1), .ref (ux 19)])), ((ux 31), .inl (ct 0, 7, .inl (fun _ => 0))), ((ux 32), .inl (ct 0, 7, .inl (fun _ => 0))), ((ux 33), .inr (6, [.int (-1), .ref (ux 34), .ref (ux 1), .ref (ux 35), .ref (ux 36), .ref (ux 37), .ref (ux 38), .int (-1)])), ((ux 34), .inl (ct 0, 7, .inl (fun _ => 0))), ((ux 35), .inl (ct 0, 8, .inl (fun _ => 0))), ((ux 36), .inl (ct 0, 8, .inl (fun _ => 0))), ((ux 37), .inl (ct 0, 8, .inl (fun _ => 0))), ((ux 38), .inl (ct 0, 7, .inl (fun _ => 0))), ((ux 39), .inr (3, [.ref (ux 1), .int 0, .ref (ux 40), .ref (ux 41), .ref (ux 42), .ref (ux 43), .ref (ux 44), .ref (ux 45), .ref (ux 46), .ref (ux 47)])), ((ux 40), .inl (ct 0, 7, .inl (fun _ => 0))), ((ux 41), .inl (ct 0, 7, .inl (fun _ => 0))), ((ux 42), .inl (ct 0, 7, .inl (fun _ => 0))), ((ux 43), .inl (ct 0, 7, .inl (fun _ => 0))), ((ux 44), .inl (ct 0, 7, .inl (fun _ => 0))), ((ux 45), .inl (ct 0, 7, .inl (fun _ => 0))), ((ux 46), .inl (ct 0, 7, .inl (fun _ => 0))), ((ux 47), .inl (ct 0, 0, .inl (fun _ => 0))), ((ux 48), .inr (0, [.int 0, .int 0, .int (-1), .ref (ux 1), .ref (ux 19), .ref (ux 24), .ref (ux 30), .ref (ux 49), .int 0])), ((ux 49), .inl (ct 0, 7, .inl (fun _ => 0))), ((ux 50), .inr (1, [.int 0, .int 0, .ref (ux 51)])), ((ux 51), .inl (ct 4, 10, .inr (.inr (.inr (.inr (va_up (va_up (va_up (va_up (va_up (va_up (va_up (va_up (va_up (va_up (fun _ => none) 0 (some (ux 52))) 1 (some (ux 72))) 2 (some (ux 73))) 3 (some (ux 74))) 4 (some (ux 75))) 5 (some (ux 76))) 6 (some (ux 77))) 7 (some (ux 78))) 8 (some (ux 79))) 9 (some (ux 80)))))))), ((ux 52), .inr (4, [.ref (ux 55), .ref (ux 53), .ref (ux 54), .int 0])), ((ux 53), .inl (ct 0, 56, .inl (fun _ => 0))), ((ux 54), .inl (ct 0, 8, .inl (fun _ => 0))), ((ux 55), .inl (ct 0, 7, .inl (va_cpy (fun _ => (-1)) (fun _ => 0) 0 0 7))), ((ux 56), .inr (4, [.ref (ux 59), .ref (ux 57), .ref (ux 58), .int 0])), ((ux 57), .inl (ct 0, 56, .inl (fun _ => 0))), ((ux 58), .inl (ct 0, 8, .inl (fun _ => 0))), ((ux 59), .inl (ct 0, 7, .inl (va_cpy (fun _ => (-1)) (fun _ => 0) 0 0 7))), ((ux 60), .inl (ct 5, 4, .inr (.inr (.inr (.inr (va_up (va_up (va_up (va_up (fun _ => none) 0 (some (ux 64))) 1 (some (ux 66))) 2 (some (ux 68))) 3 (some (ux 70)))))))), ((ux 61), .inl (ct 6, 2, .inr (.inr (.inr (.inr (fun _ => none)))))), ((ux 62), .inl (ct 0, 7, .inl (fun _ => 0))), ((ux 63), .inl (ct 0, 7, .inl (fun _ => 0))), ((ux 64), .inr (10, [.int (-1), .ref (ux 65), .int 0])), ((ux 65), .inl (ct 2, 40, .inr (.inl (fun _ => 0)))), ((ux 66), .inr (10, [.int (-1), .ref (ux 67), .int 0])), ((ux 67), .inl (ct 2, 40, .inr (.inl (fun _ => 0)))), ((ux 68), .inr (10, [.int (-1), .ref (ux 69), .int 0])), ((ux 69), .inl (ct 2, 40, .inr (.inl (fun _ => 0)))), ((ux 70), .inr (10, [.int (-1), .ref (ux 71), .int 0])), ((ux 71), .inl (ct 2, 40, .inr (.inl (fun _ => 0))))]
def mWd (ct : Nat → ClassId) (qm : Nat) (um : Nat → Nat) : va_W := [(qm, .inr (12, [.int 0, .ref (um 15), .ref (um 0), .ref (um 1), .ref (um 2), .int 0, .int 0, .int 0, .int 0, .int 0, .int 0, .int 0, .int 0, .int 0, .int (-1), .ref (um 3), .ref (um 4), .ref (um 5), .ref (um 6), .int 0, .ref (um 7), .ref (um 8), .int 0, .int 0, .int 0, .ref (um 9), .ref (um 10), .ref (um 11), .ref (um 12), .ref (um 13), .ref (um 14)])), ((um 0), .inl (ct 3, 2, .inl (fun _ => 0))), ((um 1), .inl (ct 0, 900, .inl (fun _ => 0))), ((um 2), .inl (ct 0, 1770, .inl (fun _ => 0))), ((um 3), .inl (ct 0, 900, .inl (fun _ => 0))), ((um 4), .inl (ct 0, 7, .inl (fun _ => 0))), ((um 5), .inl (ct 0, 56, .inl (fun _ => 0))), ((um 6), .inl (ct 0, 40320, .inl (fun _ => 0))), ((um 7), .inl (ct 0, 72, .inl (fun _ => 0))), ((um 8), .inl (ct 0, 7, .inl (fun _ => 0))), ((um 9), .inl (ct 0, 21870, .inl (fun _ => 0))), ((um 10), .inl (ct 0, 7, .inl fx1)), ((um 11), .inl (ct 0, 8, .inl (fun _ => 0))), ((um 12), .inl (ct 0, 4, .inl fx2)), ((um 13), .inl (ct 0, 4, .inl (fun _ => 0))), ((um 14), .inl (ct 2, 160, .inr (.inl (fun _ => 0)))), ((um 15), .inl (ct 0, 5310, .inl fx0))]
theorem j_sld {p : Program} {l : Launch} {e : Env} {R : Room} {s : State} {m : MethodId} {args : Array Value} {below : List Frame} {meth : Method} {c : Code} {H : Heap} {locs : List Loc} {cells slots : Nat} {Q : State → Prop} {cc : ByteArray} {pc : Nat} {D : va_G} {A : Nat → Prop} {ws : va_W} {ls : Array Slot} {rest : List Value} {b L j : Nat} {xs : Nat → Int32} (hx : p.tables.exec = Jvm.exec) (hb : c.code = cc) (hX : va_X b L xs s s.heap) (hbl : b < s.heap.size) (hbA : ¬ A b) (hw : WD D A s.heap H locs ws) {i : Int32} (h0 : ¬ i < 0) (hj : i.toNatClampNeg = j) (hlt : j < L) (hdg : decode cc pc = .ok (.iaload, 1))
    (kk : W p l e R s m args below meth c H locs cells slots Q (F0 m (pc + 1) ls (.int (xs j) :: rest))) : W p l e R s m args below meth c H locs cells slots Q (F0 m pc ls (.int i :: .ref b :: rest)) := by
  subst hj
  exact va_sld hx hb hX hbl hbA hw.2.2.1 (vp_c h0 rfl hlt) hdg kk
theorem law_out {p : Program} {l : Launch} {e : Env} {s : State} {m : MethodId} {below : List Frame} {meth : Method} {c : Code} {H : Heap} {locs : List Loc} {cells slots : Nat} {D : va_G} {A : Nat → Prop} {ws : va_W} {ls : Array Slot} {b L : Nat} {xs : Nat → Int32} (C0 : lw_At p s m meth c b L xs) (hA0 : ∀ q, A q → s.heap.size ≤ q) (hw : WD D A s.heap H locs ws) (hc : cells ≤ 600000) (hs : slots ≤ 7302250) : W p l e room_1 s m #[Value.ref b] below meth c H locs cells slots (lw_Z below #[Value.ref b] s) (F0 m 1474 ls []) := by
  obtain ⟨hx, hb, hr, hml, hown, hts, hX, hbl, hlocks, hgv⟩ := C0
  refine lv_iconst (v := 1) hx hb dL_law_1474 (by decide) ?_
  refine va_forget (fun q hq => hA0 _ (hw.2.2.1.2.2 q hq)) ?_
  refine W.widen hc hs ?_
  exact lw_ret hx hb hr hlocks dL_law_1475
theorem law_end {p : Program} {l : Launch} {e : Env} {s : State} {m : MethodId} {below : List Frame} {meth : Method} {c : Code} {H : Heap} {locs : List Loc} {cells slots : Nat} {D : va_G} {A : Nat → Prop} {ws : va_W} {ls : Array Slot} {b : Nat} {qx qm : Nat} {xs : Nat → Int32} (C0 : lw_At p s m meth c b 6 xs) (hA0 : ∀ q, A q → s.heap.size ≤ q) (hw : WD D A s.heap H locs ws) (hl : lv_has ls 4 [(3, .int 0), (2, .ref qm), (1, .ref qx), (0, .ref b)]) (hc : cells ≤ 600000) (hs : slots ≤ 7302250) : W p l e room_1 s m #[Value.ref b] below meth c H locs cells slots (lw_Z below #[Value.ref b] s) (F0 m 1468 ls []) := by
  obtain ⟨hx, hb, hr, hml, hown, hts, hX, hbl, hlocks, hgv⟩ := id C0
  have hbA : ¬ A b := fun h => absurd (hA0 _ h) (Nat.not_le.mpr hbl)
  refine lv_iinc (v := 6) (lv' := [(3, .int 6), (2, .ref qm), (1, .ref qx), (0, .ref b)]) hx hb dL_law_1468 hl (k := 0) rfl (by decide) (by decide) rfl (fun ls hl => ?_)
  refine lv_goto (tgt := 18) hx hb dL_law_1471 (by decide) ?_
  refine lv_iload_n hx hb dL_law_18 rfl (lv_at hl 0 rfl) ?_
  refine lv_aload_n hx hb dL_law_19 rfl (lv_at hl 3 rfl) ?_
  refine va_slen hx hb hX hbl hbA hw.2.2.1 dL_law_20 ?_
  refine lv_bipush (v := 6) hx hb dL_law_21 (by decide) ?_
  refine kv_isub (v := 0) hx hb (by decide) dL_law_23 ?_
  refine lv_icmp_gt (tgt := 1474) hx hb dL_law_24 (by decide) (fun _ => ?_) (fun h => absurd (by decide) h)
  exact law_out C0 hA0 hw hc hs
theorem kn_all {s : State} {args : Array Value} (hts : ∀ w ∈ tb, w.before args s = true) : ∃ D : va_G, ∀ (k : Nat) (q : vw_C), vwCl[k]? = some q → u_Kn s q.1 q.2.1 q.2.2 (D.1 k) (D.2 k) := by
  have h : ∀ (k : Nat) (q : vw_C), vwCl[k]? = some q → ∃ (c : ClassId) (iS : Nat → Nat), u_Kn s q.1 q.2.1 q.2.2 c iS := by
    intro k q hq
    match k, hq with
    | 0, hq => cases hq; exact u_known (n := 9) hts inT0 (hts _ wd_484)
    | 1, hq => cases hq; exact u_known (n := 3) hts inT1 (hts _ wd_521)
    | 2, hq => cases hq; exact u_known (n := 13) hts inT2 (hts _ wd_160)
    | 3, hq => cases hq; exact u_known (n := 10) hts inT3 (hts _ wd_447)
    | 4, hq => cases hq; exact u_known (n := 4) hts inT4 (hts _ wd_166)
    | 5, hq => cases hq; exact u_known (n := 7) hts inT5 (hts _ wd_355)
    | 6, hq => cases hq; exact u_known (n := 8) hts inT6 (hts _ wd_414)
    | 7, hq => cases hq; exact u_known (n := 9) hts inT7 (hts _ wd_287)
    | 8, hq => cases hq; exact u_known (n := 6) hts inT8 (hts _ wd_384)
    | 9, hq => cases hq; exact u_known (n := 6) hts inT9 (hts _ wd_326)
    | 10, hq => cases hq; exact u_known (n := 3) hts inT10 (hts _ wd_545)
    | 11, hq => cases hq; exact u_known (n := 18) hts inT11 (hts _ wd_152)
    | 12, hq => cases hq; exact u_known (n := 31) hts inT12 (hts _ wd_1433)
    | k + 13, hq => simp [vwCl] at hq
  have h2 : ∀ k : Nat, ∃ (c : ClassId) (iS : Nat → Nat), ∀ q : vw_C, vwCl[k]? = some q → u_Kn s q.1 q.2.1 q.2.2 c iS := by
    intro k
    cases hq : vwCl[k]? with
    | none => exact ⟨0, fun _ => 0, fun q h3 => by cases h3⟩
    | some q =>
      obtain ⟨c, iS, h3⟩ := h k q hq
      exact ⟨c, iS, fun q2 h4 => by cases h4; exact h3⟩
  exact ⟨(fun k => (h2 k).choose, fun k => (h2 k).choose_spec.choose), fun k q hq => (h2 k).choose_spec.choose_spec q hq⟩
theorem ar_p {s : State} {args : Array Value} {ty : FieldType} (h : (Cond.arrayClass ty).before args s = true) : ∃ c : ClassId, ArrOfT s c ty ∧ s.vm.findClass ("[" ++ ty.toString) = some c := by
  obtain ⟨c, k, comp, h1, h2, h3⟩ := Cond.arrayClass_spec h
  exact ⟨c, fun n z => ⟨fun k h => (by cases h), k, h2, comp, h3⟩, h1⟩
theorem ar_o {s : State} {args : Array Value} {C : String} (h : (Cond.arrayOver (.object C)).before args s = true) : ∃ c : ClassId, ArrOfT s c (.object C) ∧ va_RA s c (.object C) := by
  obtain ⟨comp, c, k, h1, h2, h3, h4, h5⟩ := Cond.arrayOver_spec h
  exact ⟨c, fun n z => ⟨fun k h => (by cases h), k, h3, comp, h4⟩, k, comp, h3, h4, h1, h5⟩
theorem kk_all {s : State} {args : Array Value} (hts0 : ∀ w ∈ lw_tbl, w.before args s = true) : ∃ (D : va_G) (ct : Nat → ClassId), KK D ct s := by
  have hts := tb_hts hts0
  obtain ⟨D, hD⟩ := kn_all hts
  obtain ⟨c0, a0, b0⟩ := ar_p (hts _ wd_207)
  obtain ⟨c1, a1, b1⟩ := ar_p (hts _ wd_206)
  obtain ⟨c2, a2, b2⟩ := ar_p (hts _ wd_564)
  obtain ⟨c3, a3, b3⟩ := ar_p (hts _ wd_1536)
  have o4 : (Cond.arrayOver (.object RX4)).before args s = true := hts0 _ (List.mem_of_getElem? (i := 527) (by decide +kernel))
  have o5 : (Cond.arrayOver (.object RX10)).before args s = true := hts0 _ (List.mem_of_getElem? (i := 543) (by decide +kernel))
  have o6 : (Cond.arrayOver (.object RX2)).before args s = true := hts0 _ (List.mem_of_getElem? (i := 544) (by decide +kernel))
  obtain ⟨c4, a4, b4⟩ := ar_o o4
  obtain ⟨c5, a5, b5⟩ := ar_o o5
  obtain ⟨c6, a6, b6⟩ := ar_o o6
  refine ⟨D, fun k => [c0, c1, c2, c3, c4, c5, c6].getD k 0, ⟨hD, ?_⟩, ⟨va_AO.of o4, va_AO.of o5, va_AO.of o6⟩, ?_⟩
  · intro k q hq
    match k, hq with
    | 0, hq => cases hq; exact ⟨a0, b0⟩
    | 1, hq => cases hq; exact ⟨a1, b1⟩
    | 2, hq => cases hq; exact ⟨a2, b2⟩
    | 3, hq => cases hq; exact ⟨a3, b3⟩
    | 4, hq => cases hq; exact ⟨a4, b4⟩
    | 5, hq => cases hq; exact ⟨a5, b5⟩
    | 6, hq => cases hq; exact ⟨a6, b6⟩
    | k + 7, hq => simp [tyL] at hq
  · exact ⟨va_Nw.of rfl (hts0 _ (List.mem_of_getElem? (i := 161) (by decide +kernel))), va_Nw.of rfl (hts0 _ (List.mem_of_getElem? (i := 288) (by decide +kernel))), va_Nw.of rfl (hts0 _ (List.mem_of_getElem? (i := 293) (by decide +kernel))), va_Nw.of rfl (hts0 _ (List.mem_of_getElem? (i := 356) (by decide +kernel))), va_Nw.of rfl (hts0 _ (List.mem_of_getElem? (i := 546) (by decide +kernel)))⟩
