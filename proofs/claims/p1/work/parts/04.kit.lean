/-! the words, as one list for every method -/
theorem tb_hts {args : Array Value} {s : State} (h : ∀ w ∈ lw_tbl, w.before args s = true) : ∀ w ∈ tb, w.before args s = true := fun w hw => h w (List.mem_filter.mp hw).1
theorem tb_good {w : Cond} (h : w ∈ tb) : (w.onTables && w.keeps) = true ∨ ∃ ty, w = .arrayClass ty := good_of_word (List.mem_filter.mp h).2
theorem gd_c {y : MethodName} {cc : ByteArray} {n : Nat} {ret : Option FieldType} (h : Cond.code y cc n ret ∈ tb) : GoodIn tb (Cond.code y cc n ret :: tb) := by
  intro w hw
  rcases List.mem_cons.mp hw with rfl | hw
  · exact ⟨h, tb_good h⟩
  · exact ⟨hw, tb_good hw⟩
theorem gd_V {own C : String} {ix : Nat} {y : MethodName} {cc : ByteArray} {n : Nat} {ret : Option FieldType} (h1 : Cond.methodLink own ix y ∈ tb) (h2 : Cond.instanceMethod y ∈ tb) (h3 : Cond.selects C y y ∈ tb) (h4 : Cond.initialized C ∈ tb) (h5 : Cond.code y cc n ret ∈ tb) : GoodIn tb (wsV own ix C y (Cond.code y cc n ret :: tb)) := by
  intro w hw
  rcases List.mem_append.mp hw with hw | hw
  · simp only [List.mem_cons, List.not_mem_nil, or_false] at hw
    rcases hw with rfl | rfl | rfl | rfl
    · exact ⟨h1, tb_good h1⟩
    · exact ⟨h2, tb_good h2⟩
    · exact ⟨h3, tb_good h3⟩
    · exact ⟨h4, tb_good h4⟩
  · exact gd_c h5 w hw
theorem gd_S {own : String} {ix : Nat} {y : MethodName} {cc : ByteArray} {n : Nat} {ret : Option FieldType} (h1 : Cond.methodLink own ix y ∈ tb) (h2 : Cond.static y ∈ tb) (h4 : Cond.initialized y.cls ∈ tb) (h5 : Cond.code y cc n ret ∈ tb) : GoodIn tb (va_wsS own ix y (Cond.code y cc n ret :: tb)) := by
  intro w hw
  rcases List.mem_append.mp hw with hw | hw
  · simp only [List.mem_cons, List.not_mem_nil, or_false] at hw
    rcases hw with rfl | rfl | rfl
    · exact ⟨h1, tb_good h1⟩
    · exact ⟨h2, tb_good h2⟩
    · exact ⟨h4, tb_good h4⟩
  · exact gd_c h5 w hw
/-! what every method takes as known of the machine -/
abbrev tyL (ct : Nat → ClassId) : List (ClassId × FieldType) := [(ct 0, .int), (ct 1, .byte), (ct 2, .long), (ct 3, .boolean), (ct 4, .object RX4), (ct 5, .object RX10), (ct 6, .object RX2)]
def NN (U : State) : Prop := va_Nw (.methodLinkNest RX11 19 yX2_init RX11) U ∧ va_Nw (.methodLinkNest RX11 26 yX7_init RX11) U ∧ va_Nw (.methodLinkNest RX7 13 yX2_init RX11) U ∧ va_Nw (.methodLinkNest RX11 42 yX5_init RX11) U ∧ va_Nw (.methodLinkNest RX11 116 yX10_init RX11) U
def KK (D : va_G) (ct : Nat → ClassId) (U : State) : Prop := va_K D vwCl (tyL ct) U ∧ (va_AO RX4 U ∧ va_AO RX10 U ∧ va_AO RX2 U) ∧ NN U
theorem KK.moved {D : va_G} {ct : Nat → ClassId} {s U : State} (hW : s.WarmedH U.vm) (h : KK D ct s) : KK D ct U :=
  ⟨va_K.moved hW.alike h.1, ⟨h.2.1.1.moved hW.alike, h.2.1.2.1.moved hW.alike, h.2.1.2.2.moved hW.alike⟩, va_Nw.warmM hW h.2.2.1, va_Nw.warmM hW h.2.2.2.1, va_Nw.warmM hW h.2.2.2.2.1, va_Nw.warmM hW h.2.2.2.2.2.1, va_Nw.warmM hW h.2.2.2.2.2.2⟩
theorem KK.same {D : va_G} {ct : Nat → ClassId} {s U : State} (hv : s.vm = U.vm) (h : KK D ct s) : KK D ct U :=
  ⟨va_K.moved (hv ▸ Vm.Alike.refl s.vm) h.1, ⟨h.2.1.1.moved (hv ▸ Vm.Alike.refl s.vm), h.2.1.2.1.moved (hv ▸ Vm.Alike.refl s.vm), h.2.1.2.2.moved (hv ▸ Vm.Alike.refl s.vm)⟩, va_Nw.same rfl hv h.2.2.1, va_Nw.same rfl hv h.2.2.2.1, va_Nw.same rfl hv h.2.2.2.2.1, va_Nw.same rfl hv h.2.2.2.2.2.1, va_Nw.same rfl hv h.2.2.2.2.2.2⟩
def CX (p : Program) (m : MethodId) (c : Code) (cc : ByteArray) (nL : Nat) (s : State) (args : Array Value) (own : String) (D : va_G) (ct : Nat → ClassId) : Prop := CallFix p m c cc nL s args tb own ∧ KK D ct s
def WD (D : va_G) (A : Nat → Prop) (H0 H : Heap) (locs : List Loc) (ws : va_W) : Prop := va_P D vwCl ws H ∧ va_D A ws ∧ va_S A H0 H locs ∧ ∀ q, H0.size ≤ q → A q
theorem WD.sub {D : va_G} {A : Nat → Prop} {H0 H : Heap} {locs : List Loc} {ws ws' : va_W} (h : WD D A H0 H locs ws) (is : List Nat) (hn : va_nd is = true) (hs : is.map (fun i => ws[i]?) = ws'.map some) : WD D A H0 H locs ws' := by
  refine ⟨h.1.sub is ?_, h.2.1.sub is hn hs, h.2.2⟩
  have e : (is.map (fun i => ws[i]?)).filterMap id = (ws'.map some).filterMap id := by rw [hs]
  rw [List.filterMap_map, List.filterMap_map] at e
  simpa using e
/-! contracts: what a method starts from, what it ends with -/
def PC (D : va_G) (ct : Nat → ClassId) (av : List Value) (W0 : va_W) (sz : Nat) : Array Value → State → Prop := va_Pc av (fun U => U.heap.size = sz ∧ va_P D vwCl W0 U.heap ∧ KK D ct U ∧ va_D (fun _ => True) W0)
def QB (D : va_G) (A : Nat → Prop) (W1 : (Nat → Nat) → va_W) (u : Nat → Nat) (t : State) : Prop := va_P D vwCl (W1 u) t.heap ∧ va_D A (W1 u)
abbrev QcI (D : va_G) (A : Nat → Prop) (post : Int32 → Prop) (W1 : (Nat → Nat) → va_W) : Array Value → State → Outcome → State → Prop := va_Qi (fun r (_ : Nat → Nat) => post r) (QB D A W1) A
abbrev QcL (D : va_G) (A : Nat → Prop) (post : Int64 → Prop) (W1 : (Nat → Nat) → va_W) : Array Value → State → Outcome → State → Prop := va_Ql (fun r (_ : Nat → Nat) => post r) (QB D A W1) A
abbrev QcV (D : va_G) (A : Nat → Prop) (post : Prop) (W1 : (Nat → Nat) → va_W) : Array Value → State → Outcome → State → Prop := va_Qv (fun (_ : Nat → Nat) => post) (QB D A W1) A
def CI (l : Launch) (y : MethodName) (cc : ByteArray) (n : Nat) (ret : Option FieldType) (rm : Room) (D : va_G) (ct : Nat → ClassId) (av : List Value) (W0 : va_W) (post : Int32 → Prop) (W1 : (Nat → Nat) → va_W) : Prop :=
  ∀ sz : Nat, Met l y (Cond.code y cc n ret :: tb) rm (PC D ct av W0 sz) (QcI D (va_A W0 sz) post W1) rm.cells rm.slots (va_A W0 sz)
def CL (l : Launch) (y : MethodName) (cc : ByteArray) (n : Nat) (ret : Option FieldType) (rm : Room) (D : va_G) (ct : Nat → ClassId) (av : List Value) (W0 : va_W) (post : Int64 → Prop) (W1 : (Nat → Nat) → va_W) : Prop :=
  ∀ sz : Nat, Met l y (Cond.code y cc n ret :: tb) rm (PC D ct av W0 sz) (QcL D (va_A W0 sz) post W1) rm.cells rm.slots (va_A W0 sz)
def CV (l : Launch) (y : MethodName) (cc : ByteArray) (n : Nat) (ret : Option FieldType) (rm : Room) (D : va_G) (ct : Nat → ClassId) (av : List Value) (W0 : va_W) (post : Prop) (W1 : (Nat → Nat) → va_W) : Prop :=
  ∀ sz : Nat, Met l y (Cond.code y cc n ret :: tb) rm (PC D ct av W0 sz) (QcV D (va_A W0 sz) post W1) rm.cells rm.slots (va_A W0 sz)
/-- what a method's body has at its entry -/
def EN (p : Program) (m : MethodId) (meth : Method) (c : Code) (y : MethodName) (cc : ByteArray) (nL : Nat) (ret : Option FieldType) (s : State) (av : List Value) (D : va_G) (ct : Nat → ClassId) (A : Nat → Prop) (W0 : va_W) (ls : Array Slot) : Prop :=
  CX p m c cc nL s av.toArray y.cls D ct ∧ meth.sig.returnType = ret ∧ meth.locks = false ∧ meth.name = y.name ∧ WD D A s.heap s.heap [] W0 ∧ lv_has ls nL (lv_args 0 av)
theorem met_of {l : Launch} {y : MethodName} {cc : ByteArray} {n : Nat} {ret : Option FieldType} {rm : Room} {D : va_G} {ct : Nat → ClassId} {av : List Value} {W0 : va_W} {Qc : (Nat → Prop) → Array Value → State → Outcome → State → Prop} (hy : plainName y.cls = true) (hav : (lg_sl av).length ≤ n)
    (body : ∀ (p : Program) (e : Env) (s : State) (m : MethodId) (below : List Frame) (meth : Method) (c : Code) (A : Nat → Prop) (ls : Array Slot), EN p m meth c y cc n ret s av D ct A W0 ls → W p l e rm s m av.toArray below meth c s.heap [] 0 0 (MQ below (Qc A) av.toArray s rm.cells rm.slots A) (F0 m 0 ls [])) (sz : Nat) :
    Met l y (Cond.code y cc n ret :: tb) rm (PC D ct av W0 sz) (Qc (va_A W0 sz)) rm.cells rm.slots (va_A W0 sz) := by
  refine Met.ofW (cc := cc) (maxL := n) (ret := ret) hy rfl ?_
  intro p e s m args below meth c s₁ B hml hv
  obtain ⟨rfl, hsz, hP, hK, hD0⟩ := hv
  subst hsz
  have hts := atoms_spec (ws := Cond.code y cc n ret :: tb) B.pre
  rw [lg_entry_eq]
  exact body p e s m below meth c (va_A W0 s.heap.size) _ ⟨⟨⟨B.exec, B.bytes, hml, findClass_of_methodNamed B.named, fun w hw => hts w (List.mem_cons_of_mem _ hw)⟩, hK⟩, B.returns, B.notSynchronized, (name_of_methodNamed B.named B.method).1, ⟨hP, hD0.self, va_S.rf, fun q h => Or.inr h⟩, lv_entry av hav⟩
theorem CI.of {l : Launch} {y : MethodName} {cc : ByteArray} {n : Nat} {ret : Option FieldType} {rm : Room} {D : va_G} {ct : Nat → ClassId} {av : List Value} {W0 : va_W} {post : Int32 → Prop} {W1 : (Nat → Nat) → va_W} (hy : plainName y.cls = true) (hav : (lg_sl av).length ≤ n)
    (body : ∀ (p : Program) (e : Env) (s : State) (m : MethodId) (below : List Frame) (meth : Method) (c : Code) (A : Nat → Prop) (ls : Array Slot), EN p m meth c y cc n ret s av D ct A W0 ls → W p l e rm s m av.toArray below meth c s.heap [] 0 0 (MQ below (QcI D A post W1) av.toArray s rm.cells rm.slots A) (F0 m 0 ls [])) : CI l y cc n ret rm D ct av W0 post W1 := fun sz => met_of (Qc := fun A => QcI D A post W1) hy hav body sz
theorem CL.of {l : Launch} {y : MethodName} {cc : ByteArray} {n : Nat} {ret : Option FieldType} {rm : Room} {D : va_G} {ct : Nat → ClassId} {av : List Value} {W0 : va_W} {post : Int64 → Prop} {W1 : (Nat → Nat) → va_W} (hy : plainName y.cls = true) (hav : (lg_sl av).length ≤ n)
    (body : ∀ (p : Program) (e : Env) (s : State) (m : MethodId) (below : List Frame) (meth : Method) (c : Code) (A : Nat → Prop) (ls : Array Slot), EN p m meth c y cc n ret s av D ct A W0 ls → W p l e rm s m av.toArray below meth c s.heap [] 0 0 (MQ below (QcL D A post W1) av.toArray s rm.cells rm.slots A) (F0 m 0 ls [])) : CL l y cc n ret rm D ct av W0 post W1 := fun sz => met_of (Qc := fun A => QcL D A post W1) hy hav body sz
theorem CV.of {l : Launch} {y : MethodName} {cc : ByteArray} {n : Nat} {ret : Option FieldType} {rm : Room} {D : va_G} {ct : Nat → ClassId} {av : List Value} {W0 : va_W} {post : Prop} {W1 : (Nat → Nat) → va_W} (hy : plainName y.cls = true) (hav : (lg_sl av).length ≤ n)
    (body : ∀ (p : Program) (e : Env) (s : State) (m : MethodId) (below : List Frame) (meth : Method) (c : Code) (A : Nat → Prop) (ls : Array Slot), EN p m meth c y cc n ret s av D ct A W0 ls → W p l e rm s m av.toArray below meth c s.heap [] 0 0 (MQ below (QcV D A post W1) av.toArray s rm.cells rm.slots A) (F0 m 0 ls [])) : CV l y cc n ret rm D ct av W0 post W1 := fun sz => met_of (Qc := fun A => QcV D A post W1) hy hav body sz
section KW
variable {p : Program} {l : Launch} {e : Env} {R : Room} {s : State} {m : MethodId} {args : Array Value} {below : List Frame} {meth : Method} {c : Code} {H : Heap} {locs : List Loc} {cells slots : Nat} {Q : State → Prop} {cc : ByteArray} {nL pc : Nat} {own : String} {D : va_G} {ct : Nat → ClassId} {A : Nat → Prop} {H0 : Heap} {ws : va_W} {ls : Array Slot} {rest : List Value}
/-! returns -/
theorem r_i {post : Int32 → Prop} {W1 : (Nat → Nat) → va_W} {v : Int32} {mc ms : Nat} (X : CX p m c cc nL s args own D ct) (hr : meth.sig.returnType = some .int) (hlk : meth.locks = false) (hw : WD D A s.heap H locs ws) (is : List Nat) (u : Nat → Nat) (hn : va_nd is = true) (hs : is.map (fun i => ws[i]?) = (W1 u).map some) (hp : post v) (hc : cells ≤ mc) (hsl : slots ≤ ms) (hdg : decode cc pc = .ok (.ireturn, 1)) :
    W p l e R s m args below meth c H locs cells slots (MQ below (QcI D A post W1) args s mc ms A) (F0 m pc ls [.int v]) := by
  have hw1 := hw.sub is hn hs
  refine W.widen hc hsl ?_
  exact W.iret X.1.1 X.1.2.1 hr (fun t ht hW => ⟨⟨v, u, rfl, hp, by rw [ht]; exact hw1.1, hw1.2.1⟩, hw1.2.2.1.F ht⟩) hw1.2.2.1.2.2 hdg hlk
theorem r_z {post : Int32 → Prop} {W1 : (Nat → Nat) → va_W} {v : Int32} {mc ms : Nat} (X : CX p m c cc nL s args own D ct) (hr : meth.sig.returnType = some .boolean) (hlk : meth.locks = false) (hw : WD D A s.heap H locs ws) (is : List Nat) (u : Nat → Nat) (hn : va_nd is = true) (hs : is.map (fun i => ws[i]?) = (W1 u).map some) (hp : post v) (hc : cells ≤ mc) (hsl : slots ≤ ms) (hv : v = 0 ∨ v = 1) (hdg : decode cc pc = .ok (.ireturn, 1)) :
    W p l e R s m args below meth c H locs cells slots (MQ below (QcI D A post W1) args s mc ms A) (F0 m pc ls [.int v]) := by
  have hw1 := hw.sub is hn hs
  refine W.widen hc hsl ?_
  exact W.zret X.1.1 X.1.2.1 hr (by rcases hv with rfl | rfl <;> decide) (fun t ht hW => ⟨⟨v, u, rfl, hp, by rw [ht]; exact hw1.1, hw1.2.1⟩, hw1.2.2.1.F ht⟩) hw1.2.2.1.2.2 hdg hlk
theorem r_l {post : Int64 → Prop} {W1 : (Nat → Nat) → va_W} {v : Int64} {mc ms : Nat} (X : CX p m c cc nL s args own D ct) (hr : meth.sig.returnType = some .long) (hlk : meth.locks = false) (hw : WD D A s.heap H locs ws) (is : List Nat) (u : Nat → Nat) (hn : va_nd is = true) (hs : is.map (fun i => ws[i]?) = (W1 u).map some) (hp : post v) (hc : cells ≤ mc) (hsl : slots ≤ ms) (hdg : decode cc pc = .ok (.lreturn, 1)) :
    W p l e R s m args below meth c H locs cells slots (MQ below (QcL D A post W1) args s mc ms A) (F0 m pc ls [.long v]) := by
  have hw1 := hw.sub is hn hs
  refine W.widen hc hsl ?_
  exact W.lret X.1.1 X.1.2.1 hr (fun t ht hW => ⟨⟨v, u, rfl, hp, by rw [ht]; exact hw1.1, hw1.2.1⟩, hw1.2.2.1.F ht⟩) hw1.2.2.1.2.2 hdg hlk
theorem r_v {post : Prop} {W1 : (Nat → Nat) → va_W} {mc ms : Nat} (X : CX p m c cc nL s args own D ct) (hr : meth.sig.returnType = none) (hlk : meth.locks = false) (hw : WD D A s.heap H locs ws) (is : List Nat) (u : Nat → Nat) (hn : va_nd is = true) (hs : is.map (fun i => ws[i]?) = (W1 u).map some) (hp : post) (hc : cells ≤ mc) (hsl : slots ≤ ms) (hdg : decode cc pc = .ok (.return_, 1)) :
    W p l e R s m args below meth c H locs cells slots (MQ below (QcV D A post W1) args s mc ms A) (F0 m pc ls []) := by
  have hw1 := hw.sub is hn hs
  refine W.widen hc hsl ?_
  exact W.vret X.1.1 X.1.2.1 hr (fun t ht hW => ⟨⟨u, rfl, hp, by rw [ht]; exact hw1.1, hw1.2.1⟩, hw1.2.2.1.F ht⟩) hw1.2.2.1.2.2 hdg hlk
/-! arrays -/
theorem k_iald {a : Nat} (X : CX p m c cc nL s args own D ct) (hw : WD D A H0 H locs ws) (q0 : Nat) {n : Nat} {f : Nat → Int32} (ha : ws[q0]? = some (a, .inl (ct 0, n, .inl f))) {i v : Int32} (hin : vp_in i n) (hv : f i.toNatClampNeg = v) (hdg : decode cc pc = .ok (.iaload, 1))
    (kk : W p l e R s m args below meth c H locs cells slots Q (F0 m (pc + 1) ls (.int v :: rest))) : W p l e R s m args below meth c H locs cells slots Q (F0 m pc ls (.int i :: .ref a :: rest)) := by
  subst hv; exact va_iald X.1.1 X.1.2.1 X.2.1 hw.1 q0 0 ha rfl hin hdg kk
theorem k_bald {a : Nat} (X : CX p m c cc nL s args own D ct) (hw : WD D A H0 H locs ws) (q0 : Nat) {n : Nat} {f : Nat → Int32} (ha : ws[q0]? = some (a, .inl (ct 1, n, .inl f))) {i v : Int32} (hin : vp_in i n) (hv : f i.toNatClampNeg = v) (hdg : decode cc pc = .ok (.baload, 1))
    (kk : W p l e R s m args below meth c H locs cells slots Q (F0 m (pc + 1) ls (.int v :: rest))) : W p l e R s m args below meth c H locs cells slots Q (F0 m pc ls (.int i :: .ref a :: rest)) := by
  subst hv; exact va_bald X.1.1 X.1.2.1 X.2.1 hw.1 q0 1 ha rfl hin hdg kk
theorem k_zald {a : Nat} (X : CX p m c cc nL s args own D ct) (hw : WD D A H0 H locs ws) (q0 : Nat) {n : Nat} {f : Nat → Int32} (ha : ws[q0]? = some (a, .inl (ct 3, n, .inl f))) {i v : Int32} (hin : vp_in i n) (hv : f i.toNatClampNeg = v) (hdg : decode cc pc = .ok (.baload, 1))
    (kk : W p l e R s m args below meth c H locs cells slots Q (F0 m (pc + 1) ls (.int v :: rest))) : W p l e R s m args below meth c H locs cells slots Q (F0 m pc ls (.int i :: .ref a :: rest)) := by
  subst hv; exact va_zald X.1.1 X.1.2.1 X.2.1 hw.1 q0 3 ha rfl hin hdg kk
theorem k_aldq {a : Nat} (X : CX p m c cc nL s args own D ct) (hw : WD D A H0 H locs ws) (q0 t0 : Nat) {C : String} {cA : ClassId} {n : Nat} {f : Nat → Option Nat} (ha : ws[q0]? = some (a, .inl (cA, n, .inr (.inr (.inr (.inr f)))))) (ht : (tyL ct)[t0]? = some (cA, .object C)) {i : Int32} {v : Value} (hin : vp_in i n) (hv : va_rf (f i.toNatClampNeg) = v) (hdg : decode cc pc = .ok (.aaload, 1))
    (kk : W p l e R s m args below meth c H locs cells slots Q (F0 m (pc + 1) ls (v :: rest))) : W p l e R s m args below meth c H locs cells slots Q (F0 m pc ls (.int i :: .ref a :: rest)) := by
  subst hv; exact va_aldq X.1.1 X.1.2.1 X.2.1 hw.1 q0 t0 ha ht hin hdg kk
theorem k_alen {a : Nat} (X : CX p m c cc nL s args own D ct) (hw : WD D A H0 H locs ws) (q0 t0 : Nat) {cA : ClassId} {x : vp_A} (ha : ws[q0]? = some (a, .inl (cA, x))) {ty : FieldType} (ht : (tyL ct)[t0]? = some (cA, ty)) {v : Int32} (hv : Int32.ofNat x.1 = v) (hdg : decode cc pc = .ok (.arraylength, 1))
    (kk : W p l e R s m args below meth c H locs cells slots Q (F0 m (pc + 1) ls (.int v :: rest))) : W p l e R s m args below meth c H locs cells slots Q (F0 m pc ls (.ref a :: rest)) :=
  va_alen X.1.1 X.1.2.1 X.2.1 hw.1 q0 t0 ha ht hv hdg kk
theorem k_iast {a : Nat} (X : CX p m c cc nL s args own D ct) (hw : WD D A H0 H locs ws) (q0 : Nat) {n : Nat} {f : Nat → Int32} (ha : ws[q0]? = some (a, .inl (ct 0, n, .inl f))) {i x : Int32} (hin : vp_in i n) (hdg : decode cc pc = .ok (.iastore, 1)) (w1 : va_W) (h1 : ws.set q0 (a, .inl (ct 0, n, .inl (upd f i.toNatClampNeg x))) = w1)
    (kk : ∀ (H1 : Heap) (locs1 : List Loc), WD D A H0 H1 locs1 w1 → W p l e R s m args below meth c H1 locs1 cells slots Q (F0 m (pc + 1) ls rest)) : W p l e R s m args below meth c H locs cells slots Q (F0 m pc ls (.int x :: .int i :: .ref a :: rest)) := by
  subst h1; exact va_iast X.1.1 X.1.2.1 X.2.1 hw.1 hw.2.1 hw.2.2.1 q0 0 ha rfl hin hdg (fun H1 l1 a b d => kk H1 l1 ⟨a, b, d, hw.2.2.2⟩)
theorem k_last {a : Nat} (X : CX p m c cc nL s args own D ct) (hw : WD D A H0 H locs ws) (q0 : Nat) {n : Nat} {f : Nat → Int64} (ha : ws[q0]? = some (a, .inl (ct 2, n, .inr (.inl f)))) {i : Int32} {x : Int64} (hin : vp_in i n) (hdg : decode cc pc = .ok (.lastore, 1)) (w1 : va_W) (h1 : ws.set q0 (a, .inl (ct 2, n, .inr (.inl (vp_updL f i.toNatClampNeg x)))) = w1)
    (kk : ∀ (H1 : Heap) (locs1 : List Loc), WD D A H0 H1 locs1 w1 → W p l e R s m args below meth c H1 locs1 cells slots Q (F0 m (pc + 1) ls rest)) : W p l e R s m args below meth c H locs cells slots Q (F0 m pc ls (.long x :: .int i :: .ref a :: rest)) := by
  subst h1; exact va_last X.1.1 X.1.2.1 X.2.1 hw.1 hw.2.1 hw.2.2.1 q0 2 ha rfl hin hdg (fun H1 l1 a b d => kk H1 l1 ⟨a, b, d, hw.2.2.2⟩)
theorem k_bast {a : Nat} (X : CX p m c cc nL s args own D ct) (hw : WD D A H0 H locs ws) (q0 : Nat) {n : Nat} {f : Nat → Int32} (ha : ws[q0]? = some (a, .inl (ct 1, n, .inl f))) {i x : Int32} (hin : vp_in i n) (hdg : decode cc pc = .ok (.bastore, 1)) (w1 : va_W) (h1 : ws.set q0 (a, .inl (ct 1, n, .inl (upd f i.toNatClampNeg (vp_nar .byte x)))) = w1)
    (kk : ∀ (H1 : Heap) (locs1 : List Loc), WD D A H0 H1 locs1 w1 → W p l e R s m args below meth c H1 locs1 cells slots Q (F0 m (pc + 1) ls rest)) : W p l e R s m args below meth c H locs cells slots Q (F0 m pc ls (.int x :: .int i :: .ref a :: rest)) := by
  subst h1; exact va_bast X.1.1 X.1.2.1 X.2.1 hw.1 hw.2.1 hw.2.2.1 q0 1 ha rfl hin hdg (fun H1 l1 a b d => kk H1 l1 ⟨a, b, d, hw.2.2.2⟩)
theorem k_zast {a : Nat} (X : CX p m c cc nL s args own D ct) (hw : WD D A H0 H locs ws) (q0 : Nat) {n : Nat} {f : Nat → Int32} (ha : ws[q0]? = some (a, .inl (ct 3, n, .inl f))) {i x : Int32} (hin : vp_in i n) (hdg : decode cc pc = .ok (.bastore, 1)) (w1 : va_W) (h1 : ws.set q0 (a, .inl (ct 3, n, .inl (upd f i.toNatClampNeg (vp_nar .boolean x)))) = w1)
    (kk : ∀ (H1 : Heap) (locs1 : List Loc), WD D A H0 H1 locs1 w1 → W p l e R s m args below meth c H1 locs1 cells slots Q (F0 m (pc + 1) ls rest)) : W p l e R s m args below meth c H locs cells slots Q (F0 m pc ls (.int x :: .int i :: .ref a :: rest)) := by
  subst h1; exact va_zast X.1.1 X.1.2.1 X.2.1 hw.1 hw.2.1 hw.2.2.1 q0 3 ha rfl hin hdg (fun H1 l1 a b d => kk H1 l1 ⟨a, b, d, hw.2.2.2⟩)
theorem k_astq {a : Nat} (X : CX p m c cc nL s args own D ct) (hw : WD D A H0 H locs ws) (q0 t0 qk ci : Nat) {cA : ClassId} {r : vw_C} {n v : Nat} {vs : List Value} {f : Nat → Option Nat} (ha : ws[q0]? = some (a, .inl (cA, n, .inr (.inr (.inr (.inr f)))))) (ht : (tyL ct)[t0]? = some (cA, .object r.1)) (hv : ws[qk]? = some (v, .inr (ci, vs))) (hc : vwCl[ci]? = some r) {i : Int32} (hin : vp_in i n) (hdg : decode cc pc = .ok (.aastore, 1)) (w1 : va_W) (h1 : ws.set q0 (a, .inl (cA, n, .inr (.inr (.inr (.inr (va_up f i.toNatClampNeg (some v))))))) = w1)
    (kk : ∀ (H1 : Heap) (locs1 : List Loc), WD D A H0 H1 locs1 w1 → W p l e R s m args below meth c H1 locs1 cells slots Q (F0 m (pc + 1) ls rest)) : W p l e R s m args below meth c H locs cells slots Q (F0 m pc ls (.ref v :: .int i :: .ref a :: rest)) := by
  subst h1; exact va_astq X.1.1 X.1.2.1 X.2.1 hw.1 hw.2.1 hw.2.2.1 q0 t0 qk ci ha ht hv hc hin hdg (fun H1 l1 a b d => kk H1 l1 ⟨a, b, d, hw.2.2.2⟩)
theorem k_RA {cA cB : ClassId} {ty : FieldType} (h1 : va_RA s cA ty) (h2 : va_RA s cB ty) : cA = cB := by
  cases ty with
  | object C =>
    obtain ⟨_, _, _, _, _, e1⟩ := h1
    obtain ⟨_, _, _, _, _, e2⟩ := h2
    exact Option.some.inj (e1.symm.trans e2)
  | _ => exact Option.some.inj (Eq.trans (Eq.symm h1) h2)
theorem k_newa (X : CX p m c cc nL s args own D ct) (hw : WD D A H0 H locs ws) {atype : ArrayType} {ty : FieldType} (t0 : Nat) {cT : ClassId} (ht0 : (tyL ct)[t0]? = some (cT, ty)) (hty : newarray.typeOf atype = ty) (harr : Cond.arrayClass ty ∈ tb)
    {n : Int32} {N' : Nat} {a0 : vp_A} (ha : ∀ cA : ClassId, vp_cell cA a0 = arrV cA N' (fun _ => defaultValue ty)) (hn : ¬ n < 0) (hN : n.toNatClampNeg = N') (hbytes : N' * componentBytes ty ≤ 536870912) (hcells : cells + 1 ≤ R.cells) (hslots : slots + N' ≤ R.slots) (hdg : decode cc pc = .ok (.newarray atype, 2))
    (kk : ∀ (q : Nat) (H1 : Heap), WD D A H0 H1 locs (ws ++ [(q, .inl (cT, a0))]) → W p l e R s m args below meth c H1 locs (cells + 1) (slots + N') Q (F0 m (pc + 2) ls (.ref q :: rest))) : W p l e R s m args below meth c H locs cells slots Q (F0 m pc ls (.int n :: rest)) := by
  refine va_newa X.1.1 X.1.2.1 (by rw [hty]; exact X.1.2.2.2.2 _ harr) hty X.2.1 hw.1 hw.2.1 hw.2.2.1 hw.2.2.2 ha hn hN hbytes hcells hslots hdg (fun q cA H1 hK hP hD hS => ?_)
  have e : cA = cT := k_RA (hK.2 7 (cA, ty) rfl).2 (X.2.1.2 t0 _ ht0).2
  subst e
  exact kk q H1 ⟨hP, hD, hS, hw.2.2.2⟩
theorem k_newq (X : CX p m c cc nL s args own D ct) (hw : WD D A H0 H locs ws) {C : String} {index : Nat} (t0 : Nat) {cT : ClassId} (ht0 : (tyL ct)[t0]? = some (cT, .object C)) (hcl : Cond.classLink own index C ∈ tb) (hov : va_AO C s)
    {n : Int32} {N' : Nat} (hn : ¬ n < 0) (hN : n.toNatClampNeg = N') (hbytes : N' * 4 ≤ 536870912) (hcells : cells + 1 ≤ R.cells) (hslots : slots + N' ≤ R.slots) (hdg : decode cc pc = .ok (.anewarray index, 3))
    (kk : ∀ (q : Nat) (H1 : Heap), WD D A H0 H1 locs (ws ++ [(q, .inl (cT, N', .inr (.inr (.inr (.inr (fun _ => none))))))]) → W p l e R s m args below meth c H1 locs (cells + 1) (slots + N') Q (F0 m (pc + 3) ls (.ref q :: rest))) : W p l e R s m args below meth c H locs cells slots Q (F0 m pc ls (.int n :: rest)) := by
  refine va_newq X.1.1 X.1.2.1 X.1.2.2.2.1 (X.1.2.2.2.2 _ hcl) hov X.2.1 hw.1 hw.2.1 hw.2.2.1 hw.2.2.2 hn hN hbytes hcells hslots hdg (fun q cA H1 hK hP hD hS => ?_)
  have e : cA = cT := k_RA (hK.2 7 (cA, .object C) rfl).2 (X.2.1.2 t0 _ ht0).2
  subst e
  exact kk q H1 ⟨hP, hD, hS, hw.2.2.2⟩
theorem k_new (X : CX p m c cc nL s args own D ct) (hw : WD D A H0 H locs ws) {C : String} {T : u_T} {N ci index : Nat} (hin : ∀ w ∈ u_ws C T N, w ∈ tb) (ty : Nat → FieldType) (hty : ∀ k, k < N → parseFieldDescriptor (T k).2.2.1 = some (ty k)) (hcl : Cond.classLink own index C ∈ tb) (hinst : Cond.instantiable C N ∈ tb) (hini : Cond.initialized C ∈ tb) (hc : vwCl[ci]? = some (C, T, N)) {fs : List Value} (hfs : ∀ j, j < N → defaultValue (ty j) = vp_V fs j) (hcells : cells + 1 ≤ R.cells) (hslots : slots + N ≤ R.slots) (hdg : decode cc pc = .ok (.new index, 3))
    (kk : ∀ (q : Nat) (H1 : Heap), WD D A H0 H1 locs (ws ++ [(q, .inr (ci, fs))]) → W p l e R s m args below meth c H1 locs (cells + 1) (slots + N) Q (F0 m (pc + 3) ls (.ref q :: rest))) : W p l e R s m args below meth c H locs cells slots Q (F0 m pc ls rest) :=
  va_new X.1.1 X.1.2.1 X.1.2.2.2.2 hin ty hty X.1.2.2.2.1 (X.1.2.2.2.2 _ hcl) (X.1.2.2.2.2 _ hinst) (X.1.2.2.2.2 _ hini) X.2.1 hw.1 hw.2.1 hw.2.2.1 hw.2.2.2 hc hfs hcells hslots hdg (fun q H1 hP hD hS => kk q H1 ⟨hP, hD, hS, hw.2.2.2⟩)
theorem k_objInit {a ix : Nat} (X : CX p m c cc nL s args own D ct) (hls : ls.size = nL) (h1 : Cond.methodLink own ix objectInit ∈ tb) (h2 : Cond.instanceMethod objectInit ∈ tb) (h3 : Cond.code objectInit ⟨#[0xb1]⟩ 1 none ∈ tb) (hf : 1 ≤ R.frames) (hl : (rest.map fun v => v.category).sum + 12 ≤ R.locals) (hdg : decode cc pc = .ok (.invokespecial ix, 3))
    (kk : W p l e R s m args below meth c H locs cells slots Q (F0 m (pc + 3) ls rest)) : W p l e R s m args below meth c H locs cells slots Q (F0 m pc ls (.ref a :: rest)) :=
  W.objInit X.1.1 X.1.2.1 X.1.2.2.2.1 (X.1.2.2.2.2 _ h1) (X.1.2.2.2.2 _ h2) (X.1.2.2.2.2 _ h3) rfl (by rw [X.1.2.2.1]; exact hls) rfl hdg hf (by show 2 * 0 + _ + 12 ≤ _; omega) kk
theorem k_get {a ci k N : Nat} {C ref : String} {T : u_T} {index : Nat} (X : CX p m c cc nL s args own D ct) (hin : ∀ w ∈ u_ws C T N, w ∈ tb) (hlk : Cond.fieldLink own index ref (T k).2.1 (T k).2.2.1 ∈ tb) (hsame : (T k).1 = ref) (hk : k < N) (hc : vwCl[ci]? = some (C, T, N)) (hw : WD D A H0 H locs ws) (q0 : Nat) {fs : List Value} {v : Value} (he : ws[q0]? = some (a, .inr (ci, fs))) (hv : fs[k]? = some v) (hdg : decode cc pc = .ok (.getfield index, 3))
    (kk : W p l e R s m args below meth c H locs cells slots Q (F0 m (pc + 3) ls (v :: rest))) : W p l e R s m args below meth c H locs cells slots Q (F0 m pc ls (.ref a :: rest)) :=
  va_get X.1.1 X.1.2.1 X.1.2.2.2.2 hin X.1.2.2.2.1 X.2.1 hw.1 q0 he hc k hk (X.1.2.2.2.2 _ hlk) (fun _ h9 => by rw [← hsame]; exact h9) hv hdg kk
theorem k_put {a ci k N : Nat} {C ref : String} {T : u_T} {index : Nat} {ty0 : Nat → FieldType} {ty : FieldType} (X : CX p m c cc nL s args own D ct) (hin : ∀ w ∈ u_ws C T N, w ∈ tb) (hty : ∀ k, k < N → parseFieldDescriptor (T k).2.2.1 = some (ty0 k)) (hnm : ∀ a, a < N → ∀ b, b < N → a ≠ b → (T a).2.1 ≠ (T b).2.1) (hlk : Cond.fieldLink own index ref (T k).2.1 (T k).2.2.1 ∈ tb) (hsame : (T k).1 = ref) (hk : k < N) (hc : vwCl[ci]? = some (C, T, N)) (hfin : (T k).2.2.2 = false) (hd : parseFieldDescriptor (T k).2.2.1 = some ty) (hw : WD D A H0 H locs ws) (q0 : Nat) {fs : List Value} {v : Value} (he : ws[q0]? = some (a, .inr (ci, fs))) (hn : narrow ty v = v) (hfit : fits ty v = true) (hl : k < fs.length) (hdg : decode cc pc = .ok (.putfield index, 3)) (w1 : va_W) (h1 : ws.set q0 (a, .inr (ci, fs.set k v)) = w1)
    (kk : ∀ (H1 : Heap) (locs1 : List Loc), WD D A H0 H1 locs1 w1 → W p l e R s m args below meth c H1 locs1 cells slots Q (F0 m (pc + 3) ls rest)) : W p l e R s m args below meth c H locs cells slots Q (F0 m pc ls (v :: .ref a :: rest)) := by
  subst h1
  exact va_put X.1.1 X.1.2.1 X.1.2.2.2.2 hin ty0 hty hnm X.1.2.2.2.1 X.2.1 hw.1 hw.2.1 hw.2.2.1 q0 he hc k hk (X.1.2.2.2.2 _ hlk) (fun _ h9 => by rw [← hsame]; exact h9) hfin hd hn hfit hl hdg (fun H1 l1 a b d => kk H1 l1 ⟨a, b, d, hw.2.2.2⟩)
theorem k_putF {a ci k N : Nat} {C ref : String} {T : u_T} {index : Nat} {ty0 : Nat → FieldType} {ty : FieldType} (X : CX p m c cc nL s args own D ct) (hin : ∀ w ∈ u_ws C T N, w ∈ tb) (hty : ∀ k, k < N → parseFieldDescriptor (T k).2.2.1 = some (ty0 k)) (hnm : ∀ a, a < N → ∀ b, b < N → a ≠ b → (T a).2.1 ≠ (T b).2.1) (hlk : Cond.fieldLink own index ref (T k).2.1 (T k).2.2.1 ∈ tb) (hsame : (T k).1 = ref) (hk : k < N) (hc : vwCl[ci]? = some (C, T, N)) (hfin : (T k).2.2.2 = true) (hdecl : (T k).1 = own) (hd : parseFieldDescriptor (T k).2.2.1 = some ty) (hnam : meth.name = "<init>") (hw : WD D A H0 H locs ws) (q0 : Nat) {fs : List Value} {v : Value} (he : ws[q0]? = some (a, .inr (ci, fs))) (hn : narrow ty v = v) (hfit : fits ty v = true) (hl : k < fs.length) (hdg : decode cc pc = .ok (.putfield index, 3)) (w1 : va_W) (h1 : ws.set q0 (a, .inr (ci, fs.set k v)) = w1)
    (kk : ∀ (H1 : Heap) (locs1 : List Loc), WD D A H0 H1 locs1 w1 → W p l e R s m args below meth c H1 locs1 cells slots Q (F0 m (pc + 3) ls rest)) : W p l e R s m args below meth c H locs cells slots Q (F0 m pc ls (v :: .ref a :: rest)) := by
  subst h1
  exact va_putF X.1.1 X.1.2.1 X.1.2.2.2.2 hin ty0 hty hnm X.1.2.2.2.1 X.2.1 hw.1 hw.2.1 hw.2.2.1 q0 he hc k hk (X.1.2.2.2.2 _ hlk) (fun _ h9 => by rw [← hsame]; exact h9) hfin hnam hdecl hd hn hfit hl hdg (fun H1 l1 a b d => kk H1 l1 ⟨a, b, d, hw.2.2.2⟩)
theorem k_copyi {a a0 ix : Nat} (X : CX p m c cc nL s args own D ct) (hls : ls.size = nL) (h1 : Cond.methodLink own ix arraycopyName ∈ tb) (h2 : Cond.native arraycopyName ∈ tb) (h3 : Cond.static arraycopyName ∈ tb) (h4 : Cond.initialized "java/lang/System" ∈ tb) (hw : WD D A H0 H locs ws) (q0 q1 : Nat) {n0 n1 : Nat} {f g : Nat → Int32} (ha0 : ws[q0]? = some (a0, .inl (ct 0, n0, .inl f))) (ha1 : ws[q1]? = some (a, .inl (ct 0, n1, .inl g)))
    {sp dp n : Int32} (g1 : ¬ sp < 0) (g2 : ¬ dp < 0) (g3 : ¬ n < 0) (g4 : sp.toNatClampNeg + n.toNatClampNeg ≤ n0) (g5 : dp.toNatClampNeg + n.toNatClampNeg ≤ n1) (hf : 1 ≤ R.frames) (hl : (rest.map fun v => v.category).sum + (nativeFrameWords "java/lang/System" "arraycopy" 5 + 11) ≤ R.locals) (hdg : decode cc pc = .ok (.invokestatic ix, 3)) (w1 : va_W) (hw1 : ws.set q1 (a, .inl (ct 0, n1, .inl (va_cpy f g sp.toNatClampNeg dp.toNatClampNeg n.toNatClampNeg))) = w1)
    (kk : ∀ (H1 : Heap) (locs1 : List Loc), WD D A H0 H1 locs1 w1 → W p l e R s m args below meth c H1 locs1 cells slots Q (F0 m (pc + 3) ls rest)) : W p l e R s m args below meth c H locs cells slots Q (F0 m pc ls (.int n :: .int dp :: .ref a :: .int sp :: .ref a0 :: rest)) := by
  subst hw1
  exact va_copyi X.1.1 X.1.2.1 (by rw [X.1.2.2.1, hls]) X.1.2.2.2.1 (X.1.2.2.2.2 _ h1) (X.1.2.2.2.2 _ h2) (X.1.2.2.2.2 _ h3) (X.1.2.2.2.2 _ h4) X.2.1 hw.1 hw.2.1 hw.2.2.1 q0 q1 0 0 ha0 ha1 rfl rfl rfl g1 g2 g3 g4 g5 (fun _ _ => rfl) hf hl hdg (fun H1 l1 a b d => kk H1 l1 ⟨a, b, d, hw.2.2.2⟩)
theorem k_min {x y v : Int32} {ix : Nat} (X : CX p m c cc nL s args own D ct) (hls : ls.size = nL) (h1 : Cond.methodLink own ix Lib.Math.min.name ∈ tb) (h2 : Cond.static Lib.Math.min.name ∈ tb) (h3 : Cond.initialized "java/lang/Math" ∈ tb) (h4 : Cond.code Lib.Math.min.name Lib.Math.min.code 2 (some .int) ∈ tb) (hf : 1 ≤ R.frames) (hl : (rest.map fun v => v.category).sum + 13 ≤ R.locals) (hc : cells ≤ R.cells) (hs : slots ≤ R.slots) (hv : (if y < x then y else x) = v) (hdg : decode cc pc = .ok (.invokestatic ix, 3))
    (kk : W p l e R s m args below meth c H locs cells slots Q (F0 m (pc + 3) ls (.int v :: rest))) : W p l e R s m args below meth c H locs cells slots Q (F0 m pc ls (.int y :: .int x :: rest)) := by
  subst hv; exact va_mmin X.1.1 X.1.2.1 (by rw [X.1.2.2.1, hls]) X.1.2.2.2.1 (X.1.2.2.2.2 _ h1) (X.1.2.2.2.2 _ h2) (X.1.2.2.2.2 _ h3) (X.1.2.2.2.2 _ h4) hf hl hc hs hdg kk
theorem k_max {x y v : Int32} {ix : Nat} (X : CX p m c cc nL s args own D ct) (hls : ls.size = nL) (h1 : Cond.methodLink own ix Lib.Math.max.name ∈ tb) (h2 : Cond.static Lib.Math.max.name ∈ tb) (h3 : Cond.initialized "java/lang/Math" ∈ tb) (h4 : Cond.code Lib.Math.max.name Lib.Math.max.code 2 (some .int) ∈ tb) (hf : 1 ≤ R.frames) (hl : (rest.map fun v => v.category).sum + 13 ≤ R.locals) (hc : cells ≤ R.cells) (hs : slots ≤ R.slots) (hv : (if x < y then y else x) = v) (hdg : decode cc pc = .ok (.invokestatic ix, 3))
    (kk : W p l e R s m args below meth c H locs cells slots Q (F0 m (pc + 3) ls (.int v :: rest))) : W p l e R s m args below meth c H locs cells slots Q (F0 m pc ls (.int y :: .int x :: rest)) := by
  subst hv; exact va_mmax X.1.1 X.1.2.1 (by rw [X.1.2.2.1, hls]) X.1.2.2.2.1 (X.1.2.2.2.2 _ h1) (X.1.2.2.2.2 _ h2) (X.1.2.2.2.2 _ h3) (X.1.2.2.2.2 _ h4) hf hl hc hs hdg kk
/-! calls -/
theorem pc_blind {av : List Value} {W0 : va_W} {sz : Nat} : FrameBlind (PC D ct av W0 sz) := by
  intro a U g mk q
  obtain ⟨q0, q1, qP, qK, qD⟩ := q
  exact ⟨q0, q1, qP, KK.same (s := U) (U := U.calling g mk a) rfl qK, qD⟩
theorem pc_pre {av : List Value} {W0 : va_W} (X : CX p m c cc nL s args own D ct) (hw : WD D A H0 H locs W0) : ∀ U : State, U.heap = H → s.WarmedH U.vm → PC D ct av W0 H.size av.toArray U :=
  fun U hU hW => ⟨rfl, by rw [hU], by rw [hU]; exact hw.1, KK.moved hW X.2, hw.2.1.weaken (fun _ _ _ _ => trivial)⟩
theorem wd_free {W0 : va_W} (hw : WD D A H0 H locs ws) (isC : List Nat) (hC : isC.map (fun i => ws[i]?) = W0.map some) : ∀ q, va_A W0 H.size q → A q := va_free hw.2.1 hw.2.2.1 hw.2.2.2 isC hC
theorem wd_join {W0 wr w1 : va_W} {H1 : Heap} {locs1 : List Loc} (hw : WD D A H0 H locs ws) (isC isR : List Nat) (hC : isC.map (fun i => ws[i]?) = W0.map some) (hR : isR.map (fun i => ws[i]?) = wr.map some) (hn : va_nd isR = true) (hdis : ∀ i ∈ isR, i ∉ isC) (hk : ∀ q : Nat, q < H.size → ¬ va_A W0 H.size q → H1[q]? = H[q]?) (hP1 : va_P D vwCl w1 H1) (hD1 : va_D (va_A W0 H.size) w1) (hS : va_S A H0 H1 locs1) : WD D A H0 H1 locs1 (wr ++ w1) := by
  obtain ⟨a, b⟩ := va_join hw.1 hw.2.1 isC isR hC hR hn hdis hk (wd_free hw isC hC) hP1 hD1
  exact ⟨a, b, hS, hw.2.2.2⟩
theorem kc_i {W0 wr : va_W} {post : Int32 → Prop} {W1 : (Nat → Nat) → va_W} {st0 : List Value} {mc ms : Nat} {av : Array Value} (hw : WD D A H0 H locs ws) (isC isR : List Nat) (hC : isC.map (fun i => ws[i]?) = W0.map some) (hR : isR.map (fun i => ws[i]?) = wr.map some) (hn : va_nd isR = true) (hdis : ∀ i ∈ isR, i ∉ isC)
    (hr : va_Run p l e R s m args below meth c H locs cells slots mc ms (F0 m pc ls st0) rest (QcI D (va_A W0 H.size) post W1 av) (va_A W0 H.size))
    (kk : ∀ (r : Int32) (u : Nat → Nat) (H1 : Heap) (locs1 : List Loc), post r → WD D A H0 H1 locs1 (wr ++ W1 u) → W p l e R s m args below meth c H1 locs1 (cells + mc) (slots + ms) Q (F0 m (pc + 3) ls (.int r :: rest))) : W p l e R s m args below meth c H locs cells slots Q (F0 m pc ls st0) :=
  va_calli hr hw.2.2.1 (fun q _ h => wd_free hw isC hC q h) (wd_free hw isC hC) (fun r u t H1 locs1 ht hvm hp hB hz hk hS => kk r u H1 locs1 hp (wd_join hw isC isR hC hR hn hdis hk (by rw [← ht]; exact hB.1) hB.2 hS))
theorem kc_l {W0 wr : va_W} {post : Int64 → Prop} {W1 : (Nat → Nat) → va_W} {st0 : List Value} {mc ms : Nat} {av : Array Value} (hw : WD D A H0 H locs ws) (isC isR : List Nat) (hC : isC.map (fun i => ws[i]?) = W0.map some) (hR : isR.map (fun i => ws[i]?) = wr.map some) (hn : va_nd isR = true) (hdis : ∀ i ∈ isR, i ∉ isC)
    (hr : va_Run p l e R s m args below meth c H locs cells slots mc ms (F0 m pc ls st0) rest (QcL D (va_A W0 H.size) post W1 av) (va_A W0 H.size))
    (kk : ∀ (r : Int64) (u : Nat → Nat) (H1 : Heap) (locs1 : List Loc), post r → WD D A H0 H1 locs1 (wr ++ W1 u) → W p l e R s m args below meth c H1 locs1 (cells + mc) (slots + ms) Q (F0 m (pc + 3) ls (.long r :: rest))) : W p l e R s m args below meth c H locs cells slots Q (F0 m pc ls st0) :=
  va_calll hr hw.2.2.1 (fun q _ h => wd_free hw isC hC q h) (wd_free hw isC hC) (fun r u t H1 locs1 ht hvm hp hB hz hk hS => kk r u H1 locs1 hp (wd_join hw isC isR hC hR hn hdis hk (by rw [← ht]; exact hB.1) hB.2 hS))
theorem kc_v {W0 wr : va_W} {post : Prop} {W1 : (Nat → Nat) → va_W} {st0 : List Value} {mc ms : Nat} {av : Array Value} (hw : WD D A H0 H locs ws) (isC isR : List Nat) (hC : isC.map (fun i => ws[i]?) = W0.map some) (hR : isR.map (fun i => ws[i]?) = wr.map some) (hn : va_nd isR = true) (hdis : ∀ i ∈ isR, i ∉ isC)
    (hr : va_Run p l e R s m args below meth c H locs cells slots mc ms (F0 m pc ls st0) rest (QcV D (va_A W0 H.size) post W1 av) (va_A W0 H.size))
    (kk : ∀ (u : Nat → Nat) (H1 : Heap) (locs1 : List Loc), post → WD D A H0 H1 locs1 (wr ++ W1 u) → W p l e R s m args below meth c H1 locs1 (cells + mc) (slots + ms) Q (F0 m (pc + 3) ls rest)) : W p l e R s m args below meth c H locs cells slots Q (F0 m pc ls st0) :=
  va_callv hr hw.2.2.1 (fun q _ h => wd_free hw isC hC q h) (wd_free hw isC hC) (fun u t H1 locs1 ht hvm hp hB hz hk hS => kk u H1 locs1 hp (wd_join hw isC isR hC hR hn hdis hk (by rw [← ht]; exact hB.1) hB.2 hS))
theorem kr_V {W0 : va_W} {C : String} {ix maxL n b : Nat} {y : MethodName} {bytes : ByteArray} {ret : Option FieldType} {rm : Room} {Qc : Array Value → State → Outcome → State → Prop} {free : Addr → Prop} {As st0 : List Value} (X : CX p m c cc nL s args own D ct) (hls : ls.size = nL) (hG : GoodIn tb (wsV own ix C y (Cond.code y bytes maxL ret :: tb)))
    (hd : y.cls = C ∧ y.cls ≠ "java/lang/invoke/MethodHandle" ∧ y.cls ≠ "java/lang/invoke/VarHandle" ∧ (parseMethodDescriptor y.desc).map (fun d => d.parameters.length) = some n)
    (hw : WD D A H0 H locs ws) (isC : List Nat) (hn : va_nd isC = true) (hC : isC.map (fun i => ws[i]?) = W0.map some) (hM : Met l y (Cond.code y bytes maxL ret :: tb) rm (PC D ct (.ref b :: As) W0 H.size) Qc rm.cells rm.slots free) {q0 ci N : Nat} {T : u_T} {fs : List Value} (hq : W0[q0]? = some (b, .inr (ci, fs))) (hci : vwCl[ci]? = some (C, T, N))
    (hR : rm.frames + 1 ≤ R.frames ∧ 8 + (maxL + 11) + rm.locals ≤ R.locals) (hl : As.length = n) (hst : st0 = As.reverse ++ .ref b :: rest) (hr8 : (rest.map fun v => v.category).sum ≤ 8) (hdg : decode cc pc = .ok (.invokevirtual ix, 3)) (hf : cells + rm.cells ≤ R.cells ∧ slots + rm.slots ≤ R.slots) :
    va_Run p l e R s m args below meth c H locs cells slots rm.cells rm.slots (F0 m pc ls st0) rest (Qc (Value.ref b :: As).toArray) free :=
  have hw0 := hw.sub isC hn hC
  va_runV X.1 hM (cwV n X.1.2.2.2.2 hG rfl rfl rfl hd hR) ⟨pc_blind, va_recv X.2.1 hw0.1 hci hq, pc_pre X hw0⟩ rfl hl hls hst (lv_room hr8) hdg hf
theorem kr_S {W0 : va_W} {ix maxL n : Nat} {y : MethodName} {bytes : ByteArray} {ret : Option FieldType} {rm : Room} {Qc : Array Value → State → Outcome → State → Prop} {free : Addr → Prop} {As st0 : List Value} (X : CX p m c cc nL s args own D ct) (hls : ls.size = nL) (hG : GoodIn tb (va_wsS own ix y (Cond.code y bytes maxL ret :: tb)))
    (hd : y.cls ≠ "java/lang/invoke/MethodHandle" ∧ y.cls ≠ "java/lang/invoke/VarHandle" ∧ (parseMethodDescriptor y.desc).map (fun d => d.parameters.length) = some n)
    (hw : WD D A H0 H locs ws) (isC : List Nat) (hn : va_nd isC = true) (hC : isC.map (fun i => ws[i]?) = W0.map some) (hM : Met l y (Cond.code y bytes maxL ret :: tb) rm (PC D ct As W0 H.size) Qc rm.cells rm.slots free)
    (hR : rm.frames + 1 ≤ R.frames ∧ 8 + (maxL + 11) + rm.locals ≤ R.locals) (hl : As.length = n) (hst : st0 = As.reverse ++ rest) (hr8 : (rest.map fun v => v.category).sum ≤ 8) (hdg : decode cc pc = .ok (.invokestatic ix, 3)) (hf : cells + rm.cells ≤ R.cells ∧ slots + rm.slots ≤ R.slots) :
    va_Run p l e R s m args below meth c H locs cells slots rm.cells rm.slots (F0 m pc ls st0) rest (Qc As.toArray) free :=
  have hw0 := hw.sub isC hn hC
  va_runS X.1 hM (va_cwS n X.1.2.2.2.2 hG rfl rfl rfl hd hR) ⟨pc_blind, pc_pre X hw0⟩ rfl hl hls hst (lv_room hr8) hdg hf
theorem kr_I {W0 : va_W} {ix maxL n b : Nat} {y : MethodName} {bytes : ByteArray} {rm : Room} {Qc : Array Value → State → Outcome → State → Prop} {free : Addr → Prop} {As st0 : List Value} (X : CX p m c cc nL s args own D ct) (hls : ls.size = nL) (hG : Cond.code y bytes maxL none ∈ tb) (g1 : Cond.initialized y.cls ∈ tb) (g2 : Cond.methodLink own ix y ∈ tb) (g3 : Cond.instanceMethod y ∈ tb) (hy : y.name = "<init>")
    (hd : y.cls ≠ "java/lang/invoke/MethodHandle" ∧ y.cls ≠ "java/lang/invoke/VarHandle" ∧ (parseMethodDescriptor y.desc).map (fun d => d.parameters.length) = some n)
    (hw : WD D A H0 H locs ws) (isC : List Nat) (hn : va_nd isC = true) (hC : isC.map (fun i => ws[i]?) = W0.map some) (hM : Met l y (Cond.code y bytes maxL none :: tb) rm (PC D ct (.ref b :: As) W0 H.size) Qc rm.cells rm.slots free)
    (hR : rm.frames + 1 ≤ R.frames ∧ 8 + (maxL + 11) + rm.locals ≤ R.locals) (hl : As.length = n) (hst : st0 = As.reverse ++ .ref b :: rest) (hr8 : (rest.map fun v => v.category).sum ≤ 8) (hdg : decode cc pc = .ok (.invokespecial ix, 3)) (hf : cells + rm.cells ≤ R.cells ∧ slots + rm.slots ≤ R.slots) :
    va_Run p l e R s m args below meth c H locs cells slots rm.cells rm.slots (F0 m pc ls st0) rest (Qc (Value.ref b :: As).toArray) free :=
  have hw0 := hw.sub isC hn hC
  va_runI X.1 hM (cwI n X.1.2.2.2.2 (gd_c hG) rfl rfl rfl (X.1.2.2.2.2 _ g1) (X.1.2.2.2.2 _ g2) (X.1.2.2.2.2 _ g3) hy hd hR) ⟨pc_blind, pc_pre X hw0⟩ rfl hl hls hst (lv_room hr8) hdg hf
theorem kr_IN {W0 : va_W} {ix maxL n b : Nat} {host : String} {y : MethodName} {bytes : ByteArray} {rm : Room} {Qc : Array Value → State → Outcome → State → Prop} {free : Addr → Prop} {As st0 : List Value} (X : CX p m c cc nL s args own D ct) (hls : ls.size = nL) (hG : Cond.code y bytes maxL none ∈ tb) (g1 : Cond.initialized y.cls ∈ tb) (g2 : va_Nw (.methodLinkNest own ix y host) s) (g3 : Cond.instanceMethod y ∈ tb) (hy : y.name = "<init>")
    (hd : y.cls ≠ "java/lang/invoke/MethodHandle" ∧ y.cls ≠ "java/lang/invoke/VarHandle" ∧ (parseMethodDescriptor y.desc).map (fun d => d.parameters.length) = some n)
    (hw : WD D A H0 H locs ws) (isC : List Nat) (hn : va_nd isC = true) (hC : isC.map (fun i => ws[i]?) = W0.map some) (hM : Met l y (Cond.code y bytes maxL none :: tb) rm (PC D ct (.ref b :: As) W0 H.size) Qc rm.cells rm.slots free)
    (hR : rm.frames + 1 ≤ R.frames ∧ 8 + (maxL + 11) + rm.locals ≤ R.locals) (hl : As.length = n) (hst : st0 = As.reverse ++ .ref b :: rest) (hr8 : (rest.map fun v => v.category).sum ≤ 8) (hdg : decode cc pc = .ok (.invokespecial ix, 3)) (hf : cells + rm.cells ≤ R.cells ∧ slots + rm.slots ≤ R.slots) :
    va_Run p l e R s m args below meth c H locs cells slots rm.cells rm.slots (F0 m pc ls st0) rest (Qc (Value.ref b :: As).toArray) free :=
  have hw0 := hw.sub isC hn hC
  va_runIN X.1 hM ⟨va_cnB n X.1.2.2.2.2 (gd_c hG) rfl rfl rfl g2 (X.1.2.2.2.2 _ g1) hd hR, hy, X.1.2.2.2.2 _ g3⟩ ⟨pc_blind, pc_pre X hw0⟩ rfl hl hls hst (lv_room hr8) hdg hf
end KW
