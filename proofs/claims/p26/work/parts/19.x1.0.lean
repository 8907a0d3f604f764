/-! DiamondRows$CutText.faultKind()I -/
abbrev zr_X1_faultKind : Room := { frames := 0, cells := 0, slots := 0, locals := 0 }
noncomputable def zf_X1_faultKind (mk : Nat) (t_faultKind : Int)  : Option (Int) :=
  some (t_faultKind)
theorem zi_X1_faultKind_X1 : ∀ w ∈ u_ws RX1 TX1 6, w ∈ wsX1_faultKind := by decide +kernel
theorem zl_X1_faultKind_15 : Cond.fieldLink RX1 15 "DiamondRows$CutText" "faultKind" "I" ∈ wsX1_faultKind := by decide +kernel
def zQ_X1_faultKind (p : Program) (l : Launch) (e : Env) (s : State) (m : MethodId) (args : Array Value) (below : List Frame) (meth : Method) (c : Code) (Q : State → Prop) (H : Heap) (locs : List Loc)  (o : Int) : Prop := ∀ (ls : Array Slot) (pc : Nat), decode cX1_faultKind pc = .ok (.ireturn, 1) → W p l e zr_X1_faultKind s m args below meth c H locs 0 0 Q (F0 m pc ls [.int (zi o)])
set_option maxHeartbeats 4000000 in
set_option maxRecDepth 100000 in
theorem zs_X1_faultKind {p : Program} {l : Launch} {e : Env} {s : State} {m : MethodId} {args : Array Value} {below : List Frame} {meth : Method} {c : Code} {Q : State → Prop} {D : va_G} {κ : Nat → ClassId} {H : Heap} {locs : List Loc} (t : Nat → Nat) (mk : Nat) (ad : Nat → Nat → Nat) (t_faultKind : Int) (t_faultPlace : Int) (t_expected : Int) (t_first : Int) (t_polygon : Nat) (t_bits : Int)  (hx : p.tables.exec = Jvm.exec) (hb : c.code = cX1_faultKind) (hml : c.maxLocals = 1) (hown : s.vm.findClass RX1 = some m.cls) (hts : ∀ w ∈ wsX1_faultKind, w.before args s = true) (hK : va_K D vwCl (zTY κ) s) (hP : va_P D vwCl ([((t 0), .inr (1, [.int (zi t_faultKind), .int (zi t_faultPlace), .int (zi t_expected), .int (zi t_first), zpg ad t_polygon, .int (zi t_bits)]))]) H) (hB : zAmb D κ mk ad H) (ls : Array Slot) (hl : lv_has ls 1 [(0, .ref (t 0))]) (hg : Go (zQ_X1_faultKind p l e s m args below meth c Q H locs) (zf_X1_faultKind mk t_faultKind )) : W p l e zr_X1_faultKind s m args below meth c H locs 0 0 Q (F0 m 0 ls []) := by
  unfold zf_X1_faultKind at hg
  refine lv_aload_n hx hb dX1_faultKind_0 rfl (lv_at hl 0 rfl) ?_
  refine va_get (D := D) (ci := 1) (v := .int (zi t_faultKind)) (C := RX1) (T := TX1) (N := 6) hx hb hts zi_X1_faultKind_X1 hown hK hP 0 rfl rfl 0 (by decide) (hts (.fieldLink RX1 15 "DiamondRows$CutText" "faultKind" "I") zl_X1_faultKind_15) (fun _ h9 => h9) rfl dX1_faultKind_1 ?_
  exact (Go_s hg) _ _ dX1_faultKind_4
set_option maxHeartbeats 4000000 in
set_option maxRecDepth 100000 in
theorem zc_X1_faultKind (l : Launch) (D : va_G) (κ : Nat → ClassId) (t : Nat → Nat) (mk : Nat) (ad : Nat → Nat → Nat) (t_faultKind : Int) (t_faultPlace : Int) (t_expected : Int) (t_first : Int) (t_polygon : Nat) (t_bits : Int)  (out : Int) (h : zf_X1_faultKind mk t_faultKind  = some out) : Met l yX1_faultKind wsX1_faultKind zr_X1_faultKind (va_Pc [.ref (t 0)] (zRa D κ mk ad ([((t 0), .inr (1, [.int (zi t_faultKind), .int (zi t_faultPlace), .int (zi t_expected), .int (zi t_first), zpg ad t_polygon, .int (zi t_bits)]))]))) (vp_Si (fun x => x = zi out)) 0 0 (fun _ => False) := by
  refine Met.ofW (cc := cX1_faultKind) (maxL := 1) (ret := (some .int)) (by decide +kernel) rfl ?_
  intro p e s m args below meth c s₁ B hml hv
  obtain ⟨rfl, hP, hK, hB⟩ := hv
  have hx := B.exec
  have hb := B.bytes
  have hr := B.returns
  have hts := atoms_spec (ws := wsX1_faultKind) B.pre
  have hown : s.vm.findClass RX1 = some m.cls := findClass_of_methodNamed B.named
  have hlocks := B.notSynchronized
  have hl := lv_entry ([.ref (t 0)]) (n := 1) (Nat.le_of_ble_eq_true rfl)
  rw [lg_entry_eq]
  generalize (lg_sl ([.ref (t 0)]) ++ List.replicate (1 - (lg_sl ([.ref (t 0)])).length) Slot.unset).toArray = ls at hl ⊢
  have hl : lv_has ls 1 [(0, .ref (t 0))] := hl
  refine zs_X1_faultKind t mk ad t_faultKind t_faultPlace t_expected t_first t_polygon t_bits  hx hb hml hown hts hK hP hB ls hl ⟨out, h, ?_⟩
  exact fun ls pc hd => W.iret hx hb hr (fun t ht hW => ⟨_, rfl, rfl, ht⟩) (fun _ h => by cases h) hd
/-! DiamondRows$CutText.faultPlace()I -/
abbrev zr_X1_faultPlace : Room := { frames := 0, cells := 0, slots := 0, locals := 0 }
noncomputable def zf_X1_faultPlace (mk : Nat) (t_faultPlace : Int)  : Option (Int) :=
  some (t_faultPlace)
theorem zi_X1_faultPlace_X1 : ∀ w ∈ u_ws RX1 TX1 6, w ∈ wsX1_faultPlace := by decide +kernel
theorem zl_X1_faultPlace_9 : Cond.fieldLink RX1 9 "DiamondRows$CutText" "faultPlace" "I" ∈ wsX1_faultPlace := by decide +kernel
def zQ_X1_faultPlace (p : Program) (l : Launch) (e : Env) (s : State) (m : MethodId) (args : Array Value) (below : List Frame) (meth : Method) (c : Code) (Q : State → Prop) (H : Heap) (locs : List Loc)  (o : Int) : Prop := ∀ (ls : Array Slot) (pc : Nat), decode cX1_faultPlace pc = .ok (.ireturn, 1) → W p l e zr_X1_faultPlace s m args below meth c H locs 0 0 Q (F0 m pc ls [.int (zi o)])
set_option maxHeartbeats 4000000 in
set_option maxRecDepth 100000 in
theorem zs_X1_faultPlace {p : Program} {l : Launch} {e : Env} {s : State} {m : MethodId} {args : Array Value} {below : List Frame} {meth : Method} {c : Code} {Q : State → Prop} {D : va_G} {κ : Nat → ClassId} {H : Heap} {locs : List Loc} (t : Nat → Nat) (mk : Nat) (ad : Nat → Nat → Nat) (t_faultKind : Int) (t_faultPlace : Int) (t_expected : Int) (t_first : Int) (t_polygon : Nat) (t_bits : Int)  (hx : p.tables.exec = Jvm.exec) (hb : c.code = cX1_faultPlace) (hml : c.maxLocals = 1) (hown : s.vm.findClass RX1 = some m.cls) (hts : ∀ w ∈ wsX1_faultPlace, w.before args s = true) (hK : va_K D vwCl (zTY κ) s) (hP : va_P D vwCl ([((t 0), .inr (1, [.int (zi t_faultKind), .int (zi t_faultPlace), .int (zi t_expected), .int (zi t_first), zpg ad t_polygon, .int (zi t_bits)]))]) H) (hB : zAmb D κ mk ad H) (ls : Array Slot) (hl : lv_has ls 1 [(0, .ref (t 0))]) (hg : Go (zQ_X1_faultPlace p l e s m args below meth c Q H locs) (zf_X1_faultPlace mk t_faultPlace )) : W p l e zr_X1_faultPlace s m args below meth c H locs 0 0 Q (F0 m 0 ls []) := by
  unfold zf_X1_faultPlace at hg
  refine lv_aload_n hx hb dX1_faultPlace_0 rfl (lv_at hl 0 rfl) ?_
  refine va_get (D := D) (ci := 1) (v := .int (zi t_faultPlace)) (C := RX1) (T := TX1) (N := 6) hx hb hts zi_X1_faultPlace_X1 hown hK hP 0 rfl rfl 1 (by decide) (hts (.fieldLink RX1 9 "DiamondRows$CutText" "faultPlace" "I") zl_X1_faultPlace_9) (fun _ h9 => h9) rfl dX1_faultPlace_1 ?_
  exact (Go_s hg) _ _ dX1_faultPlace_4
set_option maxHeartbeats 4000000 in
set_option maxRecDepth 100000 in
theorem zc_X1_faultPlace (l : Launch) (D : va_G) (κ : Nat → ClassId) (t : Nat → Nat) (mk : Nat) (ad : Nat → Nat → Nat) (t_faultKind : Int) (t_faultPlace : Int) (t_expected : Int) (t_first : Int) (t_polygon : Nat) (t_bits : Int)  (out : Int) (h : zf_X1_faultPlace mk t_faultPlace  = some out) : Met l yX1_faultPlace wsX1_faultPlace zr_X1_faultPlace (va_Pc [.ref (t 0)] (zRa D κ mk ad ([((t 0), .inr (1, [.int (zi t_faultKind), .int (zi t_faultPlace), .int (zi t_expected), .int (zi t_first), zpg ad t_polygon, .int (zi t_bits)]))]))) (vp_Si (fun x => x = zi out)) 0 0 (fun _ => False) := by
  refine Met.ofW (cc := cX1_faultPlace) (maxL := 1) (ret := (some .int)) (by decide +kernel) rfl ?_
  intro p e s m args below meth c s₁ B hml hv
  obtain ⟨rfl, hP, hK, hB⟩ := hv
  have hx := B.exec
  have hb := B.bytes
  have hr := B.returns
  have hts := atoms_spec (ws := wsX1_faultPlace) B.pre
  have hown : s.vm.findClass RX1 = some m.cls := findClass_of_methodNamed B.named
  have hlocks := B.notSynchronized
  have hl := lv_entry ([.ref (t 0)]) (n := 1) (Nat.le_of_ble_eq_true rfl)
  rw [lg_entry_eq]
  generalize (lg_sl ([.ref (t 0)]) ++ List.replicate (1 - (lg_sl ([.ref (t 0)])).length) Slot.unset).toArray = ls at hl ⊢
  have hl : lv_has ls 1 [(0, .ref (t 0))] := hl
  refine zs_X1_faultPlace t mk ad t_faultKind t_faultPlace t_expected t_first t_polygon t_bits  hx hb hml hown hts hK hP hB ls hl ⟨out, h, ?_⟩
  exact fun ls pc hd => W.iret hx hb hr (fun t ht hW => ⟨_, rfl, rfl, ht⟩) (fun _ h => by cases h) hd
/-! DiamondRows$CutText.bits()I -/
abbrev zr_X1_bits : Room := { frames := 0, cells := 0, slots := 0, locals := 0 }
noncomputable def zf_X1_bits (mk : Nat) (t_bits : Int)  : Option (Int) :=
  some (t_bits)
theorem zi_X1_bits_X1 : ∀ w ∈ u_ws RX1 TX1 6, w ∈ wsX1_bits := by decide +kernel
theorem zl_X1_bits_22 : Cond.fieldLink RX1 22 "DiamondRows$CutText" "bits" "I" ∈ wsX1_bits := by decide +kernel
def zQ_X1_bits (p : Program) (l : Launch) (e : Env) (s : State) (m : MethodId) (args : Array Value) (below : List Frame) (meth : Method) (c : Code) (Q : State → Prop) (H : Heap) (locs : List Loc)  (o : Int) : Prop := ∀ (ls : Array Slot) (pc : Nat), decode cX1_bits pc = .ok (.ireturn, 1) → W p l e zr_X1_bits s m args below meth c H locs 0 0 Q (F0 m pc ls [.int (zi o)])
set_option maxHeartbeats 4000000 in
set_option maxRecDepth 100000 in
theorem zs_X1_bits {p : Program} {l : Launch} {e : Env} {s : State} {m : MethodId} {args : Array Value} {below : List Frame} {meth : Method} {c : Code} {Q : State → Prop} {D : va_G} {κ : Nat → ClassId} {H : Heap} {locs : List Loc} (t : Nat → Nat) (mk : Nat) (ad : Nat → Nat → Nat) (t_faultKind : Int) (t_faultPlace : Int) (t_expected : Int) (t_first : Int) (t_polygon : Nat) (t_bits : Int)  (hx : p.tables.exec = Jvm.exec) (hb : c.code = cX1_bits) (hml : c.maxLocals = 1) (hown : s.vm.findClass RX1 = some m.cls) (hts : ∀ w ∈ wsX1_bits, w.before args s = true) (hK : va_K D vwCl (zTY κ) s) (hP : va_P D vwCl ([((t 0), .inr (1, [.int (zi t_faultKind), .int (zi t_faultPlace), .int (zi t_expected), .int (zi t_first), zpg ad t_polygon, .int (zi t_bits)]))]) H) (hB : zAmb D κ mk ad H) (ls : Array Slot) (hl : lv_has ls 1 [(0, .ref (t 0))]) (hg : Go (zQ_X1_bits p l e s m args below meth c Q H locs) (zf_X1_bits mk t_bits )) : W p l e zr_X1_bits s m args below meth c H locs 0 0 Q (F0 m 0 ls []) := by
  unfold zf_X1_bits at hg
  refine lv_aload_n hx hb dX1_bits_0 rfl (lv_at hl 0 rfl) ?_
  refine va_get (D := D) (ci := 1) (v := .int (zi t_bits)) (C := RX1) (T := TX1) (N := 6) hx hb hts zi_X1_bits_X1 hown hK hP 0 rfl rfl 5 (by decide) (hts (.fieldLink RX1 22 "DiamondRows$CutText" "bits" "I") zl_X1_bits_22) (fun _ h9 => h9) rfl dX1_bits_1 ?_
  exact (Go_s hg) _ _ dX1_bits_4
set_option maxHeartbeats 4000000 in
set_option maxRecDepth 100000 in
theorem zc_X1_bits (l : Launch) (D : va_G) (κ : Nat → ClassId) (t : Nat → Nat) (mk : Nat) (ad : Nat → Nat → Nat) (t_faultKind : Int) (t_faultPlace : Int) (t_expected : Int) (t_first : Int) (t_polygon : Nat) (t_bits : Int)  (out : Int) (h : zf_X1_bits mk t_bits  = some out) : Met l yX1_bits wsX1_bits zr_X1_bits (va_Pc [.ref (t 0)] (zRa D κ mk ad ([((t 0), .inr (1, [.int (zi t_faultKind), .int (zi t_faultPlace), .int (zi t_expected), .int (zi t_first), zpg ad t_polygon, .int (zi t_bits)]))]))) (vp_Si (fun x => x = zi out)) 0 0 (fun _ => False) := by
  refine Met.ofW (cc := cX1_bits) (maxL := 1) (ret := (some .int)) (by decide +kernel) rfl ?_
  intro p e s m args below meth c s₁ B hml hv
  obtain ⟨rfl, hP, hK, hB⟩ := hv
  have hx := B.exec
  have hb := B.bytes
  have hr := B.returns
  have hts := atoms_spec (ws := wsX1_bits) B.pre
  have hown : s.vm.findClass RX1 = some m.cls := findClass_of_methodNamed B.named
  have hlocks := B.notSynchronized
  have hl := lv_entry ([.ref (t 0)]) (n := 1) (Nat.le_of_ble_eq_true rfl)
  rw [lg_entry_eq]
  generalize (lg_sl ([.ref (t 0)]) ++ List.replicate (1 - (lg_sl ([.ref (t 0)])).length) Slot.unset).toArray = ls at hl ⊢
  have hl : lv_has ls 1 [(0, .ref (t 0))] := hl
  refine zs_X1_bits t mk ad t_faultKind t_faultPlace t_expected t_first t_polygon t_bits  hx hb hml hown hts hK hP hB ls hl ⟨out, h, ?_⟩
  exact fun ls pc hd => W.iret hx hb hr (fun t ht hW => ⟨_, rfl, rfl, ht⟩) (fun _ h => by cases h) hd
/-! DiamondRows$CutText.takeFirst(LDiamondRows$Tape;)I -/
abbrev zr_X1_takeFirst : Room := { frames := 1, cells := 0, slots := 0, locals := 21 }
noncomputable def zf_X1_takeFirst (mk : Nat) (t_first : Int) (t_polygon : Nat) (t_bits : Int) (q1_kind : Int) (q1_value : Int)  : Option (Int × Int) :=
  if t_polygon = 0 then
  some ((1 : Int), t_first)
  else
  Option.bind (zf_X8_kind q1_kind) (fun o2 =>
  if zout o2 then none else
  if o2 = 0 then
  Option.bind (zf_J6_bitCount_0f7a4 t_bits) (fun o11 =>
  if zno mk t_polygon then none else
  Option.bind (zf_X5_corners t_polygon) (fun o13 =>
  if zout o11 then none else
  if zout (o13 - (3 : Int)) then none else
  if (o13 - (3 : Int)) ≤ o11 then
  some ((0 : Int), t_first)
  else
  some ((6 : Int), t_first)))
  else
  Option.bind (zf_X8_value q1_value) (fun o4 =>
  Option.bind (zf_X8_kind q1_kind) (fun o5 =>
  if zout o5 then none else
  if o5 = (2 : Int) then
  if zno mk t_polygon then none else
  Option.bind (zf_X5_hasCorner t_polygon o4) (fun o8 =>
  if o8 = false then
  some ((2 : Int), o4)
  else
  some ((0 : Int), o4))
  else
  some ((1 : Int), o4))))
theorem zi_X1_takeFirst_X1 : ∀ w ∈ u_ws RX1 TX1 6, w ∈ wsX1_takeFirst := by decide +kernel
theorem zl_X1_takeFirst_18 : Cond.fieldLink RX1 18 "DiamondRows$CutText" "polygon" "LDiamondRows$Polygon;" ∈ wsX1_takeFirst := by decide +kernel
theorem zl_X1_takeFirst_22 : Cond.fieldLink RX1 22 "DiamondRows$CutText" "bits" "I" ∈ wsX1_takeFirst := by decide +kernel
theorem zl_X1_takeFirst_79 : Cond.fieldLink RX1 79 "DiamondRows$CutText" "first" "I" ∈ wsX1_takeFirst := by decide +kernel
def zQ_X1_takeFirst (p : Program) (l : Launch) (e : Env) (s : State) (m : MethodId) (args : Array Value) (below : List Frame) (meth : Method) (c : Code) (Q : State → Prop) (D : va_G) (κ : Nat → ClassId) (A : Nat → Prop) (H0 : Heap) (t : Nat → Nat) (q1 : Nat → Nat) (mk : Nat) (ad : Nat → Nat → Nat) (t_faultKind : Int) (t_faultPlace : Int) (t_expected : Int) (t_polygon : Nat) (t_bits : Int) (q1_length : Int) (q1_next : Int) (q1_kind : Int) (q1_place : Int) (q1_value : Int) (q1_bytes : Nat) (o : Int × Int) : Prop := ∀ (H : Heap) (locs : List Loc) (ls : Array Slot) (pc : Nat), va_P D vwCl ([((t 0), .inr (1, [.int (zi t_faultKind), .int (zi t_faultPlace), .int (zi t_expected), .int (zi (o.2)), zpg ad t_polygon, .int (zi t_bits)])), ((q1 0), .inr (8, [.ref (q1 1), .int (zi q1_length), .int (zi q1_next), .int (zi q1_kind), .int (zi q1_place), .int (zi q1_value)])), ((q1 1), .inl (κ 0, 300, .inl (zc q1_bytes)))]) H → va_D A ([((t 0), .inr (1, [.int (zi t_faultKind), .int (zi t_faultPlace), .int (zi t_expected), .int (zi (o.2)), zpg ad t_polygon, .int (zi t_bits)])), ((q1 0), .inr (8, [.ref (q1 1), .int (zi q1_length), .int (zi q1_next), .int (zi q1_kind), .int (zi q1_place), .int (zi q1_value)])), ((q1 1), .inl (κ 0, 300, .inl (zc q1_bytes)))]) → va_S A H0 H locs → decode cX1_takeFirst pc = .ok (.ireturn, 1) → W p l e zr_X1_takeFirst s m args below meth c H locs 0 0 Q (F0 m pc ls [.int (zi (o.1))])
set_option maxHeartbeats 4000000 in
set_option maxRecDepth 100000 in
theorem zs_X1_takeFirst {p : Program} {l : Launch} {e : Env} {s : State} {m : MethodId} {args : Array Value} {below : List Frame} {meth : Method} {c : Code} {Q : State → Prop} {D : va_G} {κ : Nat → ClassId} {A : Nat → Prop} {H0 : Heap} (t : Nat → Nat) (q1 : Nat → Nat) (mk : Nat) (ad : Nat → Nat → Nat) (t_faultKind : Int) (t_faultPlace : Int) (t_expected : Int) (t_first : Int) (t_polygon : Nat) (t_bits : Int) (q1_length : Int) (q1_next : Int) (q1_kind : Int) (q1_place : Int) (q1_value : Int) (q1_bytes : Nat)  (hx : p.tables.exec = Jvm.exec) (hb : c.code = cX1_takeFirst) (hml : c.maxLocals = 2) (hown : s.vm.findClass RX1 = some m.cls) (hts : ∀ w ∈ wsX1_takeFirst, w.before args s = true) (hK : va_K D vwCl (zTY κ) s) (hA : ∀ q : Nat, H0.size ≤ q → A q) (hB : zAmb D κ mk ad H0) (hBA : zApt mk ad A H0.size) (H : Heap) (locs : List Loc) (ls : Array Slot) (hP : va_P D vwCl ([((t 0), .inr (1, [.int (zi t_faultKind), .int (zi t_faultPlace), .int (zi t_expected), .int (zi t_first), zpg ad t_polygon, .int (zi t_bits)])), ((q1 0), .inr (8, [.ref (q1 1), .int (zi q1_length), .int (zi q1_next), .int (zi q1_kind), .int (zi q1_place), .int (zi q1_value)])), ((q1 1), .inl (κ 0, 300, .inl (zc q1_bytes)))]) H) (hD : va_D A ([((t 0), .inr (1, [.int (zi t_faultKind), .int (zi t_faultPlace), .int (zi t_expected), .int (zi t_first), zpg ad t_polygon, .int (zi t_bits)])), ((q1 0), .inr (8, [.ref (q1 1), .int (zi q1_length), .int (zi q1_next), .int (zi q1_kind), .int (zi q1_place), .int (zi q1_value)])), ((q1 1), .inl (κ 0, 300, .inl (zc q1_bytes)))])) (hS : va_S A H0 H locs) (hl : lv_has ls 2 [(0, .ref (t 0)), (1, .ref (q1 0))]) (hg : Go (zQ_X1_takeFirst p l e s m args below meth c Q D κ A H0 t q1 mk ad t_faultKind t_faultPlace t_expected t_polygon t_bits q1_length q1_next q1_kind q1_place q1_value q1_bytes) (zf_X1_takeFirst mk t_first t_polygon t_bits q1_kind q1_value )) : W p l e zr_X1_takeFirst s m args below meth c H locs 0 0 Q (F0 m 0 ls []) := by
  unfold zf_X1_takeFirst at hg
  refine lv_aload_n hx hb dX1_takeFirst_0 rfl (lv_at hl 0 rfl) ?_
  by_cases c1 : t_polygon = 0
  · have hg := Go_t c1 hg
    refine va_get (D := D) (ci := 1) (v := .null) (C := RX1) (T := TX1) (N := 6) hx hb hts zi_X1_takeFirst_X1 hown hK hP 0 rfl rfl 4 (by decide) (hts (.fieldLink RX1 18 "DiamondRows$CutText" "polygon" "LDiamondRows$Polygon;") zl_X1_takeFirst_18) (fun _ h9 => h9) (zpg_null c1) dX1_takeFirst_1 ?_
    refine lv_ifnonnullN hx hb dX1_takeFirst_4 ?_
    refine zv_iconst hx hb dX1_takeFirst_7 ?_
    exact (Go_s hg) _ _ _ _ hP hD hS dX1_takeFirst_8
  · have hg := Go_f c1 hg
    refine va_get (D := D) (ci := 1) (v := .ref (ad t_polygon 0)) (C := RX1) (T := TX1) (N := 6) hx hb hts zi_X1_takeFirst_X1 hown hK hP 0 rfl rfl 4 (by decide) (hts (.fieldLink RX1 18 "DiamondRows$CutText" "polygon" "LDiamondRows$Polygon;") zl_X1_takeFirst_18) (fun _ h9 => h9) (zpg_some c1) dX1_takeFirst_1 ?_
    refine lv_ifnonnull (tgt := 9) hx hb dX1_takeFirst_4 (by decide) ?_
    refine lv_aload_n hx hb dX1_takeFirst_9 rfl (lv_at hl 1 rfl) ?_
    obtain ⟨o2, ho2, hg⟩ := Go_b hg
    refine zc_vi (rest := []) ⟨hx, hb, hml, hown, hts⟩ (zc_X8_kind l D κ q1 q1_length q1_next q1_kind q1_place q1_value q1_bytes o2 ho2) (cwV 0 hts gX1_takeFirst_X8_kind rfl rfl rfl (by decide +kernel) ⟨Nat.le_of_ble_eq_true rfl, Nat.le_of_ble_eq_true rfl⟩) (zpreV hK (hP.sub [1, 2] rfl) 8 0 rfl rfl) rfl hl.1 rfl (Nat.le_of_ble_eq_true rfl) dX1_takeFirst_10 ⟨Nat.zero_le _, Nat.zero_le _⟩ ?_
    obtain ⟨b3, hg⟩ := Go_n hg
    refine zv_if_ne (tgt := 42) hx hb dX1_takeFirst_13 (by decide) b3 (fun c17 => ?_) (fun c17 => ?_)
    · have hg := Go_f c17 hg
      refine lv_aload_n hx hb dX1_takeFirst_42 rfl (lv_at hl 0 rfl) ?_
      refine lv_aload_n hx hb dX1_takeFirst_43 rfl (lv_at hl 1 rfl) ?_
      obtain ⟨o4, ho4, hg⟩ := Go_b hg
      refine zc_vi (rest := [.ref (t 0)]) ⟨hx, hb, hml, hown, hts⟩ (zc_X8_value l D κ q1 q1_length q1_next q1_kind q1_place q1_value q1_bytes o4 ho4) (cwV 0 hts gX1_takeFirst_X8_value rfl rfl rfl (by decide +kernel) ⟨Nat.le_of_ble_eq_true rfl, Nat.le_of_ble_eq_true rfl⟩) (zpreV hK (hP.sub [1, 2] rfl) 8 0 rfl rfl) rfl hl.1 rfl (Nat.le_of_ble_eq_true rfl) dX1_takeFirst_44 ⟨Nat.zero_le _, Nat.zero_le _⟩ ?_
      refine va_put (D := D) (ci := 1) (v := .int (zi o4)) (ty := .int) (C := RX1) (T := TX1) (N := 6) hx hb hts zi_X1_takeFirst_X1 tyX1 tyX1_ok nmX1 hown hK hP hD hS 0 rfl rfl 3 (by decide) (hts (.fieldLink RX1 79 "DiamondRows$CutText" "first" "I") zl_X1_takeFirst_79) (fun _ h9 => h9) rfl (by decide +kernel) rfl rfl (Nat.le_of_ble_eq_true rfl) dX1_takeFirst_47 (fun H locs hP hD hS => ?_)
      have hP : va_P D vwCl ([((t 0), .inr (1, [.int (zi t_faultKind), .int (zi t_faultPlace), .int (zi t_expected), .int (zi o4), zpg ad t_polygon, .int (zi t_bits)])), ((q1 0), .inr (8, [.ref (q1 1), .int (zi q1_length), .int (zi q1_next), .int (zi q1_kind), .int (zi q1_place), .int (zi q1_value)])), ((q1 1), .inl (κ 0, 300, .inl (zc q1_bytes)))]) H := hP
      have hD : va_D A ([((t 0), .inr (1, [.int (zi t_faultKind), .int (zi t_faultPlace), .int (zi t_expected), .int (zi o4), zpg ad t_polygon, .int (zi t_bits)])), ((q1 0), .inr (8, [.ref (q1 1), .int (zi q1_length), .int (zi q1_next), .int (zi q1_kind), .int (zi q1_place), .int (zi q1_value)])), ((q1 1), .inl (κ 0, 300, .inl (zc q1_bytes)))]) := hD
      refine lv_aload_n hx hb dX1_takeFirst_50 rfl (lv_at hl 1 rfl) ?_
      obtain ⟨o5, ho5, hg⟩ := Go_b hg
      refine zc_vi (rest := []) ⟨hx, hb, hml, hown, hts⟩ (zc_X8_kind l D κ q1 q1_length q1_next q1_kind q1_place q1_value q1_bytes o5 ho5) (cwV 0 hts gX1_takeFirst_X8_kind rfl rfl rfl (by decide +kernel) ⟨Nat.le_of_ble_eq_true rfl, Nat.le_of_ble_eq_true rfl⟩) (zpreV hK (hP.sub [1, 2] rfl) 8 0 rfl rfl) rfl hl.1 rfl (Nat.le_of_ble_eq_true rfl) dX1_takeFirst_51 ⟨Nat.zero_le _, Nat.zero_le _⟩ ?_
      refine zv_iconst hx hb dX1_takeFirst_54 ?_
      obtain ⟨b6, hg⟩ := Go_n hg
      refine zv_icmp_eq (tgt := 60) hx hb dX1_takeFirst_55 (by decide) b6 (by decide) (fun c10 => ?_) (fun c10 => ?_)
      · have hg := Go_t c10 hg
        refine lv_aload_n hx hb dX1_takeFirst_60 rfl (lv_at hl 0 rfl) ?_
        obtain ⟨m7, hg⟩ := Go_n hg
        refine va_get (D := D) (ci := 1) (v := .ref (ad t_polygon 0)) (C := RX1) (T := TX1) (N := 6) hx hb hts zi_X1_takeFirst_X1 hown hK hP 0 rfl rfl 4 (by decide) (hts (.fieldLink RX1 18 "DiamondRows$CutText" "polygon" "LDiamondRows$Polygon;") zl_X1_takeFirst_18) (fun _ h9 => h9) (zpg_ok m7) dX1_takeFirst_61 ?_
        refine lv_aload_n hx hb dX1_takeFirst_64 rfl (lv_at hl 0 rfl) ?_
        refine va_get (D := D) (ci := 1) (v := .int (zi o4)) (C := RX1) (T := TX1) (N := 6) hx hb hts zi_X1_takeFirst_X1 hown hK hP 0 rfl rfl 3 (by decide) (hts (.fieldLink RX1 79 "DiamondRows$CutText" "first" "I") zl_X1_takeFirst_79) (fun _ h9 => h9) rfl dX1_takeFirst_65 ?_
        obtain ⟨o8, ho8, hg⟩ := Go_b hg
        refine zc_vi (rest := []) ⟨hx, hb, hml, hown, hts⟩ (zc_X5_hasCorner l D κ (ad t_polygon) t_polygon o4 o8 ho8) (cwV 1 hts gX1_takeFirst_X5_hasCorner rfl rfl rfl (by decide +kernel) ⟨Nat.le_of_ble_eq_true rfl, Nat.le_of_ble_eq_true rfl⟩) (zpreV hK ((zamb hB hBA hS) t_polygon m7) 5 0 rfl rfl) rfl hl.1 rfl (Nat.le_of_ble_eq_true rfl) dX1_takeFirst_68 ⟨Nat.zero_le _, Nat.zero_le _⟩ ?_
        refine zv_ifb_eq (tgt := 78) hx hb dX1_takeFirst_71 (by decide) (fun c9 => ?_) (fun c9 => ?_)
        · have hg := Go_t c9 hg
          refine zv_iconst hx hb dX1_takeFirst_78 ?_
          exact (Go_s hg) _ _ _ _ hP hD hS dX1_takeFirst_79
        · have hg := Go_f c9 hg
          refine zv_iconst hx hb dX1_takeFirst_74 ?_
          refine lv_goto (tgt := 79) hx hb dX1_takeFirst_75 (by decide) ?_
          exact (Go_s hg) _ _ _ _ hP hD hS dX1_takeFirst_79
      · have hg := Go_f c10 hg
        refine zv_iconst hx hb dX1_takeFirst_58 ?_
        exact (Go_s hg) _ _ _ _ hP hD hS dX1_takeFirst_59
    · have hg := Go_t c17 hg
      refine lv_aload_n hx hb dX1_takeFirst_16 rfl (lv_at hl 0 rfl) ?_
      refine va_get (D := D) (ci := 1) (v := .int (zi t_bits)) (C := RX1) (T := TX1) (N := 6) hx hb hts zi_X1_takeFirst_X1 hown hK hP 0 rfl rfl 5 (by decide) (hts (.fieldLink RX1 22 "DiamondRows$CutText" "bits" "I") zl_X1_takeFirst_22) (fun _ h9 => h9) rfl dX1_takeFirst_17 ?_
      obtain ⟨o11, ho11, hg⟩ := Go_b hg
      refine zc_si (rest := []) ⟨hx, hb, hml, hown, hts⟩ (zc_J6_bitCount_0f7a4 l D κ t_bits o11 ho11) (va_cwS 1 hts gX1_takeFirst_J6_bitCount_0f7a4 rfl rfl rfl (by decide +kernel) ⟨Nat.le_of_ble_eq_true rfl, Nat.le_of_ble_eq_true rfl⟩) (zpreS hK (hP.sub [] rfl)) rfl hl.1 rfl (Nat.le_of_ble_eq_true rfl) dX1_takeFirst_20 ⟨Nat.zero_le _, Nat.zero_le _⟩ ?_
      refine lv_aload_n hx hb dX1_takeFirst_23 rfl (lv_at hl 0 rfl) ?_
      obtain ⟨m12, hg⟩ := Go_n hg
      refine va_get (D := D) (ci := 1) (v := .ref (ad t_polygon 0)) (C := RX1) (T := TX1) (N := 6) hx hb hts zi_X1_takeFirst_X1 hown hK hP 0 rfl rfl 4 (by decide) (hts (.fieldLink RX1 18 "DiamondRows$CutText" "polygon" "LDiamondRows$Polygon;") zl_X1_takeFirst_18) (fun _ h9 => h9) (zpg_ok m12) dX1_takeFirst_24 ?_
      obtain ⟨o13, ho13, hg⟩ := Go_b hg
      refine zc_vi (rest := [.int (zi o11)]) ⟨hx, hb, hml, hown, hts⟩ (zc_X5_corners l D κ (ad t_polygon) t_polygon  o13 ho13) (cwV 0 hts gX1_takeFirst_X5_corners rfl rfl rfl (by decide +kernel) ⟨Nat.le_of_ble_eq_true rfl, Nat.le_of_ble_eq_true rfl⟩) (zpreV hK ((zamb hB hBA hS) t_polygon m12) 5 0 rfl rfl) rfl hl.1 rfl (Nat.le_of_ble_eq_true rfl) dX1_takeFirst_27 ⟨Nat.zero_le _, Nat.zero_le _⟩ ?_
      refine zv_iconst hx hb dX1_takeFirst_30 ?_
      refine zv_isub hx hb dX1_takeFirst_31 ?_
      obtain ⟨b14, hg⟩ := Go_n hg
      obtain ⟨b15, hg⟩ := Go_n hg
      refine zv_icmp_ge (tgt := 40) hx hb dX1_takeFirst_32 (by decide) b14 b15 (fun c16 => ?_) (fun c16 => ?_)
      · have hg := Go_t c16 hg
        refine zv_iconst hx hb dX1_takeFirst_40 ?_
        exact (Go_s hg) _ _ _ _ hP hD hS dX1_takeFirst_41
      · have hg := Go_f c16 hg
        refine zv_bipush hx hb dX1_takeFirst_35 (by decide) ?_
        refine lv_goto (tgt := 41) hx hb dX1_takeFirst_37 (by decide) ?_
        exact (Go_s hg) _ _ _ _ hP hD hS dX1_takeFirst_41
set_option maxHeartbeats 4000000 in
set_option maxRecDepth 100000 in
theorem zc_X1_takeFirst (l : Launch) (D : va_G) (κ : Nat → ClassId) (t : Nat → Nat) (q1 : Nat → Nat) (mk : Nat) (ad : Nat → Nat → Nat) (sz : Nat) (t_faultKind : Int) (t_faultPlace : Int) (t_expected : Int) (t_first : Int) (t_polygon : Nat) (t_bits : Int) (q1_length : Int) (q1_next : Int) (q1_kind : Int) (q1_place : Int) (q1_value : Int) (q1_bytes : Nat)  (out : Int × Int) (h : zf_X1_takeFirst mk t_first t_polygon t_bits q1_kind q1_value  = some out) : Met l yX1_takeFirst wsX1_takeFirst zr_X1_takeFirst (va_Pc [.ref (t 0), .ref (q1 0)] (zWa D κ mk ad ([((t 0), .inr (1, [.int (zi t_faultKind), .int (zi t_faultPlace), .int (zi t_expected), .int (zi t_first), zpg ad t_polygon, .int (zi t_bits)])), ((q1 0), .inr (8, [.ref (q1 1), .int (zi q1_length), .int (zi q1_next), .int (zi q1_kind), .int (zi q1_place), .int (zi q1_value)])), ((q1 1), .inl (κ 0, 300, .inl (zc q1_bytes)))]) sz)) (va_Qi (fun r (_ : Unit) => r = zi (out.1)) (fun _ => zB D κ (va_A ([((t 0), .inr (1, [.int (zi t_faultKind), .int (zi t_faultPlace), .int (zi t_expected), .int (zi t_first), zpg ad t_polygon, .int (zi t_bits)])), ((q1 0), .inr (8, [.ref (q1 1), .int (zi q1_length), .int (zi q1_next), .int (zi q1_kind), .int (zi q1_place), .int (zi q1_value)])), ((q1 1), .inl (κ 0, 300, .inl (zc q1_bytes)))]) sz) ([((t 0), .inr (1, [.int (zi t_faultKind), .int (zi t_faultPlace), .int (zi t_expected), .int (zi (out.2)), zpg ad t_polygon, .int (zi t_bits)])), ((q1 0), .inr (8, [.ref (q1 1), .int (zi q1_length), .int (zi q1_next), .int (zi q1_kind), .int (zi q1_place), .int (zi q1_value)])), ((q1 1), .inl (κ 0, 300, .inl (zc q1_bytes)))])) (va_A ([((t 0), .inr (1, [.int (zi t_faultKind), .int (zi t_faultPlace), .int (zi t_expected), .int (zi t_first), zpg ad t_polygon, .int (zi t_bits)])), ((q1 0), .inr (8, [.ref (q1 1), .int (zi q1_length), .int (zi q1_next), .int (zi q1_kind), .int (zi q1_place), .int (zi q1_value)])), ((q1 1), .inl (κ 0, 300, .inl (zc q1_bytes)))]) sz)) 0 0 (va_A ([((t 0), .inr (1, [.int (zi t_faultKind), .int (zi t_faultPlace), .int (zi t_expected), .int (zi t_first), zpg ad t_polygon, .int (zi t_bits)])), ((q1 0), .inr (8, [.ref (q1 1), .int (zi q1_length), .int (zi q1_next), .int (zi q1_kind), .int (zi q1_place), .int (zi q1_value)])), ((q1 1), .inl (κ 0, 300, .inl (zc q1_bytes)))]) sz) := by
  refine Met.ofW (cc := cX1_takeFirst) (maxL := 2) (ret := (some .int)) (by decide +kernel) rfl ?_
  intro p e s m args below meth c s₁ B hml hv
  obtain ⟨rfl, hsz, hP, hK, hD0, hB, hBA⟩ := hv
  have hx := B.exec
  have hb := B.bytes
  have hr := B.returns
  have hts := atoms_spec (ws := wsX1_takeFirst) B.pre
  have hown : s.vm.findClass RX1 = some m.cls := findClass_of_methodNamed B.named
  have hlocks := B.notSynchronized
  subst hsz
  have hD := hD0.self (sz := s.heap.size)
  generalize hAe : va_A ([((t 0), .inr (1, [.int (zi t_faultKind), .int (zi t_faultPlace), .int (zi t_expected), .int (zi t_first), zpg ad t_polygon, .int (zi t_bits)])), ((q1 0), .inr (8, [.ref (q1 1), .int (zi q1_length), .int (zi q1_next), .int (zi q1_kind), .int (zi q1_place), .int (zi q1_value)])), ((q1 1), .inl (κ 0, 300, .inl (zc q1_bytes)))]) s.heap.size = A at hD hBA ⊢
  have hA : ∀ q : Nat, s.heap.size ≤ q → A q := fun q h => by rw [← hAe]; exact Or.inr h
  have hS : va_S A s.heap s.heap [] := va_S.rf
  have hl := lv_entry ([.ref (t 0), .ref (q1 0)]) (n := 2) (Nat.le_of_ble_eq_true rfl)
  rw [lg_entry_eq]
  generalize (lg_sl ([.ref (t 0), .ref (q1 0)]) ++ List.replicate (2 - (lg_sl ([.ref (t 0), .ref (q1 0)])).length) Slot.unset).toArray = ls at hl ⊢
  have hl : lv_has ls 2 [(0, .ref (t 0)), (1, .ref (q1 0))] := hl
  refine zs_X1_takeFirst t q1 mk ad t_faultKind t_faultPlace t_expected t_first t_polygon t_bits q1_length q1_next q1_kind q1_place q1_value q1_bytes  hx hb hml hown hts hK hA hB hBA s.heap [] ls hP hD hS hl ⟨out, h, ?_⟩
  exact fun H locs ls pc hP hD hS hd => W.iret hx hb hr (fun t ht hW => ⟨⟨_, (), rfl, rfl, by rw [ht]; exact hP, va_K.moved hW.alike hK, hD⟩, hS.F ht⟩) hS.2.2 hd
/-! DiamondRows$CutText.takeSecond(I)I -/
abbrev zr_X1_takeSecond : Room := { frames := 2, cells := 0, slots := 0, locals := 43 }
noncomputable def zf_X1_takeSecond (mk : Nat) (t_first : Int) (t_polygon : Nat) (t_bits : Int) (i1 : Int) : Option (Int × Int) :=
  if t_polygon = 0 then
  some ((2 : Int), t_bits)
  else
  if zno mk t_polygon then none else
  Option.bind (zf_X5_hasCorner t_polygon i1) (fun o3 =>
  if o3 = false then
  some ((2 : Int), t_bits)
  else
  Option.bind (zf_X5_lineOf t_polygon t_first i1) (fun o4 =>
  if zout o4 then none else
  if o4 = (-1 : Int) then
  some ((4 : Int), t_bits)
  else
  Option.bind (zf_X5_has t_polygon t_bits o4) (fun o6 =>
  if o6 = false then
  Option.bind (zf_X5_crossersOf t_polygon o4) (fun o7 =>
  if (zand o7 t_bits) = 0 then
  some ((0 : Int), (zor t_bits (zshl (1 : Int) o4)))
  else
  some ((5 : Int), t_bits))
  else
  some ((3 : Int), t_bits))))
theorem zi_X1_takeSecond_X1 : ∀ w ∈ u_ws RX1 TX1 6, w ∈ wsX1_takeSecond := by decide +kernel
theorem zl_X1_takeSecond_18 : Cond.fieldLink RX1 18 "DiamondRows$CutText" "polygon" "LDiamondRows$Polygon;" ∈ wsX1_takeSecond := by decide +kernel
theorem zl_X1_takeSecond_22 : Cond.fieldLink RX1 22 "DiamondRows$CutText" "bits" "I" ∈ wsX1_takeSecond := by decide +kernel
theorem zl_X1_takeSecond_79 : Cond.fieldLink RX1 79 "DiamondRows$CutText" "first" "I" ∈ wsX1_takeSecond := by decide +kernel
def zQ_X1_takeSecond (p : Program) (l : Launch) (e : Env) (s : State) (m : MethodId) (args : Array Value) (below : List Frame) (meth : Method) (c : Code) (Q : State → Prop) (D : va_G) (κ : Nat → ClassId) (A : Nat → Prop) (H0 : Heap) (t : Nat → Nat) (mk : Nat) (ad : Nat → Nat → Nat) (t_faultKind : Int) (t_faultPlace : Int) (t_expected : Int) (t_first : Int) (t_polygon : Nat) (o : Int × Int) : Prop := ∀ (H : Heap) (locs : List Loc) (ls : Array Slot) (pc : Nat), va_P D vwCl ([((t 0), .inr (1, [.int (zi t_faultKind), .int (zi t_faultPlace), .int (zi t_expected), .int (zi t_first), zpg ad t_polygon, .int (zi (o.2))]))]) H → va_D A ([((t 0), .inr (1, [.int (zi t_faultKind), .int (zi t_faultPlace), .int (zi t_expected), .int (zi t_first), zpg ad t_polygon, .int (zi (o.2))]))]) → va_S A H0 H locs → decode cX1_takeSecond pc = .ok (.ireturn, 1) → W p l e zr_X1_takeSecond s m args below meth c H locs 0 0 Q (F0 m pc ls [.int (zi (o.1))])
set_option maxHeartbeats 4000000 in
set_option maxRecDepth 100000 in
theorem zs_X1_takeSecond {p : Program} {l : Launch} {e : Env} {s : State} {m : MethodId} {args : Array Value} {below : List Frame} {meth : Method} {c : Code} {Q : State → Prop} {D : va_G} {κ : Nat → ClassId} {A : Nat → Prop} {H0 : Heap} (t : Nat → Nat) (mk : Nat) (ad : Nat → Nat → Nat) (t_faultKind : Int) (t_faultPlace : Int) (t_expected : Int) (t_first : Int) (t_polygon : Nat) (t_bits : Int) (i1 : Int) (hx : p.tables.exec = Jvm.exec) (hb : c.code = cX1_takeSecond) (hml : c.maxLocals = 3) (hown : s.vm.findClass RX1 = some m.cls) (hts : ∀ w ∈ wsX1_takeSecond, w.before args s = true) (hK : va_K D vwCl (zTY κ) s) (hA : ∀ q : Nat, H0.size ≤ q → A q) (hB : zAmb D κ mk ad H0) (hBA : zApt mk ad A H0.size) (H : Heap) (locs : List Loc) (ls : Array Slot) (hP : va_P D vwCl ([((t 0), .inr (1, [.int (zi t_faultKind), .int (zi t_faultPlace), .int (zi t_expected), .int (zi t_first), zpg ad t_polygon, .int (zi t_bits)]))]) H) (hD : va_D A ([((t 0), .inr (1, [.int (zi t_faultKind), .int (zi t_faultPlace), .int (zi t_expected), .int (zi t_first), zpg ad t_polygon, .int (zi t_bits)]))])) (hS : va_S A H0 H locs) (hl : lv_has ls 3 [(0, .ref (t 0)), (1, .int (zi i1))]) (hg : Go (zQ_X1_takeSecond p l e s m args below meth c Q D κ A H0 t mk ad t_faultKind t_faultPlace t_expected t_first t_polygon) (zf_X1_takeSecond mk t_first t_polygon t_bits i1)) : W p l e zr_X1_takeSecond s m args below meth c H locs 0 0 Q (F0 m 0 ls []) := by
  unfold zf_X1_takeSecond at hg
  refine lv_aload_n hx hb dX1_takeSecond_0 rfl (lv_at hl 0 rfl) ?_
  by_cases c1 : t_polygon = 0
  · have hg := Go_t c1 hg
    refine va_get (D := D) (ci := 1) (v := .null) (C := RX1) (T := TX1) (N := 6) hx hb hts zi_X1_takeSecond_X1 hown hK hP 0 rfl rfl 4 (by decide) (hts (.fieldLink RX1 18 "DiamondRows$CutText" "polygon" "LDiamondRows$Polygon;") zl_X1_takeSecond_18) (fun _ h9 => h9) (zpg_null c1) dX1_takeSecond_1 ?_
    refine lv_ifnullN (tgt := 18) hx hb dX1_takeSecond_4 (by decide) ?_
    refine zv_iconst hx hb dX1_takeSecond_18 ?_
    exact (Go_s hg) _ _ _ _ hP hD hS dX1_takeSecond_19
  · have hg := Go_f c1 hg
    refine va_get (D := D) (ci := 1) (v := .ref (ad t_polygon 0)) (C := RX1) (T := TX1) (N := 6) hx hb hts zi_X1_takeSecond_X1 hown hK hP 0 rfl rfl 4 (by decide) (hts (.fieldLink RX1 18 "DiamondRows$CutText" "polygon" "LDiamondRows$Polygon;") zl_X1_takeSecond_18) (fun _ h9 => h9) (zpg_some c1) dX1_takeSecond_1 ?_
    refine lv_ifnull hx hb dX1_takeSecond_4 ?_
    refine lv_aload_n hx hb dX1_takeSecond_7 rfl (lv_at hl 0 rfl) ?_
    obtain ⟨m2, hg⟩ := Go_n hg
    refine va_get (D := D) (ci := 1) (v := .ref (ad t_polygon 0)) (C := RX1) (T := TX1) (N := 6) hx hb hts zi_X1_takeSecond_X1 hown hK hP 0 rfl rfl 4 (by decide) (hts (.fieldLink RX1 18 "DiamondRows$CutText" "polygon" "LDiamondRows$Polygon;") zl_X1_takeSecond_18) (fun _ h9 => h9) (zpg_ok m2) dX1_takeSecond_8 ?_
    refine lv_iload_n hx hb dX1_takeSecond_11 rfl (lv_at hl 1 rfl) ?_
    obtain ⟨o3, ho3, hg⟩ := Go_b hg
    refine zc_vi (rest := []) ⟨hx, hb, hml, hown, hts⟩ (zc_X5_hasCorner l D κ (ad t_polygon) t_polygon i1 o3 ho3) (cwV 1 hts gX1_takeSecond_X5_hasCorner rfl rfl rfl (by decide +kernel) ⟨Nat.le_of_ble_eq_true rfl, Nat.le_of_ble_eq_true rfl⟩) (zpreV hK ((zamb hB hBA hS) t_polygon m2) 5 0 rfl rfl) rfl hl.1 rfl (Nat.le_of_ble_eq_true rfl) dX1_takeSecond_12 ⟨Nat.zero_le _, Nat.zero_le _⟩ ?_
    refine zv_ifb_ne (tgt := 20) hx hb dX1_takeSecond_15 (by decide) (fun c11 => ?_) (fun c11 => ?_)
    · have hg := Go_f c11 hg
      refine lv_aload_n hx hb dX1_takeSecond_20 rfl (lv_at hl 0 rfl) ?_
      refine va_get (D := D) (ci := 1) (v := .ref (ad t_polygon 0)) (C := RX1) (T := TX1) (N := 6) hx hb hts zi_X1_takeSecond_X1 hown hK hP 0 rfl rfl 4 (by decide) (hts (.fieldLink RX1 18 "DiamondRows$CutText" "polygon" "LDiamondRows$Polygon;") zl_X1_takeSecond_18) (fun _ h9 => h9) (zpg_ok m2) dX1_takeSecond_21 ?_
      refine lv_aload_n hx hb dX1_takeSecond_24 rfl (lv_at hl 0 rfl) ?_
      refine va_get (D := D) (ci := 1) (v := .int (zi t_first)) (C := RX1) (T := TX1) (N := 6) hx hb hts zi_X1_takeSecond_X1 hown hK hP 0 rfl rfl 3 (by decide) (hts (.fieldLink RX1 79 "DiamondRows$CutText" "first" "I") zl_X1_takeSecond_79) (fun _ h9 => h9) rfl dX1_takeSecond_25 ?_
      refine lv_iload_n hx hb dX1_takeSecond_28 rfl (lv_at hl 1 rfl) ?_
      obtain ⟨o4, ho4, hg⟩ := Go_b hg
      refine zc_vi (rest := []) ⟨hx, hb, hml, hown, hts⟩ (zc_X5_lineOf l D κ (ad t_polygon) t_polygon t_first i1 o4 ho4) (cwV 2 hts gX1_takeSecond_X5_lineOf rfl rfl rfl (by decide +kernel) ⟨Nat.le_of_ble_eq_true rfl, Nat.le_of_ble_eq_true rfl⟩) (zpreV hK ((zamb hB hBA hS) t_polygon m2) 5 0 rfl rfl) rfl hl.1 rfl (Nat.le_of_ble_eq_true rfl) dX1_takeSecond_29 ⟨Nat.zero_le _, Nat.zero_le _⟩ ?_
      refine lv_istore_n (lv' := [(2, .int (zi o4)), (0, .ref (t 0)), (1, .int (zi i1))]) hx hb dX1_takeSecond_32 rfl hl (by decide) rfl (fun ls hl => ?_)
      refine lv_iload_n hx hb dX1_takeSecond_33 rfl (lv_at hl 0 rfl) ?_
      refine zv_iconst hx hb dX1_takeSecond_34 ?_
      obtain ⟨b5, hg⟩ := Go_n hg
      refine zv_icmp_ne (tgt := 40) hx hb dX1_takeSecond_35 (by decide) b5 (by decide) (fun c10 => ?_) (fun c10 => ?_)
      · have hg := Go_f c10 hg
        refine lv_aload_n hx hb dX1_takeSecond_40 rfl (lv_at hl 1 rfl) ?_
        refine va_get (D := D) (ci := 1) (v := .ref (ad t_polygon 0)) (C := RX1) (T := TX1) (N := 6) hx hb hts zi_X1_takeSecond_X1 hown hK hP 0 rfl rfl 4 (by decide) (hts (.fieldLink RX1 18 "DiamondRows$CutText" "polygon" "LDiamondRows$Polygon;") zl_X1_takeSecond_18) (fun _ h9 => h9) (zpg_ok m2) dX1_takeSecond_41 ?_
        refine lv_aload_n hx hb dX1_takeSecond_44 rfl (lv_at hl 1 rfl) ?_
        refine va_get (D := D) (ci := 1) (v := .int (zi t_bits)) (C := RX1) (T := TX1) (N := 6) hx hb hts zi_X1_takeSecond_X1 hown hK hP 0 rfl rfl 5 (by decide) (hts (.fieldLink RX1 22 "DiamondRows$CutText" "bits" "I") zl_X1_takeSecond_22) (fun _ h9 => h9) rfl dX1_takeSecond_45 ?_
        refine lv_iload_n hx hb dX1_takeSecond_48 rfl (lv_at hl 0 rfl) ?_
        obtain ⟨o6, ho6, hg⟩ := Go_b hg
        refine zc_vi (rest := []) ⟨hx, hb, hml, hown, hts⟩ (zc_X5_has l D κ (ad t_polygon) t_polygon t_bits o4 o6 ho6) (cwV 2 hts gX1_takeSecond_X5_has rfl rfl rfl (by decide +kernel) ⟨Nat.le_of_ble_eq_true rfl, Nat.le_of_ble_eq_true rfl⟩) (zpreV hK ((zamb hB hBA hS) t_polygon m2) 5 0 rfl rfl) rfl hl.1 rfl (Nat.le_of_ble_eq_true rfl) dX1_takeSecond_49 ⟨Nat.zero_le _, Nat.zero_le _⟩ ?_
        refine zv_ifb_eq (tgt := 57) hx hb dX1_takeSecond_52 (by decide) (fun c9 => ?_) (fun c9 => ?_)
        · have hg := Go_t c9 hg
          refine lv_aload_n hx hb dX1_takeSecond_57 rfl (lv_at hl 1 rfl) ?_
          refine va_get (D := D) (ci := 1) (v := .ref (ad t_polygon 0)) (C := RX1) (T := TX1) (N := 6) hx hb hts zi_X1_takeSecond_X1 hown hK hP 0 rfl rfl 4 (by decide) (hts (.fieldLink RX1 18 "DiamondRows$CutText" "polygon" "LDiamondRows$Polygon;") zl_X1_takeSecond_18) (fun _ h9 => h9) (zpg_ok m2) dX1_takeSecond_58 ?_
          refine lv_iload_n hx hb dX1_takeSecond_61 rfl (lv_at hl 0 rfl) ?_
          obtain ⟨o7, ho7, hg⟩ := Go_b hg
          refine zc_vi (rest := []) ⟨hx, hb, hml, hown, hts⟩ (zc_X5_crossersOf l D κ (ad t_polygon) t_polygon o4 o7 ho7) (cwV 1 hts gX1_takeSecond_X5_crossersOf rfl rfl rfl (by decide +kernel) ⟨Nat.le_of_ble_eq_true rfl, Nat.le_of_ble_eq_true rfl⟩) (zpreV hK ((zamb hB hBA hS) t_polygon m2) 5 0 rfl rfl) rfl hl.1 rfl (Nat.le_of_ble_eq_true rfl) dX1_takeSecond_62 ⟨Nat.zero_le _, Nat.zero_le _⟩ ?_
          refine lv_aload_n hx hb dX1_takeSecond_65 rfl (lv_at hl 1 rfl) ?_
          refine va_get (D := D) (ci := 1) (v := .int (zi t_bits)) (C := RX1) (T := TX1) (N := 6) hx hb hts zi_X1_takeSecond_X1 hown hK hP 0 rfl rfl 5 (by decide) (hts (.fieldLink RX1 22 "DiamondRows$CutText" "bits" "I") zl_X1_takeSecond_22) (fun _ h9 => h9) rfl dX1_takeSecond_66 ?_
          refine zv_iand hx hb dX1_takeSecond_69 ?_
          refine zv_if_eq (tgt := 75) hx hb dX1_takeSecond_70 (by decide) (zand_in _ _) (fun c8 => ?_) (fun c8 => ?_)
          · have hg := Go_t c8 hg
            refine lv_aload_n hx hb dX1_takeSecond_75 rfl (lv_at hl 1 rfl) ?_
            refine lv_dup hx hb dX1_takeSecond_76 rfl ?_
            refine va_get (D := D) (ci := 1) (v := .int (zi t_bits)) (C := RX1) (T := TX1) (N := 6) hx hb hts zi_X1_takeSecond_X1 hown hK hP 0 rfl rfl 5 (by decide) (hts (.fieldLink RX1 22 "DiamondRows$CutText" "bits" "I") zl_X1_takeSecond_22) (fun _ h9 => h9) rfl dX1_takeSecond_77 ?_
            refine zv_iconst hx hb dX1_takeSecond_80 ?_
            refine lv_iload_n hx hb dX1_takeSecond_81 rfl (lv_at hl 0 rfl) ?_
            refine zv_ishl hx hb dX1_takeSecond_82 ?_
            refine zv_ior hx hb dX1_takeSecond_83 ?_
            refine va_put (D := D) (ci := 1) (v := .int (zi (zor t_bits (zshl (1 : Int) o4)))) (ty := .int) (C := RX1) (T := TX1) (N := 6) hx hb hts zi_X1_takeSecond_X1 tyX1 tyX1_ok nmX1 hown hK hP hD hS 0 rfl rfl 5 (by decide) (hts (.fieldLink RX1 22 "DiamondRows$CutText" "bits" "I") zl_X1_takeSecond_22) (fun _ h9 => h9) rfl (by decide +kernel) rfl rfl (Nat.le_of_ble_eq_true rfl) dX1_takeSecond_84 (fun H locs hP hD hS => ?_)
            have hP : va_P D vwCl ([((t 0), .inr (1, [.int (zi t_faultKind), .int (zi t_faultPlace), .int (zi t_expected), .int (zi t_first), zpg ad t_polygon, .int (zi (zor t_bits (zshl (1 : Int) o4)))]))]) H := hP
            have hD : va_D A ([((t 0), .inr (1, [.int (zi t_faultKind), .int (zi t_faultPlace), .int (zi t_expected), .int (zi t_first), zpg ad t_polygon, .int (zi (zor t_bits (zshl (1 : Int) o4)))]))]) := hD
            refine zv_iconst hx hb dX1_takeSecond_87 ?_
            exact (Go_s hg) _ _ _ _ hP hD hS dX1_takeSecond_88
          · have hg := Go_f c8 hg
            refine zv_iconst hx hb dX1_takeSecond_73 ?_
            exact (Go_s hg) _ _ _ _ hP hD hS dX1_takeSecond_74
        · have hg := Go_f c9 hg
          refine zv_iconst hx hb dX1_takeSecond_55 ?_
          exact (Go_s hg) _ _ _ _ hP hD hS dX1_takeSecond_56
      · have hg := Go_t c10 hg
        refine zv_iconst hx hb dX1_takeSecond_38 ?_
        exact (Go_s hg) _ _ _ _ hP hD hS dX1_takeSecond_39
    · have hg := Go_t c11 hg
      refine zv_iconst hx hb dX1_takeSecond_18 ?_
      exact (Go_s hg) _ _ _ _ hP hD hS dX1_takeSecond_19
set_option maxHeartbeats 4000000 in
set_option maxRecDepth 100000 in
theorem zc_X1_takeSecond (l : Launch) (D : va_G) (κ : Nat → ClassId) (t : Nat → Nat) (mk : Nat) (ad : Nat → Nat → Nat) (sz : Nat) (t_faultKind : Int) (t_faultPlace : Int) (t_expected : Int) (t_first : Int) (t_polygon : Nat) (t_bits : Int) (i1 : Int) (out : Int × Int) (h : zf_X1_takeSecond mk t_first t_polygon t_bits i1 = some out) : Met l yX1_takeSecond wsX1_takeSecond zr_X1_takeSecond (va_Pc [.ref (t 0), .int (zi i1)] (zWa D κ mk ad ([((t 0), .inr (1, [.int (zi t_faultKind), .int (zi t_faultPlace), .int (zi t_expected), .int (zi t_first), zpg ad t_polygon, .int (zi t_bits)]))]) sz)) (va_Qi (fun r (_ : Unit) => r = zi (out.1)) (fun _ => zB D κ (va_A ([((t 0), .inr (1, [.int (zi t_faultKind), .int (zi t_faultPlace), .int (zi t_expected), .int (zi t_first), zpg ad t_polygon, .int (zi t_bits)]))]) sz) ([((t 0), .inr (1, [.int (zi t_faultKind), .int (zi t_faultPlace), .int (zi t_expected), .int (zi t_first), zpg ad t_polygon, .int (zi (out.2))]))])) (va_A ([((t 0), .inr (1, [.int (zi t_faultKind), .int (zi t_faultPlace), .int (zi t_expected), .int (zi t_first), zpg ad t_polygon, .int (zi t_bits)]))]) sz)) 0 0 (va_A ([((t 0), .inr (1, [.int (zi t_faultKind), .int (zi t_faultPlace), .int (zi t_expected), .int (zi t_first), zpg ad t_polygon, .int (zi t_bits)]))]) sz) := by
  refine Met.ofW (cc := cX1_takeSecond) (maxL := 3) (ret := (some .int)) (by decide +kernel) rfl ?_
  intro p e s m args below meth c s₁ B hml hv
  obtain ⟨rfl, hsz, hP, hK, hD0, hB, hBA⟩ := hv
  have hx := B.exec
  have hb := B.bytes
  have hr := B.returns
  have hts := atoms_spec (ws := wsX1_takeSecond) B.pre
  have hown : s.vm.findClass RX1 = some m.cls := findClass_of_methodNamed B.named
  have hlocks := B.notSynchronized
  subst hsz
  have hD := hD0.self (sz := s.heap.size)
  generalize hAe : va_A ([((t 0), .inr (1, [.int (zi t_faultKind), .int (zi t_faultPlace), .int (zi t_expected), .int (zi t_first), zpg ad t_polygon, .int (zi t_bits)]))]) s.heap.size = A at hD hBA ⊢
  have hA : ∀ q : Nat, s.heap.size ≤ q → A q := fun q h => by rw [← hAe]; exact Or.inr h
  have hS : va_S A s.heap s.heap [] := va_S.rf
  have hl := lv_entry ([.ref (t 0), .int (zi i1)]) (n := 3) (Nat.le_of_ble_eq_true rfl)
  rw [lg_entry_eq]
  generalize (lg_sl ([.ref (t 0), .int (zi i1)]) ++ List.replicate (3 - (lg_sl ([.ref (t 0), .int (zi i1)])).length) Slot.unset).toArray = ls at hl ⊢
  have hl : lv_has ls 3 [(0, .ref (t 0)), (1, .int (zi i1))] := hl
  refine zs_X1_takeSecond t mk ad t_faultKind t_faultPlace t_expected t_first t_polygon t_bits i1 hx hb hml hown hts hK hA hB hBA s.heap [] ls hP hD hS hl ⟨out, h, ?_⟩
  exact fun H locs ls pc hP hD hS hd => W.iret hx hb hr (fun t ht hW => ⟨⟨_, (), rfl, rfl, by rw [ht]; exact hP, va_K.moved hW.alike hK, hD⟩, hS.F ht⟩) hS.2.2 hd
