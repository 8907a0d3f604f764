/-! DiamondRows$CrossedLines.size()I -/
abbrev zr_X0_size : Room := { frames := 0, cells := 0, slots := 0, locals := 0 }
noncomputable def zf_X0_size  (t_size : Int)  : Option (Int) :=
  some (t_size)
theorem zi_X0_size_X0 : ∀ w ∈ u_ws RX0 TX0 2, w ∈ wsX0_size := by decide +kernel
theorem zl_X0_size_15 : Cond.fieldLink RX0 15 "DiamondRows$CrossedLines" "size" "I" ∈ wsX0_size := by decide +kernel
def zQ_X0_size (p : Program) (l : Launch) (e : Env) (s : State) (m : MethodId) (args : Array Value) (below : List Frame) (meth : Method) (c : Code) (Q : State → Prop) (H : Heap) (locs : List Loc)  (o : Int) : Prop := ∀ (ls : Array Slot) (pc : Nat), decode cX0_size pc = .ok (.ireturn, 1) → W p l e zr_X0_size s m args below meth c H locs 0 0 Q (F0 m pc ls [.int (zi o)])
set_option maxHeartbeats 4000000 in
set_option maxRecDepth 100000 in
theorem zs_X0_size {p : Program} {l : Launch} {e : Env} {s : State} {m : MethodId} {args : Array Value} {below : List Frame} {meth : Method} {c : Code} {Q : State → Prop} {D : va_G} {κ : Nat → ClassId} {H : Heap} {locs : List Loc} (t : Nat → Nat) (t_size : Int) (t_lines : Nat)  (hx : p.tables.exec = Jvm.exec) (hb : c.code = cX0_size) (hml : c.maxLocals = 1) (hown : s.vm.findClass RX0 = some m.cls) (hts : ∀ w ∈ wsX0_size, w.before args s = true) (hK : va_K D vwCl (zTY κ) s) (hP : va_P D vwCl ([((t 0), .inr (0, [.ref (t 1), .int (zi t_size)])), ((t 1), .inl (κ 1, 27, .inl (zc t_lines)))]) H) (ls : Array Slot) (hl : lv_has ls 1 [(0, .ref (t 0))]) (hg : Go (zQ_X0_size p l e s m args below meth c Q H locs) (zf_X0_size t_size )) : W p l e zr_X0_size s m args below meth c H locs 0 0 Q (F0 m 0 ls []) := by
  unfold zf_X0_size at hg
  refine lv_aload_n hx hb dX0_size_0 rfl (lv_at hl 0 rfl) ?_
  refine va_get (D := D) (ci := 0) (v := .int (zi t_size)) (C := RX0) (T := TX0) (N := 2) hx hb hts zi_X0_size_X0 hown hK hP 0 rfl rfl 1 (by decide) (hts (.fieldLink RX0 15 "DiamondRows$CrossedLines" "size" "I") zl_X0_size_15) (fun _ h9 => h9) rfl dX0_size_1 ?_
  exact (Go_s hg) _ _ dX0_size_4
set_option maxHeartbeats 4000000 in
set_option maxRecDepth 100000 in
theorem zc_X0_size (l : Launch) (D : va_G) (κ : Nat → ClassId) (t : Nat → Nat) (t_size : Int) (t_lines : Nat)  (out : Int) (h : zf_X0_size t_size  = some out) : Met l yX0_size wsX0_size zr_X0_size (va_Pc [.ref (t 0)] (zR D κ ([((t 0), .inr (0, [.ref (t 1), .int (zi t_size)])), ((t 1), .inl (κ 1, 27, .inl (zc t_lines)))]))) (vp_Si (fun x => x = zi out)) 0 0 (fun _ => False) := by
  refine Met.ofW (cc := cX0_size) (maxL := 1) (ret := (some .int)) (by decide +kernel) rfl ?_
  intro p e s m args below meth c s₁ B hml hv
  obtain ⟨rfl, hP, hK⟩ := hv
  have hx := B.exec
  have hb := B.bytes
  have hr := B.returns
  have hts := atoms_spec (ws := wsX0_size) B.pre
  have hown : s.vm.findClass RX0 = some m.cls := findClass_of_methodNamed B.named
  have hlocks := B.notSynchronized
  have hl := lv_entry ([.ref (t 0)]) (n := 1) (Nat.le_of_ble_eq_true rfl)
  rw [lg_entry_eq]
  generalize (lg_sl ([.ref (t 0)]) ++ List.replicate (1 - (lg_sl ([.ref (t 0)])).length) Slot.unset).toArray = ls at hl ⊢
  have hl : lv_has ls 1 [(0, .ref (t 0))] := hl
  refine zs_X0_size t t_size t_lines  hx hb hml hown hts hK hP ls hl ⟨out, h, ?_⟩
  exact fun ls pc hd => W.iret hx hb hr (fun t ht hW => ⟨_, rfl, rfl, ht⟩) (fun _ h => by cases h) hd
/-! DiamondRows$CrossedLines.spanFrom(LDiamondRows$Polygon;II)I -/
abbrev zr_X0_spanFrom : Room := { frames := 2, cells := 0, slots := 0, locals := 42 }
noncomputable def zf_X0_spanFrom (mk : Nat)  (n0 : Nat) (i1 : Int) (i2 : Int) : Option (Int) :=
  if zno mk n0 then none else
  Option.bind (zf_X5_lesserOf n0 i2) (fun o2 =>
  Option.bind (zf_X5_ahead n0 i1 o2) (fun o3 =>
  Option.bind (zf_X5_greaterOf n0 i2) (fun o4 =>
  Option.bind (zf_X5_ahead n0 i1 o4) (fun o5 =>
  if zout (o3 - o5) then none else
  some ((zabs (o3 - o5)))))))
def zQ_X0_spanFrom (p : Program) (l : Launch) (e : Env) (s : State) (m : MethodId) (args : Array Value) (below : List Frame) (meth : Method) (c : Code) (Q : State → Prop) (H : Heap) (locs : List Loc)  (o : Int) : Prop := ∀ (ls : Array Slot) (pc : Nat), decode cX0_spanFrom pc = .ok (.ireturn, 1) → W p l e zr_X0_spanFrom s m args below meth c H locs 0 0 Q (F0 m pc ls [.int (zi o)])
set_option maxHeartbeats 4000000 in
set_option maxRecDepth 100000 in
theorem zs_X0_spanFrom {p : Program} {l : Launch} {e : Env} {s : State} {m : MethodId} {args : Array Value} {below : List Frame} {meth : Method} {c : Code} {Q : State → Prop} {D : va_G} {κ : Nat → ClassId} {H : Heap} {locs : List Loc} (mk : Nat) (ad : Nat → Nat → Nat)  (n0 : Nat) (i1 : Int) (i2 : Int) (hx : p.tables.exec = Jvm.exec) (hb : c.code = cX0_spanFrom) (hml : c.maxLocals = 5) (hown : s.vm.findClass RX0 = some m.cls) (hts : ∀ w ∈ wsX0_spanFrom, w.before args s = true) (hK : va_K D vwCl (zTY κ) s) (hP : va_P D vwCl ([]) H) (hB : zAmb D κ mk ad H) (ls : Array Slot) (hl : lv_has ls 5 [(0, .ref (ad n0 0)), (1, .int (zi i1)), (2, .int (zi i2))]) (hg : Go (zQ_X0_spanFrom p l e s m args below meth c Q H locs) (zf_X0_spanFrom mk n0 i1 i2)) : W p l e zr_X0_spanFrom s m args below meth c H locs 0 0 Q (F0 m 0 ls []) := by
  unfold zf_X0_spanFrom at hg
  refine lv_aload_n hx hb dX0_spanFrom_0 rfl (lv_at hl 0 rfl) ?_
  refine lv_iload_n hx hb dX0_spanFrom_1 rfl (lv_at hl 1 rfl) ?_
  refine lv_aload_n hx hb dX0_spanFrom_2 rfl (lv_at hl 0 rfl) ?_
  refine lv_iload_n hx hb dX0_spanFrom_3 rfl (lv_at hl 2 rfl) ?_
  obtain ⟨m1, hg⟩ := Go_n hg
  obtain ⟨o2, ho2, hg⟩ := Go_b hg
  refine zc_vi (rest := [.int (zi i1), .ref (ad n0 0)]) ⟨hx, hb, hml, hown, hts⟩ (zc_X5_lesserOf l D κ (ad n0) n0 i2 o2 ho2) (cwV 1 hts gX0_spanFrom_X5_lesserOf rfl rfl rfl (by decide +kernel) ⟨Nat.le_of_ble_eq_true rfl, Nat.le_of_ble_eq_true rfl⟩) (zpreV hK (hB n0 m1) 5 0 rfl rfl) rfl hl.1 rfl (Nat.le_of_ble_eq_true rfl) dX0_spanFrom_4 ⟨Nat.zero_le _, Nat.zero_le _⟩ ?_
  obtain ⟨o3, ho3, hg⟩ := Go_b hg
  refine zc_vi (rest := []) ⟨hx, hb, hml, hown, hts⟩ (zc_X5_ahead l D κ (ad n0) n0 i1 o2 o3 ho3) (cwV 2 hts gX0_spanFrom_X5_ahead rfl rfl rfl (by decide +kernel) ⟨Nat.le_of_ble_eq_true rfl, Nat.le_of_ble_eq_true rfl⟩) (zpreV hK (hB n0 m1) 5 0 rfl rfl) rfl hl.1 rfl (Nat.le_of_ble_eq_true rfl) dX0_spanFrom_7 ⟨Nat.zero_le _, Nat.zero_le _⟩ ?_
  refine lv_istore_n (lv' := [(3, .int (zi o3)), (0, .ref (ad n0 0)), (1, .int (zi i1)), (2, .int (zi i2))]) hx hb dX0_spanFrom_10 rfl hl (by decide) rfl (fun ls hl => ?_)
  refine lv_aload_n hx hb dX0_spanFrom_11 rfl (lv_at hl 1 rfl) ?_
  refine lv_iload_n hx hb dX0_spanFrom_12 rfl (lv_at hl 2 rfl) ?_
  refine lv_aload_n hx hb dX0_spanFrom_13 rfl (lv_at hl 1 rfl) ?_
  refine lv_iload_n hx hb dX0_spanFrom_14 rfl (lv_at hl 3 rfl) ?_
  obtain ⟨o4, ho4, hg⟩ := Go_b hg
  refine zc_vi (rest := [.int (zi i1), .ref (ad n0 0)]) ⟨hx, hb, hml, hown, hts⟩ (zc_X5_greaterOf l D κ (ad n0) n0 i2 o4 ho4) (cwV 1 hts gX0_spanFrom_X5_greaterOf rfl rfl rfl (by decide +kernel) ⟨Nat.le_of_ble_eq_true rfl, Nat.le_of_ble_eq_true rfl⟩) (zpreV hK (hB n0 m1) 5 0 rfl rfl) rfl hl.1 rfl (Nat.le_of_ble_eq_true rfl) dX0_spanFrom_15 ⟨Nat.zero_le _, Nat.zero_le _⟩ ?_
  obtain ⟨o5, ho5, hg⟩ := Go_b hg
  refine zc_vi (rest := []) ⟨hx, hb, hml, hown, hts⟩ (zc_X5_ahead l D κ (ad n0) n0 i1 o4 o5 ho5) (cwV 2 hts gX0_spanFrom_X5_ahead rfl rfl rfl (by decide +kernel) ⟨Nat.le_of_ble_eq_true rfl, Nat.le_of_ble_eq_true rfl⟩) (zpreV hK (hB n0 m1) 5 0 rfl rfl) rfl hl.1 rfl (Nat.le_of_ble_eq_true rfl) dX0_spanFrom_18 ⟨Nat.zero_le _, Nat.zero_le _⟩ ?_
  refine lv_istore (lv' := [(4, .int (zi o5)), (3, .int (zi o3)), (0, .ref (ad n0 0)), (1, .int (zi i1)), (2, .int (zi i2))]) hx hb dX0_spanFrom_21 hl (by decide) rfl (fun ls hl => ?_)
  refine lv_iload_n hx hb dX0_spanFrom_23 rfl (lv_at hl 1 rfl) ?_
  refine lv_iload hx hb dX0_spanFrom_24 (lv_at hl 0 rfl) ?_
  refine zv_isub hx hb dX0_spanFrom_26 ?_
  obtain ⟨b6, hg⟩ := Go_n hg
  refine va_mabs hx hb (by rw [hml]; exact hl.1.symm) hown (hts (.methodLink RX0 53 Lib.Math.abs.name) (by decide +kernel)) (hts (.static Lib.Math.abs.name) (by decide +kernel)) (hts (.initialized "java/lang/Math") (by decide +kernel)) (hts (.code Lib.Math.abs.name Lib.Math.abs.code 1 (some .int)) (by decide +kernel)) (Nat.le_of_ble_eq_true rfl) (Nat.le_of_ble_eq_true rfl) (Nat.zero_le _) (Nat.zero_le _) dX0_spanFrom_27 ?_
  rw [zi_abs b6]
  exact (Go_s hg) _ _ dX0_spanFrom_30
set_option maxHeartbeats 4000000 in
set_option maxRecDepth 100000 in
theorem zc_X0_spanFrom (l : Launch) (D : va_G) (κ : Nat → ClassId) (mk : Nat) (ad : Nat → Nat → Nat)  (n0 : Nat) (i1 : Int) (i2 : Int) (out : Int) (h : zf_X0_spanFrom mk n0 i1 i2 = some out) : Met l yX0_spanFrom wsX0_spanFrom zr_X0_spanFrom (va_Pc [.ref (ad n0 0), .int (zi i1), .int (zi i2)] (zRa D κ mk ad ([]))) (vp_Si (fun x => x = zi out)) 0 0 (fun _ => False) := by
  refine Met.ofW (cc := cX0_spanFrom) (maxL := 5) (ret := (some .int)) (by decide +kernel) rfl ?_
  intro p e s m args below meth c s₁ B hml hv
  obtain ⟨rfl, hP, hK, hB⟩ := hv
  have hx := B.exec
  have hb := B.bytes
  have hr := B.returns
  have hts := atoms_spec (ws := wsX0_spanFrom) B.pre
  have hown : s.vm.findClass RX0 = some m.cls := findClass_of_methodNamed B.named
  have hlocks := B.notSynchronized
  have hl := lv_entry ([.ref (ad n0 0), .int (zi i1), .int (zi i2)]) (n := 5) (Nat.le_of_ble_eq_true rfl)
  rw [lg_entry_eq]
  generalize (lg_sl ([.ref (ad n0 0), .int (zi i1), .int (zi i2)]) ++ List.replicate (5 - (lg_sl ([.ref (ad n0 0), .int (zi i1), .int (zi i2)])).length) Slot.unset).toArray = ls at hl ⊢
  have hl : lv_has ls 5 [(0, .ref (ad n0 0)), (1, .int (zi i1)), (2, .int (zi i2))] := hl
  refine zs_X0_spanFrom mk ad  n0 i1 i2 hx hb hml hown hts hK hP hB ls hl ⟨out, h, ?_⟩
  exact fun ls pc hd => W.iret hx hb hr (fun t ht hW => ⟨_, rfl, rfl, ht⟩) (fun _ h => by cases h) hd
/-! DiamondRows$CrossedLines.gather(LDiamondRows$Polygon;III)V -/
abbrev zr_X0_gather : Room := { frames := 3, cells := 0, slots := 0, locals := 66 }
abbrev zS_X0_gather : Type := Nat × Int × Int × Int × Int × Int × Int × Int × Nat
abbrev zO_X0_gather : Type := Int × Nat
noncomputable def zg_X0_gather_0 (mk : Nat) (n1 : Nat) (i2 : Int) (i3 : Int) (i4 : Int) (i5 : Int) (i6 : Int) (i7 : Int) (t_size : Int) (t_lines : Nat) : Option (zO_X0_gather ⊕ zS_X0_gather) :=
  if zno mk n1 then none else
  Option.bind (zf_X5_lineOf n1 i3 i4) (fun o2 =>
  Option.bind (zf_X5_crossersOf n1 o2) (fun o3 =>
  Option.bind (zf_X5_corners n1) (fun o4 =>
  some (.inr (28, i2, i3, i4, (zand o3 i2), (o4 - (1 : Int)), 0, (0 : Int), t_lines)))))
noncomputable def zg_X0_gather_28 (mk : Nat) (n1 : Nat) (i2 : Int) (i3 : Int) (i4 : Int) (i5 : Int) (i6 : Int) (i7 : Int) (t_size : Int) (t_lines : Nat) : Option (zO_X0_gather ⊕ zS_X0_gather) :=
  if zout i6 then none else
  if i6 ≤ 0 then
  some (.inl (t_size, t_lines))
  else
  some (.inr (36, 0, i3, 0, i5, i6, (0 : Int), t_size, t_lines))
noncomputable def zg_X0_gather_36 (mk : Nat) (n1 : Nat) (i2 : Int) (i3 : Int) (i4 : Int) (i5 : Int) (i6 : Int) (i7 : Int) (t_size : Int) (t_lines : Nat) : Option (zO_X0_gather ⊕ zS_X0_gather) :=
  if zno mk n1 then none else
  Option.bind (zf_X5_lineCount n1) (fun o8 =>
  if zout i7 then none else
  if zout o8 then none else
  if o8 ≤ i7 then
  some (.inr (28, 0, i3, 0, i5, (i6 + (-1 : Int)), i7, t_size, t_lines))
  else
  Option.bind (zf_X5_has n1 i5 i7) (fun o11 =>
  if o11 = false then
  some (.inr (36, 0, i3, 0, i5, i6, (i7 + (1 : Int)), t_size, t_lines))
  else
  Option.bind (zf_X0_spanFrom mk n1 i3 i7) (fun o12 =>
  if zout o12 then none else
  if zout i6 then none else
  if o12 = i6 then
  if zout t_size then none else
  if (27 : Int) ≤ t_size then
  some (.inr (36, 0, i3, 0, i5, i6, (i7 + (1 : Int)), t_size, t_lines))
  else
  if t_size < 0 ∨ 27 ≤ t_size then none else
  some (.inr (36, 0, i3, 0, i5, i6, (i7 + (1 : Int)), (t_size + (1 : Int)), (zset t_lines (Int.toNat t_size) i7)))
  else
  some (.inr (36, 0, i3, 0, i5, i6, (i7 + (1 : Int)), t_size, t_lines)))))
noncomputable def zg_X0_gather (mk : Nat) (n1 : Nat) (st : zS_X0_gather) : Option (zO_X0_gather ⊕ zS_X0_gather) := match st with
  | (lab, i2, i3, i4, i5, i6, i7, t_size, t_lines) => if lab = 0 then zg_X0_gather_0 mk n1 i2 i3 i4 i5 i6 i7 t_size t_lines else if lab = 28 then zg_X0_gather_28 mk n1 i2 i3 i4 i5 i6 i7 t_size t_lines else if lab = 36 then zg_X0_gather_36 mk n1 i2 i3 i4 i5 i6 i7 t_size t_lines else none
noncomputable def zf_X0_gather (mk : Nat) (t_size : Int) (t_lines : Nat) (n1 : Nat) (i2 : Int) (i3 : Int) (i4 : Int) : Option (Int × Nat) := jrun (zg_X0_gather mk n1) jfuel (0, i2, i3, i4, 0, 0, 0, t_size, t_lines)
theorem zi_X0_gather_X0 : ∀ w ∈ u_ws RX0 TX0 2, w ∈ wsX0_gather := by decide +kernel
theorem zl_X0_gather_9 : Cond.fieldLink RX0 9 "DiamondRows$CrossedLines" "lines" "[I" ∈ wsX0_gather := by decide +kernel
theorem zl_X0_gather_15 : Cond.fieldLink RX0 15 "DiamondRows$CrossedLines" "size" "I" ∈ wsX0_gather := by decide +kernel
def zQ_X0_gather (p : Program) (l : Launch) (e : Env) (s : State) (m : MethodId) (args : Array Value) (below : List Frame) (meth : Method) (c : Code) (Q : State → Prop) (D : va_G) (κ : Nat → ClassId) (A : Nat → Prop) (H0 : Heap) (t : Nat → Nat) (mk : Nat) (ad : Nat → Nat → Nat) (n1 : Nat) (o : Int × Nat) : Prop := ∀ (H : Heap) (locs : List Loc) (ls : Array Slot) (pc : Nat), va_P D vwCl ([((t 0), .inr (0, [.ref (t 1), .int (zi (o.1))])), ((t 1), .inl (κ 1, 27, .inl (zc (o.2))))]) H → va_D A ([((t 0), .inr (0, [.ref (t 1), .int (zi (o.1))])), ((t 1), .inl (κ 1, 27, .inl (zc (o.2))))]) → va_S A H0 H locs → decode cX0_gather pc = .ok (.return_, 1) → W p l e zr_X0_gather s m args below meth c H locs 0 0 Q (F0 m pc ls [])
def zA_X0_gather_0 (p : Program) (l : Launch) (e : Env) (s : State) (m : MethodId) (args : Array Value) (below : List Frame) (meth : Method) (c : Code) (Q : State → Prop) (D : va_G) (κ : Nat → ClassId) (A : Nat → Prop) (H0 : Heap) (t : Nat → Nat) (mk : Nat) (ad : Nat → Nat → Nat) (n1 : Nat) (i2 : Int) (i3 : Int) (i4 : Int) (i5 : Int) (i6 : Int) (i7 : Int) (t_size : Int) (t_lines : Nat) : Prop := ∀ (H : Heap) (locs : List Loc) (ls : Array Slot), va_P D vwCl ([((t 0), .inr (0, [.ref (t 1), .int (zi t_size)])), ((t 1), .inl (κ 1, 27, .inl (zc t_lines)))]) H → va_D A ([((t 0), .inr (0, [.ref (t 1), .int (zi t_size)])), ((t 1), .inl (κ 1, 27, .inl (zc t_lines)))]) → va_S A H0 H locs → lv_has ls 8 [(0, .ref (t 0)), (1, .ref (ad n1 0)), (2, .int (zi i2)), (3, .int (zi i3)), (4, .int (zi i4))] → W p l e zr_X0_gather s m args below meth c H locs 0 0 Q (F0 m 0 ls [])
def zA_X0_gather_28 (p : Program) (l : Launch) (e : Env) (s : State) (m : MethodId) (args : Array Value) (below : List Frame) (meth : Method) (c : Code) (Q : State → Prop) (D : va_G) (κ : Nat → ClassId) (A : Nat → Prop) (H0 : Heap) (t : Nat → Nat) (mk : Nat) (ad : Nat → Nat → Nat) (n1 : Nat) (i2 : Int) (i3 : Int) (i4 : Int) (i5 : Int) (i6 : Int) (i7 : Int) (t_size : Int) (t_lines : Nat) : Prop := ∀ (H : Heap) (locs : List Loc) (ls : Array Slot), va_P D vwCl ([((t 0), .inr (0, [.ref (t 1), .int (zi t_size)])), ((t 1), .inl (κ 1, 27, .inl (zc t_lines)))]) H → va_D A ([((t 0), .inr (0, [.ref (t 1), .int (zi t_size)])), ((t 1), .inl (κ 1, 27, .inl (zc t_lines)))]) → va_S A H0 H locs → lv_has ls 8 [(0, .ref (t 0)), (1, .ref (ad n1 0)), (3, .int (zi i3)), (5, .int (zi i5)), (6, .int (zi i6))] → W p l e zr_X0_gather s m args below meth c H locs 0 0 Q (F0 m 28 ls [])
def zA_X0_gather_36 (p : Program) (l : Launch) (e : Env) (s : State) (m : MethodId) (args : Array Value) (below : List Frame) (meth : Method) (c : Code) (Q : State → Prop) (D : va_G) (κ : Nat → ClassId) (A : Nat → Prop) (H0 : Heap) (t : Nat → Nat) (mk : Nat) (ad : Nat → Nat → Nat) (n1 : Nat) (i2 : Int) (i3 : Int) (i4 : Int) (i5 : Int) (i6 : Int) (i7 : Int) (t_size : Int) (t_lines : Nat) : Prop := ∀ (H : Heap) (locs : List Loc) (ls : Array Slot), va_P D vwCl ([((t 0), .inr (0, [.ref (t 1), .int (zi t_size)])), ((t 1), .inl (κ 1, 27, .inl (zc t_lines)))]) H → va_D A ([((t 0), .inr (0, [.ref (t 1), .int (zi t_size)])), ((t 1), .inl (κ 1, 27, .inl (zc t_lines)))]) → va_S A H0 H locs → lv_has ls 8 [(0, .ref (t 0)), (1, .ref (ad n1 0)), (3, .int (zi i3)), (5, .int (zi i5)), (6, .int (zi i6)), (7, .int (zi i7))] → W p l e zr_X0_gather s m args below meth c H locs 0 0 Q (F0 m 36 ls [])
def zA_X0_gather (p : Program) (l : Launch) (e : Env) (s : State) (m : MethodId) (args : Array Value) (below : List Frame) (meth : Method) (c : Code) (Q : State → Prop) (D : va_G) (κ : Nat → ClassId) (A : Nat → Prop) (H0 : Heap) (t : Nat → Nat) (mk : Nat) (ad : Nat → Nat → Nat) (n1 : Nat) (st : zS_X0_gather) : Prop := match st with
  | (lab, i2, i3, i4, i5, i6, i7, t_size, t_lines) => if lab = 0 then zA_X0_gather_0 p l e s m args below meth c Q D κ A H0 t mk ad n1 i2 i3 i4 i5 i6 i7 t_size t_lines else if lab = 28 then zA_X0_gather_28 p l e s m args below meth c Q D κ A H0 t mk ad n1 i2 i3 i4 i5 i6 i7 t_size t_lines else if lab = 36 then zA_X0_gather_36 p l e s m args below meth c Q D κ A H0 t mk ad n1 i2 i3 i4 i5 i6 i7 t_size t_lines else True
set_option maxHeartbeats 4000000 in
set_option maxRecDepth 100000 in
theorem zs_X0_gather_0 {p : Program} {l : Launch} {e : Env} {s : State} {m : MethodId} {args : Array Value} {below : List Frame} {meth : Method} {c : Code} {Q : State → Prop} {D : va_G} {κ : Nat → ClassId} {A : Nat → Prop} {H0 : Heap} (t : Nat → Nat) (mk : Nat) (ad : Nat → Nat → Nat) (n1 : Nat) (hx : p.tables.exec = Jvm.exec) (hb : c.code = cX0_gather) (hml : c.maxLocals = 8) (hown : s.vm.findClass RX0 = some m.cls) (hts : ∀ w ∈ wsX0_gather, w.before args s = true) (hK : va_K D vwCl (zTY κ) s) (hA : ∀ q : Nat, H0.size ≤ q → A q) (hB : zAmb D κ mk ad H0) (hBA : zApt mk ad A H0.size) (i2 : Int) (i3 : Int) (i4 : Int) (i5 : Int) (i6 : Int) (i7 : Int) (t_size : Int) (t_lines : Nat) (hg : Go (GoE (zA_X0_gather p l e s m args below meth c Q D κ A H0 t mk ad n1) (zQ_X0_gather p l e s m args below meth c Q D κ A H0 t mk ad n1)) (zg_X0_gather_0 mk n1 i2 i3 i4 i5 i6 i7 t_size t_lines)) : zA_X0_gather_0 p l e s m args below meth c Q D κ A H0 t mk ad n1 i2 i3 i4 i5 i6 i7 t_size t_lines := by
  intro H locs ls hP hD hS hl
  unfold zg_X0_gather_0 at hg
  refine lv_aload_n hx hb dX0_gather_0 rfl (lv_at hl 1 rfl) ?_
  refine lv_aload_n hx hb dX0_gather_1 rfl (lv_at hl 1 rfl) ?_
  refine lv_iload_n hx hb dX0_gather_2 rfl (lv_at hl 3 rfl) ?_
  refine lv_iload hx hb dX0_gather_3 (lv_at hl 4 rfl) ?_
  obtain ⟨m1, hg⟩ := Go_n hg
  obtain ⟨o2, ho2, hg⟩ := Go_b hg
  refine zc_vi (rest := [.ref (ad n1 0)]) ⟨hx, hb, hml, hown, hts⟩ (zc_X5_lineOf l D κ (ad n1) n1 i3 i4 o2 ho2) (cwV 2 hts gX0_gather_X5_lineOf rfl rfl rfl (by decide +kernel) ⟨Nat.le_of_ble_eq_true rfl, Nat.le_of_ble_eq_true rfl⟩) (zpreV hK ((zamb hB hBA hS) n1 m1) 5 0 rfl rfl) rfl hl.1 rfl (Nat.le_of_ble_eq_true rfl) dX0_gather_5 ⟨Nat.zero_le _, Nat.zero_le _⟩ ?_
  obtain ⟨o3, ho3, hg⟩ := Go_b hg
  refine zc_vi (rest := []) ⟨hx, hb, hml, hown, hts⟩ (zc_X5_crossersOf l D κ (ad n1) n1 o2 o3 ho3) (cwV 1 hts gX0_gather_X5_crossersOf rfl rfl rfl (by decide +kernel) ⟨Nat.le_of_ble_eq_true rfl, Nat.le_of_ble_eq_true rfl⟩) (zpreV hK ((zamb hB hBA hS) n1 m1) 5 0 rfl rfl) rfl hl.1 rfl (Nat.le_of_ble_eq_true rfl) dX0_gather_8 ⟨Nat.zero_le _, Nat.zero_le _⟩ ?_
  refine lv_iload_n hx hb dX0_gather_11 rfl (lv_at hl 2 rfl) ?_
  refine zv_iand hx hb dX0_gather_12 ?_
  refine lv_istore (lv' := [(5, .int (zi (zand o3 i2))), (0, .ref (t 0)), (1, .ref (ad n1 0)), (2, .int (zi i2)), (3, .int (zi i3)), (4, .int (zi i4))]) hx hb dX0_gather_13 hl (by decide) rfl (fun ls hl => ?_)
  refine lv_aload_n hx hb dX0_gather_15 rfl (lv_at hl 1 rfl) ?_
  refine zv_iconst hx hb dX0_gather_16 ?_
  refine va_put (D := D) (ci := 0) (v := .int (zi (0 : Int))) (ty := .int) (C := RX0) (T := TX0) (N := 2) hx hb hts zi_X0_gather_X0 tyX0 tyX0_ok nmX0 hown hK hP hD hS 0 rfl rfl 1 (by decide) (hts (.fieldLink RX0 15 "DiamondRows$CrossedLines" "size" "I") zl_X0_gather_15) (fun _ h9 => h9) rfl (by decide +kernel) rfl rfl (Nat.le_of_ble_eq_true rfl) dX0_gather_17 (fun H locs hP hD hS => ?_)
  have hP : va_P D vwCl ([((t 0), .inr (0, [.ref (t 1), .int (zi (0 : Int))])), ((t 1), .inl (κ 1, 27, .inl (zc t_lines)))]) H := hP
  have hD : va_D A ([((t 0), .inr (0, [.ref (t 1), .int (zi (0 : Int))])), ((t 1), .inl (κ 1, 27, .inl (zc t_lines)))]) := hD
  refine lv_aload_n hx hb dX0_gather_20 rfl (lv_at hl 2 rfl) ?_
  obtain ⟨o4, ho4, hg⟩ := Go_b hg
  refine zc_vi (rest := []) ⟨hx, hb, hml, hown, hts⟩ (zc_X5_corners l D κ (ad n1) n1  o4 ho4) (cwV 0 hts gX0_gather_X5_corners rfl rfl rfl (by decide +kernel) ⟨Nat.le_of_ble_eq_true rfl, Nat.le_of_ble_eq_true rfl⟩) (zpreV hK ((zamb hB hBA hS) n1 m1) 5 0 rfl rfl) rfl hl.1 rfl (Nat.le_of_ble_eq_true rfl) dX0_gather_21 ⟨Nat.zero_le _, Nat.zero_le _⟩ ?_
  refine zv_iconst hx hb dX0_gather_24 ?_
  refine zv_isub hx hb dX0_gather_25 ?_
  refine lv_istore (lv' := [(6, .int (zi (o4 - (1 : Int)))), (5, .int (zi (zand o3 i2))), (0, .ref (t 0)), (1, .ref (ad n1 0)), (2, .int (zi i2)), (3, .int (zi i3)), (4, .int (zi i4))]) hx hb dX0_gather_26 hl (by decide) rfl (fun ls hl => ?_)
  exact (Go_s hg) H locs ls hP hD hS (lv_sub hl [2, 3, 5, 1, 0] rfl)
set_option maxHeartbeats 4000000 in
set_option maxRecDepth 100000 in
theorem zs_X0_gather_28 {p : Program} {l : Launch} {e : Env} {s : State} {m : MethodId} {args : Array Value} {below : List Frame} {meth : Method} {c : Code} {Q : State → Prop} {D : va_G} {κ : Nat → ClassId} {A : Nat → Prop} {H0 : Heap} (t : Nat → Nat) (mk : Nat) (ad : Nat → Nat → Nat) (n1 : Nat) (hx : p.tables.exec = Jvm.exec) (hb : c.code = cX0_gather) (hml : c.maxLocals = 8) (hown : s.vm.findClass RX0 = some m.cls) (hts : ∀ w ∈ wsX0_gather, w.before args s = true) (hK : va_K D vwCl (zTY κ) s) (hA : ∀ q : Nat, H0.size ≤ q → A q) (hB : zAmb D κ mk ad H0) (hBA : zApt mk ad A H0.size) (i2 : Int) (i3 : Int) (i4 : Int) (i5 : Int) (i6 : Int) (i7 : Int) (t_size : Int) (t_lines : Nat) (hg : Go (GoE (zA_X0_gather p l e s m args below meth c Q D κ A H0 t mk ad n1) (zQ_X0_gather p l e s m args below meth c Q D κ A H0 t mk ad n1)) (zg_X0_gather_28 mk n1 i2 i3 i4 i5 i6 i7 t_size t_lines)) : zA_X0_gather_28 p l e s m args below meth c Q D κ A H0 t mk ad n1 i2 i3 i4 i5 i6 i7 t_size t_lines := by
  intro H locs ls hP hD hS hl
  unfold zg_X0_gather_28 at hg
  refine lv_iload hx hb dX0_gather_28 (lv_at hl 4 rfl) ?_
  obtain ⟨b5, hg⟩ := Go_n hg
  refine zv_if_le (tgt := 110) hx hb dX0_gather_30 (by decide) b5 (fun c6 => ?_) (fun c6 => ?_)
  · have hg := Go_t c6 hg
    exact (Go_s hg) _ _ _ _ hP hD hS dX0_gather_110
  · have hg := Go_f c6 hg
    refine zv_iconst hx hb dX0_gather_33 ?_
    refine lv_istore (lv' := [(7, .int (zi (0 : Int))), (0, .ref (t 0)), (1, .ref (ad n1 0)), (3, .int (zi i3)), (5, .int (zi i5)), (6, .int (zi i6))]) hx hb dX0_gather_34 hl (by decide) rfl (fun ls hl => ?_)
    exact (Go_s hg) H locs ls hP hD hS (lv_sub hl [1, 2, 3, 4, 5, 0] rfl)
set_option maxHeartbeats 4000000 in
set_option maxRecDepth 100000 in
theorem zs_X0_gather_36 {p : Program} {l : Launch} {e : Env} {s : State} {m : MethodId} {args : Array Value} {below : List Frame} {meth : Method} {c : Code} {Q : State → Prop} {D : va_G} {κ : Nat → ClassId} {A : Nat → Prop} {H0 : Heap} (t : Nat → Nat) (mk : Nat) (ad : Nat → Nat → Nat) (n1 : Nat) (hx : p.tables.exec = Jvm.exec) (hb : c.code = cX0_gather) (hml : c.maxLocals = 8) (hown : s.vm.findClass RX0 = some m.cls) (hts : ∀ w ∈ wsX0_gather, w.before args s = true) (hK : va_K D vwCl (zTY κ) s) (hA : ∀ q : Nat, H0.size ≤ q → A q) (hB : zAmb D κ mk ad H0) (hBA : zApt mk ad A H0.size) (i2 : Int) (i3 : Int) (i4 : Int) (i5 : Int) (i6 : Int) (i7 : Int) (t_size : Int) (t_lines : Nat) (hg : Go (GoE (zA_X0_gather p l e s m args below meth c Q D κ A H0 t mk ad n1) (zQ_X0_gather p l e s m args below meth c Q D κ A H0 t mk ad n1)) (zg_X0_gather_36 mk n1 i2 i3 i4 i5 i6 i7 t_size t_lines)) : zA_X0_gather_36 p l e s m args below meth c Q D κ A H0 t mk ad n1 i2 i3 i4 i5 i6 i7 t_size t_lines := by
  intro H locs ls hP hD hS hl
  unfold zg_X0_gather_36 at hg
  refine lv_iload hx hb dX0_gather_36 (lv_at hl 5 rfl) ?_
  refine lv_aload_n hx hb dX0_gather_38 rfl (lv_at hl 1 rfl) ?_
  obtain ⟨m7, hg⟩ := Go_n hg
  obtain ⟨o8, ho8, hg⟩ := Go_b hg
  refine zc_vi (rest := [.int (zi i7)]) ⟨hx, hb, hml, hown, hts⟩ (zc_X5_lineCount l D κ (ad n1) n1  o8 ho8) (cwV 0 hts gX0_gather_X5_lineCount rfl rfl rfl (by decide +kernel) ⟨Nat.le_of_ble_eq_true rfl, Nat.le_of_ble_eq_true rfl⟩) (zpreV hK ((zamb hB hBA hS) n1 m7) 5 0 rfl rfl) rfl hl.1 rfl (Nat.le_of_ble_eq_true rfl) dX0_gather_39 ⟨Nat.zero_le _, Nat.zero_le _⟩ ?_
  obtain ⟨b9, hg⟩ := Go_n hg
  obtain ⟨b10, hg⟩ := Go_n hg
  refine zv_icmp_ge (tgt := 104) hx hb dX0_gather_42 (by decide) b9 b10 (fun c20 => ?_) (fun c20 => ?_)
  · have hg := Go_t c20 hg
    refine lv_iinc (v := zi (i6 + (-1 : Int))) (lv' := [(6, .int (zi (i6 + (-1 : Int)))), (0, .ref (t 0)), (1, .ref (ad n1 0)), (3, .int (zi i3)), (5, .int (zi i5)), (7, .int (zi i7))]) hx hb dX0_gather_104 hl (k := 4) rfl (zi_add i6 _) (by decide) rfl (fun ls hl => ?_)
    refine lv_goto (tgt := 28) hx hb dX0_gather_107 (by decide) ?_
    exact (Go_s hg) H locs ls hP hD hS (lv_sub hl [1, 2, 3, 4, 0] rfl)
  · have hg := Go_f c20 hg
    refine lv_aload_n hx hb dX0_gather_45 rfl (lv_at hl 1 rfl) ?_
    refine lv_iload hx hb dX0_gather_46 (lv_at hl 3 rfl) ?_
    refine lv_iload hx hb dX0_gather_48 (lv_at hl 5 rfl) ?_
    obtain ⟨o11, ho11, hg⟩ := Go_b hg
    refine zc_vi (rest := []) ⟨hx, hb, hml, hown, hts⟩ (zc_X5_has l D κ (ad n1) n1 i5 i7 o11 ho11) (cwV 2 hts gX0_gather_X5_has rfl rfl rfl (by decide +kernel) ⟨Nat.le_of_ble_eq_true rfl, Nat.le_of_ble_eq_true rfl⟩) (zpreV hK ((zamb hB hBA hS) n1 m7) 5 0 rfl rfl) rfl hl.1 rfl (Nat.le_of_ble_eq_true rfl) dX0_gather_50 ⟨Nat.zero_le _, Nat.zero_le _⟩ ?_
    refine zv_ifb_eq (tgt := 98) hx hb dX0_gather_53 (by decide) (fun c19 => ?_) (fun c19 => ?_)
    · have hg := Go_t c19 hg
      refine lv_iinc (v := zi (i7 + (1 : Int))) (lv' := [(7, .int (zi (i7 + (1 : Int)))), (0, .ref (t 0)), (1, .ref (ad n1 0)), (3, .int (zi i3)), (5, .int (zi i5)), (6, .int (zi i6))]) hx hb dX0_gather_98 hl (k := 5) rfl (zi_add i7 _) (by decide) rfl (fun ls hl => ?_)
      refine lv_goto (tgt := 36) hx hb dX0_gather_101 (by decide) ?_
      exact (Go_s hg) H locs ls hP hD hS (lv_sub hl [1, 2, 3, 4, 5, 0] rfl)
    · have hg := Go_f c19 hg
      refine lv_aload_n hx hb dX0_gather_56 rfl (lv_at hl 1 rfl) ?_
      refine lv_iload_n hx hb dX0_gather_57 rfl (lv_at hl 2 rfl) ?_
      refine lv_iload hx hb dX0_gather_58 (lv_at hl 5 rfl) ?_
      obtain ⟨o12, ho12, hg⟩ := Go_b hg
      refine zc_si (rest := []) ⟨hx, hb, hml, hown, hts⟩ (zc_X0_spanFrom l D κ mk ad n1 i3 i7 o12 ho12) (va_cwS 3 hts gX0_gather_X0_spanFrom rfl rfl rfl (by decide +kernel) ⟨Nat.le_of_ble_eq_true rfl, Nat.le_of_ble_eq_true rfl⟩) (zpreSa hK (hP.sub [] rfl) (zamb hB hBA hS)) rfl hl.1 rfl (Nat.le_of_ble_eq_true rfl) dX0_gather_60 ⟨Nat.zero_le _, Nat.zero_le _⟩ ?_
      refine lv_iload hx hb dX0_gather_63 (lv_at hl 4 rfl) ?_
      obtain ⟨b13, hg⟩ := Go_n hg
      obtain ⟨b14, hg⟩ := Go_n hg
      refine zv_icmp_ne (tgt := 98) hx hb dX0_gather_65 (by decide) b13 b14 (fun c18 => ?_) (fun c18 => ?_)
      · have hg := Go_f c18 hg
        refine lv_iinc (v := zi (i7 + (1 : Int))) (lv' := [(7, .int (zi (i7 + (1 : Int)))), (0, .ref (t 0)), (1, .ref (ad n1 0)), (3, .int (zi i3)), (5, .int (zi i5)), (6, .int (zi i6))]) hx hb dX0_gather_98 hl (k := 5) rfl (zi_add i7 _) (by decide) rfl (fun ls hl => ?_)
        refine lv_goto (tgt := 36) hx hb dX0_gather_101 (by decide) ?_
        exact (Go_s hg) H locs ls hP hD hS (lv_sub hl [1, 2, 3, 4, 5, 0] rfl)
      · have hg := Go_t c18 hg
        refine lv_aload_n hx hb dX0_gather_68 rfl (lv_at hl 0 rfl) ?_
        refine va_get (D := D) (ci := 0) (v := .int (zi t_size)) (C := RX0) (T := TX0) (N := 2) hx hb hts zi_X0_gather_X0 hown hK hP 0 rfl rfl 1 (by decide) (hts (.fieldLink RX0 15 "DiamondRows$CrossedLines" "size" "I") zl_X0_gather_15) (fun _ h9 => h9) rfl dX0_gather_69 ?_
        refine zv_bipush hx hb dX0_gather_72 (by decide) ?_
        obtain ⟨b15, hg⟩ := Go_n hg
        refine zv_icmp_ge (tgt := 98) hx hb dX0_gather_74 (by decide) b15 (by decide) (fun c17 => ?_) (fun c17 => ?_)
        · have hg := Go_t c17 hg
          refine lv_iinc (v := zi (i7 + (1 : Int))) (lv' := [(7, .int (zi (i7 + (1 : Int)))), (0, .ref (t 0)), (1, .ref (ad n1 0)), (3, .int (zi i3)), (5, .int (zi i5)), (6, .int (zi i6))]) hx hb dX0_gather_98 hl (k := 5) rfl (zi_add i7 _) (by decide) rfl (fun ls hl => ?_)
          refine lv_goto (tgt := 36) hx hb dX0_gather_101 (by decide) ?_
          exact (Go_s hg) H locs ls hP hD hS (lv_sub hl [1, 2, 3, 4, 5, 0] rfl)
        · have hg := Go_f c17 hg
          refine lv_aload_n hx hb dX0_gather_77 rfl (lv_at hl 0 rfl) ?_
          refine va_get (D := D) (ci := 0) (v := .ref (t 1)) (C := RX0) (T := TX0) (N := 2) hx hb hts zi_X0_gather_X0 hown hK hP 0 rfl rfl 0 (by decide) (hts (.fieldLink RX0 9 "DiamondRows$CrossedLines" "lines" "[I") zl_X0_gather_9) (fun _ h9 => h9) rfl dX0_gather_78 ?_
          refine lv_aload_n hx hb dX0_gather_81 rfl (lv_at hl 0 rfl) ?_
          refine va_get (D := D) (ci := 0) (v := .int (zi t_size)) (C := RX0) (T := TX0) (N := 2) hx hb hts zi_X0_gather_X0 hown hK hP 0 rfl rfl 1 (by decide) (hts (.fieldLink RX0 15 "DiamondRows$CrossedLines" "size" "I") zl_X0_gather_15) (fun _ h9 => h9) rfl dX0_gather_82 ?_
          refine lv_iload hx hb dX0_gather_85 (lv_at hl 5 rfl) ?_
          obtain ⟨n16, hg⟩ := Go_n hg
          refine zv_iast hx hb hK hP hD hS 1 1 rfl rfl (by decide) n16 dX0_gather_87 (fun H locs hP hD hS => ?_)
          have hP : va_P D vwCl ([((t 0), .inr (0, [.ref (t 1), .int (zi t_size)])), ((t 1), .inl (κ 1, 27, .inl (zc (zset t_lines (Int.toNat t_size) i7))))]) H := hP
          have hD : va_D A ([((t 0), .inr (0, [.ref (t 1), .int (zi t_size)])), ((t 1), .inl (κ 1, 27, .inl (zc (zset t_lines (Int.toNat t_size) i7))))]) := hD
          refine lv_aload_n hx hb dX0_gather_88 rfl (lv_at hl 0 rfl) ?_
          refine lv_dup hx hb dX0_gather_89 rfl ?_
          refine va_get (D := D) (ci := 0) (v := .int (zi t_size)) (C := RX0) (T := TX0) (N := 2) hx hb hts zi_X0_gather_X0 hown hK hP 0 rfl rfl 1 (by decide) (hts (.fieldLink RX0 15 "DiamondRows$CrossedLines" "size" "I") zl_X0_gather_15) (fun _ h9 => h9) rfl dX0_gather_90 ?_
          refine zv_iconst hx hb dX0_gather_93 ?_
          refine zv_iadd hx hb dX0_gather_94 ?_
          refine va_put (D := D) (ci := 0) (v := .int (zi (t_size + (1 : Int)))) (ty := .int) (C := RX0) (T := TX0) (N := 2) hx hb hts zi_X0_gather_X0 tyX0 tyX0_ok nmX0 hown hK hP hD hS 0 rfl rfl 1 (by decide) (hts (.fieldLink RX0 15 "DiamondRows$CrossedLines" "size" "I") zl_X0_gather_15) (fun _ h9 => h9) rfl (by decide +kernel) rfl rfl (Nat.le_of_ble_eq_true rfl) dX0_gather_95 (fun H locs hP hD hS => ?_)
          have hP : va_P D vwCl ([((t 0), .inr (0, [.ref (t 1), .int (zi (t_size + (1 : Int)))])), ((t 1), .inl (κ 1, 27, .inl (zc (zset t_lines (Int.toNat t_size) i7))))]) H := hP
          have hD : va_D A ([((t 0), .inr (0, [.ref (t 1), .int (zi (t_size + (1 : Int)))])), ((t 1), .inl (κ 1, 27, .inl (zc (zset t_lines (Int.toNat t_size) i7))))]) := hD
          refine lv_iinc (v := zi (i7 + (1 : Int))) (lv' := [(7, .int (zi (i7 + (1 : Int)))), (0, .ref (t 0)), (1, .ref (ad n1 0)), (3, .int (zi i3)), (5, .int (zi i5)), (6, .int (zi i6))]) hx hb dX0_gather_98 hl (k := 5) rfl (zi_add i7 _) (by decide) rfl (fun ls hl => ?_)
          refine lv_goto (tgt := 36) hx hb dX0_gather_101 (by decide) ?_
          exact (Go_s hg) H locs ls hP hD hS (lv_sub hl [1, 2, 3, 4, 5, 0] rfl)
set_option maxHeartbeats 4000000 in
set_option maxRecDepth 100000 in
theorem zw_X0_gather {p : Program} {l : Launch} {e : Env} {s : State} {m : MethodId} {args : Array Value} {below : List Frame} {meth : Method} {c : Code} {Q : State → Prop} {D : va_G} {κ : Nat → ClassId} {A : Nat → Prop} {H0 : Heap} (t : Nat → Nat) (mk : Nat) (ad : Nat → Nat → Nat) (n1 : Nat) (t_size : Int) (t_lines : Nat) (i2 : Int) (i3 : Int) (i4 : Int) (hx : p.tables.exec = Jvm.exec) (hb : c.code = cX0_gather) (hml : c.maxLocals = 8) (hown : s.vm.findClass RX0 = some m.cls) (hts : ∀ w ∈ wsX0_gather, w.before args s = true) (hK : va_K D vwCl (zTY κ) s) (hA : ∀ q : Nat, H0.size ≤ q → A q) (hB : zAmb D κ mk ad H0) (hBA : zApt mk ad A H0.size) (out : Int × Nat) (h : zf_X0_gather mk t_size t_lines n1 i2 i3 i4 = some out) (hq : zQ_X0_gather p l e s m args below meth c Q D κ A H0 t mk ad n1 out) : zA_X0_gather_0 p l e s m args below meth c Q D κ A H0 t mk ad n1 i2 i3 i4 0 0 0 t_size t_lines := by
  have hst : ∀ st : zS_X0_gather, Go (GoE (zA_X0_gather p l e s m args below meth c Q D κ A H0 t mk ad n1) (zQ_X0_gather p l e s m args below meth c Q D κ A H0 t mk ad n1)) (zg_X0_gather mk n1 st) → zA_X0_gather p l e s m args below meth c Q D κ A H0 t mk ad n1 st := by
    intro st hg
    obtain ⟨lab, i2, i3, i4, i5, i6, i7, t_size, t_lines⟩ := st
    by_cases h0 : lab = 0
    · subst h0
      exact zs_X0_gather_0 t mk ad n1 hx hb hml hown hts hK hA hB hBA i2 i3 i4 i5 i6 i7 t_size t_lines hg
    by_cases h28 : lab = 28
    · subst h28
      exact zs_X0_gather_28 t mk ad n1 hx hb hml hown hts hK hA hB hBA i2 i3 i4 i5 i6 i7 t_size t_lines hg
    by_cases h36 : lab = 36
    · subst h36
      exact zs_X0_gather_36 t mk ad n1 hx hb hml hown hts hK hA hB hBA i2 i3 i4 i5 i6 i7 t_size t_lines hg
    have hz : zg_X0_gather mk n1 (lab, i2, i3, i4, i5, i6, i7, t_size, t_lines) = none := by simp [zg_X0_gather, h0, h28, h36]
    rw [hz] at hg
    obtain ⟨a, h1, -⟩ := hg
    cases h1
  exact jwalk (At := zA_X0_gather p l e s m args below meth c Q D κ A H0 t mk ad n1) (Ret := zQ_X0_gather p l e s m args below meth c Q D κ A H0 t mk ad n1) hst _ _ _ h hq
set_option maxHeartbeats 4000000 in
set_option maxRecDepth 100000 in
theorem zc_X0_gather (l : Launch) (D : va_G) (κ : Nat → ClassId) (t : Nat → Nat) (mk : Nat) (ad : Nat → Nat → Nat) (sz : Nat) (t_size : Int) (t_lines : Nat) (n1 : Nat) (i2 : Int) (i3 : Int) (i4 : Int) (out : Int × Nat) (h : zf_X0_gather mk t_size t_lines n1 i2 i3 i4 = some out) : Met l yX0_gather wsX0_gather zr_X0_gather (va_Pc [.ref (t 0), .ref (ad n1 0), .int (zi i2), .int (zi i3), .int (zi i4)] (zWa D κ mk ad ([((t 0), .inr (0, [.ref (t 1), .int (zi t_size)])), ((t 1), .inl (κ 1, 27, .inl (zc t_lines)))]) sz)) (va_Qv (fun (_ : Unit) => True) (fun _ => zB D κ (va_A ([((t 0), .inr (0, [.ref (t 1), .int (zi t_size)])), ((t 1), .inl (κ 1, 27, .inl (zc t_lines)))]) sz) ([((t 0), .inr (0, [.ref (t 1), .int (zi (out.1))])), ((t 1), .inl (κ 1, 27, .inl (zc (out.2))))])) (va_A ([((t 0), .inr (0, [.ref (t 1), .int (zi t_size)])), ((t 1), .inl (κ 1, 27, .inl (zc t_lines)))]) sz)) 0 0 (va_A ([((t 0), .inr (0, [.ref (t 1), .int (zi t_size)])), ((t 1), .inl (κ 1, 27, .inl (zc t_lines)))]) sz) := by
  refine Met.ofW (cc := cX0_gather) (maxL := 8) (ret := none) (by decide +kernel) rfl ?_
  intro p e s m args below meth c s₁ B hml hv
  obtain ⟨rfl, hsz, hP, hK, hD0, hB, hBA⟩ := hv
  have hx := B.exec
  have hb := B.bytes
  have hr := B.returns
  have hts := atoms_spec (ws := wsX0_gather) B.pre
  have hown : s.vm.findClass RX0 = some m.cls := findClass_of_methodNamed B.named
  have hlocks := B.notSynchronized
  subst hsz
  have hD := hD0.self (sz := s.heap.size)
  generalize hAe : va_A ([((t 0), .inr (0, [.ref (t 1), .int (zi t_size)])), ((t 1), .inl (κ 1, 27, .inl (zc t_lines)))]) s.heap.size = A at hD hBA ⊢
  have hA : ∀ q : Nat, s.heap.size ≤ q → A q := fun q h => by rw [← hAe]; exact Or.inr h
  have hS : va_S A s.heap s.heap [] := va_S.rf
  have hl := lv_entry ([.ref (t 0), .ref (ad n1 0), .int (zi i2), .int (zi i3), .int (zi i4)]) (n := 8) (Nat.le_of_ble_eq_true rfl)
  rw [lg_entry_eq]
  generalize (lg_sl ([.ref (t 0), .ref (ad n1 0), .int (zi i2), .int (zi i3), .int (zi i4)]) ++ List.replicate (8 - (lg_sl ([.ref (t 0), .ref (ad n1 0), .int (zi i2), .int (zi i3), .int (zi i4)])).length) Slot.unset).toArray = ls at hl ⊢
  have hl : lv_has ls 8 [(0, .ref (t 0)), (1, .ref (ad n1 0)), (2, .int (zi i2)), (3, .int (zi i3)), (4, .int (zi i4))] := hl
  refine (zw_X0_gather t mk ad n1 t_size t_lines i2 i3 i4 hx hb hml hown hts hK hA hB hBA out h ?_) s.heap [] ls hP hD hS (lv_sub hl [0, 1, 2, 3, 4] rfl)
  exact fun H locs ls pc hP hD hS hd => W.vret hx hb hr (fun t ht hW => ⟨⟨(), rfl, trivial, by rw [ht]; exact hP, va_K.moved hW.alike hK, hD⟩, hS.F ht⟩) hS.2.2 hd
/-! DiamondRows$CrossedLines.pairAt(LDiamondRows$Polygon;I)I -/
abbrev zr_X0_pairAt : Room := { frames := 2, cells := 0, slots := 0, locals := 42 }
noncomputable def zf_X0_pairAt (mk : Nat) (t_size : Int) (t_lines : Nat) (n1 : Nat) (i2 : Int) : Option (Int) :=
  if zout i2 then none else
  if i2 < 0 then
  some ((-1 : Int))
  else
  if zout t_size then none else
  if i2 < t_size then
  if i2 < 0 ∨ 27 ≤ i2 then none else
  if zno mk n1 then none else
  Option.bind (zf_X5_pairOf n1 (zget t_lines (Int.toNat i2))) (fun o5 =>
  some (o5))
  else
  some ((-1 : Int))
theorem zi_X0_pairAt_X0 : ∀ w ∈ u_ws RX0 TX0 2, w ∈ wsX0_pairAt := by decide +kernel
theorem zl_X0_pairAt_9 : Cond.fieldLink RX0 9 "DiamondRows$CrossedLines" "lines" "[I" ∈ wsX0_pairAt := by decide +kernel
theorem zl_X0_pairAt_15 : Cond.fieldLink RX0 15 "DiamondRows$CrossedLines" "size" "I" ∈ wsX0_pairAt := by decide +kernel
def zQ_X0_pairAt (p : Program) (l : Launch) (e : Env) (s : State) (m : MethodId) (args : Array Value) (below : List Frame) (meth : Method) (c : Code) (Q : State → Prop) (H : Heap) (locs : List Loc)  (o : Int) : Prop := ∀ (ls : Array Slot) (pc : Nat), decode cX0_pairAt pc = .ok (.ireturn, 1) → W p l e zr_X0_pairAt s m args below meth c H locs 0 0 Q (F0 m pc ls [.int (zi o)])
set_option maxHeartbeats 4000000 in
set_option maxRecDepth 100000 in
theorem zs_X0_pairAt {p : Program} {l : Launch} {e : Env} {s : State} {m : MethodId} {args : Array Value} {below : List Frame} {meth : Method} {c : Code} {Q : State → Prop} {D : va_G} {κ : Nat → ClassId} {H : Heap} {locs : List Loc} (t : Nat → Nat) (mk : Nat) (ad : Nat → Nat → Nat) (t_size : Int) (t_lines : Nat) (n1 : Nat) (i2 : Int) (hx : p.tables.exec = Jvm.exec) (hb : c.code = cX0_pairAt) (hml : c.maxLocals = 3) (hown : s.vm.findClass RX0 = some m.cls) (hts : ∀ w ∈ wsX0_pairAt, w.before args s = true) (hK : va_K D vwCl (zTY κ) s) (hP : va_P D vwCl ([((t 0), .inr (0, [.ref (t 1), .int (zi t_size)])), ((t 1), .inl (κ 1, 27, .inl (zc t_lines)))]) H) (hB : zAmb D κ mk ad H) (ls : Array Slot) (hl : lv_has ls 3 [(0, .ref (t 0)), (1, .ref (ad n1 0)), (2, .int (zi i2))]) (hg : Go (zQ_X0_pairAt p l e s m args below meth c Q H locs) (zf_X0_pairAt mk t_size t_lines n1 i2)) : W p l e zr_X0_pairAt s m args below meth c H locs 0 0 Q (F0 m 0 ls []) := by
  unfold zf_X0_pairAt at hg
  refine lv_iload_n hx hb dX0_pairAt_0 rfl (lv_at hl 2 rfl) ?_
  obtain ⟨b1, hg⟩ := Go_n hg
  refine zv_if_lt (tgt := 12) hx hb dX0_pairAt_1 (by decide) b1 (fun c7 => ?_) (fun c7 => ?_)
  · have hg := Go_t c7 hg
    refine zv_iconst hx hb dX0_pairAt_12 ?_
    refine lv_goto (tgt := 26) hx hb dX0_pairAt_13 (by decide) ?_
    exact (Go_s hg) _ _ dX0_pairAt_26
  · have hg := Go_f c7 hg
    refine lv_iload_n hx hb dX0_pairAt_4 rfl (lv_at hl 2 rfl) ?_
    refine lv_aload_n hx hb dX0_pairAt_5 rfl (lv_at hl 0 rfl) ?_
    refine va_get (D := D) (ci := 0) (v := .int (zi t_size)) (C := RX0) (T := TX0) (N := 2) hx hb hts zi_X0_pairAt_X0 hown hK hP 0 rfl rfl 1 (by decide) (hts (.fieldLink RX0 15 "DiamondRows$CrossedLines" "size" "I") zl_X0_pairAt_15) (fun _ h9 => h9) rfl dX0_pairAt_6 ?_
    obtain ⟨b2, hg⟩ := Go_n hg
    refine zv_icmp_lt (tgt := 16) hx hb dX0_pairAt_9 (by decide) b1 b2 (fun c6 => ?_) (fun c6 => ?_)
    · have hg := Go_t c6 hg
      refine lv_aload_n hx hb dX0_pairAt_16 rfl (lv_at hl 1 rfl) ?_
      refine lv_aload_n hx hb dX0_pairAt_17 rfl (lv_at hl 0 rfl) ?_
      refine va_get (D := D) (ci := 0) (v := .ref (t 1)) (C := RX0) (T := TX0) (N := 2) hx hb hts zi_X0_pairAt_X0 hown hK hP 0 rfl rfl 0 (by decide) (hts (.fieldLink RX0 9 "DiamondRows$CrossedLines" "lines" "[I") zl_X0_pairAt_9) (fun _ h9 => h9) rfl dX0_pairAt_18 ?_
      refine lv_iload_n hx hb dX0_pairAt_21 rfl (lv_at hl 2 rfl) ?_
      obtain ⟨n3, hg⟩ := Go_n hg
      refine zv_iald hx hb hK hP 1 1 rfl rfl (by decide) n3 dX0_pairAt_22 ?_
      obtain ⟨m4, hg⟩ := Go_n hg
      obtain ⟨o5, ho5, hg⟩ := Go_b hg
      refine zc_vi (rest := []) ⟨hx, hb, hml, hown, hts⟩ (zc_X5_pairOf l D κ (ad n1) n1 (zget t_lines (Int.toNat i2)) o5 ho5) (cwV 1 hts gX0_pairAt_X5_pairOf rfl rfl rfl (by decide +kernel) ⟨Nat.le_of_ble_eq_true rfl, Nat.le_of_ble_eq_true rfl⟩) (zpreV hK (hB n1 m4) 5 0 rfl rfl) rfl hl.1 rfl (Nat.le_of_ble_eq_true rfl) dX0_pairAt_23 ⟨Nat.zero_le _, Nat.zero_le _⟩ ?_
      exact (Go_s hg) _ _ dX0_pairAt_26
    · have hg := Go_f c6 hg
      refine zv_iconst hx hb dX0_pairAt_12 ?_
      refine lv_goto (tgt := 26) hx hb dX0_pairAt_13 (by decide) ?_
      exact (Go_s hg) _ _ dX0_pairAt_26
set_option maxHeartbeats 4000000 in
set_option maxRecDepth 100000 in
theorem zc_X0_pairAt (l : Launch) (D : va_G) (κ : Nat → ClassId) (t : Nat → Nat) (mk : Nat) (ad : Nat → Nat → Nat) (t_size : Int) (t_lines : Nat) (n1 : Nat) (i2 : Int) (out : Int) (h : zf_X0_pairAt mk t_size t_lines n1 i2 = some out) : Met l yX0_pairAt wsX0_pairAt zr_X0_pairAt (va_Pc [.ref (t 0), .ref (ad n1 0), .int (zi i2)] (zRa D κ mk ad ([((t 0), .inr (0, [.ref (t 1), .int (zi t_size)])), ((t 1), .inl (κ 1, 27, .inl (zc t_lines)))]))) (vp_Si (fun x => x = zi out)) 0 0 (fun _ => False) := by
  refine Met.ofW (cc := cX0_pairAt) (maxL := 3) (ret := (some .int)) (by decide +kernel) rfl ?_
  intro p e s m args below meth c s₁ B hml hv
  obtain ⟨rfl, hP, hK, hB⟩ := hv
  have hx := B.exec
  have hb := B.bytes
  have hr := B.returns
  have hts := atoms_spec (ws := wsX0_pairAt) B.pre
  have hown : s.vm.findClass RX0 = some m.cls := findClass_of_methodNamed B.named
  have hlocks := B.notSynchronized
  have hl := lv_entry ([.ref (t 0), .ref (ad n1 0), .int (zi i2)]) (n := 3) (Nat.le_of_ble_eq_true rfl)
  rw [lg_entry_eq]
  generalize (lg_sl ([.ref (t 0), .ref (ad n1 0), .int (zi i2)]) ++ List.replicate (3 - (lg_sl ([.ref (t 0), .ref (ad n1 0), .int (zi i2)])).length) Slot.unset).toArray = ls at hl ⊢
  have hl : lv_has ls 3 [(0, .ref (t 0)), (1, .ref (ad n1 0)), (2, .int (zi i2))] := hl
  refine zs_X0_pairAt t mk ad t_size t_lines n1 i2 hx hb hml hown hts hK hP hB ls hl ⟨out, h, ?_⟩
  exact fun ls pc hd => W.iret hx hb hr (fun t ht hW => ⟨_, rfl, rfl, ht⟩) (fun _ h => by cases h) hd
/-! DiamondRows$CrossedLines.sharedWithNext(LDiamondRows$Polygon;I)I -/
abbrev zr_X0_sharedWithNext : Room := { frames := 2, cells := 0, slots := 0, locals := 42 }
noncomputable def zf_X0_sharedWithNext (mk : Nat) (t_size : Int) (t_lines : Nat) (n1 : Nat) (i2 : Int) : Option (Int) :=
  if zout i2 then none else
  if i2 < 0 then
  some ((-1 : Int))
  else
  if zout (t_size - (1 : Int)) then none else
  if i2 < (t_size - (1 : Int)) then
  if i2 < 0 ∨ 27 ≤ i2 then none else
  if zno mk n1 then none else
  Option.bind (zf_X5_lesserOf n1 (zget t_lines (Int.toNat i2))) (fun o5 =>
  if (i2 + (1 : Int)) < 0 ∨ 27 ≤ (i2 + (1 : Int)) then none else
  Option.bind (zf_X5_lesserOf n1 (zget t_lines (Int.toNat (i2 + (1 : Int))))) (fun o7 =>
  Option.bind (zf_X5_greaterOf n1 (zget t_lines (Int.toNat (i2 + (1 : Int))))) (fun o8 =>
  if zout o5 then none else
  if zout o7 then none else
  if o5 = o7 then
  some (o5)
  else
  if zout o8 then none else
  if o5 = o8 then
  some (o5)
  else
  Option.bind (zf_X5_greaterOf n1 (zget t_lines (Int.toNat i2))) (fun o12 =>
  some (o12)))))
  else
  some ((-1 : Int))
theorem zi_X0_sharedWithNext_X0 : ∀ w ∈ u_ws RX0 TX0 2, w ∈ wsX0_sharedWithNext := by decide +kernel
theorem zl_X0_sharedWithNext_9 : Cond.fieldLink RX0 9 "DiamondRows$CrossedLines" "lines" "[I" ∈ wsX0_sharedWithNext := by decide +kernel
theorem zl_X0_sharedWithNext_15 : Cond.fieldLink RX0 15 "DiamondRows$CrossedLines" "size" "I" ∈ wsX0_sharedWithNext := by decide +kernel
def zQ_X0_sharedWithNext (p : Program) (l : Launch) (e : Env) (s : State) (m : MethodId) (args : Array Value) (below : List Frame) (meth : Method) (c : Code) (Q : State → Prop) (H : Heap) (locs : List Loc)  (o : Int) : Prop := ∀ (ls : Array Slot) (pc : Nat), decode cX0_sharedWithNext pc = .ok (.ireturn, 1) → W p l e zr_X0_sharedWithNext s m args below meth c H locs 0 0 Q (F0 m pc ls [.int (zi o)])
set_option maxHeartbeats 4000000 in
set_option maxRecDepth 100000 in
theorem zs_X0_sharedWithNext {p : Program} {l : Launch} {e : Env} {s : State} {m : MethodId} {args : Array Value} {below : List Frame} {meth : Method} {c : Code} {Q : State → Prop} {D : va_G} {κ : Nat → ClassId} {H : Heap} {locs : List Loc} (t : Nat → Nat) (mk : Nat) (ad : Nat → Nat → Nat) (t_size : Int) (t_lines : Nat) (n1 : Nat) (i2 : Int) (hx : p.tables.exec = Jvm.exec) (hb : c.code = cX0_sharedWithNext) (hml : c.maxLocals = 6) (hown : s.vm.findClass RX0 = some m.cls) (hts : ∀ w ∈ wsX0_sharedWithNext, w.before args s = true) (hK : va_K D vwCl (zTY κ) s) (hP : va_P D vwCl ([((t 0), .inr (0, [.ref (t 1), .int (zi t_size)])), ((t 1), .inl (κ 1, 27, .inl (zc t_lines)))]) H) (hB : zAmb D κ mk ad H) (ls : Array Slot) (hl : lv_has ls 6 [(0, .ref (t 0)), (1, .ref (ad n1 0)), (2, .int (zi i2))]) (hg : Go (zQ_X0_sharedWithNext p l e s m args below meth c Q H locs) (zf_X0_sharedWithNext mk t_size t_lines n1 i2)) : W p l e zr_X0_sharedWithNext s m args below meth c H locs 0 0 Q (F0 m 0 ls []) := by
  unfold zf_X0_sharedWithNext at hg
  refine lv_iload_n hx hb dX0_sharedWithNext_0 rfl (lv_at hl 2 rfl) ?_
  obtain ⟨b1, hg⟩ := Go_n hg
  refine zv_if_lt (tgt := 14) hx hb dX0_sharedWithNext_1 (by decide) b1 (fun c16 => ?_) (fun c16 => ?_)
  · have hg := Go_t c16 hg
    refine zv_iconst hx hb dX0_sharedWithNext_14 ?_
    exact (Go_s hg) _ _ dX0_sharedWithNext_15
  · have hg := Go_f c16 hg
    refine lv_iload_n hx hb dX0_sharedWithNext_4 rfl (lv_at hl 2 rfl) ?_
    refine lv_aload_n hx hb dX0_sharedWithNext_5 rfl (lv_at hl 0 rfl) ?_
    refine va_get (D := D) (ci := 0) (v := .int (zi t_size)) (C := RX0) (T := TX0) (N := 2) hx hb hts zi_X0_sharedWithNext_X0 hown hK hP 0 rfl rfl 1 (by decide) (hts (.fieldLink RX0 15 "DiamondRows$CrossedLines" "size" "I") zl_X0_sharedWithNext_15) (fun _ h9 => h9) rfl dX0_sharedWithNext_6 ?_
    refine zv_iconst hx hb dX0_sharedWithNext_9 ?_
    refine zv_isub hx hb dX0_sharedWithNext_10 ?_
    obtain ⟨b2, hg⟩ := Go_n hg
    refine zv_icmp_lt (tgt := 16) hx hb dX0_sharedWithNext_11 (by decide) b1 b2 (fun c15 => ?_) (fun c15 => ?_)
    · have hg := Go_t c15 hg
      refine lv_aload_n hx hb dX0_sharedWithNext_16 rfl (lv_at hl 1 rfl) ?_
      refine lv_aload_n hx hb dX0_sharedWithNext_17 rfl (lv_at hl 0 rfl) ?_
      refine va_get (D := D) (ci := 0) (v := .ref (t 1)) (C := RX0) (T := TX0) (N := 2) hx hb hts zi_X0_sharedWithNext_X0 hown hK hP 0 rfl rfl 0 (by decide) (hts (.fieldLink RX0 9 "DiamondRows$CrossedLines" "lines" "[I") zl_X0_sharedWithNext_9) (fun _ h9 => h9) rfl dX0_sharedWithNext_18 ?_
      refine lv_iload_n hx hb dX0_sharedWithNext_21 rfl (lv_at hl 2 rfl) ?_
      obtain ⟨n3, hg⟩ := Go_n hg
      refine zv_iald hx hb hK hP 1 1 rfl rfl (by decide) n3 dX0_sharedWithNext_22 ?_
      obtain ⟨m4, hg⟩ := Go_n hg
      obtain ⟨o5, ho5, hg⟩ := Go_b hg
      refine zc_vi (rest := []) ⟨hx, hb, hml, hown, hts⟩ (zc_X5_lesserOf l D κ (ad n1) n1 (zget t_lines (Int.toNat i2)) o5 ho5) (cwV 1 hts gX0_sharedWithNext_X5_lesserOf rfl rfl rfl (by decide +kernel) ⟨Nat.le_of_ble_eq_true rfl, Nat.le_of_ble_eq_true rfl⟩) (zpreV hK (hB n1 m4) 5 0 rfl rfl) rfl hl.1 rfl (Nat.le_of_ble_eq_true rfl) dX0_sharedWithNext_23 ⟨Nat.zero_le _, Nat.zero_le _⟩ ?_
      refine lv_istore_n (lv' := [(3, .int (zi o5)), (0, .ref (t 0)), (1, .ref (ad n1 0)), (2, .int (zi i2))]) hx hb dX0_sharedWithNext_26 rfl hl (by decide) rfl (fun ls hl => ?_)
      refine lv_aload_n hx hb dX0_sharedWithNext_27 rfl (lv_at hl 2 rfl) ?_
      refine lv_aload_n hx hb dX0_sharedWithNext_28 rfl (lv_at hl 1 rfl) ?_
      refine va_get (D := D) (ci := 0) (v := .ref (t 1)) (C := RX0) (T := TX0) (N := 2) hx hb hts zi_X0_sharedWithNext_X0 hown hK hP 0 rfl rfl 0 (by decide) (hts (.fieldLink RX0 9 "DiamondRows$CrossedLines" "lines" "[I") zl_X0_sharedWithNext_9) (fun _ h9 => h9) rfl dX0_sharedWithNext_29 ?_
      refine lv_iload_n hx hb dX0_sharedWithNext_32 rfl (lv_at hl 3 rfl) ?_
      refine zv_iconst hx hb dX0_sharedWithNext_33 ?_
      refine zv_iadd hx hb dX0_sharedWithNext_34 ?_
      obtain ⟨n6, hg⟩ := Go_n hg
      refine zv_iald hx hb hK hP 1 1 rfl rfl (by decide) n6 dX0_sharedWithNext_35 ?_
      obtain ⟨o7, ho7, hg⟩ := Go_b hg
      refine zc_vi (rest := []) ⟨hx, hb, hml, hown, hts⟩ (zc_X5_lesserOf l D κ (ad n1) n1 (zget t_lines (Int.toNat (i2 + (1 : Int)))) o7 ho7) (cwV 1 hts gX0_sharedWithNext_X5_lesserOf rfl rfl rfl (by decide +kernel) ⟨Nat.le_of_ble_eq_true rfl, Nat.le_of_ble_eq_true rfl⟩) (zpreV hK (hB n1 m4) 5 0 rfl rfl) rfl hl.1 rfl (Nat.le_of_ble_eq_true rfl) dX0_sharedWithNext_36 ⟨Nat.zero_le _, Nat.zero_le _⟩ ?_
      refine lv_istore (lv' := [(4, .int (zi o7)), (3, .int (zi o5)), (0, .ref (t 0)), (1, .ref (ad n1 0)), (2, .int (zi i2))]) hx hb dX0_sharedWithNext_39 hl (by decide) rfl (fun ls hl => ?_)
      refine lv_aload_n hx hb dX0_sharedWithNext_41 rfl (lv_at hl 3 rfl) ?_
      refine lv_aload_n hx hb dX0_sharedWithNext_42 rfl (lv_at hl 2 rfl) ?_
      refine va_get (D := D) (ci := 0) (v := .ref (t 1)) (C := RX0) (T := TX0) (N := 2) hx hb hts zi_X0_sharedWithNext_X0 hown hK hP 0 rfl rfl 0 (by decide) (hts (.fieldLink RX0 9 "DiamondRows$CrossedLines" "lines" "[I") zl_X0_sharedWithNext_9) (fun _ h9 => h9) rfl dX0_sharedWithNext_43 ?_
      refine lv_iload_n hx hb dX0_sharedWithNext_46 rfl (lv_at hl 4 rfl) ?_
      refine zv_iconst hx hb dX0_sharedWithNext_47 ?_
      refine zv_iadd hx hb dX0_sharedWithNext_48 ?_
      refine zv_iald hx hb hK hP 1 1 rfl rfl (by decide) n6 dX0_sharedWithNext_49 ?_
      obtain ⟨o8, ho8, hg⟩ := Go_b hg
      refine zc_vi (rest := []) ⟨hx, hb, hml, hown, hts⟩ (zc_X5_greaterOf l D κ (ad n1) n1 (zget t_lines (Int.toNat (i2 + (1 : Int)))) o8 ho8) (cwV 1 hts gX0_sharedWithNext_X5_greaterOf rfl rfl rfl (by decide +kernel) ⟨Nat.le_of_ble_eq_true rfl, Nat.le_of_ble_eq_true rfl⟩) (zpreV hK (hB n1 m4) 5 0 rfl rfl) rfl hl.1 rfl (Nat.le_of_ble_eq_true rfl) dX0_sharedWithNext_50 ⟨Nat.zero_le _, Nat.zero_le _⟩ ?_
      refine lv_istore (lv' := [(5, .int (zi o8)), (4, .int (zi o7)), (3, .int (zi o5)), (0, .ref (t 0)), (1, .ref (ad n1 0)), (2, .int (zi i2))]) hx hb dX0_sharedWithNext_53 hl (by decide) rfl (fun ls hl => ?_)
      refine lv_iload_n hx hb dX0_sharedWithNext_55 rfl (lv_at hl 2 rfl) ?_
      refine lv_iload hx hb dX0_sharedWithNext_56 (lv_at hl 1 rfl) ?_
      obtain ⟨b9, hg⟩ := Go_n hg
      obtain ⟨b10, hg⟩ := Go_n hg
      refine zv_icmp_eq (tgt := 67) hx hb dX0_sharedWithNext_58 (by decide) b9 b10 (fun c14 => ?_) (fun c14 => ?_)
      · have hg := Go_t c14 hg
        refine lv_iload_n hx hb dX0_sharedWithNext_67 rfl (lv_at hl 2 rfl) ?_
        refine lv_goto (tgt := 81) hx hb dX0_sharedWithNext_68 (by decide) ?_
        exact (Go_s hg) _ _ dX0_sharedWithNext_81
      · have hg := Go_f c14 hg
        refine lv_iload_n hx hb dX0_sharedWithNext_61 rfl (lv_at hl 2 rfl) ?_
        refine lv_iload hx hb dX0_sharedWithNext_62 (lv_at hl 0 rfl) ?_
        obtain ⟨b11, hg⟩ := Go_n hg
        refine zv_icmp_ne (tgt := 71) hx hb dX0_sharedWithNext_64 (by decide) b9 b11 (fun c13 => ?_) (fun c13 => ?_)
        · have hg := Go_f c13 hg
          refine lv_aload_n hx hb dX0_sharedWithNext_71 rfl (lv_at hl 4 rfl) ?_
          refine lv_aload_n hx hb dX0_sharedWithNext_72 rfl (lv_at hl 3 rfl) ?_
          refine va_get (D := D) (ci := 0) (v := .ref (t 1)) (C := RX0) (T := TX0) (N := 2) hx hb hts zi_X0_sharedWithNext_X0 hown hK hP 0 rfl rfl 0 (by decide) (hts (.fieldLink RX0 9 "DiamondRows$CrossedLines" "lines" "[I") zl_X0_sharedWithNext_9) (fun _ h9 => h9) rfl dX0_sharedWithNext_73 ?_
          refine lv_iload_n hx hb dX0_sharedWithNext_76 rfl (lv_at hl 5 rfl) ?_
          refine zv_iald hx hb hK hP 1 1 rfl rfl (by decide) n3 dX0_sharedWithNext_77 ?_
          obtain ⟨o12, ho12, hg⟩ := Go_b hg
          refine zc_vi (rest := []) ⟨hx, hb, hml, hown, hts⟩ (zc_X5_greaterOf l D κ (ad n1) n1 (zget t_lines (Int.toNat i2)) o12 ho12) (cwV 1 hts gX0_sharedWithNext_X5_greaterOf rfl rfl rfl (by decide +kernel) ⟨Nat.le_of_ble_eq_true rfl, Nat.le_of_ble_eq_true rfl⟩) (zpreV hK (hB n1 m4) 5 0 rfl rfl) rfl hl.1 rfl (Nat.le_of_ble_eq_true rfl) dX0_sharedWithNext_78 ⟨Nat.zero_le _, Nat.zero_le _⟩ ?_
          exact (Go_s hg) _ _ dX0_sharedWithNext_81
        · have hg := Go_t c13 hg
          refine lv_iload_n hx hb dX0_sharedWithNext_67 rfl (lv_at hl 2 rfl) ?_
          refine lv_goto (tgt := 81) hx hb dX0_sharedWithNext_68 (by decide) ?_
          exact (Go_s hg) _ _ dX0_sharedWithNext_81
    · have hg := Go_f c15 hg
      refine zv_iconst hx hb dX0_sharedWithNext_14 ?_
      exact (Go_s hg) _ _ dX0_sharedWithNext_15
set_option maxHeartbeats 4000000 in
set_option maxRecDepth 100000 in
theorem zc_X0_sharedWithNext (l : Launch) (D : va_G) (κ : Nat → ClassId) (t : Nat → Nat) (mk : Nat) (ad : Nat → Nat → Nat) (t_size : Int) (t_lines : Nat) (n1 : Nat) (i2 : Int) (out : Int) (h : zf_X0_sharedWithNext mk t_size t_lines n1 i2 = some out) : Met l yX0_sharedWithNext wsX0_sharedWithNext zr_X0_sharedWithNext (va_Pc [.ref (t 0), .ref (ad n1 0), .int (zi i2)] (zRa D κ mk ad ([((t 0), .inr (0, [.ref (t 1), .int (zi t_size)])), ((t 1), .inl (κ 1, 27, .inl (zc t_lines)))]))) (vp_Si (fun x => x = zi out)) 0 0 (fun _ => False) := by
  refine Met.ofW (cc := cX0_sharedWithNext) (maxL := 6) (ret := (some .int)) (by decide +kernel) rfl ?_
  intro p e s m args below meth c s₁ B hml hv
  obtain ⟨rfl, hP, hK, hB⟩ := hv
  have hx := B.exec
  have hb := B.bytes
  have hr := B.returns
  have hts := atoms_spec (ws := wsX0_sharedWithNext) B.pre
  have hown : s.vm.findClass RX0 = some m.cls := findClass_of_methodNamed B.named
  have hlocks := B.notSynchronized
  have hl := lv_entry ([.ref (t 0), .ref (ad n1 0), .int (zi i2)]) (n := 6) (Nat.le_of_ble_eq_true rfl)
  rw [lg_entry_eq]
  generalize (lg_sl ([.ref (t 0), .ref (ad n1 0), .int (zi i2)]) ++ List.replicate (6 - (lg_sl ([.ref (t 0), .ref (ad n1 0), .int (zi i2)])).length) Slot.unset).toArray = ls at hl ⊢
  have hl : lv_has ls 6 [(0, .ref (t 0)), (1, .ref (ad n1 0)), (2, .int (zi i2))] := hl
  refine zs_X0_sharedWithNext t mk ad t_size t_lines n1 i2 hx hb hml hown hts hK hP hB ls hl ⟨out, h, ?_⟩
  exact fun ls pc hd => W.iret hx hb hr (fun t ht hW => ⟨_, rfl, rfl, ht⟩) (fun _ h => by cases h) hd
