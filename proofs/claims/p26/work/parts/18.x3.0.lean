/-! DiamondRows$Fitting.size()I -/
abbrev zr_X3_size : Room := { frames := 0, cells := 0, slots := 0, locals := 0 }
noncomputable def zf_X3_size  (t_size : Int)  : Option (Int) :=
  some (t_size)
theorem zi_X3_size_X3 : ∀ w ∈ u_ws RX3 TX3 3, w ∈ wsX3_size := by decide +kernel
theorem zl_X3_size_18 : Cond.fieldLink RX3 18 "DiamondRows$Fitting" "size" "I" ∈ wsX3_size := by decide +kernel
def zQ_X3_size (p : Program) (l : Launch) (e : Env) (s : State) (m : MethodId) (args : Array Value) (below : List Frame) (meth : Method) (c : Code) (Q : State → Prop) (H : Heap) (locs : List Loc)  (o : Int) : Prop := ∀ (ls : Array Slot) (pc : Nat), decode cX3_size pc = .ok (.ireturn, 1) → W p l e zr_X3_size s m args below meth c H locs 0 0 Q (F0 m pc ls [.int (zi o)])
set_option maxHeartbeats 4000000 in
set_option maxRecDepth 100000 in
theorem zs_X3_size {p : Program} {l : Launch} {e : Env} {s : State} {m : MethodId} {args : Array Value} {below : List Frame} {meth : Method} {c : Code} {Q : State → Prop} {D : va_G} {κ : Nat → ClassId} {H : Heap} {locs : List Loc} (t : Nat → Nat) (t_size : Int) (t_numbers : Nat) (t_tally : Nat)  (hx : p.tables.exec = Jvm.exec) (hb : c.code = cX3_size) (hml : c.maxLocals = 1) (hown : s.vm.findClass RX3 = some m.cls) (hts : ∀ w ∈ wsX3_size, w.before args s = true) (hK : va_K D vwCl (zTY κ) s) (hP : va_P D vwCl ([((t 0), .inr (3, [.ref (t 1), .ref (t 2), .int (zi t_size)])), ((t 1), .inl (κ 1, 429, .inl (zc t_numbers))), ((t 2), .inl (κ 1, 22, .inl (zc t_tally)))]) H) (ls : Array Slot) (hl : lv_has ls 1 [(0, .ref (t 0))]) (hg : Go (zQ_X3_size p l e s m args below meth c Q H locs) (zf_X3_size t_size )) : W p l e zr_X3_size s m args below meth c H locs 0 0 Q (F0 m 0 ls []) := by
  unfold zf_X3_size at hg
  refine lv_aload_n hx hb dX3_size_0 rfl (lv_at hl 0 rfl) ?_
  refine va_get (D := D) (ci := 3) (v := .int (zi t_size)) (C := RX3) (T := TX3) (N := 3) hx hb hts zi_X3_size_X3 hown hK hP 0 rfl rfl 2 (by decide) (hts (.fieldLink RX3 18 "DiamondRows$Fitting" "size" "I") zl_X3_size_18) (fun _ h9 => h9) rfl dX3_size_1 ?_
  exact (Go_s hg) _ _ dX3_size_4
set_option maxHeartbeats 4000000 in
set_option maxRecDepth 100000 in
theorem zc_X3_size (l : Launch) (D : va_G) (κ : Nat → ClassId) (t : Nat → Nat) (t_size : Int) (t_numbers : Nat) (t_tally : Nat)  (out : Int) (h : zf_X3_size t_size  = some out) : Met l yX3_size wsX3_size zr_X3_size (va_Pc [.ref (t 0)] (zR D κ ([((t 0), .inr (3, [.ref (t 1), .ref (t 2), .int (zi t_size)])), ((t 1), .inl (κ 1, 429, .inl (zc t_numbers))), ((t 2), .inl (κ 1, 22, .inl (zc t_tally)))]))) (vp_Si (fun x => x = zi out)) 0 0 (fun _ => False) := by
  refine Met.ofW (cc := cX3_size) (maxL := 1) (ret := (some .int)) (by decide +kernel) rfl ?_
  intro p e s m args below meth c s₁ B hml hv
  obtain ⟨rfl, hP, hK⟩ := hv
  have hx := B.exec
  have hb := B.bytes
  have hr := B.returns
  have hts := atoms_spec (ws := wsX3_size) B.pre
  have hown : s.vm.findClass RX3 = some m.cls := findClass_of_methodNamed B.named
  have hlocks := B.notSynchronized
  have hl := lv_entry ([.ref (t 0)]) (n := 1) (Nat.le_of_ble_eq_true rfl)
  rw [lg_entry_eq]
  generalize (lg_sl ([.ref (t 0)]) ++ List.replicate (1 - (lg_sl ([.ref (t 0)])).length) Slot.unset).toArray = ls at hl ⊢
  have hl : lv_has ls 1 [(0, .ref (t 0))] := hl
  refine zs_X3_size t t_size t_numbers t_tally  hx hb hml hown hts hK hP ls hl ⟨out, h, ?_⟩
  exact fun ls pc hd => W.iret hx hb hr (fun t ht hW => ⟨_, rfl, rfl, ht⟩) (fun _ h => by cases h) hd
/-! DiamondRows$Fitting.gather(LDiamondRows$Polygon;LDiamondRows$Sightings;I)V -/
abbrev zr_X3_gather : Room := { frames := 4, cells := 0, slots := 0, locals := 94 }
abbrev zS_X3_gather : Type := Nat × Int × Int × Int × Nat × Nat
abbrev zO_X3_gather : Type := Int × Nat × Nat
noncomputable def zg_X3_gather_0 (mk : Nat) (q2_size : Int) (q2_rights : Int) (q2_seenStep : Nat) (q2_seenFrom : Nat) (q2_seenTo : Nat) (q2_seenValue : Nat) (q2_rightStep : Nat) (q2_rightOf : Nat) (q2_rightValue : Nat) (n1 : Nat) (i3 : Int) (i4 : Int) (t_size : Int) (t_numbers : Nat) (q2_knownValue : Nat) : Option (zO_X3_gather ⊕ zS_X3_gather) :=
  Option.bind (zf_X7_recall q2_size q2_rights q2_seenStep q2_seenValue q2_rightStep q2_rightOf q2_rightValue q2_knownValue i3) (fun o1 =>
  some (.inr (13, i3, (0 : Int), (0 : Int), t_numbers, o1)))
noncomputable def zg_X3_gather_13 (mk : Nat) (q2_size : Int) (q2_rights : Int) (q2_seenStep : Nat) (q2_seenFrom : Nat) (q2_seenTo : Nat) (q2_seenValue : Nat) (q2_rightStep : Nat) (q2_rightOf : Nat) (q2_rightValue : Nat) (n1 : Nat) (i3 : Int) (i4 : Int) (t_size : Int) (t_numbers : Nat) (q2_knownValue : Nat) : Option (zO_X3_gather ⊕ zS_X3_gather) :=
  if zno mk n1 then none else
  Option.bind (zf_X5_cutCount n1) (fun o3 =>
  if zout i4 then none else
  if zout o3 then none else
  if o3 ≤ i4 then
  some (.inl (t_size, t_numbers, q2_knownValue))
  else
  if (429 : Int) ≤ i4 then
  some (.inl (t_size, t_numbers, q2_knownValue))
  else
  Option.bind (zf_X5_cutAt n1 i4) (fun o6 =>
  Option.bind (zf_X7_agreeWith mk q2_size q2_seenFrom q2_seenTo q2_knownValue n1 o6) (fun o7 =>
  if o7 = false then
  some (.inr (13, 0, (i4 + (1 : Int)), t_size, t_numbers, q2_knownValue))
  else
  if t_size < 0 ∨ 429 ≤ t_size then none else
  some (.inr (13, 0, (i4 + (1 : Int)), (t_size + (1 : Int)), (zset t_numbers (Int.toNat t_size) i4), q2_knownValue)))))
noncomputable def zg_X3_gather (mk : Nat) (q2_size : Int) (q2_rights : Int) (q2_seenStep : Nat) (q2_seenFrom : Nat) (q2_seenTo : Nat) (q2_seenValue : Nat) (q2_rightStep : Nat) (q2_rightOf : Nat) (q2_rightValue : Nat) (n1 : Nat) (st : zS_X3_gather) : Option (zO_X3_gather ⊕ zS_X3_gather) := match st with
  | (lab, i3, i4, t_size, t_numbers, q2_knownValue) => if lab = 0 then zg_X3_gather_0 mk q2_size q2_rights q2_seenStep q2_seenFrom q2_seenTo q2_seenValue q2_rightStep q2_rightOf q2_rightValue n1 i3 i4 t_size t_numbers q2_knownValue else if lab = 13 then zg_X3_gather_13 mk q2_size q2_rights q2_seenStep q2_seenFrom q2_seenTo q2_seenValue q2_rightStep q2_rightOf q2_rightValue n1 i3 i4 t_size t_numbers q2_knownValue else none
noncomputable def zf_X3_gather (mk : Nat) (t_size : Int) (t_numbers : Nat) (q2_size : Int) (q2_rights : Int) (q2_seenStep : Nat) (q2_seenFrom : Nat) (q2_seenTo : Nat) (q2_seenValue : Nat) (q2_rightStep : Nat) (q2_rightOf : Nat) (q2_rightValue : Nat) (q2_knownValue : Nat) (n1 : Nat) (i3 : Int) : Option (Int × Nat × Nat) := jrun (zg_X3_gather mk q2_size q2_rights q2_seenStep q2_seenFrom q2_seenTo q2_seenValue q2_rightStep q2_rightOf q2_rightValue n1) jfuel (0, i3, 0, t_size, t_numbers, q2_knownValue)
theorem zi_X3_gather_X3 : ∀ w ∈ u_ws RX3 TX3 3, w ∈ wsX3_gather := by decide +kernel
theorem zl_X3_gather_9 : Cond.fieldLink RX3 9 "DiamondRows$Fitting" "numbers" "[I" ∈ wsX3_gather := by decide +kernel
theorem zl_X3_gather_18 : Cond.fieldLink RX3 18 "DiamondRows$Fitting" "size" "I" ∈ wsX3_gather := by decide +kernel
def zQ_X3_gather (p : Program) (l : Launch) (e : Env) (s : State) (m : MethodId) (args : Array Value) (below : List Frame) (meth : Method) (c : Code) (Q : State → Prop) (D : va_G) (κ : Nat → ClassId) (A : Nat → Prop) (H0 : Heap) (t : Nat → Nat) (q2 : Nat → Nat) (mk : Nat) (ad : Nat → Nat → Nat) (t_tally : Nat) (q2_size : Int) (q2_rights : Int) (q2_latest : Int) (q2_seenStep : Nat) (q2_seenFrom : Nat) (q2_seenTo : Nat) (q2_seenValue : Nat) (q2_timesRight : Nat) (q2_rightStep : Nat) (q2_rightOf : Nat) (q2_rightValue : Nat) (n1 : Nat) (o : Int × Nat × Nat) : Prop := ∀ (H : Heap) (locs : List Loc) (ls : Array Slot) (pc : Nat), va_P D vwCl ([((t 0), .inr (3, [.ref (t 1), .ref (t 2), .int (zi (o.1))])), ((t 1), .inl (κ 1, 429, .inl (zc (o.2.1)))), ((t 2), .inl (κ 1, 22, .inl (zc t_tally))), ((q2 0), .inr (7, [.ref (q2 1), .ref (q2 2), .ref (q2 3), .ref (q2 4), .ref (q2 5), .ref (q2 6), .ref (q2 7), .ref (q2 8), .ref (q2 9), .int (zi q2_size), .int (zi q2_rights), .int (zi q2_latest)])), ((q2 1), .inl (κ 1, 20, .inl (zc q2_seenStep))), ((q2 2), .inl (κ 1, 20, .inl (zc q2_seenFrom))), ((q2 3), .inl (κ 1, 20, .inl (zc q2_seenTo))), ((q2 4), .inl (κ 1, 20, .inl (zc q2_seenValue))), ((q2 5), .inl (κ 1, 20, .inl (zc q2_timesRight))), ((q2 6), .inl (κ 1, 20, .inl (zc q2_rightStep))), ((q2 7), .inl (κ 1, 20, .inl (zc q2_rightOf))), ((q2 8), .inl (κ 1, 20, .inl (zc q2_rightValue))), ((q2 9), .inl (κ 1, 20, .inl (zc (o.2.2))))]) H → va_D A ([((t 0), .inr (3, [.ref (t 1), .ref (t 2), .int (zi (o.1))])), ((t 1), .inl (κ 1, 429, .inl (zc (o.2.1)))), ((t 2), .inl (κ 1, 22, .inl (zc t_tally))), ((q2 0), .inr (7, [.ref (q2 1), .ref (q2 2), .ref (q2 3), .ref (q2 4), .ref (q2 5), .ref (q2 6), .ref (q2 7), .ref (q2 8), .ref (q2 9), .int (zi q2_size), .int (zi q2_rights), .int (zi q2_latest)])), ((q2 1), .inl (κ 1, 20, .inl (zc q2_seenStep))), ((q2 2), .inl (κ 1, 20, .inl (zc q2_seenFrom))), ((q2 3), .inl (κ 1, 20, .inl (zc q2_seenTo))), ((q2 4), .inl (κ 1, 20, .inl (zc q2_seenValue))), ((q2 5), .inl (κ 1, 20, .inl (zc q2_timesRight))), ((q2 6), .inl (κ 1, 20, .inl (zc q2_rightStep))), ((q2 7), .inl (κ 1, 20, .inl (zc q2_rightOf))), ((q2 8), .inl (κ 1, 20, .inl (zc q2_rightValue))), ((q2 9), .inl (κ 1, 20, .inl (zc (o.2.2))))]) → va_S A H0 H locs → decode cX3_gather pc = .ok (.return_, 1) → W p l e zr_X3_gather s m args below meth c H locs 0 0 Q (F0 m pc ls [])
def zA_X3_gather_0 (p : Program) (l : Launch) (e : Env) (s : State) (m : MethodId) (args : Array Value) (below : List Frame) (meth : Method) (c : Code) (Q : State → Prop) (D : va_G) (κ : Nat → ClassId) (A : Nat → Prop) (H0 : Heap) (t : Nat → Nat) (q2 : Nat → Nat) (mk : Nat) (ad : Nat → Nat → Nat) (t_tally : Nat) (q2_size : Int) (q2_rights : Int) (q2_latest : Int) (q2_seenStep : Nat) (q2_seenFrom : Nat) (q2_seenTo : Nat) (q2_seenValue : Nat) (q2_timesRight : Nat) (q2_rightStep : Nat) (q2_rightOf : Nat) (q2_rightValue : Nat) (n1 : Nat) (i3 : Int) (i4 : Int) (t_size : Int) (t_numbers : Nat) (q2_knownValue : Nat) : Prop := ∀ (H : Heap) (locs : List Loc) (ls : Array Slot), va_P D vwCl ([((t 0), .inr (3, [.ref (t 1), .ref (t 2), .int (zi t_size)])), ((t 1), .inl (κ 1, 429, .inl (zc t_numbers))), ((t 2), .inl (κ 1, 22, .inl (zc t_tally))), ((q2 0), .inr (7, [.ref (q2 1), .ref (q2 2), .ref (q2 3), .ref (q2 4), .ref (q2 5), .ref (q2 6), .ref (q2 7), .ref (q2 8), .ref (q2 9), .int (zi q2_size), .int (zi q2_rights), .int (zi q2_latest)])), ((q2 1), .inl (κ 1, 20, .inl (zc q2_seenStep))), ((q2 2), .inl (κ 1, 20, .inl (zc q2_seenFrom))), ((q2 3), .inl (κ 1, 20, .inl (zc q2_seenTo))), ((q2 4), .inl (κ 1, 20, .inl (zc q2_seenValue))), ((q2 5), .inl (κ 1, 20, .inl (zc q2_timesRight))), ((q2 6), .inl (κ 1, 20, .inl (zc q2_rightStep))), ((q2 7), .inl (κ 1, 20, .inl (zc q2_rightOf))), ((q2 8), .inl (κ 1, 20, .inl (zc q2_rightValue))), ((q2 9), .inl (κ 1, 20, .inl (zc q2_knownValue)))]) H → va_D A ([((t 0), .inr (3, [.ref (t 1), .ref (t 2), .int (zi t_size)])), ((t 1), .inl (κ 1, 429, .inl (zc t_numbers))), ((t 2), .inl (κ 1, 22, .inl (zc t_tally))), ((q2 0), .inr (7, [.ref (q2 1), .ref (q2 2), .ref (q2 3), .ref (q2 4), .ref (q2 5), .ref (q2 6), .ref (q2 7), .ref (q2 8), .ref (q2 9), .int (zi q2_size), .int (zi q2_rights), .int (zi q2_latest)])), ((q2 1), .inl (κ 1, 20, .inl (zc q2_seenStep))), ((q2 2), .inl (κ 1, 20, .inl (zc q2_seenFrom))), ((q2 3), .inl (κ 1, 20, .inl (zc q2_seenTo))), ((q2 4), .inl (κ 1, 20, .inl (zc q2_seenValue))), ((q2 5), .inl (κ 1, 20, .inl (zc q2_timesRight))), ((q2 6), .inl (κ 1, 20, .inl (zc q2_rightStep))), ((q2 7), .inl (κ 1, 20, .inl (zc q2_rightOf))), ((q2 8), .inl (κ 1, 20, .inl (zc q2_rightValue))), ((q2 9), .inl (κ 1, 20, .inl (zc q2_knownValue)))]) → va_S A H0 H locs → lv_has ls 5 [(0, .ref (t 0)), (1, .ref (ad n1 0)), (2, .ref (q2 0)), (3, .int (zi i3))] → W p l e zr_X3_gather s m args below meth c H locs 0 0 Q (F0 m 0 ls [])
def zA_X3_gather_13 (p : Program) (l : Launch) (e : Env) (s : State) (m : MethodId) (args : Array Value) (below : List Frame) (meth : Method) (c : Code) (Q : State → Prop) (D : va_G) (κ : Nat → ClassId) (A : Nat → Prop) (H0 : Heap) (t : Nat → Nat) (q2 : Nat → Nat) (mk : Nat) (ad : Nat → Nat → Nat) (t_tally : Nat) (q2_size : Int) (q2_rights : Int) (q2_latest : Int) (q2_seenStep : Nat) (q2_seenFrom : Nat) (q2_seenTo : Nat) (q2_seenValue : Nat) (q2_timesRight : Nat) (q2_rightStep : Nat) (q2_rightOf : Nat) (q2_rightValue : Nat) (n1 : Nat) (i3 : Int) (i4 : Int) (t_size : Int) (t_numbers : Nat) (q2_knownValue : Nat) : Prop := ∀ (H : Heap) (locs : List Loc) (ls : Array Slot), va_P D vwCl ([((t 0), .inr (3, [.ref (t 1), .ref (t 2), .int (zi t_size)])), ((t 1), .inl (κ 1, 429, .inl (zc t_numbers))), ((t 2), .inl (κ 1, 22, .inl (zc t_tally))), ((q2 0), .inr (7, [.ref (q2 1), .ref (q2 2), .ref (q2 3), .ref (q2 4), .ref (q2 5), .ref (q2 6), .ref (q2 7), .ref (q2 8), .ref (q2 9), .int (zi q2_size), .int (zi q2_rights), .int (zi q2_latest)])), ((q2 1), .inl (κ 1, 20, .inl (zc q2_seenStep))), ((q2 2), .inl (κ 1, 20, .inl (zc q2_seenFrom))), ((q2 3), .inl (κ 1, 20, .inl (zc q2_seenTo))), ((q2 4), .inl (κ 1, 20, .inl (zc q2_seenValue))), ((q2 5), .inl (κ 1, 20, .inl (zc q2_timesRight))), ((q2 6), .inl (κ 1, 20, .inl (zc q2_rightStep))), ((q2 7), .inl (κ 1, 20, .inl (zc q2_rightOf))), ((q2 8), .inl (κ 1, 20, .inl (zc q2_rightValue))), ((q2 9), .inl (κ 1, 20, .inl (zc q2_knownValue)))]) H → va_D A ([((t 0), .inr (3, [.ref (t 1), .ref (t 2), .int (zi t_size)])), ((t 1), .inl (κ 1, 429, .inl (zc t_numbers))), ((t 2), .inl (κ 1, 22, .inl (zc t_tally))), ((q2 0), .inr (7, [.ref (q2 1), .ref (q2 2), .ref (q2 3), .ref (q2 4), .ref (q2 5), .ref (q2 6), .ref (q2 7), .ref (q2 8), .ref (q2 9), .int (zi q2_size), .int (zi q2_rights), .int (zi q2_latest)])), ((q2 1), .inl (κ 1, 20, .inl (zc q2_seenStep))), ((q2 2), .inl (κ 1, 20, .inl (zc q2_seenFrom))), ((q2 3), .inl (κ 1, 20, .inl (zc q2_seenTo))), ((q2 4), .inl (κ 1, 20, .inl (zc q2_seenValue))), ((q2 5), .inl (κ 1, 20, .inl (zc q2_timesRight))), ((q2 6), .inl (κ 1, 20, .inl (zc q2_rightStep))), ((q2 7), .inl (κ 1, 20, .inl (zc q2_rightOf))), ((q2 8), .inl (κ 1, 20, .inl (zc q2_rightValue))), ((q2 9), .inl (κ 1, 20, .inl (zc q2_knownValue)))]) → va_S A H0 H locs → lv_has ls 5 [(0, .ref (t 0)), (1, .ref (ad n1 0)), (2, .ref (q2 0)), (4, .int (zi i4))] → W p l e zr_X3_gather s m args below meth c H locs 0 0 Q (F0 m 13 ls [])
def zA_X3_gather (p : Program) (l : Launch) (e : Env) (s : State) (m : MethodId) (args : Array Value) (below : List Frame) (meth : Method) (c : Code) (Q : State → Prop) (D : va_G) (κ : Nat → ClassId) (A : Nat → Prop) (H0 : Heap) (t : Nat → Nat) (q2 : Nat → Nat) (mk : Nat) (ad : Nat → Nat → Nat) (t_tally : Nat) (q2_size : Int) (q2_rights : Int) (q2_latest : Int) (q2_seenStep : Nat) (q2_seenFrom : Nat) (q2_seenTo : Nat) (q2_seenValue : Nat) (q2_timesRight : Nat) (q2_rightStep : Nat) (q2_rightOf : Nat) (q2_rightValue : Nat) (n1 : Nat) (st : zS_X3_gather) : Prop := match st with
  | (lab, i3, i4, t_size, t_numbers, q2_knownValue) => if lab = 0 then zA_X3_gather_0 p l e s m args below meth c Q D κ A H0 t q2 mk ad t_tally q2_size q2_rights q2_latest q2_seenStep q2_seenFrom q2_seenTo q2_seenValue q2_timesRight q2_rightStep q2_rightOf q2_rightValue n1 i3 i4 t_size t_numbers q2_knownValue else if lab = 13 then zA_X3_gather_13 p l e s m args below meth c Q D κ A H0 t q2 mk ad t_tally q2_size q2_rights q2_latest q2_seenStep q2_seenFrom q2_seenTo q2_seenValue q2_timesRight q2_rightStep q2_rightOf q2_rightValue n1 i3 i4 t_size t_numbers q2_knownValue else True
set_option maxHeartbeats 4000000 in
set_option maxRecDepth 100000 in
theorem zs_X3_gather_0 {p : Program} {l : Launch} {e : Env} {s : State} {m : MethodId} {args : Array Value} {below : List Frame} {meth : Method} {c : Code} {Q : State → Prop} {D : va_G} {κ : Nat → ClassId} {A : Nat → Prop} {H0 : Heap} (t : Nat → Nat) (q2 : Nat → Nat) (mk : Nat) (ad : Nat → Nat → Nat) (t_tally : Nat) (q2_size : Int) (q2_rights : Int) (q2_latest : Int) (q2_seenStep : Nat) (q2_seenFrom : Nat) (q2_seenTo : Nat) (q2_seenValue : Nat) (q2_timesRight : Nat) (q2_rightStep : Nat) (q2_rightOf : Nat) (q2_rightValue : Nat) (n1 : Nat) (hx : p.tables.exec = Jvm.exec) (hb : c.code = cX3_gather) (hml : c.maxLocals = 5) (hown : s.vm.findClass RX3 = some m.cls) (hts : ∀ w ∈ wsX3_gather, w.before args s = true) (hK : va_K D vwCl (zTY κ) s) (hA : ∀ q : Nat, H0.size ≤ q → A q) (hB : zAmb D κ mk ad H0) (hBA : zApt mk ad A H0.size) (i3 : Int) (i4 : Int) (t_size : Int) (t_numbers : Nat) (q2_knownValue : Nat) (hg : Go (GoE (zA_X3_gather p l e s m args below meth c Q D κ A H0 t q2 mk ad t_tally q2_size q2_rights q2_latest q2_seenStep q2_seenFrom q2_seenTo q2_seenValue q2_timesRight q2_rightStep q2_rightOf q2_rightValue n1) (zQ_X3_gather p l e s m args below meth c Q D κ A H0 t q2 mk ad t_tally q2_size q2_rights q2_latest q2_seenStep q2_seenFrom q2_seenTo q2_seenValue q2_timesRight q2_rightStep q2_rightOf q2_rightValue n1)) (zg_X3_gather_0 mk q2_size q2_rights q2_seenStep q2_seenFrom q2_seenTo q2_seenValue q2_rightStep q2_rightOf q2_rightValue n1 i3 i4 t_size t_numbers q2_knownValue)) : zA_X3_gather_0 p l e s m args below meth c Q D κ A H0 t q2 mk ad t_tally q2_size q2_rights q2_latest q2_seenStep q2_seenFrom q2_seenTo q2_seenValue q2_timesRight q2_rightStep q2_rightOf q2_rightValue n1 i3 i4 t_size t_numbers q2_knownValue := by
  intro H locs ls hP hD hS hl
  unfold zg_X3_gather_0 at hg
  refine lv_aload_n hx hb dX3_gather_0 rfl (lv_at hl 2 rfl) ?_
  refine lv_iload_n hx hb dX3_gather_1 rfl (lv_at hl 3 rfl) ?_
  obtain ⟨o1, ho1, hg⟩ := Go_b hg
  refine zj_v (wr := [((t 0), .inr (3, [.ref (t 1), .ref (t 2), .int (zi t_size)])), ((t 1), .inl (κ 1, 429, .inl (zc t_numbers))), ((t 2), .inl (κ 1, 22, .inl (zc t_tally)))]) (ws1 := [((t 0), .inr (3, [.ref (t 1), .ref (t 2), .int (zi t_size)])), ((t 1), .inl (κ 1, 429, .inl (zc t_numbers))), ((t 2), .inl (κ 1, 22, .inl (zc t_tally))), ((q2 0), .inr (7, [.ref (q2 1), .ref (q2 2), .ref (q2 3), .ref (q2 4), .ref (q2 5), .ref (q2 6), .ref (q2 7), .ref (q2 8), .ref (q2 9), .int (zi q2_size), .int (zi q2_rights), .int (zi q2_latest)])), ((q2 1), .inl (κ 1, 20, .inl (zc q2_seenStep))), ((q2 2), .inl (κ 1, 20, .inl (zc q2_seenFrom))), ((q2 3), .inl (κ 1, 20, .inl (zc q2_seenTo))), ((q2 4), .inl (κ 1, 20, .inl (zc q2_seenValue))), ((q2 5), .inl (κ 1, 20, .inl (zc q2_timesRight))), ((q2 6), .inl (κ 1, 20, .inl (zc q2_rightStep))), ((q2 7), .inl (κ 1, 20, .inl (zc q2_rightOf))), ((q2 8), .inl (κ 1, 20, .inl (zc q2_rightValue))), ((q2 9), .inl (κ 1, 20, .inl (zc o1)))]) (va_runV (rest := []) ⟨hx, hb, hml, hown, hts⟩ (zc_X7_recall l D κ q2 H.size q2_size q2_rights q2_latest q2_seenStep q2_seenFrom q2_seenTo q2_seenValue q2_timesRight q2_rightStep q2_rightOf q2_rightValue q2_knownValue i3 o1 ho1) (cwV 1 hts gX3_gather_X7_recall rfl rfl rfl (by decide +kernel) ⟨Nat.le_of_ble_eq_true rfl, Nat.le_of_ble_eq_true rfl⟩) (zpreWV hK (hP.sub [3, 4, 5, 6, 7, 8, 9, 10, 11, 12] rfl) (hD.sub [3, 4, 5, 6, 7, 8, 9, 10, 11, 12] (by decide) rfl) 7 0 rfl rfl) rfl rfl hl.1 rfl (lv_room (Nat.le_of_ble_eq_true rfl)) dX3_gather_2 ⟨Nat.zero_le _, Nat.zero_le _⟩) hP hD hS hA [3, 4, 5, 6, 7, 8, 9, 10, 11, 12] [0, 1, 2] [0, 1, 2, 3, 4, 5, 6, 7, 8, 9, 10, 11, 12] rfl rfl (by decide) (by decide) rfl rfl (by decide) (fun H locs hP hD hS => ?_)
  refine lv_aload_n hx hb dX3_gather_5 rfl (lv_at hl 0 rfl) ?_
  refine zv_iconst hx hb dX3_gather_6 ?_
  refine va_put (D := D) (ci := 3) (v := .int (zi (0 : Int))) (ty := .int) (C := RX3) (T := TX3) (N := 3) hx hb hts zi_X3_gather_X3 tyX3 tyX3_ok nmX3 hown hK hP hD hS 0 rfl rfl 2 (by decide) (hts (.fieldLink RX3 18 "DiamondRows$Fitting" "size" "I") zl_X3_gather_18) (fun _ h9 => h9) rfl (by decide +kernel) rfl rfl (Nat.le_of_ble_eq_true rfl) dX3_gather_7 (fun H locs hP hD hS => ?_)
  have hP : va_P D vwCl ([((t 0), .inr (3, [.ref (t 1), .ref (t 2), .int (zi (0 : Int))])), ((t 1), .inl (κ 1, 429, .inl (zc t_numbers))), ((t 2), .inl (κ 1, 22, .inl (zc t_tally))), ((q2 0), .inr (7, [.ref (q2 1), .ref (q2 2), .ref (q2 3), .ref (q2 4), .ref (q2 5), .ref (q2 6), .ref (q2 7), .ref (q2 8), .ref (q2 9), .int (zi q2_size), .int (zi q2_rights), .int (zi q2_latest)])), ((q2 1), .inl (κ 1, 20, .inl (zc q2_seenStep))), ((q2 2), .inl (κ 1, 20, .inl (zc q2_seenFrom))), ((q2 3), .inl (κ 1, 20, .inl (zc q2_seenTo))), ((q2 4), .inl (κ 1, 20, .inl (zc q2_seenValue))), ((q2 5), .inl (κ 1, 20, .inl (zc q2_timesRight))), ((q2 6), .inl (κ 1, 20, .inl (zc q2_rightStep))), ((q2 7), .inl (κ 1, 20, .inl (zc q2_rightOf))), ((q2 8), .inl (κ 1, 20, .inl (zc q2_rightValue))), ((q2 9), .inl (κ 1, 20, .inl (zc o1)))]) H := hP
  have hD : va_D A ([((t 0), .inr (3, [.ref (t 1), .ref (t 2), .int (zi (0 : Int))])), ((t 1), .inl (κ 1, 429, .inl (zc t_numbers))), ((t 2), .inl (κ 1, 22, .inl (zc t_tally))), ((q2 0), .inr (7, [.ref (q2 1), .ref (q2 2), .ref (q2 3), .ref (q2 4), .ref (q2 5), .ref (q2 6), .ref (q2 7), .ref (q2 8), .ref (q2 9), .int (zi q2_size), .int (zi q2_rights), .int (zi q2_latest)])), ((q2 1), .inl (κ 1, 20, .inl (zc q2_seenStep))), ((q2 2), .inl (κ 1, 20, .inl (zc q2_seenFrom))), ((q2 3), .inl (κ 1, 20, .inl (zc q2_seenTo))), ((q2 4), .inl (κ 1, 20, .inl (zc q2_seenValue))), ((q2 5), .inl (κ 1, 20, .inl (zc q2_timesRight))), ((q2 6), .inl (κ 1, 20, .inl (zc q2_rightStep))), ((q2 7), .inl (κ 1, 20, .inl (zc q2_rightOf))), ((q2 8), .inl (κ 1, 20, .inl (zc q2_rightValue))), ((q2 9), .inl (κ 1, 20, .inl (zc o1)))]) := hD
  refine zv_iconst hx hb dX3_gather_10 ?_
  refine lv_istore (lv' := [(4, .int (zi (0 : Int))), (0, .ref (t 0)), (1, .ref (ad n1 0)), (2, .ref (q2 0)), (3, .int (zi i3))]) hx hb dX3_gather_11 hl (by decide) rfl (fun ls hl => ?_)
  exact (Go_s hg) H locs ls hP hD hS (lv_sub hl [1, 2, 3, 0] rfl)
set_option maxHeartbeats 4000000 in
set_option maxRecDepth 100000 in
theorem zs_X3_gather_13 {p : Program} {l : Launch} {e : Env} {s : State} {m : MethodId} {args : Array Value} {below : List Frame} {meth : Method} {c : Code} {Q : State → Prop} {D : va_G} {κ : Nat → ClassId} {A : Nat → Prop} {H0 : Heap} (t : Nat → Nat) (q2 : Nat → Nat) (mk : Nat) (ad : Nat → Nat → Nat) (t_tally : Nat) (q2_size : Int) (q2_rights : Int) (q2_latest : Int) (q2_seenStep : Nat) (q2_seenFrom : Nat) (q2_seenTo : Nat) (q2_seenValue : Nat) (q2_timesRight : Nat) (q2_rightStep : Nat) (q2_rightOf : Nat) (q2_rightValue : Nat) (n1 : Nat) (hx : p.tables.exec = Jvm.exec) (hb : c.code = cX3_gather) (hml : c.maxLocals = 5) (hown : s.vm.findClass RX3 = some m.cls) (hts : ∀ w ∈ wsX3_gather, w.before args s = true) (hK : va_K D vwCl (zTY κ) s) (hA : ∀ q : Nat, H0.size ≤ q → A q) (hB : zAmb D κ mk ad H0) (hBA : zApt mk ad A H0.size) (i3 : Int) (i4 : Int) (t_size : Int) (t_numbers : Nat) (q2_knownValue : Nat) (hg : Go (GoE (zA_X3_gather p l e s m args below meth c Q D κ A H0 t q2 mk ad t_tally q2_size q2_rights q2_latest q2_seenStep q2_seenFrom q2_seenTo q2_seenValue q2_timesRight q2_rightStep q2_rightOf q2_rightValue n1) (zQ_X3_gather p l e s m args below meth c Q D κ A H0 t q2 mk ad t_tally q2_size q2_rights q2_latest q2_seenStep q2_seenFrom q2_seenTo q2_seenValue q2_timesRight q2_rightStep q2_rightOf q2_rightValue n1)) (zg_X3_gather_13 mk q2_size q2_rights q2_seenStep q2_seenFrom q2_seenTo q2_seenValue q2_rightStep q2_rightOf q2_rightValue n1 i3 i4 t_size t_numbers q2_knownValue)) : zA_X3_gather_13 p l e s m args below meth c Q D κ A H0 t q2 mk ad t_tally q2_size q2_rights q2_latest q2_seenStep q2_seenFrom q2_seenTo q2_seenValue q2_timesRight q2_rightStep q2_rightOf q2_rightValue n1 i3 i4 t_size t_numbers q2_knownValue := by
  intro H locs ls hP hD hS hl
  unfold zg_X3_gather_13 at hg
  refine lv_iload hx hb dX3_gather_13 (lv_at hl 3 rfl) ?_
  refine lv_aload_n hx hb dX3_gather_15 rfl (lv_at hl 1 rfl) ?_
  obtain ⟨m2, hg⟩ := Go_n hg
  obtain ⟨o3, ho3, hg⟩ := Go_b hg
  refine zc_vi (rest := [.int (zi i4)]) ⟨hx, hb, hml, hown, hts⟩ (zc_X5_cutCount l D κ (ad n1) n1  o3 ho3) (cwV 0 hts gX3_gather_X5_cutCount rfl rfl rfl (by decide +kernel) ⟨Nat.le_of_ble_eq_true rfl, Nat.le_of_ble_eq_true rfl⟩) (zpreV hK ((zamb hB hBA hS) n1 m2) 5 0 rfl rfl) rfl hl.1 rfl (Nat.le_of_ble_eq_true rfl) dX3_gather_16 ⟨Nat.zero_le _, Nat.zero_le _⟩ ?_
  obtain ⟨b4, hg⟩ := Go_n hg
  obtain ⟨b5, hg⟩ := Go_n hg
  refine zv_icmp_ge (tgt := 71) hx hb dX3_gather_19 (by decide) b4 b5 (fun c11 => ?_) (fun c11 => ?_)
  · have hg := Go_t c11 hg
    exact (Go_s hg) _ _ _ _ hP hD hS dX3_gather_71
  · have hg := Go_f c11 hg
    refine lv_iload hx hb dX3_gather_22 (lv_at hl 3 rfl) ?_
    refine zv_sipush hx hb dX3_gather_24 (by decide) ?_
    refine zv_icmp_ge (tgt := 71) hx hb dX3_gather_27 (by decide) b4 (by decide) (fun c10 => ?_) (fun c10 => ?_)
    · have hg := Go_t c10 hg
      exact (Go_s hg) _ _ _ _ hP hD hS dX3_gather_71
    · have hg := Go_f c10 hg
      refine lv_aload_n hx hb dX3_gather_30 rfl (lv_at hl 2 rfl) ?_
      refine lv_aload_n hx hb dX3_gather_31 rfl (lv_at hl 1 rfl) ?_
      refine lv_aload_n hx hb dX3_gather_32 rfl (lv_at hl 1 rfl) ?_
      refine lv_iload hx hb dX3_gather_33 (lv_at hl 3 rfl) ?_
      obtain ⟨o6, ho6, hg⟩ := Go_b hg
      refine zc_vi (rest := [.ref (ad n1 0), .ref (q2 0)]) ⟨hx, hb, hml, hown, hts⟩ (zc_X5_cutAt l D κ (ad n1) n1 i4 o6 ho6) (cwV 1 hts gX3_gather_X5_cutAt rfl rfl rfl (by decide +kernel) ⟨Nat.le_of_ble_eq_true rfl, Nat.le_of_ble_eq_true rfl⟩) (zpreV hK ((zamb hB hBA hS) n1 m2) 5 0 rfl rfl) rfl hl.1 rfl (Nat.le_of_ble_eq_true rfl) dX3_gather_35 ⟨Nat.zero_le _, Nat.zero_le _⟩ ?_
      obtain ⟨o7, ho7, hg⟩ := Go_b hg
      refine zc_vi (rest := []) ⟨hx, hb, hml, hown, hts⟩ (zc_X7_agreeWith l D κ q2 mk ad q2_size q2_rights q2_latest q2_seenStep q2_seenFrom q2_seenTo q2_seenValue q2_timesRight q2_rightStep q2_rightOf q2_rightValue q2_knownValue n1 o6 o7 ho7) (cwV 2 hts gX3_gather_X7_agreeWith rfl rfl rfl (by decide +kernel) ⟨Nat.le_of_ble_eq_true rfl, Nat.le_of_ble_eq_true rfl⟩) (zpreVa hK (hP.sub [3, 4, 5, 6, 7, 8, 9, 10, 11, 12] rfl) (zamb hB hBA hS) 7 0 rfl rfl) rfl hl.1 rfl (Nat.le_of_ble_eq_true rfl) dX3_gather_38 ⟨Nat.zero_le _, Nat.zero_le _⟩ ?_
      refine zv_ifb_eq (tgt := 65) hx hb dX3_gather_41 (by decide) (fun c9 => ?_) (fun c9 => ?_)
      · have hg := Go_t c9 hg
        refine lv_iinc (v := zi (i4 + (1 : Int))) (lv' := [(4, .int (zi (i4 + (1 : Int)))), (0, .ref (t 0)), (1, .ref (ad n1 0)), (2, .ref (q2 0))]) hx hb dX3_gather_65 hl (k := 3) rfl (zi_add i4 _) (by decide) rfl (fun ls hl => ?_)
        refine lv_goto (tgt := 13) hx hb dX3_gather_68 (by decide) ?_
        exact (Go_s hg) H locs ls hP hD hS (lv_sub hl [1, 2, 3, 0] rfl)
      · have hg := Go_f c9 hg
        refine lv_aload_n hx hb dX3_gather_44 rfl (lv_at hl 0 rfl) ?_
        refine va_get (D := D) (ci := 3) (v := .ref (t 1)) (C := RX3) (T := TX3) (N := 3) hx hb hts zi_X3_gather_X3 hown hK hP 0 rfl rfl 0 (by decide) (hts (.fieldLink RX3 9 "DiamondRows$Fitting" "numbers" "[I") zl_X3_gather_9) (fun _ h9 => h9) rfl dX3_gather_45 ?_
        refine lv_aload_n hx hb dX3_gather_48 rfl (lv_at hl 0 rfl) ?_
        refine va_get (D := D) (ci := 3) (v := .int (zi t_size)) (C := RX3) (T := TX3) (N := 3) hx hb hts zi_X3_gather_X3 hown hK hP 0 rfl rfl 2 (by decide) (hts (.fieldLink RX3 18 "DiamondRows$Fitting" "size" "I") zl_X3_gather_18) (fun _ h9 => h9) rfl dX3_gather_49 ?_
        refine lv_iload hx hb dX3_gather_52 (lv_at hl 3 rfl) ?_
        obtain ⟨n8, hg⟩ := Go_n hg
        refine zv_iast hx hb hK hP hD hS 1 1 rfl rfl (by decide) n8 dX3_gather_54 (fun H locs hP hD hS => ?_)
        have hP : va_P D vwCl ([((t 0), .inr (3, [.ref (t 1), .ref (t 2), .int (zi t_size)])), ((t 1), .inl (κ 1, 429, .inl (zc (zset t_numbers (Int.toNat t_size) i4)))), ((t 2), .inl (κ 1, 22, .inl (zc t_tally))), ((q2 0), .inr (7, [.ref (q2 1), .ref (q2 2), .ref (q2 3), .ref (q2 4), .ref (q2 5), .ref (q2 6), .ref (q2 7), .ref (q2 8), .ref (q2 9), .int (zi q2_size), .int (zi q2_rights), .int (zi q2_latest)])), ((q2 1), .inl (κ 1, 20, .inl (zc q2_seenStep))), ((q2 2), .inl (κ 1, 20, .inl (zc q2_seenFrom))), ((q2 3), .inl (κ 1, 20, .inl (zc q2_seenTo))), ((q2 4), .inl (κ 1, 20, .inl (zc q2_seenValue))), ((q2 5), .inl (κ 1, 20, .inl (zc q2_timesRight))), ((q2 6), .inl (κ 1, 20, .inl (zc q2_rightStep))), ((q2 7), .inl (κ 1, 20, .inl (zc q2_rightOf))), ((q2 8), .inl (κ 1, 20, .inl (zc q2_rightValue))), ((q2 9), .inl (κ 1, 20, .inl (zc q2_knownValue)))]) H := hP
        have hD : va_D A ([((t 0), .inr (3, [.ref (t 1), .ref (t 2), .int (zi t_size)])), ((t 1), .inl (κ 1, 429, .inl (zc (zset t_numbers (Int.toNat t_size) i4)))), ((t 2), .inl (κ 1, 22, .inl (zc t_tally))), ((q2 0), .inr (7, [.ref (q2 1), .ref (q2 2), .ref (q2 3), .ref (q2 4), .ref (q2 5), .ref (q2 6), .ref (q2 7), .ref (q2 8), .ref (q2 9), .int (zi q2_size), .int (zi q2_rights), .int (zi q2_latest)])), ((q2 1), .inl (κ 1, 20, .inl (zc q2_seenStep))), ((q2 2), .inl (κ 1, 20, .inl (zc q2_seenFrom))), ((q2 3), .inl (κ 1, 20, .inl (zc q2_seenTo))), ((q2 4), .inl (κ 1, 20, .inl (zc q2_seenValue))), ((q2 5), .inl (κ 1, 20, .inl (zc q2_timesRight))), ((q2 6), .inl (κ 1, 20, .inl (zc q2_rightStep))), ((q2 7), .inl (κ 1, 20, .inl (zc q2_rightOf))), ((q2 8), .inl (κ 1, 20, .inl (zc q2_rightValue))), ((q2 9), .inl (κ 1, 20, .inl (zc q2_knownValue)))]) := hD
        refine lv_aload_n hx hb dX3_gather_55 rfl (lv_at hl 0 rfl) ?_
        refine lv_dup hx hb dX3_gather_56 rfl ?_
        refine va_get (D := D) (ci := 3) (v := .int (zi t_size)) (C := RX3) (T := TX3) (N := 3) hx hb hts zi_X3_gather_X3 hown hK hP 0 rfl rfl 2 (by decide) (hts (.fieldLink RX3 18 "DiamondRows$Fitting" "size" "I") zl_X3_gather_18) (fun _ h9 => h9) rfl dX3_gather_57 ?_
        refine zv_iconst hx hb dX3_gather_60 ?_
        refine zv_iadd hx hb dX3_gather_61 ?_
        refine va_put (D := D) (ci := 3) (v := .int (zi (t_size + (1 : Int)))) (ty := .int) (C := RX3) (T := TX3) (N := 3) hx hb hts zi_X3_gather_X3 tyX3 tyX3_ok nmX3 hown hK hP hD hS 0 rfl rfl 2 (by decide) (hts (.fieldLink RX3 18 "DiamondRows$Fitting" "size" "I") zl_X3_gather_18) (fun _ h9 => h9) rfl (by decide +kernel) rfl rfl (Nat.le_of_ble_eq_true rfl) dX3_gather_62 (fun H locs hP hD hS => ?_)
        have hP : va_P D vwCl ([((t 0), .inr (3, [.ref (t 1), .ref (t 2), .int (zi (t_size + (1 : Int)))])), ((t 1), .inl (κ 1, 429, .inl (zc (zset t_numbers (Int.toNat t_size) i4)))), ((t 2), .inl (κ 1, 22, .inl (zc t_tally))), ((q2 0), .inr (7, [.ref (q2 1), .ref (q2 2), .ref (q2 3), .ref (q2 4), .ref (q2 5), .ref (q2 6), .ref (q2 7), .ref (q2 8), .ref (q2 9), .int (zi q2_size), .int (zi q2_rights), .int (zi q2_latest)])), ((q2 1), .inl (κ 1, 20, .inl (zc q2_seenStep))), ((q2 2), .inl (κ 1, 20, .inl (zc q2_seenFrom))), ((q2 3), .inl (κ 1, 20, .inl (zc q2_seenTo))), ((q2 4), .inl (κ 1, 20, .inl (zc q2_seenValue))), ((q2 5), .inl (κ 1, 20, .inl (zc q2_timesRight))), ((q2 6), .inl (κ 1, 20, .inl (zc q2_rightStep))), ((q2 7), .inl (κ 1, 20, .inl (zc q2_rightOf))), ((q2 8), .inl (κ 1, 20, .inl (zc q2_rightValue))), ((q2 9), .inl (κ 1, 20, .inl (zc q2_knownValue)))]) H := hP
        have hD : va_D A ([((t 0), .inr (3, [.ref (t 1), .ref (t 2), .int (zi (t_size + (1 : Int)))])), ((t 1), .inl (κ 1, 429, .inl (zc (zset t_numbers (Int.toNat t_size) i4)))), ((t 2), .inl (κ 1, 22, .inl (zc t_tally))), ((q2 0), .inr (7, [.ref (q2 1), .ref (q2 2), .ref (q2 3), .ref (q2 4), .ref (q2 5), .ref (q2 6), .ref (q2 7), .ref (q2 8), .ref (q2 9), .int (zi q2_size), .int (zi q2_rights), .int (zi q2_latest)])), ((q2 1), .inl (κ 1, 20, .inl (zc q2_seenStep))), ((q2 2), .inl (κ 1, 20, .inl (zc q2_seenFrom))), ((q2 3), .inl (κ 1, 20, .inl (zc q2_seenTo))), ((q2 4), .inl (κ 1, 20, .inl (zc q2_seenValue))), ((q2 5), .inl (κ 1, 20, .inl (zc q2_timesRight))), ((q2 6), .inl (κ 1, 20, .inl (zc q2_rightStep))), ((q2 7), .inl (κ 1, 20, .inl (zc q2_rightOf))), ((q2 8), .inl (κ 1, 20, .inl (zc q2_rightValue))), ((q2 9), .inl (κ 1, 20, .inl (zc q2_knownValue)))]) := hD
        refine lv_iinc (v := zi (i4 + (1 : Int))) (lv' := [(4, .int (zi (i4 + (1 : Int)))), (0, .ref (t 0)), (1, .ref (ad n1 0)), (2, .ref (q2 0))]) hx hb dX3_gather_65 hl (k := 3) rfl (zi_add i4 _) (by decide) rfl (fun ls hl => ?_)
        refine lv_goto (tgt := 13) hx hb dX3_gather_68 (by decide) ?_
        exact (Go_s hg) H locs ls hP hD hS (lv_sub hl [1, 2, 3, 0] rfl)
set_option maxHeartbeats 4000000 in
set_option maxRecDepth 100000 in
theorem zw_X3_gather {p : Program} {l : Launch} {e : Env} {s : State} {m : MethodId} {args : Array Value} {below : List Frame} {meth : Method} {c : Code} {Q : State → Prop} {D : va_G} {κ : Nat → ClassId} {A : Nat → Prop} {H0 : Heap} (t : Nat → Nat) (q2 : Nat → Nat) (mk : Nat) (ad : Nat → Nat → Nat) (t_tally : Nat) (q2_size : Int) (q2_rights : Int) (q2_latest : Int) (q2_seenStep : Nat) (q2_seenFrom : Nat) (q2_seenTo : Nat) (q2_seenValue : Nat) (q2_timesRight : Nat) (q2_rightStep : Nat) (q2_rightOf : Nat) (q2_rightValue : Nat) (n1 : Nat) (t_size : Int) (t_numbers : Nat) (q2_knownValue : Nat) (i3 : Int) (hx : p.tables.exec = Jvm.exec) (hb : c.code = cX3_gather) (hml : c.maxLocals = 5) (hown : s.vm.findClass RX3 = some m.cls) (hts : ∀ w ∈ wsX3_gather, w.before args s = true) (hK : va_K D vwCl (zTY κ) s) (hA : ∀ q : Nat, H0.size ≤ q → A q) (hB : zAmb D κ mk ad H0) (hBA : zApt mk ad A H0.size) (out : Int × Nat × Nat) (h : zf_X3_gather mk t_size t_numbers q2_size q2_rights q2_seenStep q2_seenFrom q2_seenTo q2_seenValue q2_rightStep q2_rightOf q2_rightValue q2_knownValue n1 i3 = some out) (hq : zQ_X3_gather p l e s m args below meth c Q D κ A H0 t q2 mk ad t_tally q2_size q2_rights q2_latest q2_seenStep q2_seenFrom q2_seenTo q2_seenValue q2_timesRight q2_rightStep q2_rightOf q2_rightValue n1 out) : zA_X3_gather_0 p l e s m args below meth c Q D κ A H0 t q2 mk ad t_tally q2_size q2_rights q2_latest q2_seenStep q2_seenFrom q2_seenTo q2_seenValue q2_timesRight q2_rightStep q2_rightOf q2_rightValue n1 i3 0 t_size t_numbers q2_knownValue := by
  have hst : ∀ st : zS_X3_gather, Go (GoE (zA_X3_gather p l e s m args below meth c Q D κ A H0 t q2 mk ad t_tally q2_size q2_rights q2_latest q2_seenStep q2_seenFrom q2_seenTo q2_seenValue q2_timesRight q2_rightStep q2_rightOf q2_rightValue n1) (zQ_X3_gather p l e s m args below meth c Q D κ A H0 t q2 mk ad t_tally q2_size q2_rights q2_latest q2_seenStep q2_seenFrom q2_seenTo q2_seenValue q2_timesRight q2_rightStep q2_rightOf q2_rightValue n1)) (zg_X3_gather mk q2_size q2_rights q2_seenStep q2_seenFrom q2_seenTo q2_seenValue q2_rightStep q2_rightOf q2_rightValue n1 st) → zA_X3_gather p l e s m args below meth c Q D κ A H0 t q2 mk ad t_tally q2_size q2_rights q2_latest q2_seenStep q2_seenFrom q2_seenTo q2_seenValue q2_timesRight q2_rightStep q2_rightOf q2_rightValue n1 st := by
    intro st hg
    obtain ⟨lab, i3, i4, t_size, t_numbers, q2_knownValue⟩ := st
    by_cases h0 : lab = 0
    · subst h0
      exact zs_X3_gather_0 t q2 mk ad t_tally q2_size q2_rights q2_latest q2_seenStep q2_seenFrom q2_seenTo q2_seenValue q2_timesRight q2_rightStep q2_rightOf q2_rightValue n1 hx hb hml hown hts hK hA hB hBA i3 i4 t_size t_numbers q2_knownValue hg
    by_cases h13 : lab = 13
    · subst h13
      exact zs_X3_gather_13 t q2 mk ad t_tally q2_size q2_rights q2_latest q2_seenStep q2_seenFrom q2_seenTo q2_seenValue q2_timesRight q2_rightStep q2_rightOf q2_rightValue n1 hx hb hml hown hts hK hA hB hBA i3 i4 t_size t_numbers q2_knownValue hg
    have hz : zg_X3_gather mk q2_size q2_rights q2_seenStep q2_seenFrom q2_seenTo q2_seenValue q2_rightStep q2_rightOf q2_rightValue n1 (lab, i3, i4, t_size, t_numbers, q2_knownValue) = none := by simp [zg_X3_gather, h0, h13]
    rw [hz] at hg
    obtain ⟨a, h1, -⟩ := hg
    cases h1
  exact jwalk (At := zA_X3_gather p l e s m args below meth c Q D κ A H0 t q2 mk ad t_tally q2_size q2_rights q2_latest q2_seenStep q2_seenFrom q2_seenTo q2_seenValue q2_timesRight q2_rightStep q2_rightOf q2_rightValue n1) (Ret := zQ_X3_gather p l e s m args below meth c Q D κ A H0 t q2 mk ad t_tally q2_size q2_rights q2_latest q2_seenStep q2_seenFrom q2_seenTo q2_seenValue q2_timesRight q2_rightStep q2_rightOf q2_rightValue n1) hst _ _ _ h hq
set_option maxHeartbeats 4000000 in
set_option maxRecDepth 100000 in
theorem zc_X3_gather (l : Launch) (D : va_G) (κ : Nat → ClassId) (t : Nat → Nat) (q2 : Nat → Nat) (mk : Nat) (ad : Nat → Nat → Nat) (sz : Nat) (t_size : Int) (t_numbers : Nat) (t_tally : Nat) (q2_size : Int) (q2_rights : Int) (q2_latest : Int) (q2_seenStep : Nat) (q2_seenFrom : Nat) (q2_seenTo : Nat) (q2_seenValue : Nat) (q2_timesRight : Nat) (q2_rightStep : Nat) (q2_rightOf : Nat) (q2_rightValue : Nat) (q2_knownValue : Nat) (n1 : Nat) (i3 : Int) (out : Int × Nat × Nat) (h : zf_X3_gather mk t_size t_numbers q2_size q2_rights q2_seenStep q2_seenFrom q2_seenTo q2_seenValue q2_rightStep q2_rightOf q2_rightValue q2_knownValue n1 i3 = some out) : Met l yX3_gather wsX3_gather zr_X3_gather (va_Pc [.ref (t 0), .ref (ad n1 0), .ref (q2 0), .int (zi i3)] (zWa D κ mk ad ([((t 0), .inr (3, [.ref (t 1), .ref (t 2), .int (zi t_size)])), ((t 1), .inl (κ 1, 429, .inl (zc t_numbers))), ((t 2), .inl (κ 1, 22, .inl (zc t_tally))), ((q2 0), .inr (7, [.ref (q2 1), .ref (q2 2), .ref (q2 3), .ref (q2 4), .ref (q2 5), .ref (q2 6), .ref (q2 7), .ref (q2 8), .ref (q2 9), .int (zi q2_size), .int (zi q2_rights), .int (zi q2_latest)])), ((q2 1), .inl (κ 1, 20, .inl (zc q2_seenStep))), ((q2 2), .inl (κ 1, 20, .inl (zc q2_seenFrom))), ((q2 3), .inl (κ 1, 20, .inl (zc q2_seenTo))), ((q2 4), .inl (κ 1, 20, .inl (zc q2_seenValue))), ((q2 5), .inl (κ 1, 20, .inl (zc q2_timesRight))), ((q2 6), .inl (κ 1, 20, .inl (zc q2_rightStep))), ((q2 7), .inl (κ 1, 20, .inl (zc q2_rightOf))), ((q2 8), .inl (κ 1, 20, .inl (zc q2_rightValue))), ((q2 9), .inl (κ 1, 20, .inl (zc q2_knownValue)))]) sz)) (va_Qv (fun (_ : Unit) => True) (fun _ => zB D κ (va_A ([((t 0), .inr (3, [.ref (t 1), .ref (t 2), .int (zi t_size)])), ((t 1), .inl (κ 1, 429, .inl (zc t_numbers))), ((t 2), .inl (κ 1, 22, .inl (zc t_tally))), ((q2 0), .inr (7, [.ref (q2 1), .ref (q2 2), .ref (q2 3), .ref (q2 4), .ref (q2 5), .ref (q2 6), .ref (q2 7), .ref (q2 8), .ref (q2 9), .int (zi q2_size), .int (zi q2_rights), .int (zi q2_latest)])), ((q2 1), .inl (κ 1, 20, .inl (zc q2_seenStep))), ((q2 2), .inl (κ 1, 20, .inl (zc q2_seenFrom))), ((q2 3), .inl (κ 1, 20, .inl (zc q2_seenTo))), ((q2 4), .inl (κ 1, 20, .inl (zc q2_seenValue))), ((q2 5), .inl (κ 1, 20, .inl (zc q2_timesRight))), ((q2 6), .inl (κ 1, 20, .inl (zc q2_rightStep))), ((q2 7), .inl (κ 1, 20, .inl (zc q2_rightOf))), ((q2 8), .inl (κ 1, 20, .inl (zc q2_rightValue))), ((q2 9), .inl (κ 1, 20, .inl (zc q2_knownValue)))]) sz) ([((t 0), .inr (3, [.ref (t 1), .ref (t 2), .int (zi (out.1))])), ((t 1), .inl (κ 1, 429, .inl (zc (out.2.1)))), ((t 2), .inl (κ 1, 22, .inl (zc t_tally))), ((q2 0), .inr (7, [.ref (q2 1), .ref (q2 2), .ref (q2 3), .ref (q2 4), .ref (q2 5), .ref (q2 6), .ref (q2 7), .ref (q2 8), .ref (q2 9), .int (zi q2_size), .int (zi q2_rights), .int (zi q2_latest)])), ((q2 1), .inl (κ 1, 20, .inl (zc q2_seenStep))), ((q2 2), .inl (κ 1, 20, .inl (zc q2_seenFrom))), ((q2 3), .inl (κ 1, 20, .inl (zc q2_seenTo))), ((q2 4), .inl (κ 1, 20, .inl (zc q2_seenValue))), ((q2 5), .inl (κ 1, 20, .inl (zc q2_timesRight))), ((q2 6), .inl (κ 1, 20, .inl (zc q2_rightStep))), ((q2 7), .inl (κ 1, 20, .inl (zc q2_rightOf))), ((q2 8), .inl (κ 1, 20, .inl (zc q2_rightValue))), ((q2 9), .inl (κ 1, 20, .inl (zc (out.2.2))))])) (va_A ([((t 0), .inr (3, [.ref (t 1), .ref (t 2), .int (zi t_size)])), ((t 1), .inl (κ 1, 429, .inl (zc t_numbers))), ((t 2), .inl (κ 1, 22, .inl (zc t_tally))), ((q2 0), .inr (7, [.ref (q2 1), .ref (q2 2), .ref (q2 3), .ref (q2 4), .ref (q2 5), .ref (q2 6), .ref (q2 7), .ref (q2 8), .ref (q2 9), .int (zi q2_size), .int (zi q2_rights), .int (zi q2_latest)])), ((q2 1), .inl (κ 1, 20, .inl (zc q2_seenStep))), ((q2 2), .inl (κ 1, 20, .inl (zc q2_seenFrom))), ((q2 3), .inl (κ 1, 20, .inl (zc q2_seenTo))), ((q2 4), .inl (κ 1, 20, .inl (zc q2_seenValue))), ((q2 5), .inl (κ 1, 20, .inl (zc q2_timesRight))), ((q2 6), .inl (κ 1, 20, .inl (zc q2_rightStep))), ((q2 7), .inl (κ 1, 20, .inl (zc q2_rightOf))), ((q2 8), .inl (κ 1, 20, .inl (zc q2_rightValue))), ((q2 9), .inl (κ 1, 20, .inl (zc q2_knownValue)))]) sz)) 0 0 (va_A ([((t 0), .inr (3, [.ref (t 1), .ref (t 2), .int (zi t_size)])), ((t 1), .inl (κ 1, 429, .inl (zc t_numbers))), ((t 2), .inl (κ 1, 22, .inl (zc t_tally))), ((q2 0), .inr (7, [.ref (q2 1), .ref (q2 2), .ref (q2 3), .ref (q2 4), .ref (q2 5), .ref (q2 6), .ref (q2 7), .ref (q2 8), .ref (q2 9), .int (zi q2_size), .int (zi q2_rights), .int (zi q2_latest)])), ((q2 1), .inl (κ 1, 20, .inl (zc q2_seenStep))), ((q2 2), .inl (κ 1, 20, .inl (zc q2_seenFrom))), ((q2 3), .inl (κ 1, 20, .inl (zc q2_seenTo))), ((q2 4), .inl (κ 1, 20, .inl (zc q2_seenValue))), ((q2 5), .inl (κ 1, 20, .inl (zc q2_timesRight))), ((q2 6), .inl (κ 1, 20, .inl (zc q2_rightStep))), ((q2 7), .inl (κ 1, 20, .inl (zc q2_rightOf))), ((q2 8), .inl (κ 1, 20, .inl (zc q2_rightValue))), ((q2 9), .inl (κ 1, 20, .inl (zc q2_knownValue)))]) sz) := by
  refine Met.ofW (cc := cX3_gather) (maxL := 5) (ret := none) (by decide +kernel) rfl ?_
  intro p e s m args below meth c s₁ B hml hv
  obtain ⟨rfl, hsz, hP, hK, hD0, hB, hBA⟩ := hv
  have hx := B.exec
  have hb := B.bytes
  have hr := B.returns
  have hts := atoms_spec (ws := wsX3_gather) B.pre
  have hown : s.vm.findClass RX3 = some m.cls := findClass_of_methodNamed B.named
  have hlocks := B.notSynchronized
  subst hsz
  have hD := hD0.self (sz := s.heap.size)
  generalize hAe : va_A ([((t 0), .inr (3, [.ref (t 1), .ref (t 2), .int (zi t_size)])), ((t 1), .inl (κ 1, 429, .inl (zc t_numbers))), ((t 2), .inl (κ 1, 22, .inl (zc t_tally))), ((q2 0), .inr (7, [.ref (q2 1), .ref (q2 2), .ref (q2 3), .ref (q2 4), .ref (q2 5), .ref (q2 6), .ref (q2 7), .ref (q2 8), .ref (q2 9), .int (zi q2_size), .int (zi q2_rights), .int (zi q2_latest)])), ((q2 1), .inl (κ 1, 20, .inl (zc q2_seenStep))), ((q2 2), .inl (κ 1, 20, .inl (zc q2_seenFrom))), ((q2 3), .inl (κ 1, 20, .inl (zc q2_seenTo))), ((q2 4), .inl (κ 1, 20, .inl (zc q2_seenValue))), ((q2 5), .inl (κ 1, 20, .inl (zc q2_timesRight))), ((q2 6), .inl (κ 1, 20, .inl (zc q2_rightStep))), ((q2 7), .inl (κ 1, 20, .inl (zc q2_rightOf))), ((q2 8), .inl (κ 1, 20, .inl (zc q2_rightValue))), ((q2 9), .inl (κ 1, 20, .inl (zc q2_knownValue)))]) s.heap.size = A at hD hBA ⊢
  have hA : ∀ q : Nat, s.heap.size ≤ q → A q := fun q h => by rw [← hAe]; exact Or.inr h
  have hS : va_S A s.heap s.heap [] := va_S.rf
  have hl := lv_entry ([.ref (t 0), .ref (ad n1 0), .ref (q2 0), .int (zi i3)]) (n := 5) (Nat.le_of_ble_eq_true rfl)
  rw [lg_entry_eq]
  generalize (lg_sl ([.ref (t 0), .ref (ad n1 0), .ref (q2 0), .int (zi i3)]) ++ List.replicate (5 - (lg_sl ([.ref (t 0), .ref (ad n1 0), .ref (q2 0), .int (zi i3)])).length) Slot.unset).toArray = ls at hl ⊢
  have hl : lv_has ls 5 [(0, .ref (t 0)), (1, .ref (ad n1 0)), (2, .ref (q2 0)), (3, .int (zi i3))] := hl
  refine (zw_X3_gather t q2 mk ad t_tally q2_size q2_rights q2_latest q2_seenStep q2_seenFrom q2_seenTo q2_seenValue q2_timesRight q2_rightStep q2_rightOf q2_rightValue n1 t_size t_numbers q2_knownValue i3 hx hb hml hown hts hK hA hB hBA out h ?_) s.heap [] ls hP hD hS (lv_sub hl [0, 1, 2, 3] rfl)
  exact fun H locs ls pc hP hD hS hd => W.vret hx hb hr (fun t ht hW => ⟨⟨(), rfl, trivial, by rw [ht]; exact hP, va_K.moved hW.alike hK, hD⟩, hS.F ht⟩) hS.2.2 hd
/-! DiamondRows$Fitting.leastNumber()I -/
abbrev zr_X3_leastNumber : Room := { frames := 0, cells := 0, slots := 0, locals := 0 }
noncomputable def zf_X3_leastNumber  (t_size : Int) (t_numbers : Nat)  : Option (Int) :=
  if zout t_size then none else
  if t_size ≤ 0 then
  some ((-1 : Int))
  else
  some ((zget t_numbers (Int.toNat (0 : Int))))
theorem zi_X3_leastNumber_X3 : ∀ w ∈ u_ws RX3 TX3 3, w ∈ wsX3_leastNumber := by decide +kernel
theorem zl_X3_leastNumber_9 : Cond.fieldLink RX3 9 "DiamondRows$Fitting" "numbers" "[I" ∈ wsX3_leastNumber := by decide +kernel
theorem zl_X3_leastNumber_18 : Cond.fieldLink RX3 18 "DiamondRows$Fitting" "size" "I" ∈ wsX3_leastNumber := by decide +kernel
def zQ_X3_leastNumber (p : Program) (l : Launch) (e : Env) (s : State) (m : MethodId) (args : Array Value) (below : List Frame) (meth : Method) (c : Code) (Q : State → Prop) (H : Heap) (locs : List Loc)  (o : Int) : Prop := ∀ (ls : Array Slot) (pc : Nat), decode cX3_leastNumber pc = .ok (.ireturn, 1) → W p l e zr_X3_leastNumber s m args below meth c H locs 0 0 Q (F0 m pc ls [.int (zi o)])
set_option maxHeartbeats 4000000 in
set_option maxRecDepth 100000 in
theorem zs_X3_leastNumber {p : Program} {l : Launch} {e : Env} {s : State} {m : MethodId} {args : Array Value} {below : List Frame} {meth : Method} {c : Code} {Q : State → Prop} {D : va_G} {κ : Nat → ClassId} {H : Heap} {locs : List Loc} (t : Nat → Nat) (t_size : Int) (t_numbers : Nat) (t_tally : Nat)  (hx : p.tables.exec = Jvm.exec) (hb : c.code = cX3_leastNumber) (hml : c.maxLocals = 1) (hown : s.vm.findClass RX3 = some m.cls) (hts : ∀ w ∈ wsX3_leastNumber, w.before args s = true) (hK : va_K D vwCl (zTY κ) s) (hP : va_P D vwCl ([((t 0), .inr (3, [.ref (t 1), .ref (t 2), .int (zi t_size)])), ((t 1), .inl (κ 1, 429, .inl (zc t_numbers))), ((t 2), .inl (κ 1, 22, .inl (zc t_tally)))]) H) (ls : Array Slot) (hl : lv_has ls 1 [(0, .ref (t 0))]) (hg : Go (zQ_X3_leastNumber p l e s m args below meth c Q H locs) (zf_X3_leastNumber t_size t_numbers )) : W p l e zr_X3_leastNumber s m args below meth c H locs 0 0 Q (F0 m 0 ls []) := by
  unfold zf_X3_leastNumber at hg
  refine lv_aload_n hx hb dX3_leastNumber_0 rfl (lv_at hl 0 rfl) ?_
  refine va_get (D := D) (ci := 3) (v := .int (zi t_size)) (C := RX3) (T := TX3) (N := 3) hx hb hts zi_X3_leastNumber_X3 hown hK hP 0 rfl rfl 2 (by decide) (hts (.fieldLink RX3 18 "DiamondRows$Fitting" "size" "I") zl_X3_leastNumber_18) (fun _ h9 => h9) rfl dX3_leastNumber_1 ?_
  obtain ⟨b1, hg⟩ := Go_n hg
  refine zv_if_le (tgt := 16) hx hb dX3_leastNumber_4 (by decide) b1 (fun c2 => ?_) (fun c2 => ?_)
  · have hg := Go_t c2 hg
    refine zv_iconst hx hb dX3_leastNumber_16 ?_
    exact (Go_s hg) _ _ dX3_leastNumber_17
  · have hg := Go_f c2 hg
    refine lv_aload_n hx hb dX3_leastNumber_7 rfl (lv_at hl 0 rfl) ?_
    refine va_get (D := D) (ci := 3) (v := .ref (t 1)) (C := RX3) (T := TX3) (N := 3) hx hb hts zi_X3_leastNumber_X3 hown hK hP 0 rfl rfl 0 (by decide) (hts (.fieldLink RX3 9 "DiamondRows$Fitting" "numbers" "[I") zl_X3_leastNumber_9) (fun _ h9 => h9) rfl dX3_leastNumber_8 ?_
    refine zv_iconst hx hb dX3_leastNumber_11 ?_
    refine zv_iald hx hb hK hP 1 1 rfl rfl (by decide) (by decide) dX3_leastNumber_12 ?_
    refine lv_goto (tgt := 17) hx hb dX3_leastNumber_13 (by decide) ?_
    exact (Go_s hg) _ _ dX3_leastNumber_17
set_option maxHeartbeats 4000000 in
set_option maxRecDepth 100000 in
theorem zc_X3_leastNumber (l : Launch) (D : va_G) (κ : Nat → ClassId) (t : Nat → Nat) (t_size : Int) (t_numbers : Nat) (t_tally : Nat)  (out : Int) (h : zf_X3_leastNumber t_size t_numbers  = some out) : Met l yX3_leastNumber wsX3_leastNumber zr_X3_leastNumber (va_Pc [.ref (t 0)] (zR D κ ([((t 0), .inr (3, [.ref (t 1), .ref (t 2), .int (zi t_size)])), ((t 1), .inl (κ 1, 429, .inl (zc t_numbers))), ((t 2), .inl (κ 1, 22, .inl (zc t_tally)))]))) (vp_Si (fun x => x = zi out)) 0 0 (fun _ => False) := by
  refine Met.ofW (cc := cX3_leastNumber) (maxL := 1) (ret := (some .int)) (by decide +kernel) rfl ?_
  intro p e s m args below meth c s₁ B hml hv
  obtain ⟨rfl, hP, hK⟩ := hv
  have hx := B.exec
  have hb := B.bytes
  have hr := B.returns
  have hts := atoms_spec (ws := wsX3_leastNumber) B.pre
  have hown : s.vm.findClass RX3 = some m.cls := findClass_of_methodNamed B.named
  have hlocks := B.notSynchronized
  have hl := lv_entry ([.ref (t 0)]) (n := 1) (Nat.le_of_ble_eq_true rfl)
  rw [lg_entry_eq]
  generalize (lg_sl ([.ref (t 0)]) ++ List.replicate (1 - (lg_sl ([.ref (t 0)])).length) Slot.unset).toArray = ls at hl ⊢
  have hl : lv_has ls 1 [(0, .ref (t 0))] := hl
  refine zs_X3_leastNumber t t_size t_numbers t_tally  hx hb hml hown hts hK hP ls hl ⟨out, h, ?_⟩
  exact fun ls pc hd => W.iret hx hb hr (fun t ht hW => ⟨_, rfl, rfl, ht⟩) (fun _ h => by cases h) hd
/-! DiamondRows$Fitting.howSure(LDiamondRows$Polygon;I)I -/
abbrev zr_X3_howSure : Room := { frames := 2, cells := 0, slots := 0, locals := 43 }
abbrev zS_X3_howSure : Type := Nat × Int × Int × Int
abbrev zO_X3_howSure : Type := Int
noncomputable def zg_X3_howSure_0 (mk : Nat) (t_size : Int) (t_numbers : Nat) (n1 : Nat) (i2 : Int) (i3 : Int) (i4 : Int) : Option (zO_X3_howSure ⊕ zS_X3_howSure) :=
  some (.inr (5, i2, (0 : Int), (0 : Int)))
noncomputable def zg_X3_howSure_5 (mk : Nat) (t_size : Int) (t_numbers : Nat) (n1 : Nat) (i2 : Int) (i3 : Int) (i4 : Int) : Option (zO_X3_howSure ⊕ zS_X3_howSure) :=
  if zout i4 then none else
  if zout t_size then none else
  if t_size ≤ i4 then
  if t_size = 0 then
  some (.inl ((-1 : Int)))
  else
  if zout i3 then none else
  if i3 = t_size then
  some (.inl ((1 : Int)))
  else
  if i3 = 0 then
  some (.inl ((0 : Int)))
  else
  some (.inl ((2 : Int)))
  else
  if i4 < 0 ∨ 429 ≤ i4 then none else
  if zno mk n1 then none else
  Option.bind (zf_X5_cutAt n1 (zget t_numbers (Int.toNat i4))) (fun o9 =>
  Option.bind (zf_X5_has n1 o9 i2) (fun o10 =>
  if o10 = false then
  some (.inr (5, i2, i3, (i4 + (1 : Int))))
  else
  some (.inr (5, i2, (i3 + (1 : Int)), (i4 + (1 : Int))))))
noncomputable def zg_X3_howSure (mk : Nat) (t_size : Int) (t_numbers : Nat) (n1 : Nat) (st : zS_X3_howSure) : Option (zO_X3_howSure ⊕ zS_X3_howSure) := match st with
  | (lab, i2, i3, i4) => if lab = 0 then zg_X3_howSure_0 mk t_size t_numbers n1 i2 i3 i4 else if lab = 5 then zg_X3_howSure_5 mk t_size t_numbers n1 i2 i3 i4 else none
noncomputable def zf_X3_howSure (mk : Nat) (t_size : Int) (t_numbers : Nat) (n1 : Nat) (i2 : Int) : Option (Int) := jrun (zg_X3_howSure mk t_size t_numbers n1) jfuel (0, i2, 0, 0)
theorem zi_X3_howSure_X3 : ∀ w ∈ u_ws RX3 TX3 3, w ∈ wsX3_howSure := by decide +kernel
theorem zl_X3_howSure_9 : Cond.fieldLink RX3 9 "DiamondRows$Fitting" "numbers" "[I" ∈ wsX3_howSure := by decide +kernel
theorem zl_X3_howSure_18 : Cond.fieldLink RX3 18 "DiamondRows$Fitting" "size" "I" ∈ wsX3_howSure := by decide +kernel
def zQ_X3_howSure (p : Program) (l : Launch) (e : Env) (s : State) (m : MethodId) (args : Array Value) (below : List Frame) (meth : Method) (c : Code) (Q : State → Prop) (H : Heap) (locs : List Loc)  (o : Int) : Prop := ∀ (ls : Array Slot) (pc : Nat), decode cX3_howSure pc = .ok (.ireturn, 1) → W p l e zr_X3_howSure s m args below meth c H locs 0 0 Q (F0 m pc ls [.int (zi o)])
def zA_X3_howSure_0 (p : Program) (l : Launch) (e : Env) (s : State) (m : MethodId) (args : Array Value) (below : List Frame) (meth : Method) (c : Code) (Q : State → Prop) (H : Heap) (locs : List Loc) (t : Nat → Nat) (mk : Nat) (ad : Nat → Nat → Nat) (n1 : Nat) (i2 : Int) (i3 : Int) (i4 : Int) : Prop := ∀ ls : Array Slot, lv_has ls 5 [(0, .ref (t 0)), (1, .ref (ad n1 0)), (2, .int (zi i2))] → W p l e zr_X3_howSure s m args below meth c H locs 0 0 Q (F0 m 0 ls [])
def zA_X3_howSure_5 (p : Program) (l : Launch) (e : Env) (s : State) (m : MethodId) (args : Array Value) (below : List Frame) (meth : Method) (c : Code) (Q : State → Prop) (H : Heap) (locs : List Loc) (t : Nat → Nat) (mk : Nat) (ad : Nat → Nat → Nat) (n1 : Nat) (i2 : Int) (i3 : Int) (i4 : Int) : Prop := ∀ ls : Array Slot, lv_has ls 5 [(0, .ref (t 0)), (1, .ref (ad n1 0)), (2, .int (zi i2)), (3, .int (zi i3)), (4, .int (zi i4))] → W p l e zr_X3_howSure s m args below meth c H locs 0 0 Q (F0 m 5 ls [])
def zA_X3_howSure (p : Program) (l : Launch) (e : Env) (s : State) (m : MethodId) (args : Array Value) (below : List Frame) (meth : Method) (c : Code) (Q : State → Prop) (H : Heap) (locs : List Loc) (t : Nat → Nat) (mk : Nat) (ad : Nat → Nat → Nat) (n1 : Nat) (st : zS_X3_howSure) : Prop := match st with
  | (lab, i2, i3, i4) => if lab = 0 then zA_X3_howSure_0 p l e s m args below meth c Q H locs t mk ad n1 i2 i3 i4 else if lab = 5 then zA_X3_howSure_5 p l e s m args below meth c Q H locs t mk ad n1 i2 i3 i4 else True
set_option maxHeartbeats 4000000 in
set_option maxRecDepth 100000 in
theorem zs_X3_howSure_0 {p : Program} {l : Launch} {e : Env} {s : State} {m : MethodId} {args : Array Value} {below : List Frame} {meth : Method} {c : Code} {Q : State → Prop} {D : va_G} {κ : Nat → ClassId} {H : Heap} {locs : List Loc} (t : Nat → Nat) (mk : Nat) (ad : Nat → Nat → Nat) (t_size : Int) (t_numbers : Nat) (t_tally : Nat) (n1 : Nat) (hx : p.tables.exec = Jvm.exec) (hb : c.code = cX3_howSure) (hml : c.maxLocals = 5) (hown : s.vm.findClass RX3 = some m.cls) (hts : ∀ w ∈ wsX3_howSure, w.before args s = true) (hK : va_K D vwCl (zTY κ) s) (hP : va_P D vwCl ([((t 0), .inr (3, [.ref (t 1), .ref (t 2), .int (zi t_size)])), ((t 1), .inl (κ 1, 429, .inl (zc t_numbers))), ((t 2), .inl (κ 1, 22, .inl (zc t_tally)))]) H) (hB : zAmb D κ mk ad H) (i2 : Int) (i3 : Int) (i4 : Int) (hg : Go (GoE (zA_X3_howSure p l e s m args below meth c Q H locs t mk ad n1) (zQ_X3_howSure p l e s m args below meth c Q H locs)) (zg_X3_howSure_0 mk t_size t_numbers n1 i2 i3 i4)) : zA_X3_howSure_0 p l e s m args below meth c Q H locs t mk ad n1 i2 i3 i4 := by
  intro ls hl
  unfold zg_X3_howSure_0 at hg
  refine zv_iconst hx hb dX3_howSure_0 ?_
  refine lv_istore_n (lv' := [(3, .int (zi (0 : Int))), (0, .ref (t 0)), (1, .ref (ad n1 0)), (2, .int (zi i2))]) hx hb dX3_howSure_1 rfl hl (by decide) rfl (fun ls hl => ?_)
  refine zv_iconst hx hb dX3_howSure_2 ?_
  refine lv_istore (lv' := [(4, .int (zi (0 : Int))), (3, .int (zi (0 : Int))), (0, .ref (t 0)), (1, .ref (ad n1 0)), (2, .int (zi i2))]) hx hb dX3_howSure_3 hl (by decide) rfl (fun ls hl => ?_)
  exact (Go_s hg) ls (lv_sub hl [2, 3, 4, 1, 0] rfl)
set_option maxHeartbeats 4000000 in
set_option maxRecDepth 100000 in
theorem zs_X3_howSure_5 {p : Program} {l : Launch} {e : Env} {s : State} {m : MethodId} {args : Array Value} {below : List Frame} {meth : Method} {c : Code} {Q : State → Prop} {D : va_G} {κ : Nat → ClassId} {H : Heap} {locs : List Loc} (t : Nat → Nat) (mk : Nat) (ad : Nat → Nat → Nat) (t_size : Int) (t_numbers : Nat) (t_tally : Nat) (n1 : Nat) (hx : p.tables.exec = Jvm.exec) (hb : c.code = cX3_howSure) (hml : c.maxLocals = 5) (hown : s.vm.findClass RX3 = some m.cls) (hts : ∀ w ∈ wsX3_howSure, w.before args s = true) (hK : va_K D vwCl (zTY κ) s) (hP : va_P D vwCl ([((t 0), .inr (3, [.ref (t 1), .ref (t 2), .int (zi t_size)])), ((t 1), .inl (κ 1, 429, .inl (zc t_numbers))), ((t 2), .inl (κ 1, 22, .inl (zc t_tally)))]) H) (hB : zAmb D κ mk ad H) (i2 : Int) (i3 : Int) (i4 : Int) (hg : Go (GoE (zA_X3_howSure p l e s m args below meth c Q H locs t mk ad n1) (zQ_X3_howSure p l e s m args below meth c Q H locs)) (zg_X3_howSure_5 mk t_size t_numbers n1 i2 i3 i4)) : zA_X3_howSure_5 p l e s m args below meth c Q H locs t mk ad n1 i2 i3 i4 := by
  intro ls hl
  unfold zg_X3_howSure_5 at hg
  refine lv_iload hx hb dX3_howSure_5 (lv_at hl 4 rfl) ?_
  refine lv_aload_n hx hb dX3_howSure_7 rfl (lv_at hl 0 rfl) ?_
  refine va_get (D := D) (ci := 3) (v := .int (zi t_size)) (C := RX3) (T := TX3) (N := 3) hx hb hts zi_X3_howSure_X3 hown hK hP 0 rfl rfl 2 (by decide) (hts (.fieldLink RX3 18 "DiamondRows$Fitting" "size" "I") zl_X3_howSure_18) (fun _ h9 => h9) rfl dX3_howSure_8 ?_
  obtain ⟨b1, hg⟩ := Go_n hg
  obtain ⟨b2, hg⟩ := Go_n hg
  refine zv_icmp_ge (tgt := 42) hx hb dX3_howSure_11 (by decide) b1 b2 (fun c12 => ?_) (fun c12 => ?_)
  · have hg := Go_t c12 hg
    refine lv_aload_n hx hb dX3_howSure_42 rfl (lv_at hl 0 rfl) ?_
    refine va_get (D := D) (ci := 3) (v := .int (zi t_size)) (C := RX3) (T := TX3) (N := 3) hx hb hts zi_X3_howSure_X3 hown hK hP 0 rfl rfl 2 (by decide) (hts (.fieldLink RX3 18 "DiamondRows$Fitting" "size" "I") zl_X3_howSure_18) (fun _ h9 => h9) rfl dX3_howSure_43 ?_
    refine zv_if_ne (tgt := 51) hx hb dX3_howSure_46 (by decide) b2 (fun c6 => ?_) (fun c6 => ?_)
    · have hg := Go_f c6 hg
      refine lv_iload_n hx hb dX3_howSure_51 rfl (lv_at hl 3 rfl) ?_
      refine lv_aload_n hx hb dX3_howSure_52 rfl (lv_at hl 0 rfl) ?_
      refine va_get (D := D) (ci := 3) (v := .int (zi t_size)) (C := RX3) (T := TX3) (N := 3) hx hb hts zi_X3_howSure_X3 hown hK hP 0 rfl rfl 2 (by decide) (hts (.fieldLink RX3 18 "DiamondRows$Fitting" "size" "I") zl_X3_howSure_18) (fun _ h9 => h9) rfl dX3_howSure_53 ?_
      obtain ⟨b3, hg⟩ := Go_n hg
      refine zv_icmp_ne (tgt := 63) hx hb dX3_howSure_56 (by decide) b3 b2 (fun c5 => ?_) (fun c5 => ?_)
      · have hg := Go_f c5 hg
        refine lv_iload_n hx hb dX3_howSure_63 rfl (lv_at hl 3 rfl) ?_
        refine zv_if_ne (tgt := 71) hx hb dX3_howSure_64 (by decide) b3 (fun c4 => ?_) (fun c4 => ?_)
        · have hg := Go_f c4 hg
          refine zv_iconst hx hb dX3_howSure_71 ?_
          exact (Go_s hg) _ _ dX3_howSure_72
        · have hg := Go_t c4 hg
          refine zv_iconst hx hb dX3_howSure_67 ?_
          refine lv_goto (tgt := 72) hx hb dX3_howSure_68 (by decide) ?_
          exact (Go_s hg) _ _ dX3_howSure_72
      · have hg := Go_t c5 hg
        refine zv_iconst hx hb dX3_howSure_59 ?_
        refine lv_goto (tgt := 72) hx hb dX3_howSure_60 (by decide) ?_
        exact (Go_s hg) _ _ dX3_howSure_72
    · have hg := Go_t c6 hg
      refine zv_iconst hx hb dX3_howSure_49 ?_
      exact (Go_s hg) _ _ dX3_howSure_50
  · have hg := Go_f c12 hg
    refine lv_aload_n hx hb dX3_howSure_14 rfl (lv_at hl 1 rfl) ?_
    refine lv_aload_n hx hb dX3_howSure_15 rfl (lv_at hl 1 rfl) ?_
    refine lv_aload_n hx hb dX3_howSure_16 rfl (lv_at hl 0 rfl) ?_
    refine va_get (D := D) (ci := 3) (v := .ref (t 1)) (C := RX3) (T := TX3) (N := 3) hx hb hts zi_X3_howSure_X3 hown hK hP 0 rfl rfl 0 (by decide) (hts (.fieldLink RX3 9 "DiamondRows$Fitting" "numbers" "[I") zl_X3_howSure_9) (fun _ h9 => h9) rfl dX3_howSure_17 ?_
    refine lv_iload hx hb dX3_howSure_20 (lv_at hl 4 rfl) ?_
    obtain ⟨n7, hg⟩ := Go_n hg
    refine zv_iald hx hb hK hP 1 1 rfl rfl (by decide) n7 dX3_howSure_22 ?_
    obtain ⟨m8, hg⟩ := Go_n hg
    obtain ⟨o9, ho9, hg⟩ := Go_b hg
    refine zc_vi (rest := [.ref (ad n1 0)]) ⟨hx, hb, hml, hown, hts⟩ (zc_X5_cutAt l D κ (ad n1) n1 (zget t_numbers (Int.toNat i4)) o9 ho9) (cwV 1 hts gX3_howSure_X5_cutAt rfl rfl rfl (by decide +kernel) ⟨Nat.le_of_ble_eq_true rfl, Nat.le_of_ble_eq_true rfl⟩) (zpreV hK (hB n1 m8) 5 0 rfl rfl) rfl hl.1 rfl (Nat.le_of_ble_eq_true rfl) dX3_howSure_23 ⟨Nat.zero_le _, Nat.zero_le _⟩ ?_
    refine lv_iload_n hx hb dX3_howSure_26 rfl (lv_at hl 2 rfl) ?_
    obtain ⟨o10, ho10, hg⟩ := Go_b hg
    refine zc_vi (rest := []) ⟨hx, hb, hml, hown, hts⟩ (zc_X5_has l D κ (ad n1) n1 o9 i2 o10 ho10) (cwV 2 hts gX3_howSure_X5_has rfl rfl rfl (by decide +kernel) ⟨Nat.le_of_ble_eq_true rfl, Nat.le_of_ble_eq_true rfl⟩) (zpreV hK (hB n1 m8) 5 0 rfl rfl) rfl hl.1 rfl (Nat.le_of_ble_eq_true rfl) dX3_howSure_27 ⟨Nat.zero_le _, Nat.zero_le _⟩ ?_
    refine zv_ifb_eq (tgt := 36) hx hb dX3_howSure_30 (by decide) (fun c11 => ?_) (fun c11 => ?_)
    · have hg := Go_t c11 hg
      refine lv_iinc (v := zi (i4 + (1 : Int))) (lv' := [(4, .int (zi (i4 + (1 : Int)))), (0, .ref (t 0)), (1, .ref (ad n1 0)), (2, .int (zi i2)), (3, .int (zi i3))]) hx hb dX3_howSure_36 hl (k := 4) rfl (zi_add i4 _) (by decide) rfl (fun ls hl => ?_)
      refine lv_goto (tgt := 5) hx hb dX3_howSure_39 (by decide) ?_
      exact (Go_s hg) ls (lv_sub hl [1, 2, 3, 4, 0] rfl)
    · have hg := Go_f c11 hg
      refine lv_iinc (v := zi (i3 + (1 : Int))) (lv' := [(3, .int (zi (i3 + (1 : Int)))), (0, .ref (t 0)), (1, .ref (ad n1 0)), (2, .int (zi i2)), (4, .int (zi i4))]) hx hb dX3_howSure_33 hl (k := 3) rfl (zi_add i3 _) (by decide) rfl (fun ls hl => ?_)
      refine lv_iinc (v := zi (i4 + (1 : Int))) (lv' := [(4, .int (zi (i4 + (1 : Int)))), (3, .int (zi (i3 + (1 : Int)))), (0, .ref (t 0)), (1, .ref (ad n1 0)), (2, .int (zi i2))]) hx hb dX3_howSure_36 hl (k := 4) rfl (zi_add i4 _) (by decide) rfl (fun ls hl => ?_)
      refine lv_goto (tgt := 5) hx hb dX3_howSure_39 (by decide) ?_
      exact (Go_s hg) ls (lv_sub hl [2, 3, 4, 1, 0] rfl)
set_option maxHeartbeats 4000000 in
set_option maxRecDepth 100000 in
theorem zw_X3_howSure {p : Program} {l : Launch} {e : Env} {s : State} {m : MethodId} {args : Array Value} {below : List Frame} {meth : Method} {c : Code} {Q : State → Prop} {D : va_G} {κ : Nat → ClassId} {H : Heap} {locs : List Loc} (t : Nat → Nat) (mk : Nat) (ad : Nat → Nat → Nat) (t_size : Int) (t_numbers : Nat) (t_tally : Nat) (n1 : Nat) (i2 : Int) (hx : p.tables.exec = Jvm.exec) (hb : c.code = cX3_howSure) (hml : c.maxLocals = 5) (hown : s.vm.findClass RX3 = some m.cls) (hts : ∀ w ∈ wsX3_howSure, w.before args s = true) (hK : va_K D vwCl (zTY κ) s) (hP : va_P D vwCl ([((t 0), .inr (3, [.ref (t 1), .ref (t 2), .int (zi t_size)])), ((t 1), .inl (κ 1, 429, .inl (zc t_numbers))), ((t 2), .inl (κ 1, 22, .inl (zc t_tally)))]) H) (hB : zAmb D κ mk ad H) (out : Int) (h : zf_X3_howSure mk t_size t_numbers n1 i2 = some out) (hq : zQ_X3_howSure p l e s m args below meth c Q H locs out) : zA_X3_howSure_0 p l e s m args below meth c Q H locs t mk ad n1 i2 0 0 := by
  have hst : ∀ st : zS_X3_howSure, Go (GoE (zA_X3_howSure p l e s m args below meth c Q H locs t mk ad n1) (zQ_X3_howSure p l e s m args below meth c Q H locs)) (zg_X3_howSure mk t_size t_numbers n1 st) → zA_X3_howSure p l e s m args below meth c Q H locs t mk ad n1 st := by
    intro st hg
    obtain ⟨lab, i2, i3, i4⟩ := st
    by_cases h0 : lab = 0
    · subst h0
      exact zs_X3_howSure_0 t mk ad t_size t_numbers t_tally n1 hx hb hml hown hts hK hP hB i2 i3 i4 hg
    by_cases h5 : lab = 5
    · subst h5
      exact zs_X3_howSure_5 t mk ad t_size t_numbers t_tally n1 hx hb hml hown hts hK hP hB i2 i3 i4 hg
    have hz : zg_X3_howSure mk t_size t_numbers n1 (lab, i2, i3, i4) = none := by simp [zg_X3_howSure, h0, h5]
    rw [hz] at hg
    obtain ⟨a, h1, -⟩ := hg
    cases h1
  exact jwalk (At := zA_X3_howSure p l e s m args below meth c Q H locs t mk ad n1) (Ret := zQ_X3_howSure p l e s m args below meth c Q H locs) hst _ _ _ h hq
set_option maxHeartbeats 4000000 in
set_option maxRecDepth 100000 in
theorem zc_X3_howSure (l : Launch) (D : va_G) (κ : Nat → ClassId) (t : Nat → Nat) (mk : Nat) (ad : Nat → Nat → Nat) (t_size : Int) (t_numbers : Nat) (t_tally : Nat) (n1 : Nat) (i2 : Int) (out : Int) (h : zf_X3_howSure mk t_size t_numbers n1 i2 = some out) : Met l yX3_howSure wsX3_howSure zr_X3_howSure (va_Pc [.ref (t 0), .ref (ad n1 0), .int (zi i2)] (zRa D κ mk ad ([((t 0), .inr (3, [.ref (t 1), .ref (t 2), .int (zi t_size)])), ((t 1), .inl (κ 1, 429, .inl (zc t_numbers))), ((t 2), .inl (κ 1, 22, .inl (zc t_tally)))]))) (vp_Si (fun x => x = zi out)) 0 0 (fun _ => False) := by
  refine Met.ofW (cc := cX3_howSure) (maxL := 5) (ret := (some .int)) (by decide +kernel) rfl ?_
  intro p e s m args below meth c s₁ B hml hv
  obtain ⟨rfl, hP, hK, hB⟩ := hv
  have hx := B.exec
  have hb := B.bytes
  have hr := B.returns
  have hts := atoms_spec (ws := wsX3_howSure) B.pre
  have hown : s.vm.findClass RX3 = some m.cls := findClass_of_methodNamed B.named
  have hlocks := B.notSynchronized
  have hl := lv_entry ([.ref (t 0), .ref (ad n1 0), .int (zi i2)]) (n := 5) (Nat.le_of_ble_eq_true rfl)
  rw [lg_entry_eq]
  generalize (lg_sl ([.ref (t 0), .ref (ad n1 0), .int (zi i2)]) ++ List.replicate (5 - (lg_sl ([.ref (t 0), .ref (ad n1 0), .int (zi i2)])).length) Slot.unset).toArray = ls at hl ⊢
  have hl : lv_has ls 5 [(0, .ref (t 0)), (1, .ref (ad n1 0)), (2, .int (zi i2))] := hl
  refine (zw_X3_howSure t mk ad t_size t_numbers t_tally n1 i2 hx hb hml hown hts hK hP hB out h ?_) ls (lv_sub hl [0, 1, 2] rfl)
  exact fun ls pc hd => W.iret hx hb hr (fun t ht hW => ⟨_, rfl, rfl, ht⟩) (fun _ h => by cases h) hd
/-! DiamondRows$Fitting.mostAgreeing(LDiamondRows$Polygon;II)I -/
abbrev zr_X3_mostAgreeing : Room := { frames := 3, cells := 0, slots := 0, locals := 70 }
abbrev zS_X3_mostAgreeing : Type := Nat × Int × Int × Int × Int × Nat
abbrev zO_X3_mostAgreeing : Type := Int × Nat
noncomputable def zg_X3_mostAgreeing_0 (mk : Nat) (t_size : Int) (t_numbers : Nat) (n1 : Nat) (i2 : Int) (i3 : Int) (i4 : Int) (i5 : Int) (t_tally : Nat) : Option (zO_X3_mostAgreeing ⊕ zS_X3_mostAgreeing) :=
  some (.inr (3, i2, i3, (0 : Int), 0, t_tally))
noncomputable def zg_X3_mostAgreeing_3 (mk : Nat) (t_size : Int) (t_numbers : Nat) (n1 : Nat) (i2 : Int) (i3 : Int) (i4 : Int) (i5 : Int) (t_tally : Nat) : Option (zO_X3_mostAgreeing ⊕ zS_X3_mostAgreeing) :=
  if zout i4 then none else
  if (21 : Int) < i4 then
  some (.inr (30, i2, i3, (0 : Int), (0 : Int), t_tally))
  else
  if i4 < 0 ∨ 22 ≤ i4 then none else
  some (.inr (3, i2, i3, (i4 + (1 : Int)), 0, (zset t_tally (Int.toNat i4) (0 : Int))))
noncomputable def zg_X3_mostAgreeing_30 (mk : Nat) (t_size : Int) (t_numbers : Nat) (n1 : Nat) (i2 : Int) (i3 : Int) (i4 : Int) (i5 : Int) (t_tally : Nat) : Option (zO_X3_mostAgreeing ⊕ zS_X3_mostAgreeing) :=
  if zout i5 then none else
  if zout t_size then none else
  if t_size ≤ i5 then
  some (.inl (i4, t_tally))
  else
  if i5 < 0 ∨ 429 ≤ i5 then none else
  if zno mk n1 then none else
  Option.bind (zf_X5_cutAt n1 (zget t_numbers (Int.toNat i5))) (fun o8 =>
  Option.bind (zf_X5_entryOf n1 o8 i2 i3) (fun o9 =>
  if zout o9 then none else
  if o9 < 0 then
  some (.inr (30, i2, i3, i4, (i5 + (1 : Int)), t_tally))
  else
  if (21 : Int) < o9 then
  some (.inr (30, i2, i3, i4, (i5 + (1 : Int)), t_tally))
  else
  if o9 < 0 ∨ 22 ≤ o9 then none else
  if zout i4 then none else
  some (.inr (30, i2, i3, (zmax i4 (zget (zset t_tally (Int.toNat o9) ((zget t_tally (Int.toNat o9)) + (1 : Int))) (Int.toNat o9))), (i5 + (1 : Int)), (zset t_tally (Int.toNat o9) ((zget t_tally (Int.toNat o9)) + (1 : Int)))))))
noncomputable def zg_X3_mostAgreeing (mk : Nat) (t_size : Int) (t_numbers : Nat) (n1 : Nat) (st : zS_X3_mostAgreeing) : Option (zO_X3_mostAgreeing ⊕ zS_X3_mostAgreeing) := match st with
  | (lab, i2, i3, i4, i5, t_tally) => if lab = 0 then zg_X3_mostAgreeing_0 mk t_size t_numbers n1 i2 i3 i4 i5 t_tally else if lab = 3 then zg_X3_mostAgreeing_3 mk t_size t_numbers n1 i2 i3 i4 i5 t_tally else if lab = 30 then zg_X3_mostAgreeing_30 mk t_size t_numbers n1 i2 i3 i4 i5 t_tally else none
noncomputable def zf_X3_mostAgreeing (mk : Nat) (t_size : Int) (t_numbers : Nat) (t_tally : Nat) (n1 : Nat) (i2 : Int) (i3 : Int) : Option (Int × Nat) := jrun (zg_X3_mostAgreeing mk t_size t_numbers n1) jfuel (0, i2, i3, 0, 0, t_tally)
theorem zi_X3_mostAgreeing_X3 : ∀ w ∈ u_ws RX3 TX3 3, w ∈ wsX3_mostAgreeing := by decide +kernel
theorem zl_X3_mostAgreeing_9 : Cond.fieldLink RX3 9 "DiamondRows$Fitting" "numbers" "[I" ∈ wsX3_mostAgreeing := by decide +kernel
theorem zl_X3_mostAgreeing_15 : Cond.fieldLink RX3 15 "DiamondRows$Fitting" "tally" "[I" ∈ wsX3_mostAgreeing := by decide +kernel
theorem zl_X3_mostAgreeing_18 : Cond.fieldLink RX3 18 "DiamondRows$Fitting" "size" "I" ∈ wsX3_mostAgreeing := by decide +kernel
def zQ_X3_mostAgreeing (p : Program) (l : Launch) (e : Env) (s : State) (m : MethodId) (args : Array Value) (below : List Frame) (meth : Method) (c : Code) (Q : State → Prop) (D : va_G) (κ : Nat → ClassId) (A : Nat → Prop) (H0 : Heap) (t : Nat → Nat) (mk : Nat) (ad : Nat → Nat → Nat) (t_size : Int) (t_numbers : Nat) (n1 : Nat) (o : Int × Nat) : Prop := ∀ (H : Heap) (locs : List Loc) (ls : Array Slot) (pc : Nat), va_P D vwCl ([((t 0), .inr (3, [.ref (t 1), .ref (t 2), .int (zi t_size)])), ((t 1), .inl (κ 1, 429, .inl (zc t_numbers))), ((t 2), .inl (κ 1, 22, .inl (zc (o.2))))]) H → va_D A ([((t 0), .inr (3, [.ref (t 1), .ref (t 2), .int (zi t_size)])), ((t 1), .inl (κ 1, 429, .inl (zc t_numbers))), ((t 2), .inl (κ 1, 22, .inl (zc (o.2))))]) → va_S A H0 H locs → decode cX3_mostAgreeing pc = .ok (.ireturn, 1) → W p l e zr_X3_mostAgreeing s m args below meth c H locs 0 0 Q (F0 m pc ls [.int (zi (o.1))])
def zA_X3_mostAgreeing_0 (p : Program) (l : Launch) (e : Env) (s : State) (m : MethodId) (args : Array Value) (below : List Frame) (meth : Method) (c : Code) (Q : State → Prop) (D : va_G) (κ : Nat → ClassId) (A : Nat → Prop) (H0 : Heap) (t : Nat → Nat) (mk : Nat) (ad : Nat → Nat → Nat) (t_size : Int) (t_numbers : Nat) (n1 : Nat) (i2 : Int) (i3 : Int) (i4 : Int) (i5 : Int) (t_tally : Nat) : Prop := ∀ (H : Heap) (locs : List Loc) (ls : Array Slot), va_P D vwCl ([((t 0), .inr (3, [.ref (t 1), .ref (t 2), .int (zi t_size)])), ((t 1), .inl (κ 1, 429, .inl (zc t_numbers))), ((t 2), .inl (κ 1, 22, .inl (zc t_tally)))]) H → va_D A ([((t 0), .inr (3, [.ref (t 1), .ref (t 2), .int (zi t_size)])), ((t 1), .inl (κ 1, 429, .inl (zc t_numbers))), ((t 2), .inl (κ 1, 22, .inl (zc t_tally)))]) → va_S A H0 H locs → lv_has ls 7 [(0, .ref (t 0)), (1, .ref (ad n1 0)), (2, .int (zi i2)), (3, .int (zi i3))] → W p l e zr_X3_mostAgreeing s m args below meth c H locs 0 0 Q (F0 m 0 ls [])
def zA_X3_mostAgreeing_3 (p : Program) (l : Launch) (e : Env) (s : State) (m : MethodId) (args : Array Value) (below : List Frame) (meth : Method) (c : Code) (Q : State → Prop) (D : va_G) (κ : Nat → ClassId) (A : Nat → Prop) (H0 : Heap) (t : Nat → Nat) (mk : Nat) (ad : Nat → Nat → Nat) (t_size : Int) (t_numbers : Nat) (n1 : Nat) (i2 : Int) (i3 : Int) (i4 : Int) (i5 : Int) (t_tally : Nat) : Prop := ∀ (H : Heap) (locs : List Loc) (ls : Array Slot), va_P D vwCl ([((t 0), .inr (3, [.ref (t 1), .ref (t 2), .int (zi t_size)])), ((t 1), .inl (κ 1, 429, .inl (zc t_numbers))), ((t 2), .inl (κ 1, 22, .inl (zc t_tally)))]) H → va_D A ([((t 0), .inr (3, [.ref (t 1), .ref (t 2), .int (zi t_size)])), ((t 1), .inl (κ 1, 429, .inl (zc t_numbers))), ((t 2), .inl (κ 1, 22, .inl (zc t_tally)))]) → va_S A H0 H locs → lv_has ls 7 [(0, .ref (t 0)), (1, .ref (ad n1 0)), (2, .int (zi i2)), (3, .int (zi i3)), (4, .int (zi i4))] → W p l e zr_X3_mostAgreeing s m args below meth c H locs 0 0 Q (F0 m 3 ls [])
def zA_X3_mostAgreeing_30 (p : Program) (l : Launch) (e : Env) (s : State) (m : MethodId) (args : Array Value) (below : List Frame) (meth : Method) (c : Code) (Q : State → Prop) (D : va_G) (κ : Nat → ClassId) (A : Nat → Prop) (H0 : Heap) (t : Nat → Nat) (mk : Nat) (ad : Nat → Nat → Nat) (t_size : Int) (t_numbers : Nat) (n1 : Nat) (i2 : Int) (i3 : Int) (i4 : Int) (i5 : Int) (t_tally : Nat) : Prop := ∀ (H : Heap) (locs : List Loc) (ls : Array Slot), va_P D vwCl ([((t 0), .inr (3, [.ref (t 1), .ref (t 2), .int (zi t_size)])), ((t 1), .inl (κ 1, 429, .inl (zc t_numbers))), ((t 2), .inl (κ 1, 22, .inl (zc t_tally)))]) H → va_D A ([((t 0), .inr (3, [.ref (t 1), .ref (t 2), .int (zi t_size)])), ((t 1), .inl (κ 1, 429, .inl (zc t_numbers))), ((t 2), .inl (κ 1, 22, .inl (zc t_tally)))]) → va_S A H0 H locs → lv_has ls 7 [(0, .ref (t 0)), (1, .ref (ad n1 0)), (2, .int (zi i2)), (3, .int (zi i3)), (4, .int (zi i4)), (5, .int (zi i5))] → W p l e zr_X3_mostAgreeing s m args below meth c H locs 0 0 Q (F0 m 30 ls [])
def zA_X3_mostAgreeing (p : Program) (l : Launch) (e : Env) (s : State) (m : MethodId) (args : Array Value) (below : List Frame) (meth : Method) (c : Code) (Q : State → Prop) (D : va_G) (κ : Nat → ClassId) (A : Nat → Prop) (H0 : Heap) (t : Nat → Nat) (mk : Nat) (ad : Nat → Nat → Nat) (t_size : Int) (t_numbers : Nat) (n1 : Nat) (st : zS_X3_mostAgreeing) : Prop := match st with
  | (lab, i2, i3, i4, i5, t_tally) => if lab = 0 then zA_X3_mostAgreeing_0 p l e s m args below meth c Q D κ A H0 t mk ad t_size t_numbers n1 i2 i3 i4 i5 t_tally else if lab = 3 then zA_X3_mostAgreeing_3 p l e s m args below meth c Q D κ A H0 t mk ad t_size t_numbers n1 i2 i3 i4 i5 t_tally else if lab = 30 then zA_X3_mostAgreeing_30 p l e s m args below meth c Q D κ A H0 t mk ad t_size t_numbers n1 i2 i3 i4 i5 t_tally else True
set_option maxHeartbeats 4000000 in
set_option maxRecDepth 100000 in
theorem zs_X3_mostAgreeing_0 {p : Program} {l : Launch} {e : Env} {s : State} {m : MethodId} {args : Array Value} {below : List Frame} {meth : Method} {c : Code} {Q : State → Prop} {D : va_G} {κ : Nat → ClassId} {A : Nat → Prop} {H0 : Heap} (t : Nat → Nat) (mk : Nat) (ad : Nat → Nat → Nat) (t_size : Int) (t_numbers : Nat) (n1 : Nat) (hx : p.tables.exec = Jvm.exec) (hb : c.code = cX3_mostAgreeing) (hml : c.maxLocals = 7) (hown : s.vm.findClass RX3 = some m.cls) (hts : ∀ w ∈ wsX3_mostAgreeing, w.before args s = true) (hK : va_K D vwCl (zTY κ) s) (hA : ∀ q : Nat, H0.size ≤ q → A q) (hB : zAmb D κ mk ad H0) (hBA : zApt mk ad A H0.size) (i2 : Int) (i3 : Int) (i4 : Int) (i5 : Int) (t_tally : Nat) (hg : Go (GoE (zA_X3_mostAgreeing p l e s m args below meth c Q D κ A H0 t mk ad t_size t_numbers n1) (zQ_X3_mostAgreeing p l e s m args below meth c Q D κ A H0 t mk ad t_size t_numbers n1)) (zg_X3_mostAgreeing_0 mk t_size t_numbers n1 i2 i3 i4 i5 t_tally)) : zA_X3_mostAgreeing_0 p l e s m args below meth c Q D κ A H0 t mk ad t_size t_numbers n1 i2 i3 i4 i5 t_tally := by
  intro H locs ls hP hD hS hl
  unfold zg_X3_mostAgreeing_0 at hg
  refine zv_iconst hx hb dX3_mostAgreeing_0 ?_
  refine lv_istore (lv' := [(4, .int (zi (0 : Int))), (0, .ref (t 0)), (1, .ref (ad n1 0)), (2, .int (zi i2)), (3, .int (zi i3))]) hx hb dX3_mostAgreeing_1 hl (by decide) rfl (fun ls hl => ?_)
  exact (Go_s hg) H locs ls hP hD hS (lv_sub hl [1, 2, 3, 4, 0] rfl)
set_option maxHeartbeats 4000000 in
set_option maxRecDepth 100000 in
theorem zs_X3_mostAgreeing_3 {p : Program} {l : Launch} {e : Env} {s : State} {m : MethodId} {args : Array Value} {below : List Frame} {meth : Method} {c : Code} {Q : State → Prop} {D : va_G} {κ : Nat → ClassId} {A : Nat → Prop} {H0 : Heap} (t : Nat → Nat) (mk : Nat) (ad : Nat → Nat → Nat) (t_size : Int) (t_numbers : Nat) (n1 : Nat) (hx : p.tables.exec = Jvm.exec) (hb : c.code = cX3_mostAgreeing) (hml : c.maxLocals = 7) (hown : s.vm.findClass RX3 = some m.cls) (hts : ∀ w ∈ wsX3_mostAgreeing, w.before args s = true) (hK : va_K D vwCl (zTY κ) s) (hA : ∀ q : Nat, H0.size ≤ q → A q) (hB : zAmb D κ mk ad H0) (hBA : zApt mk ad A H0.size) (i2 : Int) (i3 : Int) (i4 : Int) (i5 : Int) (t_tally : Nat) (hg : Go (GoE (zA_X3_mostAgreeing p l e s m args below meth c Q D κ A H0 t mk ad t_size t_numbers n1) (zQ_X3_mostAgreeing p l e s m args below meth c Q D κ A H0 t mk ad t_size t_numbers n1)) (zg_X3_mostAgreeing_3 mk t_size t_numbers n1 i2 i3 i4 i5 t_tally)) : zA_X3_mostAgreeing_3 p l e s m args below meth c Q D κ A H0 t mk ad t_size t_numbers n1 i2 i3 i4 i5 t_tally := by
  intro H locs ls hP hD hS hl
  unfold zg_X3_mostAgreeing_3 at hg
  refine lv_iload hx hb dX3_mostAgreeing_3 (lv_at hl 4 rfl) ?_
  refine zv_bipush hx hb dX3_mostAgreeing_5 (by decide) ?_
  obtain ⟨b1, hg⟩ := Go_n hg
  refine zv_icmp_gt (tgt := 24) hx hb dX3_mostAgreeing_7 (by decide) b1 (by decide) (fun c3 => ?_) (fun c3 => ?_)
  · have hg := Go_t c3 hg
    refine zv_iconst hx hb dX3_mostAgreeing_24 ?_
    refine lv_istore (lv' := [(4, .int (zi (0 : Int))), (0, .ref (t 0)), (1, .ref (ad n1 0)), (2, .int (zi i2)), (3, .int (zi i3))]) hx hb dX3_mostAgreeing_25 hl (by decide) rfl (fun ls hl => ?_)
    refine zv_iconst hx hb dX3_mostAgreeing_27 ?_
    refine lv_istore (lv' := [(5, .int (zi (0 : Int))), (4, .int (zi (0 : Int))), (0, .ref (t 0)), (1, .ref (ad n1 0)), (2, .int (zi i2)), (3, .int (zi i3))]) hx hb dX3_mostAgreeing_28 hl (by decide) rfl (fun ls hl => ?_)
    exact (Go_s hg) H locs ls hP hD hS (lv_sub hl [2, 3, 4, 5, 1, 0] rfl)
  · have hg := Go_f c3 hg
    refine lv_aload_n hx hb dX3_mostAgreeing_10 rfl (lv_at hl 0 rfl) ?_
    refine va_get (D := D) (ci := 3) (v := .ref (t 2)) (C := RX3) (T := TX3) (N := 3) hx hb hts zi_X3_mostAgreeing_X3 hown hK hP 0 rfl rfl 1 (by decide) (hts (.fieldLink RX3 15 "DiamondRows$Fitting" "tally" "[I") zl_X3_mostAgreeing_15) (fun _ h9 => h9) rfl dX3_mostAgreeing_11 ?_
    refine lv_iload hx hb dX3_mostAgreeing_14 (lv_at hl 4 rfl) ?_
    refine zv_iconst hx hb dX3_mostAgreeing_16 ?_
    obtain ⟨n2, hg⟩ := Go_n hg
    refine zv_iast hx hb hK hP hD hS 2 1 rfl rfl (by decide) n2 dX3_mostAgreeing_17 (fun H locs hP hD hS => ?_)
    have hP : va_P D vwCl ([((t 0), .inr (3, [.ref (t 1), .ref (t 2), .int (zi t_size)])), ((t 1), .inl (κ 1, 429, .inl (zc t_numbers))), ((t 2), .inl (κ 1, 22, .inl (zc (zset t_tally (Int.toNat i4) (0 : Int)))))]) H := hP
    have hD : va_D A ([((t 0), .inr (3, [.ref (t 1), .ref (t 2), .int (zi t_size)])), ((t 1), .inl (κ 1, 429, .inl (zc t_numbers))), ((t 2), .inl (κ 1, 22, .inl (zc (zset t_tally (Int.toNat i4) (0 : Int)))))]) := hD
    refine lv_iinc (v := zi (i4 + (1 : Int))) (lv' := [(4, .int (zi (i4 + (1 : Int)))), (0, .ref (t 0)), (1, .ref (ad n1 0)), (2, .int (zi i2)), (3, .int (zi i3))]) hx hb dX3_mostAgreeing_18 hl (k := 4) rfl (zi_add i4 _) (by decide) rfl (fun ls hl => ?_)
    refine lv_goto (tgt := 3) hx hb dX3_mostAgreeing_21 (by decide) ?_
    exact (Go_s hg) H locs ls hP hD hS (lv_sub hl [1, 2, 3, 4, 0] rfl)
set_option maxHeartbeats 4000000 in
set_option maxRecDepth 100000 in
theorem zs_X3_mostAgreeing_30 {p : Program} {l : Launch} {e : Env} {s : State} {m : MethodId} {args : Array Value} {below : List Frame} {meth : Method} {c : Code} {Q : State → Prop} {D : va_G} {κ : Nat → ClassId} {A : Nat → Prop} {H0 : Heap} (t : Nat → Nat) (mk : Nat) (ad : Nat → Nat → Nat) (t_size : Int) (t_numbers : Nat) (n1 : Nat) (hx : p.tables.exec = Jvm.exec) (hb : c.code = cX3_mostAgreeing) (hml : c.maxLocals = 7) (hown : s.vm.findClass RX3 = some m.cls) (hts : ∀ w ∈ wsX3_mostAgreeing, w.before args s = true) (hK : va_K D vwCl (zTY κ) s) (hA : ∀ q : Nat, H0.size ≤ q → A q) (hB : zAmb D κ mk ad H0) (hBA : zApt mk ad A H0.size) (i2 : Int) (i3 : Int) (i4 : Int) (i5 : Int) (t_tally : Nat) (hg : Go (GoE (zA_X3_mostAgreeing p l e s m args below meth c Q D κ A H0 t mk ad t_size t_numbers n1) (zQ_X3_mostAgreeing p l e s m args below meth c Q D κ A H0 t mk ad t_size t_numbers n1)) (zg_X3_mostAgreeing_30 mk t_size t_numbers n1 i2 i3 i4 i5 t_tally)) : zA_X3_mostAgreeing_30 p l e s m args below meth c Q D κ A H0 t mk ad t_size t_numbers n1 i2 i3 i4 i5 t_tally := by
  intro H locs ls hP hD hS hl
  unfold zg_X3_mostAgreeing_30 at hg
  refine lv_iload hx hb dX3_mostAgreeing_30 (lv_at hl 5 rfl) ?_
  refine lv_aload_n hx hb dX3_mostAgreeing_32 rfl (lv_at hl 0 rfl) ?_
  refine va_get (D := D) (ci := 3) (v := .int (zi t_size)) (C := RX3) (T := TX3) (N := 3) hx hb hts zi_X3_mostAgreeing_X3 hown hK hP 0 rfl rfl 2 (by decide) (hts (.fieldLink RX3 18 "DiamondRows$Fitting" "size" "I") zl_X3_mostAgreeing_18) (fun _ h9 => h9) rfl dX3_mostAgreeing_33 ?_
  obtain ⟨b4, hg⟩ := Go_n hg
  obtain ⟨b5, hg⟩ := Go_n hg
  refine zv_icmp_ge (tgt := 101) hx hb dX3_mostAgreeing_36 (by decide) b4 b5 (fun c15 => ?_) (fun c15 => ?_)
  · have hg := Go_t c15 hg
    refine lv_iload hx hb dX3_mostAgreeing_101 (lv_at hl 4 rfl) ?_
    exact (Go_s hg) _ _ _ _ hP hD hS dX3_mostAgreeing_103
  · have hg := Go_f c15 hg
    refine lv_aload_n hx hb dX3_mostAgreeing_39 rfl (lv_at hl 1 rfl) ?_
    refine lv_aload_n hx hb dX3_mostAgreeing_40 rfl (lv_at hl 1 rfl) ?_
    refine lv_aload_n hx hb dX3_mostAgreeing_41 rfl (lv_at hl 0 rfl) ?_
    refine va_get (D := D) (ci := 3) (v := .ref (t 1)) (C := RX3) (T := TX3) (N := 3) hx hb hts zi_X3_mostAgreeing_X3 hown hK hP 0 rfl rfl 0 (by decide) (hts (.fieldLink RX3 9 "DiamondRows$Fitting" "numbers" "[I") zl_X3_mostAgreeing_9) (fun _ h9 => h9) rfl dX3_mostAgreeing_42 ?_
    refine lv_iload hx hb dX3_mostAgreeing_45 (lv_at hl 5 rfl) ?_
    obtain ⟨n6, hg⟩ := Go_n hg
    refine zv_iald hx hb hK hP 1 1 rfl rfl (by decide) n6 dX3_mostAgreeing_47 ?_
    obtain ⟨m7, hg⟩ := Go_n hg
    obtain ⟨o8, ho8, hg⟩ := Go_b hg
    refine zc_vi (rest := [.ref (ad n1 0)]) ⟨hx, hb, hml, hown, hts⟩ (zc_X5_cutAt l D κ (ad n1) n1 (zget t_numbers (Int.toNat i5)) o8 ho8) (cwV 1 hts gX3_mostAgreeing_X5_cutAt rfl rfl rfl (by decide +kernel) ⟨Nat.le_of_ble_eq_true rfl, Nat.le_of_ble_eq_true rfl⟩) (zpreV hK ((zamb hB hBA hS) n1 m7) 5 0 rfl rfl) rfl hl.1 rfl (Nat.le_of_ble_eq_true rfl) dX3_mostAgreeing_48 ⟨Nat.zero_le _, Nat.zero_le _⟩ ?_
    refine lv_iload_n hx hb dX3_mostAgreeing_51 rfl (lv_at hl 2 rfl) ?_
    refine lv_iload_n hx hb dX3_mostAgreeing_52 rfl (lv_at hl 3 rfl) ?_
    obtain ⟨o9, ho9, hg⟩ := Go_b hg
    refine zc_vi (rest := []) ⟨hx, hb, hml, hown, hts⟩ (zc_X5_entryOf l D κ (ad n1) n1 o8 i2 i3 o9 ho9) (cwV 3 hts gX3_mostAgreeing_X5_entryOf rfl rfl rfl (by decide +kernel) ⟨Nat.le_of_ble_eq_true rfl, Nat.le_of_ble_eq_true rfl⟩) (zpreV hK ((zamb hB hBA hS) n1 m7) 5 0 rfl rfl) rfl hl.1 rfl (Nat.le_of_ble_eq_true rfl) dX3_mostAgreeing_53 ⟨Nat.zero_le _, Nat.zero_le _⟩ ?_
    refine lv_istore (lv' := [(6, .int (zi o9)), (0, .ref (t 0)), (1, .ref (ad n1 0)), (2, .int (zi i2)), (3, .int (zi i3)), (4, .int (zi i4)), (5, .int (zi i5))]) hx hb dX3_mostAgreeing_56 hl (by decide) rfl (fun ls hl => ?_)
    refine lv_iload hx hb dX3_mostAgreeing_58 (lv_at hl 0 rfl) ?_
    obtain ⟨b10, hg⟩ := Go_n hg
    refine zv_if_lt (tgt := 95) hx hb dX3_mostAgreeing_60 (by decide) b10 (fun c14 => ?_) (fun c14 => ?_)
    · have hg := Go_t c14 hg
      refine lv_iinc (v := zi (i5 + (1 : Int))) (lv' := [(5, .int (zi (i5 + (1 : Int)))), (6, .int (zi o9)), (0, .ref (t 0)), (1, .ref (ad n1 0)), (2, .int (zi i2)), (3, .int (zi i3)), (4, .int (zi i4))]) hx hb dX3_mostAgreeing_95 hl (k := 6) rfl (zi_add i5 _) (by decide) rfl (fun ls hl => ?_)
      refine lv_goto (tgt := 30) hx hb dX3_mostAgreeing_98 (by decide) ?_
      exact (Go_s hg) H locs ls hP hD hS (lv_sub hl [2, 3, 4, 5, 6, 0] rfl)
    · have hg := Go_f c14 hg
      refine lv_iload hx hb dX3_mostAgreeing_63 (lv_at hl 0 rfl) ?_
      refine zv_bipush hx hb dX3_mostAgreeing_65 (by decide) ?_
      refine zv_icmp_gt (tgt := 95) hx hb dX3_mostAgreeing_67 (by decide) b10 (by decide) (fun c13 => ?_) (fun c13 => ?_)
      · have hg := Go_t c13 hg
        refine lv_iinc (v := zi (i5 + (1 : Int))) (lv' := [(5, .int (zi (i5 + (1 : Int)))), (6, .int (zi o9)), (0, .ref (t 0)), (1, .ref (ad n1 0)), (2, .int (zi i2)), (3, .int (zi i3)), (4, .int (zi i4))]) hx hb dX3_mostAgreeing_95 hl (k := 6) rfl (zi_add i5 _) (by decide) rfl (fun ls hl => ?_)
        refine lv_goto (tgt := 30) hx hb dX3_mostAgreeing_98 (by decide) ?_
        exact (Go_s hg) H locs ls hP hD hS (lv_sub hl [2, 3, 4, 5, 6, 0] rfl)
      · have hg := Go_f c13 hg
        refine lv_aload_n hx hb dX3_mostAgreeing_70 rfl (lv_at hl 1 rfl) ?_
        refine va_get (D := D) (ci := 3) (v := .ref (t 2)) (C := RX3) (T := TX3) (N := 3) hx hb hts zi_X3_mostAgreeing_X3 hown hK hP 0 rfl rfl 1 (by decide) (hts (.fieldLink RX3 15 "DiamondRows$Fitting" "tally" "[I") zl_X3_mostAgreeing_15) (fun _ h9 => h9) rfl dX3_mostAgreeing_71 ?_
        refine lv_iload hx hb dX3_mostAgreeing_74 (lv_at hl 0 rfl) ?_
        refine lv_dup2_11 hx hb dX3_mostAgreeing_76 rfl rfl ?_
        obtain ⟨n11, hg⟩ := Go_n hg
        refine zv_iald hx hb hK hP 2 1 rfl rfl (by decide) n11 dX3_mostAgreeing_77 ?_
        refine zv_iconst hx hb dX3_mostAgreeing_78 ?_
        refine zv_iadd hx hb dX3_mostAgreeing_79 ?_
        refine zv_iast hx hb hK hP hD hS 2 1 rfl rfl (by decide) n11 dX3_mostAgreeing_80 (fun H locs hP hD hS => ?_)
        have hP : va_P D vwCl ([((t 0), .inr (3, [.ref (t 1), .ref (t 2), .int (zi t_size)])), ((t 1), .inl (κ 1, 429, .inl (zc t_numbers))), ((t 2), .inl (κ 1, 22, .inl (zc (zset t_tally (Int.toNat o9) ((zget t_tally (Int.toNat o9)) + (1 : Int))))))]) H := hP
        have hD : va_D A ([((t 0), .inr (3, [.ref (t 1), .ref (t 2), .int (zi t_size)])), ((t 1), .inl (κ 1, 429, .inl (zc t_numbers))), ((t 2), .inl (κ 1, 22, .inl (zc (zset t_tally (Int.toNat o9) ((zget t_tally (Int.toNat o9)) + (1 : Int))))))]) := hD
        refine lv_iload hx hb dX3_mostAgreeing_81 (lv_at hl 5 rfl) ?_
        refine lv_aload_n hx hb dX3_mostAgreeing_83 rfl (lv_at hl 1 rfl) ?_
        refine va_get (D := D) (ci := 3) (v := .ref (t 2)) (C := RX3) (T := TX3) (N := 3) hx hb hts zi_X3_mostAgreeing_X3 hown hK hP 0 rfl rfl 1 (by decide) (hts (.fieldLink RX3 15 "DiamondRows$Fitting" "tally" "[I") zl_X3_mostAgreeing_15) (fun _ h9 => h9) rfl dX3_mostAgreeing_84 ?_
        refine lv_iload hx hb dX3_mostAgreeing_87 (lv_at hl 0 rfl) ?_
        refine zv_iald hx hb hK hP 2 1 rfl rfl (by decide) n11 dX3_mostAgreeing_89 ?_
        obtain ⟨b12, hg⟩ := Go_n hg
        refine va_mmax hx hb (by rw [hml]; exact hl.1.symm) hown (hts (.methodLink RX3 66 Lib.Math.max.name) (by decide +kernel)) (hts (.static Lib.Math.max.name) (by decide +kernel)) (hts (.initialized "java/lang/Math") (by decide +kernel)) (hts (.code Lib.Math.max.name Lib.Math.max.code 2 (some .int)) (by decide +kernel)) (Nat.le_of_ble_eq_true rfl) (Nat.le_of_ble_eq_true rfl) (Nat.zero_le _) (Nat.zero_le _) dX3_mostAgreeing_90 ?_
        rw [zi_max b12 (zget_in _ _)]
        refine lv_istore (lv' := [(4, .int (zi (zmax i4 (zget (zset t_tally (Int.toNat o9) ((zget t_tally (Int.toNat o9)) + (1 : Int))) (Int.toNat o9))))), (6, .int (zi o9)), (0, .ref (t 0)), (1, .ref (ad n1 0)), (2, .int (zi i2)), (3, .int (zi i3)), (5, .int (zi i5))]) hx hb dX3_mostAgreeing_93 hl (by decide) rfl (fun ls hl => ?_)
        refine lv_iinc (v := zi (i5 + (1 : Int))) (lv' := [(5, .int (zi (i5 + (1 : Int)))), (4, .int (zi (zmax i4 (zget (zset t_tally (Int.toNat o9) ((zget t_tally (Int.toNat o9)) + (1 : Int))) (Int.toNat o9))))), (6, .int (zi o9)), (0, .ref (t 0)), (1, .ref (ad n1 0)), (2, .int (zi i2)), (3, .int (zi i3))]) hx hb dX3_mostAgreeing_95 hl (k := 6) rfl (zi_add i5 _) (by decide) rfl (fun ls hl => ?_)
        refine lv_goto (tgt := 30) hx hb dX3_mostAgreeing_98 (by decide) ?_
        exact (Go_s hg) H locs ls hP hD hS (lv_sub hl [3, 4, 5, 6, 1, 0] rfl)
set_option maxHeartbeats 4000000 in
set_option maxRecDepth 100000 in
theorem zw_X3_mostAgreeing {p : Program} {l : Launch} {e : Env} {s : State} {m : MethodId} {args : Array Value} {below : List Frame} {meth : Method} {c : Code} {Q : State → Prop} {D : va_G} {κ : Nat → ClassId} {A : Nat → Prop} {H0 : Heap} (t : Nat → Nat) (mk : Nat) (ad : Nat → Nat → Nat) (t_size : Int) (t_numbers : Nat) (n1 : Nat) (t_tally : Nat) (i2 : Int) (i3 : Int) (hx : p.tables.exec = Jvm.exec) (hb : c.code = cX3_mostAgreeing) (hml : c.maxLocals = 7) (hown : s.vm.findClass RX3 = some m.cls) (hts : ∀ w ∈ wsX3_mostAgreeing, w.before args s = true) (hK : va_K D vwCl (zTY κ) s) (hA : ∀ q : Nat, H0.size ≤ q → A q) (hB : zAmb D κ mk ad H0) (hBA : zApt mk ad A H0.size) (out : Int × Nat) (h : zf_X3_mostAgreeing mk t_size t_numbers t_tally n1 i2 i3 = some out) (hq : zQ_X3_mostAgreeing p l e s m args below meth c Q D κ A H0 t mk ad t_size t_numbers n1 out) : zA_X3_mostAgreeing_0 p l e s m args below meth c Q D κ A H0 t mk ad t_size t_numbers n1 i2 i3 0 0 t_tally := by
  have hst : ∀ st : zS_X3_mostAgreeing, Go (GoE (zA_X3_mostAgreeing p l e s m args below meth c Q D κ A H0 t mk ad t_size t_numbers n1) (zQ_X3_mostAgreeing p l e s m args below meth c Q D κ A H0 t mk ad t_size t_numbers n1)) (zg_X3_mostAgreeing mk t_size t_numbers n1 st) → zA_X3_mostAgreeing p l e s m args below meth c Q D κ A H0 t mk ad t_size t_numbers n1 st := by
    intro st hg
    obtain ⟨lab, i2, i3, i4, i5, t_tally⟩ := st
    by_cases h0 : lab = 0
    · subst h0
      exact zs_X3_mostAgreeing_0 t mk ad t_size t_numbers n1 hx hb hml hown hts hK hA hB hBA i2 i3 i4 i5 t_tally hg
    by_cases h3 : lab = 3
    · subst h3
      exact zs_X3_mostAgreeing_3 t mk ad t_size t_numbers n1 hx hb hml hown hts hK hA hB hBA i2 i3 i4 i5 t_tally hg
    by_cases h30 : lab = 30
    · subst h30
      exact zs_X3_mostAgreeing_30 t mk ad t_size t_numbers n1 hx hb hml hown hts hK hA hB hBA i2 i3 i4 i5 t_tally hg
    have hz : zg_X3_mostAgreeing mk t_size t_numbers n1 (lab, i2, i3, i4, i5, t_tally) = none := by simp [zg_X3_mostAgreeing, h0, h3, h30]
    rw [hz] at hg
    obtain ⟨a, h1, -⟩ := hg
    cases h1
  exact jwalk (At := zA_X3_mostAgreeing p l e s m args below meth c Q D κ A H0 t mk ad t_size t_numbers n1) (Ret := zQ_X3_mostAgreeing p l e s m args below meth c Q D κ A H0 t mk ad t_size t_numbers n1) hst _ _ _ h hq
set_option maxHeartbeats 4000000 in
set_option maxRecDepth 100000 in
theorem zc_X3_mostAgreeing (l : Launch) (D : va_G) (κ : Nat → ClassId) (t : Nat → Nat) (mk : Nat) (ad : Nat → Nat → Nat) (sz : Nat) (t_size : Int) (t_numbers : Nat) (t_tally : Nat) (n1 : Nat) (i2 : Int) (i3 : Int) (out : Int × Nat) (h : zf_X3_mostAgreeing mk t_size t_numbers t_tally n1 i2 i3 = some out) : Met l yX3_mostAgreeing wsX3_mostAgreeing zr_X3_mostAgreeing (va_Pc [.ref (t 0), .ref (ad n1 0), .int (zi i2), .int (zi i3)] (zWa D κ mk ad ([((t 0), .inr (3, [.ref (t 1), .ref (t 2), .int (zi t_size)])), ((t 1), .inl (κ 1, 429, .inl (zc t_numbers))), ((t 2), .inl (κ 1, 22, .inl (zc t_tally)))]) sz)) (va_Qi (fun r (_ : Unit) => r = zi (out.1)) (fun _ => zB D κ (va_A ([((t 0), .inr (3, [.ref (t 1), .ref (t 2), .int (zi t_size)])), ((t 1), .inl (κ 1, 429, .inl (zc t_numbers))), ((t 2), .inl (κ 1, 22, .inl (zc t_tally)))]) sz) ([((t 0), .inr (3, [.ref (t 1), .ref (t 2), .int (zi t_size)])), ((t 1), .inl (κ 1, 429, .inl (zc t_numbers))), ((t 2), .inl (κ 1, 22, .inl (zc (out.2))))])) (va_A ([((t 0), .inr (3, [.ref (t 1), .ref (t 2), .int (zi t_size)])), ((t 1), .inl (κ 1, 429, .inl (zc t_numbers))), ((t 2), .inl (κ 1, 22, .inl (zc t_tally)))]) sz)) 0 0 (va_A ([((t 0), .inr (3, [.ref (t 1), .ref (t 2), .int (zi t_size)])), ((t 1), .inl (κ 1, 429, .inl (zc t_numbers))), ((t 2), .inl (κ 1, 22, .inl (zc t_tally)))]) sz) := by
  refine Met.ofW (cc := cX3_mostAgreeing) (maxL := 7) (ret := (some .int)) (by decide +kernel) rfl ?_
  intro p e s m args below meth c s₁ B hml hv
  obtain ⟨rfl, hsz, hP, hK, hD0, hB, hBA⟩ := hv
  have hx := B.exec
  have hb := B.bytes
  have hr := B.returns
  have hts := atoms_spec (ws := wsX3_mostAgreeing) B.pre
  have hown : s.vm.findClass RX3 = some m.cls := findClass_of_methodNamed B.named
  have hlocks := B.notSynchronized
  subst hsz
  have hD := hD0.self (sz := s.heap.size)
  generalize hAe : va_A ([((t 0), .inr (3, [.ref (t 1), .ref (t 2), .int (zi t_size)])), ((t 1), .inl (κ 1, 429, .inl (zc t_numbers))), ((t 2), .inl (κ 1, 22, .inl (zc t_tally)))]) s.heap.size = A at hD hBA ⊢
  have hA : ∀ q : Nat, s.heap.size ≤ q → A q := fun q h => by rw [← hAe]; exact Or.inr h
  have hS : va_S A s.heap s.heap [] := va_S.rf
  have hl := lv_entry ([.ref (t 0), .ref (ad n1 0), .int (zi i2), .int (zi i3)]) (n := 7) (Nat.le_of_ble_eq_true rfl)
  rw [lg_entry_eq]
  generalize (lg_sl ([.ref (t 0), .ref (ad n1 0), .int (zi i2), .int (zi i3)]) ++ List.replicate (7 - (lg_sl ([.ref (t 0), .ref (ad n1 0), .int (zi i2), .int (zi i3)])).length) Slot.unset).toArray = ls at hl ⊢
  have hl : lv_has ls 7 [(0, .ref (t 0)), (1, .ref (ad n1 0)), (2, .int (zi i2)), (3, .int (zi i3))] := hl
  refine (zw_X3_mostAgreeing t mk ad t_size t_numbers n1 t_tally i2 i3 hx hb hml hown hts hK hA hB hBA out h ?_) s.heap [] ls hP hD hS (lv_sub hl [0, 1, 2, 3] rfl)
  exact fun H locs ls pc hP hD hS hd => W.iret hx hb hr (fun t ht hW => ⟨⟨_, (), rfl, rfl, by rw [ht]; exact hP, va_K.moved hW.alike hK, hD⟩, hS.F ht⟩) hS.2.2 hd
/-! DiamondRows$Fitting.bestQuestion(LDiamondRows$Polygon;)I -/
abbrev zr_X3_bestQuestion : Room := { frames := 4, cells := 0, slots := 0, locals := 96 }
abbrev zS_X3_bestQuestion : Type := Nat × Int × Int × Int × Nat
abbrev zO_X3_bestQuestion : Type := Int × Nat
noncomputable def zg_X3_bestQuestion_0 (mk : Nat) (t_size : Int) (t_numbers : Nat) (n1 : Nat) (i2 : Int) (i3 : Int) (i4 : Int) (t_tally : Nat) : Option (zO_X3_bestQuestion ⊕ zS_X3_bestQuestion) :=
  some (.inr (10, (-1 : Int), t_size, (0 : Int), t_tally))
noncomputable def zg_X3_bestQuestion_10 (mk : Nat) (t_size : Int) (t_numbers : Nat) (n1 : Nat) (i2 : Int) (i3 : Int) (i4 : Int) (t_tally : Nat) : Option (zO_X3_bestQuestion ⊕ zS_X3_bestQuestion) :=
  if zno mk n1 then none else
  Option.bind (zf_X5_lineCount n1) (fun o2 =>
  if zout i4 then none else
  if zout o2 then none else
  if o2 ≤ i4 then
  some (.inl (i2, t_tally))
  else
  Option.bind (zf_X5_lesserOf n1 i4) (fun o5 =>
  Option.bind (zf_X5_greaterOf n1 i4) (fun o6 =>
  Option.bind (zf_X3_mostAgreeing mk t_size t_numbers t_tally n1 o5 o6) (fun o7 =>
  if zout (o7.1) then none else
  if zout i3 then none else
  if i3 ≤ (o7.1) then
  some (.inr (10, i2, i3, (i4 + (1 : Int)), (o7.2)))
  else
  Option.bind (zf_X5_pairOf n1 i4) (fun o10 =>
  some (.inr (10, o10, (o7.1), (i4 + (1 : Int)), (o7.2))))))))
noncomputable def zg_X3_bestQuestion (mk : Nat) (t_size : Int) (t_numbers : Nat) (n1 : Nat) (st : zS_X3_bestQuestion) : Option (zO_X3_bestQuestion ⊕ zS_X3_bestQuestion) := match st with
  | (lab, i2, i3, i4, t_tally) => if lab = 0 then zg_X3_bestQuestion_0 mk t_size t_numbers n1 i2 i3 i4 t_tally else if lab = 10 then zg_X3_bestQuestion_10 mk t_size t_numbers n1 i2 i3 i4 t_tally else none
noncomputable def zf_X3_bestQuestion (mk : Nat) (t_size : Int) (t_numbers : Nat) (t_tally : Nat) (n1 : Nat) : Option (Int × Nat) := jrun (zg_X3_bestQuestion mk t_size t_numbers n1) jfuel (0, 0, 0, 0, t_tally)
theorem zi_X3_bestQuestion_X3 : ∀ w ∈ u_ws RX3 TX3 3, w ∈ wsX3_bestQuestion := by decide +kernel
theorem zl_X3_bestQuestion_18 : Cond.fieldLink RX3 18 "DiamondRows$Fitting" "size" "I" ∈ wsX3_bestQuestion := by decide +kernel
def zQ_X3_bestQuestion (p : Program) (l : Launch) (e : Env) (s : State) (m : MethodId) (args : Array Value) (below : List Frame) (meth : Method) (c : Code) (Q : State → Prop) (D : va_G) (κ : Nat → ClassId) (A : Nat → Prop) (H0 : Heap) (t : Nat → Nat) (mk : Nat) (ad : Nat → Nat → Nat) (t_size : Int) (t_numbers : Nat) (n1 : Nat) (o : Int × Nat) : Prop := ∀ (H : Heap) (locs : List Loc) (ls : Array Slot) (pc : Nat), va_P D vwCl ([((t 0), .inr (3, [.ref (t 1), .ref (t 2), .int (zi t_size)])), ((t 1), .inl (κ 1, 429, .inl (zc t_numbers))), ((t 2), .inl (κ 1, 22, .inl (zc (o.2))))]) H → va_D A ([((t 0), .inr (3, [.ref (t 1), .ref (t 2), .int (zi t_size)])), ((t 1), .inl (κ 1, 429, .inl (zc t_numbers))), ((t 2), .inl (κ 1, 22, .inl (zc (o.2))))]) → va_S A H0 H locs → decode cX3_bestQuestion pc = .ok (.ireturn, 1) → W p l e zr_X3_bestQuestion s m args below meth c H locs 0 0 Q (F0 m pc ls [.int (zi (o.1))])
def zA_X3_bestQuestion_0 (p : Program) (l : Launch) (e : Env) (s : State) (m : MethodId) (args : Array Value) (below : List Frame) (meth : Method) (c : Code) (Q : State → Prop) (D : va_G) (κ : Nat → ClassId) (A : Nat → Prop) (H0 : Heap) (t : Nat → Nat) (mk : Nat) (ad : Nat → Nat → Nat) (t_size : Int) (t_numbers : Nat) (n1 : Nat) (i2 : Int) (i3 : Int) (i4 : Int) (t_tally : Nat) : Prop := ∀ (H : Heap) (locs : List Loc) (ls : Array Slot), va_P D vwCl ([((t 0), .inr (3, [.ref (t 1), .ref (t 2), .int (zi t_size)])), ((t 1), .inl (κ 1, 429, .inl (zc t_numbers))), ((t 2), .inl (κ 1, 22, .inl (zc t_tally)))]) H → va_D A ([((t 0), .inr (3, [.ref (t 1), .ref (t 2), .int (zi t_size)])), ((t 1), .inl (κ 1, 429, .inl (zc t_numbers))), ((t 2), .inl (κ 1, 22, .inl (zc t_tally)))]) → va_S A H0 H locs → lv_has ls 6 [(0, .ref (t 0)), (1, .ref (ad n1 0))] → W p l e zr_X3_bestQuestion s m args below meth c H locs 0 0 Q (F0 m 0 ls [])
def zA_X3_bestQuestion_10 (p : Program) (l : Launch) (e : Env) (s : State) (m : MethodId) (args : Array Value) (below : List Frame) (meth : Method) (c : Code) (Q : State → Prop) (D : va_G) (κ : Nat → ClassId) (A : Nat → Prop) (H0 : Heap) (t : Nat → Nat) (mk : Nat) (ad : Nat → Nat → Nat) (t_size : Int) (t_numbers : Nat) (n1 : Nat) (i2 : Int) (i3 : Int) (i4 : Int) (t_tally : Nat) : Prop := ∀ (H : Heap) (locs : List Loc) (ls : Array Slot), va_P D vwCl ([((t 0), .inr (3, [.ref (t 1), .ref (t 2), .int (zi t_size)])), ((t 1), .inl (κ 1, 429, .inl (zc t_numbers))), ((t 2), .inl (κ 1, 22, .inl (zc t_tally)))]) H → va_D A ([((t 0), .inr (3, [.ref (t 1), .ref (t 2), .int (zi t_size)])), ((t 1), .inl (κ 1, 429, .inl (zc t_numbers))), ((t 2), .inl (κ 1, 22, .inl (zc t_tally)))]) → va_S A H0 H locs → lv_has ls 6 [(0, .ref (t 0)), (1, .ref (ad n1 0)), (2, .int (zi i2)), (3, .int (zi i3)), (4, .int (zi i4))] → W p l e zr_X3_bestQuestion s m args below meth c H locs 0 0 Q (F0 m 10 ls [])
def zA_X3_bestQuestion (p : Program) (l : Launch) (e : Env) (s : State) (m : MethodId) (args : Array Value) (below : List Frame) (meth : Method) (c : Code) (Q : State → Prop) (D : va_G) (κ : Nat → ClassId) (A : Nat → Prop) (H0 : Heap) (t : Nat → Nat) (mk : Nat) (ad : Nat → Nat → Nat) (t_size : Int) (t_numbers : Nat) (n1 : Nat) (st : zS_X3_bestQuestion) : Prop := match st with
  | (lab, i2, i3, i4, t_tally) => if lab = 0 then zA_X3_bestQuestion_0 p l e s m args below meth c Q D κ A H0 t mk ad t_size t_numbers n1 i2 i3 i4 t_tally else if lab = 10 then zA_X3_bestQuestion_10 p l e s m args below meth c Q D κ A H0 t mk ad t_size t_numbers n1 i2 i3 i4 t_tally else True
set_option maxHeartbeats 4000000 in
set_option maxRecDepth 100000 in
theorem zs_X3_bestQuestion_0 {p : Program} {l : Launch} {e : Env} {s : State} {m : MethodId} {args : Array Value} {below : List Frame} {meth : Method} {c : Code} {Q : State → Prop} {D : va_G} {κ : Nat → ClassId} {A : Nat → Prop} {H0 : Heap} (t : Nat → Nat) (mk : Nat) (ad : Nat → Nat → Nat) (t_size : Int) (t_numbers : Nat) (n1 : Nat) (hx : p.tables.exec = Jvm.exec) (hb : c.code = cX3_bestQuestion) (hml : c.maxLocals = 6) (hown : s.vm.findClass RX3 = some m.cls) (hts : ∀ w ∈ wsX3_bestQuestion, w.before args s = true) (hK : va_K D vwCl (zTY κ) s) (hA : ∀ q : Nat, H0.size ≤ q → A q) (hB : zAmb D κ mk ad H0) (hBA : zApt mk ad A H0.size) (i2 : Int) (i3 : Int) (i4 : Int) (t_tally : Nat) (hg : Go (GoE (zA_X3_bestQuestion p l e s m args below meth c Q D κ A H0 t mk ad t_size t_numbers n1) (zQ_X3_bestQuestion p l e s m args below meth c Q D κ A H0 t mk ad t_size t_numbers n1)) (zg_X3_bestQuestion_0 mk t_size t_numbers n1 i2 i3 i4 t_tally)) : zA_X3_bestQuestion_0 p l e s m args below meth c Q D κ A H0 t mk ad t_size t_numbers n1 i2 i3 i4 t_tally := by
  intro H locs ls hP hD hS hl
  unfold zg_X3_bestQuestion_0 at hg
  refine zv_iconst hx hb dX3_bestQuestion_0 ?_
  refine lv_istore_n (lv' := [(2, .int (zi (-1 : Int))), (0, .ref (t 0)), (1, .ref (ad n1 0))]) hx hb dX3_bestQuestion_1 rfl hl (by decide) rfl (fun ls hl => ?_)
  refine lv_aload_n hx hb dX3_bestQuestion_2 rfl (lv_at hl 1 rfl) ?_
  refine va_get (D := D) (ci := 3) (v := .int (zi t_size)) (C := RX3) (T := TX3) (N := 3) hx hb hts zi_X3_bestQuestion_X3 hown hK hP 0 rfl rfl 2 (by decide) (hts (.fieldLink RX3 18 "DiamondRows$Fitting" "size" "I") zl_X3_bestQuestion_18) (fun _ h9 => h9) rfl dX3_bestQuestion_3 ?_
  refine lv_istore_n (lv' := [(3, .int (zi t_size)), (2, .int (zi (-1 : Int))), (0, .ref (t 0)), (1, .ref (ad n1 0))]) hx hb dX3_bestQuestion_6 rfl hl (by decide) rfl (fun ls hl => ?_)
  refine zv_iconst hx hb dX3_bestQuestion_7 ?_
  refine lv_istore (lv' := [(4, .int (zi (0 : Int))), (3, .int (zi t_size)), (2, .int (zi (-1 : Int))), (0, .ref (t 0)), (1, .ref (ad n1 0))]) hx hb dX3_bestQuestion_8 hl (by decide) rfl (fun ls hl => ?_)
  exact (Go_s hg) H locs ls hP hD hS (lv_sub hl [3, 4, 2, 1, 0] rfl)
set_option maxHeartbeats 4000000 in
set_option maxRecDepth 100000 in
theorem zs_X3_bestQuestion_10 {p : Program} {l : Launch} {e : Env} {s : State} {m : MethodId} {args : Array Value} {below : List Frame} {meth : Method} {c : Code} {Q : State → Prop} {D : va_G} {κ : Nat → ClassId} {A : Nat → Prop} {H0 : Heap} (t : Nat → Nat) (mk : Nat) (ad : Nat → Nat → Nat) (t_size : Int) (t_numbers : Nat) (n1 : Nat) (hx : p.tables.exec = Jvm.exec) (hb : c.code = cX3_bestQuestion) (hml : c.maxLocals = 6) (hown : s.vm.findClass RX3 = some m.cls) (hts : ∀ w ∈ wsX3_bestQuestion, w.before args s = true) (hK : va_K D vwCl (zTY κ) s) (hA : ∀ q : Nat, H0.size ≤ q → A q) (hB : zAmb D κ mk ad H0) (hBA : zApt mk ad A H0.size) (i2 : Int) (i3 : Int) (i4 : Int) (t_tally : Nat) (hg : Go (GoE (zA_X3_bestQuestion p l e s m args below meth c Q D κ A H0 t mk ad t_size t_numbers n1) (zQ_X3_bestQuestion p l e s m args below meth c Q D κ A H0 t mk ad t_size t_numbers n1)) (zg_X3_bestQuestion_10 mk t_size t_numbers n1 i2 i3 i4 t_tally)) : zA_X3_bestQuestion_10 p l e s m args below meth c Q D κ A H0 t mk ad t_size t_numbers n1 i2 i3 i4 t_tally := by
  intro H locs ls hP hD hS hl
  unfold zg_X3_bestQuestion_10 at hg
  refine lv_iload hx hb dX3_bestQuestion_10 (lv_at hl 4 rfl) ?_
  refine lv_aload_n hx hb dX3_bestQuestion_12 rfl (lv_at hl 1 rfl) ?_
  obtain ⟨m1, hg⟩ := Go_n hg
  obtain ⟨o2, ho2, hg⟩ := Go_b hg
  refine zc_vi (rest := [.int (zi i4)]) ⟨hx, hb, hml, hown, hts⟩ (zc_X5_lineCount l D κ (ad n1) n1  o2 ho2) (cwV 0 hts gX3_bestQuestion_X5_lineCount rfl rfl rfl (by decide +kernel) ⟨Nat.le_of_ble_eq_true rfl, Nat.le_of_ble_eq_true rfl⟩) (zpreV hK ((zamb hB hBA hS) n1 m1) 5 0 rfl rfl) rfl hl.1 rfl (Nat.le_of_ble_eq_true rfl) dX3_bestQuestion_13 ⟨Nat.zero_le _, Nat.zero_le _⟩ ?_
  obtain ⟨b3, hg⟩ := Go_n hg
  obtain ⟨b4, hg⟩ := Go_n hg
  refine zv_icmp_ge (tgt := 60) hx hb dX3_bestQuestion_16 (by decide) b3 b4 (fun c12 => ?_) (fun c12 => ?_)
  · have hg := Go_t c12 hg
    refine lv_iload_n hx hb dX3_bestQuestion_60 rfl (lv_at hl 2 rfl) ?_
    exact (Go_s hg) _ _ _ _ hP hD hS dX3_bestQuestion_61
  · have hg := Go_f c12 hg
    refine lv_aload_n hx hb dX3_bestQuestion_19 rfl (lv_at hl 0 rfl) ?_
    refine lv_aload_n hx hb dX3_bestQuestion_20 rfl (lv_at hl 1 rfl) ?_
    refine lv_aload_n hx hb dX3_bestQuestion_21 rfl (lv_at hl 1 rfl) ?_
    refine lv_iload hx hb dX3_bestQuestion_22 (lv_at hl 4 rfl) ?_
    obtain ⟨o5, ho5, hg⟩ := Go_b hg
    refine zc_vi (rest := [.ref (ad n1 0), .ref (t 0)]) ⟨hx, hb, hml, hown, hts⟩ (zc_X5_lesserOf l D κ (ad n1) n1 i4 o5 ho5) (cwV 1 hts gX3_bestQuestion_X5_lesserOf rfl rfl rfl (by decide +kernel) ⟨Nat.le_of_ble_eq_true rfl, Nat.le_of_ble_eq_true rfl⟩) (zpreV hK ((zamb hB hBA hS) n1 m1) 5 0 rfl rfl) rfl hl.1 rfl (Nat.le_of_ble_eq_true rfl) dX3_bestQuestion_24 ⟨Nat.zero_le _, Nat.zero_le _⟩ ?_
    refine lv_aload_n hx hb dX3_bestQuestion_27 rfl (lv_at hl 1 rfl) ?_
    refine lv_iload hx hb dX3_bestQuestion_28 (lv_at hl 4 rfl) ?_
    obtain ⟨o6, ho6, hg⟩ := Go_b hg
    refine zc_vi (rest := [.int (zi o5), .ref (ad n1 0), .ref (t 0)]) ⟨hx, hb, hml, hown, hts⟩ (zc_X5_greaterOf l D κ (ad n1) n1 i4 o6 ho6) (cwV 1 hts gX3_bestQuestion_X5_greaterOf rfl rfl rfl (by decide +kernel) ⟨Nat.le_of_ble_eq_true rfl, Nat.le_of_ble_eq_true rfl⟩) (zpreV hK ((zamb hB hBA hS) n1 m1) 5 0 rfl rfl) rfl hl.1 rfl (Nat.le_of_ble_eq_true rfl) dX3_bestQuestion_30 ⟨Nat.zero_le _, Nat.zero_le _⟩ ?_
    obtain ⟨o7, ho7, hg⟩ := Go_b hg
    refine zj_i (wr := []) (ws1 := [((t 0), .inr (3, [.ref (t 1), .ref (t 2), .int (zi t_size)])), ((t 1), .inl (κ 1, 429, .inl (zc t_numbers))), ((t 2), .inl (κ 1, 22, .inl (zc (o7.2))))]) (va_runV (rest := []) ⟨hx, hb, hml, hown, hts⟩ (zc_X3_mostAgreeing l D κ t mk ad H.size t_size t_numbers t_tally n1 o5 o6 o7 ho7) (cwV 3 hts gX3_bestQuestion_X3_mostAgreeing rfl rfl rfl (by decide +kernel) ⟨Nat.le_of_ble_eq_true rfl, Nat.le_of_ble_eq_true rfl⟩) (zpreWVa hK (hP.sub [0, 1, 2] rfl) (hD.sub [0, 1, 2] (by decide) rfl) (zamb hB hBA hS) (zapt hBA hS (va_free hD hS hA [0, 1, 2] rfl)) 3 0 rfl rfl) rfl rfl hl.1 rfl (lv_room (Nat.le_of_ble_eq_true rfl)) dX3_bestQuestion_33 ⟨Nat.zero_le _, Nat.zero_le _⟩) hP hD hS hA [0, 1, 2] [] [0, 1, 2] rfl rfl (by decide) (by decide) rfl rfl (by decide) (fun H locs hP hD hS => ?_)
    refine lv_istore (lv' := [(5, .int (zi (o7.1))), (0, .ref (t 0)), (1, .ref (ad n1 0)), (2, .int (zi i2)), (3, .int (zi i3)), (4, .int (zi i4))]) hx hb dX3_bestQuestion_36 hl (by decide) rfl (fun ls hl => ?_)
    refine lv_iload hx hb dX3_bestQuestion_38 (lv_at hl 0 rfl) ?_
    refine lv_iload_n hx hb dX3_bestQuestion_40 rfl (lv_at hl 4 rfl) ?_
    obtain ⟨b8, hg⟩ := Go_n hg
    obtain ⟨b9, hg⟩ := Go_n hg
    refine zv_icmp_ge (tgt := 54) hx hb dX3_bestQuestion_41 (by decide) b8 b9 (fun c11 => ?_) (fun c11 => ?_)
    · have hg := Go_t c11 hg
      refine lv_iinc (v := zi (i4 + (1 : Int))) (lv' := [(4, .int (zi (i4 + (1 : Int)))), (5, .int (zi (o7.1))), (0, .ref (t 0)), (1, .ref (ad n1 0)), (2, .int (zi i2)), (3, .int (zi i3))]) hx hb dX3_bestQuestion_54 hl (k := 5) rfl (zi_add i4 _) (by decide) rfl (fun ls hl => ?_)
      refine lv_goto (tgt := 10) hx hb dX3_bestQuestion_57 (by decide) ?_
      exact (Go_s hg) H locs ls hP hD hS (lv_sub hl [2, 3, 4, 5, 0] rfl)
    · have hg := Go_f c11 hg
      refine lv_iload hx hb dX3_bestQuestion_44 (lv_at hl 0 rfl) ?_
      refine lv_istore_n (lv' := [(3, .int (zi (o7.1))), (5, .int (zi (o7.1))), (0, .ref (t 0)), (1, .ref (ad n1 0)), (2, .int (zi i2)), (4, .int (zi i4))]) hx hb dX3_bestQuestion_46 rfl hl (by decide) rfl (fun ls hl => ?_)
      refine lv_aload_n hx hb dX3_bestQuestion_47 rfl (lv_at hl 3 rfl) ?_
      refine lv_iload hx hb dX3_bestQuestion_48 (lv_at hl 5 rfl) ?_
      obtain ⟨o10, ho10, hg⟩ := Go_b hg
      refine zc_vi (rest := []) ⟨hx, hb, hml, hown, hts⟩ (zc_X5_pairOf l D κ (ad n1) n1 i4 o10 ho10) (cwV 1 hts gX3_bestQuestion_X5_pairOf rfl rfl rfl (by decide +kernel) ⟨Nat.le_of_ble_eq_true rfl, Nat.le_of_ble_eq_true rfl⟩) (zpreV hK ((zamb hB hBA hS) n1 m1) 5 0 rfl rfl) rfl hl.1 rfl (Nat.le_of_ble_eq_true rfl) dX3_bestQuestion_50 ⟨Nat.zero_le _, Nat.zero_le _⟩ ?_
      refine lv_istore_n (lv' := [(2, .int (zi o10)), (3, .int (zi (o7.1))), (5, .int (zi (o7.1))), (0, .ref (t 0)), (1, .ref (ad n1 0)), (4, .int (zi i4))]) hx hb dX3_bestQuestion_53 rfl hl (by decide) rfl (fun ls hl => ?_)
      refine lv_iinc (v := zi (i4 + (1 : Int))) (lv' := [(4, .int (zi (i4 + (1 : Int)))), (2, .int (zi o10)), (3, .int (zi (o7.1))), (5, .int (zi (o7.1))), (0, .ref (t 0)), (1, .ref (ad n1 0))]) hx hb dX3_bestQuestion_54 hl (k := 5) rfl (zi_add i4 _) (by decide) rfl (fun ls hl => ?_)
      refine lv_goto (tgt := 10) hx hb dX3_bestQuestion_57 (by decide) ?_
      exact (Go_s hg) H locs ls hP hD hS (lv_sub hl [4, 5, 1, 2, 0] rfl)
set_option maxHeartbeats 4000000 in
set_option maxRecDepth 100000 in
theorem zw_X3_bestQuestion {p : Program} {l : Launch} {e : Env} {s : State} {m : MethodId} {args : Array Value} {below : List Frame} {meth : Method} {c : Code} {Q : State → Prop} {D : va_G} {κ : Nat → ClassId} {A : Nat → Prop} {H0 : Heap} (t : Nat → Nat) (mk : Nat) (ad : Nat → Nat → Nat) (t_size : Int) (t_numbers : Nat) (n1 : Nat) (t_tally : Nat)  (hx : p.tables.exec = Jvm.exec) (hb : c.code = cX3_bestQuestion) (hml : c.maxLocals = 6) (hown : s.vm.findClass RX3 = some m.cls) (hts : ∀ w ∈ wsX3_bestQuestion, w.before args s = true) (hK : va_K D vwCl (zTY κ) s) (hA : ∀ q : Nat, H0.size ≤ q → A q) (hB : zAmb D κ mk ad H0) (hBA : zApt mk ad A H0.size) (out : Int × Nat) (h : zf_X3_bestQuestion mk t_size t_numbers t_tally n1 = some out) (hq : zQ_X3_bestQuestion p l e s m args below meth c Q D κ A H0 t mk ad t_size t_numbers n1 out) : zA_X3_bestQuestion_0 p l e s m args below meth c Q D κ A H0 t mk ad t_size t_numbers n1 0 0 0 t_tally := by
  have hst : ∀ st : zS_X3_bestQuestion, Go (GoE (zA_X3_bestQuestion p l e s m args below meth c Q D κ A H0 t mk ad t_size t_numbers n1) (zQ_X3_bestQuestion p l e s m args below meth c Q D κ A H0 t mk ad t_size t_numbers n1)) (zg_X3_bestQuestion mk t_size t_numbers n1 st) → zA_X3_bestQuestion p l e s m args below meth c Q D κ A H0 t mk ad t_size t_numbers n1 st := by
    intro st hg
    obtain ⟨lab, i2, i3, i4, t_tally⟩ := st
    by_cases h0 : lab = 0
    · subst h0
      exact zs_X3_bestQuestion_0 t mk ad t_size t_numbers n1 hx hb hml hown hts hK hA hB hBA i2 i3 i4 t_tally hg
    by_cases h10 : lab = 10
    · subst h10
      exact zs_X3_bestQuestion_10 t mk ad t_size t_numbers n1 hx hb hml hown hts hK hA hB hBA i2 i3 i4 t_tally hg
    have hz : zg_X3_bestQuestion mk t_size t_numbers n1 (lab, i2, i3, i4, t_tally) = none := by simp [zg_X3_bestQuestion, h0, h10]
    rw [hz] at hg
    obtain ⟨a, h1, -⟩ := hg
    cases h1
  exact jwalk (At := zA_X3_bestQuestion p l e s m args below meth c Q D κ A H0 t mk ad t_size t_numbers n1) (Ret := zQ_X3_bestQuestion p l e s m args below meth c Q D κ A H0 t mk ad t_size t_numbers n1) hst _ _ _ h hq
set_option maxHeartbeats 4000000 in
set_option maxRecDepth 100000 in
theorem zc_X3_bestQuestion (l : Launch) (D : va_G) (κ : Nat → ClassId) (t : Nat → Nat) (mk : Nat) (ad : Nat → Nat → Nat) (sz : Nat) (t_size : Int) (t_numbers : Nat) (t_tally : Nat) (n1 : Nat) (out : Int × Nat) (h : zf_X3_bestQuestion mk t_size t_numbers t_tally n1 = some out) : Met l yX3_bestQuestion wsX3_bestQuestion zr_X3_bestQuestion (va_Pc [.ref (t 0), .ref (ad n1 0)] (zWa D κ mk ad ([((t 0), .inr (3, [.ref (t 1), .ref (t 2), .int (zi t_size)])), ((t 1), .inl (κ 1, 429, .inl (zc t_numbers))), ((t 2), .inl (κ 1, 22, .inl (zc t_tally)))]) sz)) (va_Qi (fun r (_ : Unit) => r = zi (out.1)) (fun _ => zB D κ (va_A ([((t 0), .inr (3, [.ref (t 1), .ref (t 2), .int (zi t_size)])), ((t 1), .inl (κ 1, 429, .inl (zc t_numbers))), ((t 2), .inl (κ 1, 22, .inl (zc t_tally)))]) sz) ([((t 0), .inr (3, [.ref (t 1), .ref (t 2), .int (zi t_size)])), ((t 1), .inl (κ 1, 429, .inl (zc t_numbers))), ((t 2), .inl (κ 1, 22, .inl (zc (out.2))))])) (va_A ([((t 0), .inr (3, [.ref (t 1), .ref (t 2), .int (zi t_size)])), ((t 1), .inl (κ 1, 429, .inl (zc t_numbers))), ((t 2), .inl (κ 1, 22, .inl (zc t_tally)))]) sz)) 0 0 (va_A ([((t 0), .inr (3, [.ref (t 1), .ref (t 2), .int (zi t_size)])), ((t 1), .inl (κ 1, 429, .inl (zc t_numbers))), ((t 2), .inl (κ 1, 22, .inl (zc t_tally)))]) sz) := by
  refine Met.ofW (cc := cX3_bestQuestion) (maxL := 6) (ret := (some .int)) (by decide +kernel) rfl ?_
  intro p e s m args below meth c s₁ B hml hv
  obtain ⟨rfl, hsz, hP, hK, hD0, hB, hBA⟩ := hv
  have hx := B.exec
  have hb := B.bytes
  have hr := B.returns
  have hts := atoms_spec (ws := wsX3_bestQuestion) B.pre
  have hown : s.vm.findClass RX3 = some m.cls := findClass_of_methodNamed B.named
  have hlocks := B.notSynchronized
  subst hsz
  have hD := hD0.self (sz := s.heap.size)
  generalize hAe : va_A ([((t 0), .inr (3, [.ref (t 1), .ref (t 2), .int (zi t_size)])), ((t 1), .inl (κ 1, 429, .inl (zc t_numbers))), ((t 2), .inl (κ 1, 22, .inl (zc t_tally)))]) s.heap.size = A at hD hBA ⊢
  have hA : ∀ q : Nat, s.heap.size ≤ q → A q := fun q h => by rw [← hAe]; exact Or.inr h
  have hS : va_S A s.heap s.heap [] := va_S.rf
  have hl := lv_entry ([.ref (t 0), .ref (ad n1 0)]) (n := 6) (Nat.le_of_ble_eq_true rfl)
  rw [lg_entry_eq]
  generalize (lg_sl ([.ref (t 0), .ref (ad n1 0)]) ++ List.replicate (6 - (lg_sl ([.ref (t 0), .ref (ad n1 0)])).length) Slot.unset).toArray = ls at hl ⊢
  have hl : lv_has ls 6 [(0, .ref (t 0)), (1, .ref (ad n1 0))] := hl
  refine (zw_X3_bestQuestion t mk ad t_size t_numbers n1 t_tally  hx hb hml hown hts hK hA hB hBA out h ?_) s.heap [] ls hP hD hS (lv_sub hl [0, 1] rfl)
  exact fun H locs ls pc hP hD hS hd => W.iret hx hb hr (fun t ht hW => ⟨⟨_, (), rfl, rfl, by rw [ht]; exact hP, va_K.moved hW.alike hK, hD⟩, hS.F ht⟩) hS.2.2 hd
