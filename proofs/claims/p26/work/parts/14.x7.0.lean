/-! DiamondRows$Sightings.size()I -/
abbrev zr_X7_size : Room := { frames := 0, cells := 0, slots := 0, locals := 0 }
noncomputable def zf_X7_size  (t_size : Int)  : Option (Int) :=
  some (t_size)
theorem zi_X7_size_X7 : ∀ w ∈ u_ws RX7 TX7 12, w ∈ wsX7_size := by decide +kernel
theorem zl_X7_size_39 : Cond.fieldLink RX7 39 "DiamondRows$Sightings" "size" "I" ∈ wsX7_size := by decide +kernel
def zQ_X7_size (p : Program) (l : Launch) (e : Env) (s : State) (m : MethodId) (args : Array Value) (below : List Frame) (meth : Method) (c : Code) (Q : State → Prop) (H : Heap) (locs : List Loc)  (o : Int) : Prop := ∀ (ls : Array Slot) (pc : Nat), decode cX7_size pc = .ok (.ireturn, 1) → W p l e zr_X7_size s m args below meth c H locs 0 0 Q (F0 m pc ls [.int (zi o)])
set_option maxHeartbeats 4000000 in
set_option maxRecDepth 100000 in
theorem zs_X7_size {p : Program} {l : Launch} {e : Env} {s : State} {m : MethodId} {args : Array Value} {below : List Frame} {meth : Method} {c : Code} {Q : State → Prop} {D : va_G} {κ : Nat → ClassId} {H : Heap} {locs : List Loc} (t : Nat → Nat) (t_size : Int) (t_rights : Int) (t_latest : Int) (t_seenStep : Nat) (t_seenFrom : Nat) (t_seenTo : Nat) (t_seenValue : Nat) (t_timesRight : Nat) (t_rightStep : Nat) (t_rightOf : Nat) (t_rightValue : Nat) (t_knownValue : Nat)  (hx : p.tables.exec = Jvm.exec) (hb : c.code = cX7_size) (hml : c.maxLocals = 1) (hown : s.vm.findClass RX7 = some m.cls) (hts : ∀ w ∈ wsX7_size, w.before args s = true) (hK : va_K D vwCl (zTY κ) s) (hP : va_P D vwCl ([((t 0), .inr (7, [.ref (t 1), .ref (t 2), .ref (t 3), .ref (t 4), .ref (t 5), .ref (t 6), .ref (t 7), .ref (t 8), .ref (t 9), .int (zi t_size), .int (zi t_rights), .int (zi t_latest)])), ((t 1), .inl (κ 1, 20, .inl (zc t_seenStep))), ((t 2), .inl (κ 1, 20, .inl (zc t_seenFrom))), ((t 3), .inl (κ 1, 20, .inl (zc t_seenTo))), ((t 4), .inl (κ 1, 20, .inl (zc t_seenValue))), ((t 5), .inl (κ 1, 20, .inl (zc t_timesRight))), ((t 6), .inl (κ 1, 20, .inl (zc t_rightStep))), ((t 7), .inl (κ 1, 20, .inl (zc t_rightOf))), ((t 8), .inl (κ 1, 20, .inl (zc t_rightValue))), ((t 9), .inl (κ 1, 20, .inl (zc t_knownValue)))]) H) (ls : Array Slot) (hl : lv_has ls 1 [(0, .ref (t 0))]) (hg : Go (zQ_X7_size p l e s m args below meth c Q H locs) (zf_X7_size t_size )) : W p l e zr_X7_size s m args below meth c H locs 0 0 Q (F0 m 0 ls []) := by
  unfold zf_X7_size at hg
  refine lv_aload_n hx hb dX7_size_0 rfl (lv_at hl 0 rfl) ?_
  refine va_get (D := D) (ci := 7) (v := .int (zi t_size)) (C := RX7) (T := TX7) (N := 12) hx hb hts zi_X7_size_X7 hown hK hP 0 rfl rfl 9 (by decide) (hts (.fieldLink RX7 39 "DiamondRows$Sightings" "size" "I") zl_X7_size_39) (fun _ h9 => h9) rfl dX7_size_1 ?_
  exact (Go_s hg) _ _ dX7_size_4
set_option maxHeartbeats 4000000 in
set_option maxRecDepth 100000 in
theorem zc_X7_size (l : Launch) (D : va_G) (κ : Nat → ClassId) (t : Nat → Nat) (t_size : Int) (t_rights : Int) (t_latest : Int) (t_seenStep : Nat) (t_seenFrom : Nat) (t_seenTo : Nat) (t_seenValue : Nat) (t_timesRight : Nat) (t_rightStep : Nat) (t_rightOf : Nat) (t_rightValue : Nat) (t_knownValue : Nat)  (out : Int) (h : zf_X7_size t_size  = some out) : Met l yX7_size wsX7_size zr_X7_size (va_Pc [.ref (t 0)] (zR D κ ([((t 0), .inr (7, [.ref (t 1), .ref (t 2), .ref (t 3), .ref (t 4), .ref (t 5), .ref (t 6), .ref (t 7), .ref (t 8), .ref (t 9), .int (zi t_size), .int (zi t_rights), .int (zi t_latest)])), ((t 1), .inl (κ 1, 20, .inl (zc t_seenStep))), ((t 2), .inl (κ 1, 20, .inl (zc t_seenFrom))), ((t 3), .inl (κ 1, 20, .inl (zc t_seenTo))), ((t 4), .inl (κ 1, 20, .inl (zc t_seenValue))), ((t 5), .inl (κ 1, 20, .inl (zc t_timesRight))), ((t 6), .inl (κ 1, 20, .inl (zc t_rightStep))), ((t 7), .inl (κ 1, 20, .inl (zc t_rightOf))), ((t 8), .inl (κ 1, 20, .inl (zc t_rightValue))), ((t 9), .inl (κ 1, 20, .inl (zc t_knownValue)))]))) (vp_Si (fun x => x = zi out)) 0 0 (fun _ => False) := by
  refine Met.ofW (cc := cX7_size) (maxL := 1) (ret := (some .int)) (by decide +kernel) rfl ?_
  intro p e s m args below meth c s₁ B hml hv
  obtain ⟨rfl, hP, hK⟩ := hv
  have hx := B.exec
  have hb := B.bytes
  have hr := B.returns
  have hts := atoms_spec (ws := wsX7_size) B.pre
  have hown : s.vm.findClass RX7 = some m.cls := findClass_of_methodNamed B.named
  have hlocks := B.notSynchronized
  have hl := lv_entry ([.ref (t 0)]) (n := 1) (Nat.le_of_ble_eq_true rfl)
  rw [lg_entry_eq]
  generalize (lg_sl ([.ref (t 0)]) ++ List.replicate (1 - (lg_sl ([.ref (t 0)])).length) Slot.unset).toArray = ls at hl ⊢
  have hl : lv_has ls 1 [(0, .ref (t 0))] := hl
  refine zs_X7_size t t_size t_rights t_latest t_seenStep t_seenFrom t_seenTo t_seenValue t_timesRight t_rightStep t_rightOf t_rightValue t_knownValue  hx hb hml hown hts hK hP ls hl ⟨out, h, ?_⟩
  exact fun ls pc hd => W.iret hx hb hr (fun t ht hW => ⟨_, rfl, rfl, ht⟩) (fun _ h => by cases h) hd
/-! DiamondRows$Sightings.rights()I -/
abbrev zr_X7_rights : Room := { frames := 0, cells := 0, slots := 0, locals := 0 }
noncomputable def zf_X7_rights  (t_rights : Int)  : Option (Int) :=
  some (t_rights)
theorem zi_X7_rights_X7 : ∀ w ∈ u_ws RX7 TX7 12, w ∈ wsX7_rights := by decide +kernel
theorem zl_X7_rights_43 : Cond.fieldLink RX7 43 "DiamondRows$Sightings" "rights" "I" ∈ wsX7_rights := by decide +kernel
def zQ_X7_rights (p : Program) (l : Launch) (e : Env) (s : State) (m : MethodId) (args : Array Value) (below : List Frame) (meth : Method) (c : Code) (Q : State → Prop) (H : Heap) (locs : List Loc)  (o : Int) : Prop := ∀ (ls : Array Slot) (pc : Nat), decode cX7_rights pc = .ok (.ireturn, 1) → W p l e zr_X7_rights s m args below meth c H locs 0 0 Q (F0 m pc ls [.int (zi o)])
set_option maxHeartbeats 4000000 in
set_option maxRecDepth 100000 in
theorem zs_X7_rights {p : Program} {l : Launch} {e : Env} {s : State} {m : MethodId} {args : Array Value} {below : List Frame} {meth : Method} {c : Code} {Q : State → Prop} {D : va_G} {κ : Nat → ClassId} {H : Heap} {locs : List Loc} (t : Nat → Nat) (t_size : Int) (t_rights : Int) (t_latest : Int) (t_seenStep : Nat) (t_seenFrom : Nat) (t_seenTo : Nat) (t_seenValue : Nat) (t_timesRight : Nat) (t_rightStep : Nat) (t_rightOf : Nat) (t_rightValue : Nat) (t_knownValue : Nat)  (hx : p.tables.exec = Jvm.exec) (hb : c.code = cX7_rights) (hml : c.maxLocals = 1) (hown : s.vm.findClass RX7 = some m.cls) (hts : ∀ w ∈ wsX7_rights, w.before args s = true) (hK : va_K D vwCl (zTY κ) s) (hP : va_P D vwCl ([((t 0), .inr (7, [.ref (t 1), .ref (t 2), .ref (t 3), .ref (t 4), .ref (t 5), .ref (t 6), .ref (t 7), .ref (t 8), .ref (t 9), .int (zi t_size), .int (zi t_rights), .int (zi t_latest)])), ((t 1), .inl (κ 1, 20, .inl (zc t_seenStep))), ((t 2), .inl (κ 1, 20, .inl (zc t_seenFrom))), ((t 3), .inl (κ 1, 20, .inl (zc t_seenTo))), ((t 4), .inl (κ 1, 20, .inl (zc t_seenValue))), ((t 5), .inl (κ 1, 20, .inl (zc t_timesRight))), ((t 6), .inl (κ 1, 20, .inl (zc t_rightStep))), ((t 7), .inl (κ 1, 20, .inl (zc t_rightOf))), ((t 8), .inl (κ 1, 20, .inl (zc t_rightValue))), ((t 9), .inl (κ 1, 20, .inl (zc t_knownValue)))]) H) (ls : Array Slot) (hl : lv_has ls 1 [(0, .ref (t 0))]) (hg : Go (zQ_X7_rights p l e s m args below meth c Q H locs) (zf_X7_rights t_rights )) : W p l e zr_X7_rights s m args below meth c H locs 0 0 Q (F0 m 0 ls []) := by
  unfold zf_X7_rights at hg
  refine lv_aload_n hx hb dX7_rights_0 rfl (lv_at hl 0 rfl) ?_
  refine va_get (D := D) (ci := 7) (v := .int (zi t_rights)) (C := RX7) (T := TX7) (N := 12) hx hb hts zi_X7_rights_X7 hown hK hP 0 rfl rfl 10 (by decide) (hts (.fieldLink RX7 43 "DiamondRows$Sightings" "rights" "I") zl_X7_rights_43) (fun _ h9 => h9) rfl dX7_rights_1 ?_
  exact (Go_s hg) _ _ dX7_rights_4
set_option maxHeartbeats 4000000 in
set_option maxRecDepth 100000 in
theorem zc_X7_rights (l : Launch) (D : va_G) (κ : Nat → ClassId) (t : Nat → Nat) (t_size : Int) (t_rights : Int) (t_latest : Int) (t_seenStep : Nat) (t_seenFrom : Nat) (t_seenTo : Nat) (t_seenValue : Nat) (t_timesRight : Nat) (t_rightStep : Nat) (t_rightOf : Nat) (t_rightValue : Nat) (t_knownValue : Nat)  (out : Int) (h : zf_X7_rights t_rights  = some out) : Met l yX7_rights wsX7_rights zr_X7_rights (va_Pc [.ref (t 0)] (zR D κ ([((t 0), .inr (7, [.ref (t 1), .ref (t 2), .ref (t 3), .ref (t 4), .ref (t 5), .ref (t 6), .ref (t 7), .ref (t 8), .ref (t 9), .int (zi t_size), .int (zi t_rights), .int (zi t_latest)])), ((t 1), .inl (κ 1, 20, .inl (zc t_seenStep))), ((t 2), .inl (κ 1, 20, .inl (zc t_seenFrom))), ((t 3), .inl (κ 1, 20, .inl (zc t_seenTo))), ((t 4), .inl (κ 1, 20, .inl (zc t_seenValue))), ((t 5), .inl (κ 1, 20, .inl (zc t_timesRight))), ((t 6), .inl (κ 1, 20, .inl (zc t_rightStep))), ((t 7), .inl (κ 1, 20, .inl (zc t_rightOf))), ((t 8), .inl (κ 1, 20, .inl (zc t_rightValue))), ((t 9), .inl (κ 1, 20, .inl (zc t_knownValue)))]))) (vp_Si (fun x => x = zi out)) 0 0 (fun _ => False) := by
  refine Met.ofW (cc := cX7_rights) (maxL := 1) (ret := (some .int)) (by decide +kernel) rfl ?_
  intro p e s m args below meth c s₁ B hml hv
  obtain ⟨rfl, hP, hK⟩ := hv
  have hx := B.exec
  have hb := B.bytes
  have hr := B.returns
  have hts := atoms_spec (ws := wsX7_rights) B.pre
  have hown : s.vm.findClass RX7 = some m.cls := findClass_of_methodNamed B.named
  have hlocks := B.notSynchronized
  have hl := lv_entry ([.ref (t 0)]) (n := 1) (Nat.le_of_ble_eq_true rfl)
  rw [lg_entry_eq]
  generalize (lg_sl ([.ref (t 0)]) ++ List.replicate (1 - (lg_sl ([.ref (t 0)])).length) Slot.unset).toArray = ls at hl ⊢
  have hl : lv_has ls 1 [(0, .ref (t 0))] := hl
  refine zs_X7_rights t t_size t_rights t_latest t_seenStep t_seenFrom t_seenTo t_seenValue t_timesRight t_rightStep t_rightOf t_rightValue t_knownValue  hx hb hml hown hts hK hP ls hl ⟨out, h, ?_⟩
  exact fun ls pc hd => W.iret hx hb hr (fun t ht hW => ⟨_, rfl, rfl, ht⟩) (fun _ h => by cases h) hd
/-! DiamondRows$Sightings.has(I)Z -/
abbrev zr_X7_has : Room := { frames := 0, cells := 0, slots := 0, locals := 0 }
noncomputable def zf_X7_has  (t_size : Int) (i1 : Int) : Option (Bool) :=
  if zout i1 then none else
  if i1 < 0 then
  some (false)
  else
  if zout t_size then none else
  if t_size ≤ i1 then
  some (false)
  else
  some (true)
theorem zi_X7_has_X7 : ∀ w ∈ u_ws RX7 TX7 12, w ∈ wsX7_has := by decide +kernel
theorem zl_X7_has_39 : Cond.fieldLink RX7 39 "DiamondRows$Sightings" "size" "I" ∈ wsX7_has := by decide +kernel
def zQ_X7_has (p : Program) (l : Launch) (e : Env) (s : State) (m : MethodId) (args : Array Value) (below : List Frame) (meth : Method) (c : Code) (Q : State → Prop) (H : Heap) (locs : List Loc)  (o : Bool) : Prop := ∀ (ls : Array Slot) (pc : Nat), decode cX7_has pc = .ok (.ireturn, 1) → W p l e zr_X7_has s m args below meth c H locs 0 0 Q (F0 m pc ls [.int (zi (bI o))])
set_option maxHeartbeats 4000000 in
set_option maxRecDepth 100000 in
theorem zs_X7_has {p : Program} {l : Launch} {e : Env} {s : State} {m : MethodId} {args : Array Value} {below : List Frame} {meth : Method} {c : Code} {Q : State → Prop} {D : va_G} {κ : Nat → ClassId} {H : Heap} {locs : List Loc} (t : Nat → Nat) (t_size : Int) (t_rights : Int) (t_latest : Int) (t_seenStep : Nat) (t_seenFrom : Nat) (t_seenTo : Nat) (t_seenValue : Nat) (t_timesRight : Nat) (t_rightStep : Nat) (t_rightOf : Nat) (t_rightValue : Nat) (t_knownValue : Nat) (i1 : Int) (hx : p.tables.exec = Jvm.exec) (hb : c.code = cX7_has) (hml : c.maxLocals = 2) (hown : s.vm.findClass RX7 = some m.cls) (hts : ∀ w ∈ wsX7_has, w.before args s = true) (hK : va_K D vwCl (zTY κ) s) (hP : va_P D vwCl ([((t 0), .inr (7, [.ref (t 1), .ref (t 2), .ref (t 3), .ref (t 4), .ref (t 5), .ref (t 6), .ref (t 7), .ref (t 8), .ref (t 9), .int (zi t_size), .int (zi t_rights), .int (zi t_latest)])), ((t 1), .inl (κ 1, 20, .inl (zc t_seenStep))), ((t 2), .inl (κ 1, 20, .inl (zc t_seenFrom))), ((t 3), .inl (κ 1, 20, .inl (zc t_seenTo))), ((t 4), .inl (κ 1, 20, .inl (zc t_seenValue))), ((t 5), .inl (κ 1, 20, .inl (zc t_timesRight))), ((t 6), .inl (κ 1, 20, .inl (zc t_rightStep))), ((t 7), .inl (κ 1, 20, .inl (zc t_rightOf))), ((t 8), .inl (κ 1, 20, .inl (zc t_rightValue))), ((t 9), .inl (κ 1, 20, .inl (zc t_knownValue)))]) H) (ls : Array Slot) (hl : lv_has ls 2 [(0, .ref (t 0)), (1, .int (zi i1))]) (hg : Go (zQ_X7_has p l e s m args below meth c Q H locs) (zf_X7_has t_size i1)) : W p l e zr_X7_has s m args below meth c H locs 0 0 Q (F0 m 0 ls []) := by
  unfold zf_X7_has at hg
  refine lv_iload_n hx hb dX7_has_0 rfl (lv_at hl 1 rfl) ?_
  obtain ⟨b1, hg⟩ := Go_n hg
  refine zv_if_lt (tgt := 16) hx hb dX7_has_1 (by decide) b1 (fun c4 => ?_) (fun c4 => ?_)
  · have hg := Go_t c4 hg
    refine zv_iconst hx hb dX7_has_16 ?_
    exact (Go_s hg) _ _ dX7_has_17
  · have hg := Go_f c4 hg
    refine lv_iload_n hx hb dX7_has_4 rfl (lv_at hl 1 rfl) ?_
    refine lv_aload_n hx hb dX7_has_5 rfl (lv_at hl 0 rfl) ?_
    refine va_get (D := D) (ci := 7) (v := .int (zi t_size)) (C := RX7) (T := TX7) (N := 12) hx hb hts zi_X7_has_X7 hown hK hP 0 rfl rfl 9 (by decide) (hts (.fieldLink RX7 39 "DiamondRows$Sightings" "size" "I") zl_X7_has_39) (fun _ h9 => h9) rfl dX7_has_6 ?_
    obtain ⟨b2, hg⟩ := Go_n hg
    refine zv_icmp_ge (tgt := 16) hx hb dX7_has_9 (by decide) b1 b2 (fun c3 => ?_) (fun c3 => ?_)
    · have hg := Go_t c3 hg
      refine zv_iconst hx hb dX7_has_16 ?_
      exact (Go_s hg) _ _ dX7_has_17
    · have hg := Go_f c3 hg
      refine zv_iconst hx hb dX7_has_12 ?_
      refine lv_goto (tgt := 17) hx hb dX7_has_13 (by decide) ?_
      exact (Go_s hg) _ _ dX7_has_17
set_option maxHeartbeats 4000000 in
set_option maxRecDepth 100000 in
theorem zc_X7_has (l : Launch) (D : va_G) (κ : Nat → ClassId) (t : Nat → Nat) (t_size : Int) (t_rights : Int) (t_latest : Int) (t_seenStep : Nat) (t_seenFrom : Nat) (t_seenTo : Nat) (t_seenValue : Nat) (t_timesRight : Nat) (t_rightStep : Nat) (t_rightOf : Nat) (t_rightValue : Nat) (t_knownValue : Nat) (i1 : Int) (out : Bool) (h : zf_X7_has t_size i1 = some out) : Met l yX7_has wsX7_has zr_X7_has (va_Pc [.ref (t 0), .int (zi i1)] (zR D κ ([((t 0), .inr (7, [.ref (t 1), .ref (t 2), .ref (t 3), .ref (t 4), .ref (t 5), .ref (t 6), .ref (t 7), .ref (t 8), .ref (t 9), .int (zi t_size), .int (zi t_rights), .int (zi t_latest)])), ((t 1), .inl (κ 1, 20, .inl (zc t_seenStep))), ((t 2), .inl (κ 1, 20, .inl (zc t_seenFrom))), ((t 3), .inl (κ 1, 20, .inl (zc t_seenTo))), ((t 4), .inl (κ 1, 20, .inl (zc t_seenValue))), ((t 5), .inl (κ 1, 20, .inl (zc t_timesRight))), ((t 6), .inl (κ 1, 20, .inl (zc t_rightStep))), ((t 7), .inl (κ 1, 20, .inl (zc t_rightOf))), ((t 8), .inl (κ 1, 20, .inl (zc t_rightValue))), ((t 9), .inl (κ 1, 20, .inl (zc t_knownValue)))]))) (vp_Si (fun x => x = zi (bI out))) 0 0 (fun _ => False) := by
  refine Met.ofW (cc := cX7_has) (maxL := 2) (ret := (some .boolean)) (by decide +kernel) rfl ?_
  intro p e s m args below meth c s₁ B hml hv
  obtain ⟨rfl, hP, hK⟩ := hv
  have hx := B.exec
  have hb := B.bytes
  have hr := B.returns
  have hts := atoms_spec (ws := wsX7_has) B.pre
  have hown : s.vm.findClass RX7 = some m.cls := findClass_of_methodNamed B.named
  have hlocks := B.notSynchronized
  have hl := lv_entry ([.ref (t 0), .int (zi i1)]) (n := 2) (Nat.le_of_ble_eq_true rfl)
  rw [lg_entry_eq]
  generalize (lg_sl ([.ref (t 0), .int (zi i1)]) ++ List.replicate (2 - (lg_sl ([.ref (t 0), .int (zi i1)])).length) Slot.unset).toArray = ls at hl ⊢
  have hl : lv_has ls 2 [(0, .ref (t 0)), (1, .int (zi i1))] := hl
  refine zs_X7_has t t_size t_rights t_latest t_seenStep t_seenFrom t_seenTo t_seenValue t_timesRight t_rightStep t_rightOf t_rightValue t_knownValue i1 hx hb hml hown hts hK hP ls hl ⟨out, h, ?_⟩
  exact fun ls pc hd => W.zret hx hb hr (bI_nar _) (fun t ht hW => ⟨_, rfl, rfl, ht⟩) (fun _ h => by cases h) hd
/-! DiamondRows$Sightings.wasSeenBefore(II)Z -/
abbrev zr_X7_wasSeenBefore : Room := { frames := 1, cells := 0, slots := 0, locals := 21 }
noncomputable def zf_X7_wasSeenBefore  (t_size : Int) (t_seenStep : Nat) (i1 : Int) (i2 : Int) : Option (Bool) :=
  Option.bind (zf_X7_has t_size i2) (fun o1 =>
  if o1 = false then
  some (false)
  else
  if i2 < 0 ∨ 20 ≤ i2 then none else
  if zout i1 then none else
  if i1 ≤ (zget t_seenStep (Int.toNat i2)) then
  some (false)
  else
  some (true))
theorem zi_X7_wasSeenBefore_X7 : ∀ w ∈ u_ws RX7 TX7 12, w ∈ wsX7_wasSeenBefore := by decide +kernel
theorem zl_X7_wasSeenBefore_11 : Cond.fieldLink RX7 11 "DiamondRows$Sightings" "seenStep" "[I" ∈ wsX7_wasSeenBefore := by decide +kernel
def zQ_X7_wasSeenBefore (p : Program) (l : Launch) (e : Env) (s : State) (m : MethodId) (args : Array Value) (below : List Frame) (meth : Method) (c : Code) (Q : State → Prop) (H : Heap) (locs : List Loc)  (o : Bool) : Prop := ∀ (ls : Array Slot) (pc : Nat), decode cX7_wasSeenBefore pc = .ok (.ireturn, 1) → W p l e zr_X7_wasSeenBefore s m args below meth c H locs 0 0 Q (F0 m pc ls [.int (zi (bI o))])
set_option maxHeartbeats 4000000 in
set_option maxRecDepth 100000 in
theorem zs_X7_wasSeenBefore {p : Program} {l : Launch} {e : Env} {s : State} {m : MethodId} {args : Array Value} {below : List Frame} {meth : Method} {c : Code} {Q : State → Prop} {D : va_G} {κ : Nat → ClassId} {H : Heap} {locs : List Loc} (t : Nat → Nat) (t_size : Int) (t_rights : Int) (t_latest : Int) (t_seenStep : Nat) (t_seenFrom : Nat) (t_seenTo : Nat) (t_seenValue : Nat) (t_timesRight : Nat) (t_rightStep : Nat) (t_rightOf : Nat) (t_rightValue : Nat) (t_knownValue : Nat) (i1 : Int) (i2 : Int) (hx : p.tables.exec = Jvm.exec) (hb : c.code = cX7_wasSeenBefore) (hml : c.maxLocals = 3) (hown : s.vm.findClass RX7 = some m.cls) (hts : ∀ w ∈ wsX7_wasSeenBefore, w.before args s = true) (hK : va_K D vwCl (zTY κ) s) (hP : va_P D vwCl ([((t 0), .inr (7, [.ref (t 1), .ref (t 2), .ref (t 3), .ref (t 4), .ref (t 5), .ref (t 6), .ref (t 7), .ref (t 8), .ref (t 9), .int (zi t_size), .int (zi t_rights), .int (zi t_latest)])), ((t 1), .inl (κ 1, 20, .inl (zc t_seenStep))), ((t 2), .inl (κ 1, 20, .inl (zc t_seenFrom))), ((t 3), .inl (κ 1, 20, .inl (zc t_seenTo))), ((t 4), .inl (κ 1, 20, .inl (zc t_seenValue))), ((t 5), .inl (κ 1, 20, .inl (zc t_timesRight))), ((t 6), .inl (κ 1, 20, .inl (zc t_rightStep))), ((t 7), .inl (κ 1, 20, .inl (zc t_rightOf))), ((t 8), .inl (κ 1, 20, .inl (zc t_rightValue))), ((t 9), .inl (κ 1, 20, .inl (zc t_knownValue)))]) H) (ls : Array Slot) (hl : lv_has ls 3 [(0, .ref (t 0)), (1, .int (zi i1)), (2, .int (zi i2))]) (hg : Go (zQ_X7_wasSeenBefore p l e s m args below meth c Q H locs) (zf_X7_wasSeenBefore t_size t_seenStep i1 i2)) : W p l e zr_X7_wasSeenBefore s m args below meth c H locs 0 0 Q (F0 m 0 ls []) := by
  unfold zf_X7_wasSeenBefore at hg
  refine lv_aload_n hx hb dX7_wasSeenBefore_0 rfl (lv_at hl 0 rfl) ?_
  refine lv_iload_n hx hb dX7_wasSeenBefore_1 rfl (lv_at hl 2 rfl) ?_
  obtain ⟨o1, ho1, hg⟩ := Go_b hg
  refine zc_vi (rest := []) ⟨hx, hb, hml, hown, hts⟩ (zc_X7_has l D κ t t_size t_rights t_latest t_seenStep t_seenFrom t_seenTo t_seenValue t_timesRight t_rightStep t_rightOf t_rightValue t_knownValue i2 o1 ho1) (cwV 1 hts gX7_wasSeenBefore_X7_has rfl rfl rfl (by decide +kernel) ⟨Nat.le_of_ble_eq_true rfl, Nat.le_of_ble_eq_true rfl⟩) (zpreV hK (hP.sub [0, 1, 2, 3, 4, 5, 6, 7, 8, 9] rfl) 7 0 rfl rfl) rfl hl.1 rfl (Nat.le_of_ble_eq_true rfl) dX7_wasSeenBefore_2 ⟨Nat.zero_le _, Nat.zero_le _⟩ ?_
  refine zv_ifb_eq (tgt := 22) hx hb dX7_wasSeenBefore_5 (by decide) (fun c5 => ?_) (fun c5 => ?_)
  · have hg := Go_t c5 hg
    refine zv_iconst hx hb dX7_wasSeenBefore_22 ?_
    exact (Go_s hg) _ _ dX7_wasSeenBefore_23
  · have hg := Go_f c5 hg
    refine lv_aload_n hx hb dX7_wasSeenBefore_8 rfl (lv_at hl 0 rfl) ?_
    refine va_get (D := D) (ci := 7) (v := .ref (t 1)) (C := RX7) (T := TX7) (N := 12) hx hb hts zi_X7_wasSeenBefore_X7 hown hK hP 0 rfl rfl 0 (by decide) (hts (.fieldLink RX7 11 "DiamondRows$Sightings" "seenStep" "[I") zl_X7_wasSeenBefore_11) (fun _ h9 => h9) rfl dX7_wasSeenBefore_9 ?_
    refine lv_iload_n hx hb dX7_wasSeenBefore_12 rfl (lv_at hl 2 rfl) ?_
    obtain ⟨n2, hg⟩ := Go_n hg
    refine zv_iald hx hb hK hP 1 1 rfl rfl (by decide) n2 dX7_wasSeenBefore_13 ?_
    refine lv_iload_n hx hb dX7_wasSeenBefore_14 rfl (lv_at hl 1 rfl) ?_
    obtain ⟨b3, hg⟩ := Go_n hg
    refine zv_icmp_ge (tgt := 22) hx hb dX7_wasSeenBefore_15 (by decide) (zget_in _ _) b3 (fun c4 => ?_) (fun c4 => ?_)
    · have hg := Go_t c4 hg
      refine zv_iconst hx hb dX7_wasSeenBefore_22 ?_
      exact (Go_s hg) _ _ dX7_wasSeenBefore_23
    · have hg := Go_f c4 hg
      refine zv_iconst hx hb dX7_wasSeenBefore_18 ?_
      refine lv_goto (tgt := 23) hx hb dX7_wasSeenBefore_19 (by decide) ?_
      exact (Go_s hg) _ _ dX7_wasSeenBefore_23
set_option maxHeartbeats 4000000 in
set_option maxRecDepth 100000 in
theorem zc_X7_wasSeenBefore (l : Launch) (D : va_G) (κ : Nat → ClassId) (t : Nat → Nat) (t_size : Int) (t_rights : Int) (t_latest : Int) (t_seenStep : Nat) (t_seenFrom : Nat) (t_seenTo : Nat) (t_seenValue : Nat) (t_timesRight : Nat) (t_rightStep : Nat) (t_rightOf : Nat) (t_rightValue : Nat) (t_knownValue : Nat) (i1 : Int) (i2 : Int) (out : Bool) (h : zf_X7_wasSeenBefore t_size t_seenStep i1 i2 = some out) : Met l yX7_wasSeenBefore wsX7_wasSeenBefore zr_X7_wasSeenBefore (va_Pc [.ref (t 0), .int (zi i1), .int (zi i2)] (zR D κ ([((t 0), .inr (7, [.ref (t 1), .ref (t 2), .ref (t 3), .ref (t 4), .ref (t 5), .ref (t 6), .ref (t 7), .ref (t 8), .ref (t 9), .int (zi t_size), .int (zi t_rights), .int (zi t_latest)])), ((t 1), .inl (κ 1, 20, .inl (zc t_seenStep))), ((t 2), .inl (κ 1, 20, .inl (zc t_seenFrom))), ((t 3), .inl (κ 1, 20, .inl (zc t_seenTo))), ((t 4), .inl (κ 1, 20, .inl (zc t_seenValue))), ((t 5), .inl (κ 1, 20, .inl (zc t_timesRight))), ((t 6), .inl (κ 1, 20, .inl (zc t_rightStep))), ((t 7), .inl (κ 1, 20, .inl (zc t_rightOf))), ((t 8), .inl (κ 1, 20, .inl (zc t_rightValue))), ((t 9), .inl (κ 1, 20, .inl (zc t_knownValue)))]))) (vp_Si (fun x => x = zi (bI out))) 0 0 (fun _ => False) := by
  refine Met.ofW (cc := cX7_wasSeenBefore) (maxL := 3) (ret := (some .boolean)) (by decide +kernel) rfl ?_
  intro p e s m args below meth c s₁ B hml hv
  obtain ⟨rfl, hP, hK⟩ := hv
  have hx := B.exec
  have hb := B.bytes
  have hr := B.returns
  have hts := atoms_spec (ws := wsX7_wasSeenBefore) B.pre
  have hown : s.vm.findClass RX7 = some m.cls := findClass_of_methodNamed B.named
  have hlocks := B.notSynchronized
  have hl := lv_entry ([.ref (t 0), .int (zi i1), .int (zi i2)]) (n := 3) (Nat.le_of_ble_eq_true rfl)
  rw [lg_entry_eq]
  generalize (lg_sl ([.ref (t 0), .int (zi i1), .int (zi i2)]) ++ List.replicate (3 - (lg_sl ([.ref (t 0), .int (zi i1), .int (zi i2)])).length) Slot.unset).toArray = ls at hl ⊢
  have hl : lv_has ls 3 [(0, .ref (t 0)), (1, .int (zi i1)), (2, .int (zi i2))] := hl
  refine zs_X7_wasSeenBefore t t_size t_rights t_latest t_seenStep t_seenFrom t_seenTo t_seenValue t_timesRight t_rightStep t_rightOf t_rightValue t_knownValue i1 i2 hx hb hml hown hts hK hP ls hl ⟨out, h, ?_⟩
  exact fun ls pc hd => W.zret hx hb hr (bI_nar _) (fun t ht hW => ⟨_, rfl, rfl, ht⟩) (fun _ h => by cases h) hd
/-! DiamondRows$Sightings.canTell(I)Z -/
abbrev zr_X7_canTell : Room := { frames := 0, cells := 0, slots := 0, locals := 0 }
noncomputable def zf_X7_canTell  (t_latest : Int) (i1 : Int) : Option (Bool) :=
  if zout i1 then none else
  if zout t_latest then none else
  if i1 < t_latest then
  some (false)
  else
  if (999 : Int) < i1 then
  some (false)
  else
  some (true)
theorem zi_X7_canTell_X7 : ∀ w ∈ u_ws RX7 TX7 12, w ∈ wsX7_canTell := by decide +kernel
theorem zl_X7_canTell_50 : Cond.fieldLink RX7 50 "DiamondRows$Sightings" "latest" "I" ∈ wsX7_canTell := by decide +kernel
def zQ_X7_canTell (p : Program) (l : Launch) (e : Env) (s : State) (m : MethodId) (args : Array Value) (below : List Frame) (meth : Method) (c : Code) (Q : State → Prop) (H : Heap) (locs : List Loc)  (o : Bool) : Prop := ∀ (ls : Array Slot) (pc : Nat), decode cX7_canTell pc = .ok (.ireturn, 1) → W p l e zr_X7_canTell s m args below meth c H locs 0 0 Q (F0 m pc ls [.int (zi (bI o))])
set_option maxHeartbeats 4000000 in
set_option maxRecDepth 100000 in
theorem zs_X7_canTell {p : Program} {l : Launch} {e : Env} {s : State} {m : MethodId} {args : Array Value} {below : List Frame} {meth : Method} {c : Code} {Q : State → Prop} {D : va_G} {κ : Nat → ClassId} {H : Heap} {locs : List Loc} (t : Nat → Nat) (t_size : Int) (t_rights : Int) (t_latest : Int) (t_seenStep : Nat) (t_seenFrom : Nat) (t_seenTo : Nat) (t_seenValue : Nat) (t_timesRight : Nat) (t_rightStep : Nat) (t_rightOf : Nat) (t_rightValue : Nat) (t_knownValue : Nat) (i1 : Int) (hx : p.tables.exec = Jvm.exec) (hb : c.code = cX7_canTell) (hml : c.maxLocals = 2) (hown : s.vm.findClass RX7 = some m.cls) (hts : ∀ w ∈ wsX7_canTell, w.before args s = true) (hK : va_K D vwCl (zTY κ) s) (hP : va_P D vwCl ([((t 0), .inr (7, [.ref (t 1), .ref (t 2), .ref (t 3), .ref (t 4), .ref (t 5), .ref (t 6), .ref (t 7), .ref (t 8), .ref (t 9), .int (zi t_size), .int (zi t_rights), .int (zi t_latest)])), ((t 1), .inl (κ 1, 20, .inl (zc t_seenStep))), ((t 2), .inl (κ 1, 20, .inl (zc t_seenFrom))), ((t 3), .inl (κ 1, 20, .inl (zc t_seenTo))), ((t 4), .inl (κ 1, 20, .inl (zc t_seenValue))), ((t 5), .inl (κ 1, 20, .inl (zc t_timesRight))), ((t 6), .inl (κ 1, 20, .inl (zc t_rightStep))), ((t 7), .inl (κ 1, 20, .inl (zc t_rightOf))), ((t 8), .inl (κ 1, 20, .inl (zc t_rightValue))), ((t 9), .inl (κ 1, 20, .inl (zc t_knownValue)))]) H) (ls : Array Slot) (hl : lv_has ls 2 [(0, .ref (t 0)), (1, .int (zi i1))]) (hg : Go (zQ_X7_canTell p l e s m args below meth c Q H locs) (zf_X7_canTell t_latest i1)) : W p l e zr_X7_canTell s m args below meth c H locs 0 0 Q (F0 m 0 ls []) := by
  unfold zf_X7_canTell at hg
  refine lv_iload_n hx hb dX7_canTell_0 rfl (lv_at hl 1 rfl) ?_
  refine lv_aload_n hx hb dX7_canTell_1 rfl (lv_at hl 0 rfl) ?_
  refine va_get (D := D) (ci := 7) (v := .int (zi t_latest)) (C := RX7) (T := TX7) (N := 12) hx hb hts zi_X7_canTell_X7 hown hK hP 0 rfl rfl 11 (by decide) (hts (.fieldLink RX7 50 "DiamondRows$Sightings" "latest" "I") zl_X7_canTell_50) (fun _ h9 => h9) rfl dX7_canTell_2 ?_
  obtain ⟨b1, hg⟩ := Go_n hg
  obtain ⟨b2, hg⟩ := Go_n hg
  refine zv_icmp_lt (tgt := 19) hx hb dX7_canTell_5 (by decide) b1 b2 (fun c4 => ?_) (fun c4 => ?_)
  · have hg := Go_t c4 hg
    refine zv_iconst hx hb dX7_canTell_19 ?_
    exact (Go_s hg) _ _ dX7_canTell_20
  · have hg := Go_f c4 hg
    refine lv_iload_n hx hb dX7_canTell_8 rfl (lv_at hl 1 rfl) ?_
    refine zv_sipush hx hb dX7_canTell_9 (by decide) ?_
    refine zv_icmp_gt (tgt := 19) hx hb dX7_canTell_12 (by decide) b1 (by decide) (fun c3 => ?_) (fun c3 => ?_)
    · have hg := Go_t c3 hg
      refine zv_iconst hx hb dX7_canTell_19 ?_
      exact (Go_s hg) _ _ dX7_canTell_20
    · have hg := Go_f c3 hg
      refine zv_iconst hx hb dX7_canTell_15 ?_
      refine lv_goto (tgt := 20) hx hb dX7_canTell_16 (by decide) ?_
      exact (Go_s hg) _ _ dX7_canTell_20
set_option maxHeartbeats 4000000 in
set_option maxRecDepth 100000 in
theorem zc_X7_canTell (l : Launch) (D : va_G) (κ : Nat → ClassId) (t : Nat → Nat) (t_size : Int) (t_rights : Int) (t_latest : Int) (t_seenStep : Nat) (t_seenFrom : Nat) (t_seenTo : Nat) (t_seenValue : Nat) (t_timesRight : Nat) (t_rightStep : Nat) (t_rightOf : Nat) (t_rightValue : Nat) (t_knownValue : Nat) (i1 : Int) (out : Bool) (h : zf_X7_canTell t_latest i1 = some out) : Met l yX7_canTell wsX7_canTell zr_X7_canTell (va_Pc [.ref (t 0), .int (zi i1)] (zR D κ ([((t 0), .inr (7, [.ref (t 1), .ref (t 2), .ref (t 3), .ref (t 4), .ref (t 5), .ref (t 6), .ref (t 7), .ref (t 8), .ref (t 9), .int (zi t_size), .int (zi t_rights), .int (zi t_latest)])), ((t 1), .inl (κ 1, 20, .inl (zc t_seenStep))), ((t 2), .inl (κ 1, 20, .inl (zc t_seenFrom))), ((t 3), .inl (κ 1, 20, .inl (zc t_seenTo))), ((t 4), .inl (κ 1, 20, .inl (zc t_seenValue))), ((t 5), .inl (κ 1, 20, .inl (zc t_timesRight))), ((t 6), .inl (κ 1, 20, .inl (zc t_rightStep))), ((t 7), .inl (κ 1, 20, .inl (zc t_rightOf))), ((t 8), .inl (κ 1, 20, .inl (zc t_rightValue))), ((t 9), .inl (κ 1, 20, .inl (zc t_knownValue)))]))) (vp_Si (fun x => x = zi (bI out))) 0 0 (fun _ => False) := by
  refine Met.ofW (cc := cX7_canTell) (maxL := 2) (ret := (some .boolean)) (by decide +kernel) rfl ?_
  intro p e s m args below meth c s₁ B hml hv
  obtain ⟨rfl, hP, hK⟩ := hv
  have hx := B.exec
  have hb := B.bytes
  have hr := B.returns
  have hts := atoms_spec (ws := wsX7_canTell) B.pre
  have hown : s.vm.findClass RX7 = some m.cls := findClass_of_methodNamed B.named
  have hlocks := B.notSynchronized
  have hl := lv_entry ([.ref (t 0), .int (zi i1)]) (n := 2) (Nat.le_of_ble_eq_true rfl)
  rw [lg_entry_eq]
  generalize (lg_sl ([.ref (t 0), .int (zi i1)]) ++ List.replicate (2 - (lg_sl ([.ref (t 0), .int (zi i1)])).length) Slot.unset).toArray = ls at hl ⊢
  have hl : lv_has ls 2 [(0, .ref (t 0)), (1, .int (zi i1))] := hl
  refine zs_X7_canTell t t_size t_rights t_latest t_seenStep t_seenFrom t_seenTo t_seenValue t_timesRight t_rightStep t_rightOf t_rightValue t_knownValue i1 hx hb hml hown hts hK hP ls hl ⟨out, h, ?_⟩
  exact fun ls pc hd => W.zret hx hb hr (bI_nar _) (fun t ht hW => ⟨_, rfl, rfl, ht⟩) (fun _ h => by cases h) hd
/-! DiamondRows$Sightings.forget()V -/
abbrev zr_X7_forget : Room := { frames := 0, cells := 0, slots := 0, locals := 0 }
noncomputable def zf_X7_forget  (t_size : Int) (t_rights : Int) (t_latest : Int)  : Option (Int × Int × Int) :=
  some ((0 : Int), (0 : Int), (0 : Int))
theorem zi_X7_forget_X7 : ∀ w ∈ u_ws RX7 TX7 12, w ∈ wsX7_forget := by decide +kernel
theorem zl_X7_forget_39 : Cond.fieldLink RX7 39 "DiamondRows$Sightings" "size" "I" ∈ wsX7_forget := by decide +kernel
theorem zl_X7_forget_43 : Cond.fieldLink RX7 43 "DiamondRows$Sightings" "rights" "I" ∈ wsX7_forget := by decide +kernel
theorem zl_X7_forget_50 : Cond.fieldLink RX7 50 "DiamondRows$Sightings" "latest" "I" ∈ wsX7_forget := by decide +kernel
def zQ_X7_forget (p : Program) (l : Launch) (e : Env) (s : State) (m : MethodId) (args : Array Value) (below : List Frame) (meth : Method) (c : Code) (Q : State → Prop) (D : va_G) (κ : Nat → ClassId) (A : Nat → Prop) (H0 : Heap) (t : Nat → Nat) (t_seenStep : Nat) (t_seenFrom : Nat) (t_seenTo : Nat) (t_seenValue : Nat) (t_timesRight : Nat) (t_rightStep : Nat) (t_rightOf : Nat) (t_rightValue : Nat) (t_knownValue : Nat) (o : Int × Int × Int) : Prop := ∀ (H : Heap) (locs : List Loc) (ls : Array Slot) (pc : Nat), va_P D vwCl ([((t 0), .inr (7, [.ref (t 1), .ref (t 2), .ref (t 3), .ref (t 4), .ref (t 5), .ref (t 6), .ref (t 7), .ref (t 8), .ref (t 9), .int (zi (o.1)), .int (zi (o.2.1)), .int (zi (o.2.2))])), ((t 1), .inl (κ 1, 20, .inl (zc t_seenStep))), ((t 2), .inl (κ 1, 20, .inl (zc t_seenFrom))), ((t 3), .inl (κ 1, 20, .inl (zc t_seenTo))), ((t 4), .inl (κ 1, 20, .inl (zc t_seenValue))), ((t 5), .inl (κ 1, 20, .inl (zc t_timesRight))), ((t 6), .inl (κ 1, 20, .inl (zc t_rightStep))), ((t 7), .inl (κ 1, 20, .inl (zc t_rightOf))), ((t 8), .inl (κ 1, 20, .inl (zc t_rightValue))), ((t 9), .inl (κ 1, 20, .inl (zc t_knownValue)))]) H → va_D A ([((t 0), .inr (7, [.ref (t 1), .ref (t 2), .ref (t 3), .ref (t 4), .ref (t 5), .ref (t 6), .ref (t 7), .ref (t 8), .ref (t 9), .int (zi (o.1)), .int (zi (o.2.1)), .int (zi (o.2.2))])), ((t 1), .inl (κ 1, 20, .inl (zc t_seenStep))), ((t 2), .inl (κ 1, 20, .inl (zc t_seenFrom))), ((t 3), .inl (κ 1, 20, .inl (zc t_seenTo))), ((t 4), .inl (κ 1, 20, .inl (zc t_seenValue))), ((t 5), .inl (κ 1, 20, .inl (zc t_timesRight))), ((t 6), .inl (κ 1, 20, .inl (zc t_rightStep))), ((t 7), .inl (κ 1, 20, .inl (zc t_rightOf))), ((t 8), .inl (κ 1, 20, .inl (zc t_rightValue))), ((t 9), .inl (κ 1, 20, .inl (zc t_knownValue)))]) → va_S A H0 H locs → decode cX7_forget pc = .ok (.return_, 1) → W p l e zr_X7_forget s m args below meth c H locs 0 0 Q (F0 m pc ls [])
set_option maxHeartbeats 4000000 in
set_option maxRecDepth 100000 in
theorem zs_X7_forget {p : Program} {l : Launch} {e : Env} {s : State} {m : MethodId} {args : Array Value} {below : List Frame} {meth : Method} {c : Code} {Q : State → Prop} {D : va_G} {κ : Nat → ClassId} {A : Nat → Prop} {H0 : Heap} (t : Nat → Nat) (t_size : Int) (t_rights : Int) (t_latest : Int) (t_seenStep : Nat) (t_seenFrom : Nat) (t_seenTo : Nat) (t_seenValue : Nat) (t_timesRight : Nat) (t_rightStep : Nat) (t_rightOf : Nat) (t_rightValue : Nat) (t_knownValue : Nat)  (hx : p.tables.exec = Jvm.exec) (hb : c.code = cX7_forget) (hml : c.maxLocals = 1) (hown : s.vm.findClass RX7 = some m.cls) (hts : ∀ w ∈ wsX7_forget, w.before args s = true) (hK : va_K D vwCl (zTY κ) s) (hA : ∀ q : Nat, H0.size ≤ q → A q) (H : Heap) (locs : List Loc) (ls : Array Slot) (hP : va_P D vwCl ([((t 0), .inr (7, [.ref (t 1), .ref (t 2), .ref (t 3), .ref (t 4), .ref (t 5), .ref (t 6), .ref (t 7), .ref (t 8), .ref (t 9), .int (zi t_size), .int (zi t_rights), .int (zi t_latest)])), ((t 1), .inl (κ 1, 20, .inl (zc t_seenStep))), ((t 2), .inl (κ 1, 20, .inl (zc t_seenFrom))), ((t 3), .inl (κ 1, 20, .inl (zc t_seenTo))), ((t 4), .inl (κ 1, 20, .inl (zc t_seenValue))), ((t 5), .inl (κ 1, 20, .inl (zc t_timesRight))), ((t 6), .inl (κ 1, 20, .inl (zc t_rightStep))), ((t 7), .inl (κ 1, 20, .inl (zc t_rightOf))), ((t 8), .inl (κ 1, 20, .inl (zc t_rightValue))), ((t 9), .inl (κ 1, 20, .inl (zc t_knownValue)))]) H) (hD : va_D A ([((t 0), .inr (7, [.ref (t 1), .ref (t 2), .ref (t 3), .ref (t 4), .ref (t 5), .ref (t 6), .ref (t 7), .ref (t 8), .ref (t 9), .int (zi t_size), .int (zi t_rights), .int (zi t_latest)])), ((t 1), .inl (κ 1, 20, .inl (zc t_seenStep))), ((t 2), .inl (κ 1, 20, .inl (zc t_seenFrom))), ((t 3), .inl (κ 1, 20, .inl (zc t_seenTo))), ((t 4), .inl (κ 1, 20, .inl (zc t_seenValue))), ((t 5), .inl (κ 1, 20, .inl (zc t_timesRight))), ((t 6), .inl (κ 1, 20, .inl (zc t_rightStep))), ((t 7), .inl (κ 1, 20, .inl (zc t_rightOf))), ((t 8), .inl (κ 1, 20, .inl (zc t_rightValue))), ((t 9), .inl (κ 1, 20, .inl (zc t_knownValue)))])) (hS : va_S A H0 H locs) (hl : lv_has ls 1 [(0, .ref (t 0))]) (hg : Go (zQ_X7_forget p l e s m args below meth c Q D κ A H0 t t_seenStep t_seenFrom t_seenTo t_seenValue t_timesRight t_rightStep t_rightOf t_rightValue t_knownValue) (zf_X7_forget t_size t_rights t_latest )) : W p l e zr_X7_forget s m args below meth c H locs 0 0 Q (F0 m 0 ls []) := by
  unfold zf_X7_forget at hg
  refine lv_aload_n hx hb dX7_forget_0 rfl (lv_at hl 0 rfl) ?_
  refine zv_iconst hx hb dX7_forget_1 ?_
  refine va_put (D := D) (ci := 7) (v := .int (zi (0 : Int))) (ty := .int) (C := RX7) (T := TX7) (N := 12) hx hb hts zi_X7_forget_X7 tyX7 tyX7_ok nmX7 hown hK hP hD hS 0 rfl rfl 9 (by decide) (hts (.fieldLink RX7 39 "DiamondRows$Sightings" "size" "I") zl_X7_forget_39) (fun _ h9 => h9) rfl (by decide +kernel) rfl rfl (Nat.le_of_ble_eq_true rfl) dX7_forget_2 (fun H locs hP hD hS => ?_)
  have hP : va_P D vwCl ([((t 0), .inr (7, [.ref (t 1), .ref (t 2), .ref (t 3), .ref (t 4), .ref (t 5), .ref (t 6), .ref (t 7), .ref (t 8), .ref (t 9), .int (zi (0 : Int)), .int (zi t_rights), .int (zi t_latest)])), ((t 1), .inl (κ 1, 20, .inl (zc t_seenStep))), ((t 2), .inl (κ 1, 20, .inl (zc t_seenFrom))), ((t 3), .inl (κ 1, 20, .inl (zc t_seenTo))), ((t 4), .inl (κ 1, 20, .inl (zc t_seenValue))), ((t 5), .inl (κ 1, 20, .inl (zc t_timesRight))), ((t 6), .inl (κ 1, 20, .inl (zc t_rightStep))), ((t 7), .inl (κ 1, 20, .inl (zc t_rightOf))), ((t 8), .inl (κ 1, 20, .inl (zc t_rightValue))), ((t 9), .inl (κ 1, 20, .inl (zc t_knownValue)))]) H := hP
  have hD : va_D A ([((t 0), .inr (7, [.ref (t 1), .ref (t 2), .ref (t 3), .ref (t 4), .ref (t 5), .ref (t 6), .ref (t 7), .ref (t 8), .ref (t 9), .int (zi (0 : Int)), .int (zi t_rights), .int (zi t_latest)])), ((t 1), .inl (κ 1, 20, .inl (zc t_seenStep))), ((t 2), .inl (κ 1, 20, .inl (zc t_seenFrom))), ((t 3), .inl (κ 1, 20, .inl (zc t_seenTo))), ((t 4), .inl (κ 1, 20, .inl (zc t_seenValue))), ((t 5), .inl (κ 1, 20, .inl (zc t_timesRight))), ((t 6), .inl (κ 1, 20, .inl (zc t_rightStep))), ((t 7), .inl (κ 1, 20, .inl (zc t_rightOf))), ((t 8), .inl (κ 1, 20, .inl (zc t_rightValue))), ((t 9), .inl (κ 1, 20, .inl (zc t_knownValue)))]) := hD
  refine lv_aload_n hx hb dX7_forget_5 rfl (lv_at hl 0 rfl) ?_
  refine zv_iconst hx hb dX7_forget_6 ?_
  refine va_put (D := D) (ci := 7) (v := .int (zi (0 : Int))) (ty := .int) (C := RX7) (T := TX7) (N := 12) hx hb hts zi_X7_forget_X7 tyX7 tyX7_ok nmX7 hown hK hP hD hS 0 rfl rfl 10 (by decide) (hts (.fieldLink RX7 43 "DiamondRows$Sightings" "rights" "I") zl_X7_forget_43) (fun _ h9 => h9) rfl (by decide +kernel) rfl rfl (Nat.le_of_ble_eq_true rfl) dX7_forget_7 (fun H locs hP hD hS => ?_)
  have hP : va_P D vwCl ([((t 0), .inr (7, [.ref (t 1), .ref (t 2), .ref (t 3), .ref (t 4), .ref (t 5), .ref (t 6), .ref (t 7), .ref (t 8), .ref (t 9), .int (zi (0 : Int)), .int (zi (0 : Int)), .int (zi t_latest)])), ((t 1), .inl (κ 1, 20, .inl (zc t_seenStep))), ((t 2), .inl (κ 1, 20, .inl (zc t_seenFrom))), ((t 3), .inl (κ 1, 20, .inl (zc t_seenTo))), ((t 4), .inl (κ 1, 20, .inl (zc t_seenValue))), ((t 5), .inl (κ 1, 20, .inl (zc t_timesRight))), ((t 6), .inl (κ 1, 20, .inl (zc t_rightStep))), ((t 7), .inl (κ 1, 20, .inl (zc t_rightOf))), ((t 8), .inl (κ 1, 20, .inl (zc t_rightValue))), ((t 9), .inl (κ 1, 20, .inl (zc t_knownValue)))]) H := hP
  have hD : va_D A ([((t 0), .inr (7, [.ref (t 1), .ref (t 2), .ref (t 3), .ref (t 4), .ref (t 5), .ref (t 6), .ref (t 7), .ref (t 8), .ref (t 9), .int (zi (0 : Int)), .int (zi (0 : Int)), .int (zi t_latest)])), ((t 1), .inl (κ 1, 20, .inl (zc t_seenStep))), ((t 2), .inl (κ 1, 20, .inl (zc t_seenFrom))), ((t 3), .inl (κ 1, 20, .inl (zc t_seenTo))), ((t 4), .inl (κ 1, 20, .inl (zc t_seenValue))), ((t 5), .inl (κ 1, 20, .inl (zc t_timesRight))), ((t 6), .inl (κ 1, 20, .inl (zc t_rightStep))), ((t 7), .inl (κ 1, 20, .inl (zc t_rightOf))), ((t 8), .inl (κ 1, 20, .inl (zc t_rightValue))), ((t 9), .inl (κ 1, 20, .inl (zc t_knownValue)))]) := hD
  refine lv_aload_n hx hb dX7_forget_10 rfl (lv_at hl 0 rfl) ?_
  refine zv_iconst hx hb dX7_forget_11 ?_
  refine va_put (D := D) (ci := 7) (v := .int (zi (0 : Int))) (ty := .int) (C := RX7) (T := TX7) (N := 12) hx hb hts zi_X7_forget_X7 tyX7 tyX7_ok nmX7 hown hK hP hD hS 0 rfl rfl 11 (by decide) (hts (.fieldLink RX7 50 "DiamondRows$Sightings" "latest" "I") zl_X7_forget_50) (fun _ h9 => h9) rfl (by decide +kernel) rfl rfl (Nat.le_of_ble_eq_true rfl) dX7_forget_12 (fun H locs hP hD hS => ?_)
  have hP : va_P D vwCl ([((t 0), .inr (7, [.ref (t 1), .ref (t 2), .ref (t 3), .ref (t 4), .ref (t 5), .ref (t 6), .ref (t 7), .ref (t 8), .ref (t 9), .int (zi (0 : Int)), .int (zi (0 : Int)), .int (zi (0 : Int))])), ((t 1), .inl (κ 1, 20, .inl (zc t_seenStep))), ((t 2), .inl (κ 1, 20, .inl (zc t_seenFrom))), ((t 3), .inl (κ 1, 20, .inl (zc t_seenTo))), ((t 4), .inl (κ 1, 20, .inl (zc t_seenValue))), ((t 5), .inl (κ 1, 20, .inl (zc t_timesRight))), ((t 6), .inl (κ 1, 20, .inl (zc t_rightStep))), ((t 7), .inl (κ 1, 20, .inl (zc t_rightOf))), ((t 8), .inl (κ 1, 20, .inl (zc t_rightValue))), ((t 9), .inl (κ 1, 20, .inl (zc t_knownValue)))]) H := hP
  have hD : va_D A ([((t 0), .inr (7, [.ref (t 1), .ref (t 2), .ref (t 3), .ref (t 4), .ref (t 5), .ref (t 6), .ref (t 7), .ref (t 8), .ref (t 9), .int (zi (0 : Int)), .int (zi (0 : Int)), .int (zi (0 : Int))])), ((t 1), .inl (κ 1, 20, .inl (zc t_seenStep))), ((t 2), .inl (κ 1, 20, .inl (zc t_seenFrom))), ((t 3), .inl (κ 1, 20, .inl (zc t_seenTo))), ((t 4), .inl (κ 1, 20, .inl (zc t_seenValue))), ((t 5), .inl (κ 1, 20, .inl (zc t_timesRight))), ((t 6), .inl (κ 1, 20, .inl (zc t_rightStep))), ((t 7), .inl (κ 1, 20, .inl (zc t_rightOf))), ((t 8), .inl (κ 1, 20, .inl (zc t_rightValue))), ((t 9), .inl (κ 1, 20, .inl (zc t_knownValue)))]) := hD
  exact (Go_s hg) _ _ _ _ hP hD hS dX7_forget_15
set_option maxHeartbeats 4000000 in
set_option maxRecDepth 100000 in
theorem zc_X7_forget (l : Launch) (D : va_G) (κ : Nat → ClassId) (t : Nat → Nat) (sz : Nat) (t_size : Int) (t_rights : Int) (t_latest : Int) (t_seenStep : Nat) (t_seenFrom : Nat) (t_seenTo : Nat) (t_seenValue : Nat) (t_timesRight : Nat) (t_rightStep : Nat) (t_rightOf : Nat) (t_rightValue : Nat) (t_knownValue : Nat)  (out : Int × Int × Int) (h : zf_X7_forget t_size t_rights t_latest  = some out) : Met l yX7_forget wsX7_forget zr_X7_forget (va_Pc [.ref (t 0)] (zW D κ ([((t 0), .inr (7, [.ref (t 1), .ref (t 2), .ref (t 3), .ref (t 4), .ref (t 5), .ref (t 6), .ref (t 7), .ref (t 8), .ref (t 9), .int (zi t_size), .int (zi t_rights), .int (zi t_latest)])), ((t 1), .inl (κ 1, 20, .inl (zc t_seenStep))), ((t 2), .inl (κ 1, 20, .inl (zc t_seenFrom))), ((t 3), .inl (κ 1, 20, .inl (zc t_seenTo))), ((t 4), .inl (κ 1, 20, .inl (zc t_seenValue))), ((t 5), .inl (κ 1, 20, .inl (zc t_timesRight))), ((t 6), .inl (κ 1, 20, .inl (zc t_rightStep))), ((t 7), .inl (κ 1, 20, .inl (zc t_rightOf))), ((t 8), .inl (κ 1, 20, .inl (zc t_rightValue))), ((t 9), .inl (κ 1, 20, .inl (zc t_knownValue)))]) sz)) (va_Qv (fun (_ : Unit) => True) (fun _ => zB D κ (va_A ([((t 0), .inr (7, [.ref (t 1), .ref (t 2), .ref (t 3), .ref (t 4), .ref (t 5), .ref (t 6), .ref (t 7), .ref (t 8), .ref (t 9), .int (zi t_size), .int (zi t_rights), .int (zi t_latest)])), ((t 1), .inl (κ 1, 20, .inl (zc t_seenStep))), ((t 2), .inl (κ 1, 20, .inl (zc t_seenFrom))), ((t 3), .inl (κ 1, 20, .inl (zc t_seenTo))), ((t 4), .inl (κ 1, 20, .inl (zc t_seenValue))), ((t 5), .inl (κ 1, 20, .inl (zc t_timesRight))), ((t 6), .inl (κ 1, 20, .inl (zc t_rightStep))), ((t 7), .inl (κ 1, 20, .inl (zc t_rightOf))), ((t 8), .inl (κ 1, 20, .inl (zc t_rightValue))), ((t 9), .inl (κ 1, 20, .inl (zc t_knownValue)))]) sz) ([((t 0), .inr (7, [.ref (t 1), .ref (t 2), .ref (t 3), .ref (t 4), .ref (t 5), .ref (t 6), .ref (t 7), .ref (t 8), .ref (t 9), .int (zi (out.1)), .int (zi (out.2.1)), .int (zi (out.2.2))])), ((t 1), .inl (κ 1, 20, .inl (zc t_seenStep))), ((t 2), .inl (κ 1, 20, .inl (zc t_seenFrom))), ((t 3), .inl (κ 1, 20, .inl (zc t_seenTo))), ((t 4), .inl (κ 1, 20, .inl (zc t_seenValue))), ((t 5), .inl (κ 1, 20, .inl (zc t_timesRight))), ((t 6), .inl (κ 1, 20, .inl (zc t_rightStep))), ((t 7), .inl (κ 1, 20, .inl (zc t_rightOf))), ((t 8), .inl (κ 1, 20, .inl (zc t_rightValue))), ((t 9), .inl (κ 1, 20, .inl (zc t_knownValue)))])) (va_A ([((t 0), .inr (7, [.ref (t 1), .ref (t 2), .ref (t 3), .ref (t 4), .ref (t 5), .ref (t 6), .ref (t 7), .ref (t 8), .ref (t 9), .int (zi t_size), .int (zi t_rights), .int (zi t_latest)])), ((t 1), .inl (κ 1, 20, .inl (zc t_seenStep))), ((t 2), .inl (κ 1, 20, .inl (zc t_seenFrom))), ((t 3), .inl (κ 1, 20, .inl (zc t_seenTo))), ((t 4), .inl (κ 1, 20, .inl (zc t_seenValue))), ((t 5), .inl (κ 1, 20, .inl (zc t_timesRight))), ((t 6), .inl (κ 1, 20, .inl (zc t_rightStep))), ((t 7), .inl (κ 1, 20, .inl (zc t_rightOf))), ((t 8), .inl (κ 1, 20, .inl (zc t_rightValue))), ((t 9), .inl (κ 1, 20, .inl (zc t_knownValue)))]) sz)) 0 0 (va_A ([((t 0), .inr (7, [.ref (t 1), .ref (t 2), .ref (t 3), .ref (t 4), .ref (t 5), .ref (t 6), .ref (t 7), .ref (t 8), .ref (t 9), .int (zi t_size), .int (zi t_rights), .int (zi t_latest)])), ((t 1), .inl (κ 1, 20, .inl (zc t_seenStep))), ((t 2), .inl (κ 1, 20, .inl (zc t_seenFrom))), ((t 3), .inl (κ 1, 20, .inl (zc t_seenTo))), ((t 4), .inl (κ 1, 20, .inl (zc t_seenValue))), ((t 5), .inl (κ 1, 20, .inl (zc t_timesRight))), ((t 6), .inl (κ 1, 20, .inl (zc t_rightStep))), ((t 7), .inl (κ 1, 20, .inl (zc t_rightOf))), ((t 8), .inl (κ 1, 20, .inl (zc t_rightValue))), ((t 9), .inl (κ 1, 20, .inl (zc t_knownValue)))]) sz) := by
  refine Met.ofW (cc := cX7_forget) (maxL := 1) (ret := none) (by decide +kernel) rfl ?_
  intro p e s m args below meth c s₁ B hml hv
  obtain ⟨rfl, hsz, hP, hK, hD0⟩ := hv
  have hx := B.exec
  have hb := B.bytes
  have hr := B.returns
  have hts := atoms_spec (ws := wsX7_forget) B.pre
  have hown : s.vm.findClass RX7 = some m.cls := findClass_of_methodNamed B.named
  have hlocks := B.notSynchronized
  subst hsz
  have hD := hD0.self (sz := s.heap.size)
  generalize hAe : va_A ([((t 0), .inr (7, [.ref (t 1), .ref (t 2), .ref (t 3), .ref (t 4), .ref (t 5), .ref (t 6), .ref (t 7), .ref (t 8), .ref (t 9), .int (zi t_size), .int (zi t_rights), .int (zi t_latest)])), ((t 1), .inl (κ 1, 20, .inl (zc t_seenStep))), ((t 2), .inl (κ 1, 20, .inl (zc t_seenFrom))), ((t 3), .inl (κ 1, 20, .inl (zc t_seenTo))), ((t 4), .inl (κ 1, 20, .inl (zc t_seenValue))), ((t 5), .inl (κ 1, 20, .inl (zc t_timesRight))), ((t 6), .inl (κ 1, 20, .inl (zc t_rightStep))), ((t 7), .inl (κ 1, 20, .inl (zc t_rightOf))), ((t 8), .inl (κ 1, 20, .inl (zc t_rightValue))), ((t 9), .inl (κ 1, 20, .inl (zc t_knownValue)))]) s.heap.size = A at hD ⊢
  have hA : ∀ q : Nat, s.heap.size ≤ q → A q := fun q h => by rw [← hAe]; exact Or.inr h
  have hS : va_S A s.heap s.heap [] := va_S.rf
  have hl := lv_entry ([.ref (t 0)]) (n := 1) (Nat.le_of_ble_eq_true rfl)
  rw [lg_entry_eq]
  generalize (lg_sl ([.ref (t 0)]) ++ List.replicate (1 - (lg_sl ([.ref (t 0)])).length) Slot.unset).toArray = ls at hl ⊢
  have hl : lv_has ls 1 [(0, .ref (t 0))] := hl
  refine zs_X7_forget t t_size t_rights t_latest t_seenStep t_seenFrom t_seenTo t_seenValue t_timesRight t_rightStep t_rightOf t_rightValue t_knownValue  hx hb hml hown hts hK hA s.heap [] ls hP hD hS hl ⟨out, h, ?_⟩
  exact fun H locs ls pc hP hD hS hd => W.vret hx hb hr (fun t ht hW => ⟨⟨(), rfl, trivial, by rw [ht]; exact hP, va_K.moved hW.alike hK, hD⟩, hS.F ht⟩) hS.2.2 hd
/-! DiamondRows$Sightings.add(IIII)I -/
abbrev zr_X7_add : Room := { frames := 0, cells := 0, slots := 0, locals := 0 }
noncomputable def zf_X7_add  (t_size : Int) (t_latest : Int) (t_seenStep : Nat) (t_seenFrom : Nat) (t_seenTo : Nat) (t_seenValue : Nat) (t_timesRight : Nat) (i1 : Int) (i2 : Int) (i3 : Int) (i4 : Int) : Option (Int × Int × Int × Nat × Nat × Nat × Nat × Nat) :=
  if zout t_size then none else
  if t_size < (20 : Int) then
  if t_size < 0 ∨ 20 ≤ t_size then none else
  some (((t_size + (1 : Int)) - (1 : Int)), (t_size + (1 : Int)), i1, (zset t_seenStep (Int.toNat t_size) i1), (zset t_seenFrom (Int.toNat t_size) i2), (zset t_seenTo (Int.toNat t_size) i3), (zset t_seenValue (Int.toNat t_size) i4), (zset t_timesRight (Int.toNat t_size) (0 : Int)))
  else
  some ((-3 : Int), t_size, t_latest, t_seenStep, t_seenFrom, t_seenTo, t_seenValue, t_timesRight)
theorem zi_X7_add_X7 : ∀ w ∈ u_ws RX7 TX7 12, w ∈ wsX7_add := by decide +kernel
theorem zl_X7_add_11 : Cond.fieldLink RX7 11 "DiamondRows$Sightings" "seenStep" "[I" ∈ wsX7_add := by decide +kernel
theorem zl_X7_add_15 : Cond.fieldLink RX7 15 "DiamondRows$Sightings" "seenFrom" "[I" ∈ wsX7_add := by decide +kernel
theorem zl_X7_add_18 : Cond.fieldLink RX7 18 "DiamondRows$Sightings" "seenTo" "[I" ∈ wsX7_add := by decide +kernel
theorem zl_X7_add_21 : Cond.fieldLink RX7 21 "DiamondRows$Sightings" "seenValue" "[I" ∈ wsX7_add := by decide +kernel
theorem zl_X7_add_24 : Cond.fieldLink RX7 24 "DiamondRows$Sightings" "timesRight" "[I" ∈ wsX7_add := by decide +kernel
theorem zl_X7_add_39 : Cond.fieldLink RX7 39 "DiamondRows$Sightings" "size" "I" ∈ wsX7_add := by decide +kernel
theorem zl_X7_add_50 : Cond.fieldLink RX7 50 "DiamondRows$Sightings" "latest" "I" ∈ wsX7_add := by decide +kernel
def zQ_X7_add (p : Program) (l : Launch) (e : Env) (s : State) (m : MethodId) (args : Array Value) (below : List Frame) (meth : Method) (c : Code) (Q : State → Prop) (D : va_G) (κ : Nat → ClassId) (A : Nat → Prop) (H0 : Heap) (t : Nat → Nat) (t_rights : Int) (t_rightStep : Nat) (t_rightOf : Nat) (t_rightValue : Nat) (t_knownValue : Nat) (o : Int × Int × Int × Nat × Nat × Nat × Nat × Nat) : Prop := ∀ (H : Heap) (locs : List Loc) (ls : Array Slot) (pc : Nat), va_P D vwCl ([((t 0), .inr (7, [.ref (t 1), .ref (t 2), .ref (t 3), .ref (t 4), .ref (t 5), .ref (t 6), .ref (t 7), .ref (t 8), .ref (t 9), .int (zi (o.2.1)), .int (zi t_rights), .int (zi (o.2.2.1))])), ((t 1), .inl (κ 1, 20, .inl (zc (o.2.2.2.1)))), ((t 2), .inl (κ 1, 20, .inl (zc (o.2.2.2.2.1)))), ((t 3), .inl (κ 1, 20, .inl (zc (o.2.2.2.2.2.1)))), ((t 4), .inl (κ 1, 20, .inl (zc (o.2.2.2.2.2.2.1)))), ((t 5), .inl (κ 1, 20, .inl (zc (o.2.2.2.2.2.2.2)))), ((t 6), .inl (κ 1, 20, .inl (zc t_rightStep))), ((t 7), .inl (κ 1, 20, .inl (zc t_rightOf))), ((t 8), .inl (κ 1, 20, .inl (zc t_rightValue))), ((t 9), .inl (κ 1, 20, .inl (zc t_knownValue)))]) H → va_D A ([((t 0), .inr (7, [.ref (t 1), .ref (t 2), .ref (t 3), .ref (t 4), .ref (t 5), .ref (t 6), .ref (t 7), .ref (t 8), .ref (t 9), .int (zi (o.2.1)), .int (zi t_rights), .int (zi (o.2.2.1))])), ((t 1), .inl (κ 1, 20, .inl (zc (o.2.2.2.1)))), ((t 2), .inl (κ 1, 20, .inl (zc (o.2.2.2.2.1)))), ((t 3), .inl (κ 1, 20, .inl (zc (o.2.2.2.2.2.1)))), ((t 4), .inl (κ 1, 20, .inl (zc (o.2.2.2.2.2.2.1)))), ((t 5), .inl (κ 1, 20, .inl (zc (o.2.2.2.2.2.2.2)))), ((t 6), .inl (κ 1, 20, .inl (zc t_rightStep))), ((t 7), .inl (κ 1, 20, .inl (zc t_rightOf))), ((t 8), .inl (κ 1, 20, .inl (zc t_rightValue))), ((t 9), .inl (κ 1, 20, .inl (zc t_knownValue)))]) → va_S A H0 H locs → decode cX7_add pc = .ok (.ireturn, 1) → W p l e zr_X7_add s m args below meth c H locs 0 0 Q (F0 m pc ls [.int (zi (o.1))])
set_option maxHeartbeats 4000000 in
set_option maxRecDepth 100000 in
theorem zs_X7_add {p : Program} {l : Launch} {e : Env} {s : State} {m : MethodId} {args : Array Value} {below : List Frame} {meth : Method} {c : Code} {Q : State → Prop} {D : va_G} {κ : Nat → ClassId} {A : Nat → Prop} {H0 : Heap} (t : Nat → Nat) (t_size : Int) (t_rights : Int) (t_latest : Int) (t_seenStep : Nat) (t_seenFrom : Nat) (t_seenTo : Nat) (t_seenValue : Nat) (t_timesRight : Nat) (t_rightStep : Nat) (t_rightOf : Nat) (t_rightValue : Nat) (t_knownValue : Nat) (i1 : Int) (i2 : Int) (i3 : Int) (i4 : Int) (hx : p.tables.exec = Jvm.exec) (hb : c.code = cX7_add) (hml : c.maxLocals = 5) (hown : s.vm.findClass RX7 = some m.cls) (hts : ∀ w ∈ wsX7_add, w.before args s = true) (hK : va_K D vwCl (zTY κ) s) (hA : ∀ q : Nat, H0.size ≤ q → A q) (H : Heap) (locs : List Loc) (ls : Array Slot) (hP : va_P D vwCl ([((t 0), .inr (7, [.ref (t 1), .ref (t 2), .ref (t 3), .ref (t 4), .ref (t 5), .ref (t 6), .ref (t 7), .ref (t 8), .ref (t 9), .int (zi t_size), .int (zi t_rights), .int (zi t_latest)])), ((t 1), .inl (κ 1, 20, .inl (zc t_seenStep))), ((t 2), .inl (κ 1, 20, .inl (zc t_seenFrom))), ((t 3), .inl (κ 1, 20, .inl (zc t_seenTo))), ((t 4), .inl (κ 1, 20, .inl (zc t_seenValue))), ((t 5), .inl (κ 1, 20, .inl (zc t_timesRight))), ((t 6), .inl (κ 1, 20, .inl (zc t_rightStep))), ((t 7), .inl (κ 1, 20, .inl (zc t_rightOf))), ((t 8), .inl (κ 1, 20, .inl (zc t_rightValue))), ((t 9), .inl (κ 1, 20, .inl (zc t_knownValue)))]) H) (hD : va_D A ([((t 0), .inr (7, [.ref (t 1), .ref (t 2), .ref (t 3), .ref (t 4), .ref (t 5), .ref (t 6), .ref (t 7), .ref (t 8), .ref (t 9), .int (zi t_size), .int (zi t_rights), .int (zi t_latest)])), ((t 1), .inl (κ 1, 20, .inl (zc t_seenStep))), ((t 2), .inl (κ 1, 20, .inl (zc t_seenFrom))), ((t 3), .inl (κ 1, 20, .inl (zc t_seenTo))), ((t 4), .inl (κ 1, 20, .inl (zc t_seenValue))), ((t 5), .inl (κ 1, 20, .inl (zc t_timesRight))), ((t 6), .inl (κ 1, 20, .inl (zc t_rightStep))), ((t 7), .inl (κ 1, 20, .inl (zc t_rightOf))), ((t 8), .inl (κ 1, 20, .inl (zc t_rightValue))), ((t 9), .inl (κ 1, 20, .inl (zc t_knownValue)))])) (hS : va_S A H0 H locs) (hl : lv_has ls 5 [(0, .ref (t 0)), (1, .int (zi i1)), (2, .int (zi i2)), (3, .int (zi i3)), (4, .int (zi i4))]) (hg : Go (zQ_X7_add p l e s m args below meth c Q D κ A H0 t t_rights t_rightStep t_rightOf t_rightValue t_knownValue) (zf_X7_add t_size t_latest t_seenStep t_seenFrom t_seenTo t_seenValue t_timesRight i1 i2 i3 i4)) : W p l e zr_X7_add s m args below meth c H locs 0 0 Q (F0 m 0 ls []) := by
  unfold zf_X7_add at hg
  refine lv_aload_n hx hb dX7_add_0 rfl (lv_at hl 0 rfl) ?_
  refine va_get (D := D) (ci := 7) (v := .int (zi t_size)) (C := RX7) (T := TX7) (N := 12) hx hb hts zi_X7_add_X7 hown hK hP 0 rfl rfl 9 (by decide) (hts (.fieldLink RX7 39 "DiamondRows$Sightings" "size" "I") zl_X7_add_39) (fun _ h9 => h9) rfl dX7_add_1 ?_
  refine zv_bipush hx hb dX7_add_4 (by decide) ?_
  obtain ⟨b1, hg⟩ := Go_n hg
  refine zv_icmp_lt (tgt := 12) hx hb dX7_add_6 (by decide) b1 (by decide) (fun c3 => ?_) (fun c3 => ?_)
  · have hg := Go_t c3 hg
    refine lv_aload_n hx hb dX7_add_12 rfl (lv_at hl 0 rfl) ?_
    refine va_get (D := D) (ci := 7) (v := .ref (t 1)) (C := RX7) (T := TX7) (N := 12) hx hb hts zi_X7_add_X7 hown hK hP 0 rfl rfl 0 (by decide) (hts (.fieldLink RX7 11 "DiamondRows$Sightings" "seenStep" "[I") zl_X7_add_11) (fun _ h9 => h9) rfl dX7_add_13 ?_
    refine lv_aload_n hx hb dX7_add_16 rfl (lv_at hl 0 rfl) ?_
    refine va_get (D := D) (ci := 7) (v := .int (zi t_size)) (C := RX7) (T := TX7) (N := 12) hx hb hts zi_X7_add_X7 hown hK hP 0 rfl rfl 9 (by decide) (hts (.fieldLink RX7 39 "DiamondRows$Sightings" "size" "I") zl_X7_add_39) (fun _ h9 => h9) rfl dX7_add_17 ?_
    refine lv_iload_n hx hb dX7_add_20 rfl (lv_at hl 1 rfl) ?_
    obtain ⟨n2, hg⟩ := Go_n hg
    refine zv_iast hx hb hK hP hD hS 1 1 rfl rfl (by decide) n2 dX7_add_21 (fun H locs hP hD hS => ?_)
    have hP : va_P D vwCl ([((t 0), .inr (7, [.ref (t 1), .ref (t 2), .ref (t 3), .ref (t 4), .ref (t 5), .ref (t 6), .ref (t 7), .ref (t 8), .ref (t 9), .int (zi t_size), .int (zi t_rights), .int (zi t_latest)])), ((t 1), .inl (κ 1, 20, .inl (zc (zset t_seenStep (Int.toNat t_size) i1)))), ((t 2), .inl (κ 1, 20, .inl (zc t_seenFrom))), ((t 3), .inl (κ 1, 20, .inl (zc t_seenTo))), ((t 4), .inl (κ 1, 20, .inl (zc t_seenValue))), ((t 5), .inl (κ 1, 20, .inl (zc t_timesRight))), ((t 6), .inl (κ 1, 20, .inl (zc t_rightStep))), ((t 7), .inl (κ 1, 20, .inl (zc t_rightOf))), ((t 8), .inl (κ 1, 20, .inl (zc t_rightValue))), ((t 9), .inl (κ 1, 20, .inl (zc t_knownValue)))]) H := hP
    have hD : va_D A ([((t 0), .inr (7, [.ref (t 1), .ref (t 2), .ref (t 3), .ref (t 4), .ref (t 5), .ref (t 6), .ref (t 7), .ref (t 8), .ref (t 9), .int (zi t_size), .int (zi t_rights), .int (zi t_latest)])), ((t 1), .inl (κ 1, 20, .inl (zc (zset t_seenStep (Int.toNat t_size) i1)))), ((t 2), .inl (κ 1, 20, .inl (zc t_seenFrom))), ((t 3), .inl (κ 1, 20, .inl (zc t_seenTo))), ((t 4), .inl (κ 1, 20, .inl (zc t_seenValue))), ((t 5), .inl (κ 1, 20, .inl (zc t_timesRight))), ((t 6), .inl (κ 1, 20, .inl (zc t_rightStep))), ((t 7), .inl (κ 1, 20, .inl (zc t_rightOf))), ((t 8), .inl (κ 1, 20, .inl (zc t_rightValue))), ((t 9), .inl (κ 1, 20, .inl (zc t_knownValue)))]) := hD
    refine lv_aload_n hx hb dX7_add_22 rfl (lv_at hl 0 rfl) ?_
    refine va_get (D := D) (ci := 7) (v := .ref (t 2)) (C := RX7) (T := TX7) (N := 12) hx hb hts zi_X7_add_X7 hown hK hP 0 rfl rfl 1 (by decide) (hts (.fieldLink RX7 15 "DiamondRows$Sightings" "seenFrom" "[I") zl_X7_add_15) (fun _ h9 => h9) rfl dX7_add_23 ?_
    refine lv_aload_n hx hb dX7_add_26 rfl (lv_at hl 0 rfl) ?_
    refine va_get (D := D) (ci := 7) (v := .int (zi t_size)) (C := RX7) (T := TX7) (N := 12) hx hb hts zi_X7_add_X7 hown hK hP 0 rfl rfl 9 (by decide) (hts (.fieldLink RX7 39 "DiamondRows$Sightings" "size" "I") zl_X7_add_39) (fun _ h9 => h9) rfl dX7_add_27 ?_
    refine lv_iload_n hx hb dX7_add_30 rfl (lv_at hl 2 rfl) ?_
    refine zv_iast hx hb hK hP hD hS 2 1 rfl rfl (by decide) n2 dX7_add_31 (fun H locs hP hD hS => ?_)
    have hP : va_P D vwCl ([((t 0), .inr (7, [.ref (t 1), .ref (t 2), .ref (t 3), .ref (t 4), .ref (t 5), .ref (t 6), .ref (t 7), .ref (t 8), .ref (t 9), .int (zi t_size), .int (zi t_rights), .int (zi t_latest)])), ((t 1), .inl (κ 1, 20, .inl (zc (zset t_seenStep (Int.toNat t_size) i1)))), ((t 2), .inl (κ 1, 20, .inl (zc (zset t_seenFrom (Int.toNat t_size) i2)))), ((t 3), .inl (κ 1, 20, .inl (zc t_seenTo))), ((t 4), .inl (κ 1, 20, .inl (zc t_seenValue))), ((t 5), .inl (κ 1, 20, .inl (zc t_timesRight))), ((t 6), .inl (κ 1, 20, .inl (zc t_rightStep))), ((t 7), .inl (κ 1, 20, .inl (zc t_rightOf))), ((t 8), .inl (κ 1, 20, .inl (zc t_rightValue))), ((t 9), .inl (κ 1, 20, .inl (zc t_knownValue)))]) H := hP
    have hD : va_D A ([((t 0), .inr (7, [.ref (t 1), .ref (t 2), .ref (t 3), .ref (t 4), .ref (t 5), .ref (t 6), .ref (t 7), .ref (t 8), .ref (t 9), .int (zi t_size), .int (zi t_rights), .int (zi t_latest)])), ((t 1), .inl (κ 1, 20, .inl (zc (zset t_seenStep (Int.toNat t_size) i1)))), ((t 2), .inl (κ 1, 20, .inl (zc (zset t_seenFrom (Int.toNat t_size) i2)))), ((t 3), .inl (κ 1, 20, .inl (zc t_seenTo))), ((t 4), .inl (κ 1, 20, .inl (zc t_seenValue))), ((t 5), .inl (κ 1, 20, .inl (zc t_timesRight))), ((t 6), .inl (κ 1, 20, .inl (zc t_rightStep))), ((t 7), .inl (κ 1, 20, .inl (zc t_rightOf))), ((t 8), .inl (κ 1, 20, .inl (zc t_rightValue))), ((t 9), .inl (κ 1, 20, .inl (zc t_knownValue)))]) := hD
    refine lv_aload_n hx hb dX7_add_32 rfl (lv_at hl 0 rfl) ?_
    refine va_get (D := D) (ci := 7) (v := .ref (t 3)) (C := RX7) (T := TX7) (N := 12) hx hb hts zi_X7_add_X7 hown hK hP 0 rfl rfl 2 (by decide) (hts (.fieldLink RX7 18 "DiamondRows$Sightings" "seenTo" "[I") zl_X7_add_18) (fun _ h9 => h9) rfl dX7_add_33 ?_
    refine lv_aload_n hx hb dX7_add_36 rfl (lv_at hl 0 rfl) ?_
    refine va_get (D := D) (ci := 7) (v := .int (zi t_size)) (C := RX7) (T := TX7) (N := 12) hx hb hts zi_X7_add_X7 hown hK hP 0 rfl rfl 9 (by decide) (hts (.fieldLink RX7 39 "DiamondRows$Sightings" "size" "I") zl_X7_add_39) (fun _ h9 => h9) rfl dX7_add_37 ?_
    refine lv_iload_n hx hb dX7_add_40 rfl (lv_at hl 3 rfl) ?_
    refine zv_iast hx hb hK hP hD hS 3 1 rfl rfl (by decide) n2 dX7_add_41 (fun H locs hP hD hS => ?_)
    have hP : va_P D vwCl ([((t 0), .inr (7, [.ref (t 1), .ref (t 2), .ref (t 3), .ref (t 4), .ref (t 5), .ref (t 6), .ref (t 7), .ref (t 8), .ref (t 9), .int (zi t_size), .int (zi t_rights), .int (zi t_latest)])), ((t 1), .inl (κ 1, 20, .inl (zc (zset t_seenStep (Int.toNat t_size) i1)))), ((t 2), .inl (κ 1, 20, .inl (zc (zset t_seenFrom (Int.toNat t_size) i2)))), ((t 3), .inl (κ 1, 20, .inl (zc (zset t_seenTo (Int.toNat t_size) i3)))), ((t 4), .inl (κ 1, 20, .inl (zc t_seenValue))), ((t 5), .inl (κ 1, 20, .inl (zc t_timesRight))), ((t 6), .inl (κ 1, 20, .inl (zc t_rightStep))), ((t 7), .inl (κ 1, 20, .inl (zc t_rightOf))), ((t 8), .inl (κ 1, 20, .inl (zc t_rightValue))), ((t 9), .inl (κ 1, 20, .inl (zc t_knownValue)))]) H := hP
    have hD : va_D A ([((t 0), .inr (7, [.ref (t 1), .ref (t 2), .ref (t 3), .ref (t 4), .ref (t 5), .ref (t 6), .ref (t 7), .ref (t 8), .ref (t 9), .int (zi t_size), .int (zi t_rights), .int (zi t_latest)])), ((t 1), .inl (κ 1, 20, .inl (zc (zset t_seenStep (Int.toNat t_size) i1)))), ((t 2), .inl (κ 1, 20, .inl (zc (zset t_seenFrom (Int.toNat t_size) i2)))), ((t 3), .inl (κ 1, 20, .inl (zc (zset t_seenTo (Int.toNat t_size) i3)))), ((t 4), .inl (κ 1, 20, .inl (zc t_seenValue))), ((t 5), .inl (κ 1, 20, .inl (zc t_timesRight))), ((t 6), .inl (κ 1, 20, .inl (zc t_rightStep))), ((t 7), .inl (κ 1, 20, .inl (zc t_rightOf))), ((t 8), .inl (κ 1, 20, .inl (zc t_rightValue))), ((t 9), .inl (κ 1, 20, .inl (zc t_knownValue)))]) := hD
    refine lv_aload_n hx hb dX7_add_42 rfl (lv_at hl 0 rfl) ?_
    refine va_get (D := D) (ci := 7) (v := .ref (t 4)) (C := RX7) (T := TX7) (N := 12) hx hb hts zi_X7_add_X7 hown hK hP 0 rfl rfl 3 (by decide) (hts (.fieldLink RX7 21 "DiamondRows$Sightings" "seenValue" "[I") zl_X7_add_21) (fun _ h9 => h9) rfl dX7_add_43 ?_
    refine lv_aload_n hx hb dX7_add_46 rfl (lv_at hl 0 rfl) ?_
    refine va_get (D := D) (ci := 7) (v := .int (zi t_size)) (C := RX7) (T := TX7) (N := 12) hx hb hts zi_X7_add_X7 hown hK hP 0 rfl rfl 9 (by decide) (hts (.fieldLink RX7 39 "DiamondRows$Sightings" "size" "I") zl_X7_add_39) (fun _ h9 => h9) rfl dX7_add_47 ?_
    refine lv_iload hx hb dX7_add_50 (lv_at hl 4 rfl) ?_
    refine zv_iast hx hb hK hP hD hS 4 1 rfl rfl (by decide) n2 dX7_add_52 (fun H locs hP hD hS => ?_)
    have hP : va_P D vwCl ([((t 0), .inr (7, [.ref (t 1), .ref (t 2), .ref (t 3), .ref (t 4), .ref (t 5), .ref (t 6), .ref (t 7), .ref (t 8), .ref (t 9), .int (zi t_size), .int (zi t_rights), .int (zi t_latest)])), ((t 1), .inl (κ 1, 20, .inl (zc (zset t_seenStep (Int.toNat t_size) i1)))), ((t 2), .inl (κ 1, 20, .inl (zc (zset t_seenFrom (Int.toNat t_size) i2)))), ((t 3), .inl (κ 1, 20, .inl (zc (zset t_seenTo (Int.toNat t_size) i3)))), ((t 4), .inl (κ 1, 20, .inl (zc (zset t_seenValue (Int.toNat t_size) i4)))), ((t 5), .inl (κ 1, 20, .inl (zc t_timesRight))), ((t 6), .inl (κ 1, 20, .inl (zc t_rightStep))), ((t 7), .inl (κ 1, 20, .inl (zc t_rightOf))), ((t 8), .inl (κ 1, 20, .inl (zc t_rightValue))), ((t 9), .inl (κ 1, 20, .inl (zc t_knownValue)))]) H := hP
    have hD : va_D A ([((t 0), .inr (7, [.ref (t 1), .ref (t 2), .ref (t 3), .ref (t 4), .ref (t 5), .ref (t 6), .ref (t 7), .ref (t 8), .ref (t 9), .int (zi t_size), .int (zi t_rights), .int (zi t_latest)])), ((t 1), .inl (κ 1, 20, .inl (zc (zset t_seenStep (Int.toNat t_size) i1)))), ((t 2), .inl (κ 1, 20, .inl (zc (zset t_seenFrom (Int.toNat t_size) i2)))), ((t 3), .inl (κ 1, 20, .inl (zc (zset t_seenTo (Int.toNat t_size) i3)))), ((t 4), .inl (κ 1, 20, .inl (zc (zset t_seenValue (Int.toNat t_size) i4)))), ((t 5), .inl (κ 1, 20, .inl (zc t_timesRight))), ((t 6), .inl (κ 1, 20, .inl (zc t_rightStep))), ((t 7), .inl (κ 1, 20, .inl (zc t_rightOf))), ((t 8), .inl (κ 1, 20, .inl (zc t_rightValue))), ((t 9), .inl (κ 1, 20, .inl (zc t_knownValue)))]) := hD
    refine lv_aload_n hx hb dX7_add_53 rfl (lv_at hl 0 rfl) ?_
    refine va_get (D := D) (ci := 7) (v := .ref (t 5)) (C := RX7) (T := TX7) (N := 12) hx hb hts zi_X7_add_X7 hown hK hP 0 rfl rfl 4 (by decide) (hts (.fieldLink RX7 24 "DiamondRows$Sightings" "timesRight" "[I") zl_X7_add_24) (fun _ h9 => h9) rfl dX7_add_54 ?_
    refine lv_aload_n hx hb dX7_add_57 rfl (lv_at hl 0 rfl) ?_
    refine va_get (D := D) (ci := 7) (v := .int (zi t_size)) (C := RX7) (T := TX7) (N := 12) hx hb hts zi_X7_add_X7 hown hK hP 0 rfl rfl 9 (by decide) (hts (.fieldLink RX7 39 "DiamondRows$Sightings" "size" "I") zl_X7_add_39) (fun _ h9 => h9) rfl dX7_add_58 ?_
    refine zv_iconst hx hb dX7_add_61 ?_
    refine zv_iast hx hb hK hP hD hS 5 1 rfl rfl (by decide) n2 dX7_add_62 (fun H locs hP hD hS => ?_)
    have hP : va_P D vwCl ([((t 0), .inr (7, [.ref (t 1), .ref (t 2), .ref (t 3), .ref (t 4), .ref (t 5), .ref (t 6), .ref (t 7), .ref (t 8), .ref (t 9), .int (zi t_size), .int (zi t_rights), .int (zi t_latest)])), ((t 1), .inl (κ 1, 20, .inl (zc (zset t_seenStep (Int.toNat t_size) i1)))), ((t 2), .inl (κ 1, 20, .inl (zc (zset t_seenFrom (Int.toNat t_size) i2)))), ((t 3), .inl (κ 1, 20, .inl (zc (zset t_seenTo (Int.toNat t_size) i3)))), ((t 4), .inl (κ 1, 20, .inl (zc (zset t_seenValue (Int.toNat t_size) i4)))), ((t 5), .inl (κ 1, 20, .inl (zc (zset t_timesRight (Int.toNat t_size) (0 : Int))))), ((t 6), .inl (κ 1, 20, .inl (zc t_rightStep))), ((t 7), .inl (κ 1, 20, .inl (zc t_rightOf))), ((t 8), .inl (κ 1, 20, .inl (zc t_rightValue))), ((t 9), .inl (κ 1, 20, .inl (zc t_knownValue)))]) H := hP
    have hD : va_D A ([((t 0), .inr (7, [.ref (t 1), .ref (t 2), .ref (t 3), .ref (t 4), .ref (t 5), .ref (t 6), .ref (t 7), .ref (t 8), .ref (t 9), .int (zi t_size), .int (zi t_rights), .int (zi t_latest)])), ((t 1), .inl (κ 1, 20, .inl (zc (zset t_seenStep (Int.toNat t_size) i1)))), ((t 2), .inl (κ 1, 20, .inl (zc (zset t_seenFrom (Int.toNat t_size) i2)))), ((t 3), .inl (κ 1, 20, .inl (zc (zset t_seenTo (Int.toNat t_size) i3)))), ((t 4), .inl (κ 1, 20, .inl (zc (zset t_seenValue (Int.toNat t_size) i4)))), ((t 5), .inl (κ 1, 20, .inl (zc (zset t_timesRight (Int.toNat t_size) (0 : Int))))), ((t 6), .inl (κ 1, 20, .inl (zc t_rightStep))), ((t 7), .inl (κ 1, 20, .inl (zc t_rightOf))), ((t 8), .inl (κ 1, 20, .inl (zc t_rightValue))), ((t 9), .inl (κ 1, 20, .inl (zc t_knownValue)))]) := hD
    refine lv_aload_n hx hb dX7_add_63 rfl (lv_at hl 0 rfl) ?_
    refine lv_iload_n hx hb dX7_add_64 rfl (lv_at hl 1 rfl) ?_
    refine va_put (D := D) (ci := 7) (v := .int (zi i1)) (ty := .int) (C := RX7) (T := TX7) (N := 12) hx hb hts zi_X7_add_X7 tyX7 tyX7_ok nmX7 hown hK hP hD hS 0 rfl rfl 11 (by decide) (hts (.fieldLink RX7 50 "DiamondRows$Sightings" "latest" "I") zl_X7_add_50) (fun _ h9 => h9) rfl (by decide +kernel) rfl rfl (Nat.le_of_ble_eq_true rfl) dX7_add_65 (fun H locs hP hD hS => ?_)
    have hP : va_P D vwCl ([((t 0), .inr (7, [.ref (t 1), .ref (t 2), .ref (t 3), .ref (t 4), .ref (t 5), .ref (t 6), .ref (t 7), .ref (t 8), .ref (t 9), .int (zi t_size), .int (zi t_rights), .int (zi i1)])), ((t 1), .inl (κ 1, 20, .inl (zc (zset t_seenStep (Int.toNat t_size) i1)))), ((t 2), .inl (κ 1, 20, .inl (zc (zset t_seenFrom (Int.toNat t_size) i2)))), ((t 3), .inl (κ 1, 20, .inl (zc (zset t_seenTo (Int.toNat t_size) i3)))), ((t 4), .inl (κ 1, 20, .inl (zc (zset t_seenValue (Int.toNat t_size) i4)))), ((t 5), .inl (κ 1, 20, .inl (zc (zset t_timesRight (Int.toNat t_size) (0 : Int))))), ((t 6), .inl (κ 1, 20, .inl (zc t_rightStep))), ((t 7), .inl (κ 1, 20, .inl (zc t_rightOf))), ((t 8), .inl (κ 1, 20, .inl (zc t_rightValue))), ((t 9), .inl (κ 1, 20, .inl (zc t_knownValue)))]) H := hP
    have hD : va_D A ([((t 0), .inr (7, [.ref (t 1), .ref (t 2), .ref (t 3), .ref (t 4), .ref (t 5), .ref (t 6), .ref (t 7), .ref (t 8), .ref (t 9), .int (zi t_size), .int (zi t_rights), .int (zi i1)])), ((t 1), .inl (κ 1, 20, .inl (zc (zset t_seenStep (Int.toNat t_size) i1)))), ((t 2), .inl (κ 1, 20, .inl (zc (zset t_seenFrom (Int.toNat t_size) i2)))), ((t 3), .inl (κ 1, 20, .inl (zc (zset t_seenTo (Int.toNat t_size) i3)))), ((t 4), .inl (κ 1, 20, .inl (zc (zset t_seenValue (Int.toNat t_size) i4)))), ((t 5), .inl (κ 1, 20, .inl (zc (zset t_timesRight (Int.toNat t_size) (0 : Int))))), ((t 6), .inl (κ 1, 20, .inl (zc t_rightStep))), ((t 7), .inl (κ 1, 20, .inl (zc t_rightOf))), ((t 8), .inl (κ 1, 20, .inl (zc t_rightValue))), ((t 9), .inl (κ 1, 20, .inl (zc t_knownValue)))]) := hD
    refine lv_aload_n hx hb dX7_add_68 rfl (lv_at hl 0 rfl) ?_
    refine lv_dup hx hb dX7_add_69 rfl ?_
    refine va_get (D := D) (ci := 7) (v := .int (zi t_size)) (C := RX7) (T := TX7) (N := 12) hx hb hts zi_X7_add_X7 hown hK hP 0 rfl rfl 9 (by decide) (hts (.fieldLink RX7 39 "DiamondRows$Sightings" "size" "I") zl_X7_add_39) (fun _ h9 => h9) rfl dX7_add_70 ?_
    refine zv_iconst hx hb dX7_add_73 ?_
    refine zv_iadd hx hb dX7_add_74 ?_
    refine va_put (D := D) (ci := 7) (v := .int (zi (t_size + (1 : Int)))) (ty := .int) (C := RX7) (T := TX7) (N := 12) hx hb hts zi_X7_add_X7 tyX7 tyX7_ok nmX7 hown hK hP hD hS 0 rfl rfl 9 (by decide) (hts (.fieldLink RX7 39 "DiamondRows$Sightings" "size" "I") zl_X7_add_39) (fun _ h9 => h9) rfl (by decide +kernel) rfl rfl (Nat.le_of_ble_eq_true rfl) dX7_add_75 (fun H locs hP hD hS => ?_)
    have hP : va_P D vwCl ([((t 0), .inr (7, [.ref (t 1), .ref (t 2), .ref (t 3), .ref (t 4), .ref (t 5), .ref (t 6), .ref (t 7), .ref (t 8), .ref (t 9), .int (zi (t_size + (1 : Int))), .int (zi t_rights), .int (zi i1)])), ((t 1), .inl (κ 1, 20, .inl (zc (zset t_seenStep (Int.toNat t_size) i1)))), ((t 2), .inl (κ 1, 20, .inl (zc (zset t_seenFrom (Int.toNat t_size) i2)))), ((t 3), .inl (κ 1, 20, .inl (zc (zset t_seenTo (Int.toNat t_size) i3)))), ((t 4), .inl (κ 1, 20, .inl (zc (zset t_seenValue (Int.toNat t_size) i4)))), ((t 5), .inl (κ 1, 20, .inl (zc (zset t_timesRight (Int.toNat t_size) (0 : Int))))), ((t 6), .inl (κ 1, 20, .inl (zc t_rightStep))), ((t 7), .inl (κ 1, 20, .inl (zc t_rightOf))), ((t 8), .inl (κ 1, 20, .inl (zc t_rightValue))), ((t 9), .inl (κ 1, 20, .inl (zc t_knownValue)))]) H := hP
    have hD : va_D A ([((t 0), .inr (7, [.ref (t 1), .ref (t 2), .ref (t 3), .ref (t 4), .ref (t 5), .ref (t 6), .ref (t 7), .ref (t 8), .ref (t 9), .int (zi (t_size + (1 : Int))), .int (zi t_rights), .int (zi i1)])), ((t 1), .inl (κ 1, 20, .inl (zc (zset t_seenStep (Int.toNat t_size) i1)))), ((t 2), .inl (κ 1, 20, .inl (zc (zset t_seenFrom (Int.toNat t_size) i2)))), ((t 3), .inl (κ 1, 20, .inl (zc (zset t_seenTo (Int.toNat t_size) i3)))), ((t 4), .inl (κ 1, 20, .inl (zc (zset t_seenValue (Int.toNat t_size) i4)))), ((t 5), .inl (κ 1, 20, .inl (zc (zset t_timesRight (Int.toNat t_size) (0 : Int))))), ((t 6), .inl (κ 1, 20, .inl (zc t_rightStep))), ((t 7), .inl (κ 1, 20, .inl (zc t_rightOf))), ((t 8), .inl (κ 1, 20, .inl (zc t_rightValue))), ((t 9), .inl (κ 1, 20, .inl (zc t_knownValue)))]) := hD
    refine lv_aload_n hx hb dX7_add_78 rfl (lv_at hl 0 rfl) ?_
    refine va_get (D := D) (ci := 7) (v := .int (zi (t_size + (1 : Int)))) (C := RX7) (T := TX7) (N := 12) hx hb hts zi_X7_add_X7 hown hK hP 0 rfl rfl 9 (by decide) (hts (.fieldLink RX7 39 "DiamondRows$Sightings" "size" "I") zl_X7_add_39) (fun _ h9 => h9) rfl dX7_add_79 ?_
    refine zv_iconst hx hb dX7_add_82 ?_
    refine zv_isub hx hb dX7_add_83 ?_
    exact (Go_s hg) _ _ _ _ hP hD hS dX7_add_84
  · have hg := Go_f c3 hg
    refine zv_bipush hx hb dX7_add_9 (by decide) ?_
    exact (Go_s hg) _ _ _ _ hP hD hS dX7_add_11
set_option maxHeartbeats 4000000 in
set_option maxRecDepth 100000 in
theorem zc_X7_add (l : Launch) (D : va_G) (κ : Nat → ClassId) (t : Nat → Nat) (sz : Nat) (t_size : Int) (t_rights : Int) (t_latest : Int) (t_seenStep : Nat) (t_seenFrom : Nat) (t_seenTo : Nat) (t_seenValue : Nat) (t_timesRight : Nat) (t_rightStep : Nat) (t_rightOf : Nat) (t_rightValue : Nat) (t_knownValue : Nat) (i1 : Int) (i2 : Int) (i3 : Int) (i4 : Int) (out : Int × Int × Int × Nat × Nat × Nat × Nat × Nat) (h : zf_X7_add t_size t_latest t_seenStep t_seenFrom t_seenTo t_seenValue t_timesRight i1 i2 i3 i4 = some out) : Met l yX7_add wsX7_add zr_X7_add (va_Pc [.ref (t 0), .int (zi i1), .int (zi i2), .int (zi i3), .int (zi i4)] (zW D κ ([((t 0), .inr (7, [.ref (t 1), .ref (t 2), .ref (t 3), .ref (t 4), .ref (t 5), .ref (t 6), .ref (t 7), .ref (t 8), .ref (t 9), .int (zi t_size), .int (zi t_rights), .int (zi t_latest)])), ((t 1), .inl (κ 1, 20, .inl (zc t_seenStep))), ((t 2), .inl (κ 1, 20, .inl (zc t_seenFrom))), ((t 3), .inl (κ 1, 20, .inl (zc t_seenTo))), ((t 4), .inl (κ 1, 20, .inl (zc t_seenValue))), ((t 5), .inl (κ 1, 20, .inl (zc t_timesRight))), ((t 6), .inl (κ 1, 20, .inl (zc t_rightStep))), ((t 7), .inl (κ 1, 20, .inl (zc t_rightOf))), ((t 8), .inl (κ 1, 20, .inl (zc t_rightValue))), ((t 9), .inl (κ 1, 20, .inl (zc t_knownValue)))]) sz)) (va_Qi (fun r (_ : Unit) => r = zi (out.1)) (fun _ => zB D κ (va_A ([((t 0), .inr (7, [.ref (t 1), .ref (t 2), .ref (t 3), .ref (t 4), .ref (t 5), .ref (t 6), .ref (t 7), .ref (t 8), .ref (t 9), .int (zi t_size), .int (zi t_rights), .int (zi t_latest)])), ((t 1), .inl (κ 1, 20, .inl (zc t_seenStep))), ((t 2), .inl (κ 1, 20, .inl (zc t_seenFrom))), ((t 3), .inl (κ 1, 20, .inl (zc t_seenTo))), ((t 4), .inl (κ 1, 20, .inl (zc t_seenValue))), ((t 5), .inl (κ 1, 20, .inl (zc t_timesRight))), ((t 6), .inl (κ 1, 20, .inl (zc t_rightStep))), ((t 7), .inl (κ 1, 20, .inl (zc t_rightOf))), ((t 8), .inl (κ 1, 20, .inl (zc t_rightValue))), ((t 9), .inl (κ 1, 20, .inl (zc t_knownValue)))]) sz) ([((t 0), .inr (7, [.ref (t 1), .ref (t 2), .ref (t 3), .ref (t 4), .ref (t 5), .ref (t 6), .ref (t 7), .ref (t 8), .ref (t 9), .int (zi (out.2.1)), .int (zi t_rights), .int (zi (out.2.2.1))])), ((t 1), .inl (κ 1, 20, .inl (zc (out.2.2.2.1)))), ((t 2), .inl (κ 1, 20, .inl (zc (out.2.2.2.2.1)))), ((t 3), .inl (κ 1, 20, .inl (zc (out.2.2.2.2.2.1)))), ((t 4), .inl (κ 1, 20, .inl (zc (out.2.2.2.2.2.2.1)))), ((t 5), .inl (κ 1, 20, .inl (zc (out.2.2.2.2.2.2.2)))), ((t 6), .inl (κ 1, 20, .inl (zc t_rightStep))), ((t 7), .inl (κ 1, 20, .inl (zc t_rightOf))), ((t 8), .inl (κ 1, 20, .inl (zc t_rightValue))), ((t 9), .inl (κ 1, 20, .inl (zc t_knownValue)))])) (va_A ([((t 0), .inr (7, [.ref (t 1), .ref (t 2), .ref (t 3), .ref (t 4), .ref (t 5), .ref (t 6), .ref (t 7), .ref (t 8), .ref (t 9), .int (zi t_size), .int (zi t_rights), .int (zi t_latest)])), ((t 1), .inl (κ 1, 20, .inl (zc t_seenStep))), ((t 2), .inl (κ 1, 20, .inl (zc t_seenFrom))), ((t 3), .inl (κ 1, 20, .inl (zc t_seenTo))), ((t 4), .inl (κ 1, 20, .inl (zc t_seenValue))), ((t 5), .inl (κ 1, 20, .inl (zc t_timesRight))), ((t 6), .inl (κ 1, 20, .inl (zc t_rightStep))), ((t 7), .inl (κ 1, 20, .inl (zc t_rightOf))), ((t 8), .inl (κ 1, 20, .inl (zc t_rightValue))), ((t 9), .inl (κ 1, 20, .inl (zc t_knownValue)))]) sz)) 0 0 (va_A ([((t 0), .inr (7, [.ref (t 1), .ref (t 2), .ref (t 3), .ref (t 4), .ref (t 5), .ref (t 6), .ref (t 7), .ref (t 8), .ref (t 9), .int (zi t_size), .int (zi t_rights), .int (zi t_latest)])), ((t 1), .inl (κ 1, 20, .inl (zc t_seenStep))), ((t 2), .inl (κ 1, 20, .inl (zc t_seenFrom))), ((t 3), .inl (κ 1, 20, .inl (zc t_seenTo))), ((t 4), .inl (κ 1, 20, .inl (zc t_seenValue))), ((t 5), .inl (κ 1, 20, .inl (zc t_timesRight))), ((t 6), .inl (κ 1, 20, .inl (zc t_rightStep))), ((t 7), .inl (κ 1, 20, .inl (zc t_rightOf))), ((t 8), .inl (κ 1, 20, .inl (zc t_rightValue))), ((t 9), .inl (κ 1, 20, .inl (zc t_knownValue)))]) sz) := by
  refine Met.ofW (cc := cX7_add) (maxL := 5) (ret := (some .int)) (by decide +kernel) rfl ?_
  intro p e s m args below meth c s₁ B hml hv
  obtain ⟨rfl, hsz, hP, hK, hD0⟩ := hv
  have hx := B.exec
  have hb := B.bytes
  have hr := B.returns
  have hts := atoms_spec (ws := wsX7_add) B.pre
  have hown : s.vm.findClass RX7 = some m.cls := findClass_of_methodNamed B.named
  have hlocks := B.notSynchronized
  subst hsz
  have hD := hD0.self (sz := s.heap.size)
  generalize hAe : va_A ([((t 0), .inr (7, [.ref (t 1), .ref (t 2), .ref (t 3), .ref (t 4), .ref (t 5), .ref (t 6), .ref (t 7), .ref (t 8), .ref (t 9), .int (zi t_size), .int (zi t_rights), .int (zi t_latest)])), ((t 1), .inl (κ 1, 20, .inl (zc t_seenStep))), ((t 2), .inl (κ 1, 20, .inl (zc t_seenFrom))), ((t 3), .inl (κ 1, 20, .inl (zc t_seenTo))), ((t 4), .inl (κ 1, 20, .inl (zc t_seenValue))), ((t 5), .inl (κ 1, 20, .inl (zc t_timesRight))), ((t 6), .inl (κ 1, 20, .inl (zc t_rightStep))), ((t 7), .inl (κ 1, 20, .inl (zc t_rightOf))), ((t 8), .inl (κ 1, 20, .inl (zc t_rightValue))), ((t 9), .inl (κ 1, 20, .inl (zc t_knownValue)))]) s.heap.size = A at hD ⊢
  have hA : ∀ q : Nat, s.heap.size ≤ q → A q := fun q h => by rw [← hAe]; exact Or.inr h
  have hS : va_S A s.heap s.heap [] := va_S.rf
  have hl := lv_entry ([.ref (t 0), .int (zi i1), .int (zi i2), .int (zi i3), .int (zi i4)]) (n := 5) (Nat.le_of_ble_eq_true rfl)
  rw [lg_entry_eq]
  generalize (lg_sl ([.ref (t 0), .int (zi i1), .int (zi i2), .int (zi i3), .int (zi i4)]) ++ List.replicate (5 - (lg_sl ([.ref (t 0), .int (zi i1), .int (zi i2), .int (zi i3), .int (zi i4)])).length) Slot.unset).toArray = ls at hl ⊢
  have hl : lv_has ls 5 [(0, .ref (t 0)), (1, .int (zi i1)), (2, .int (zi i2)), (3, .int (zi i3)), (4, .int (zi i4))] := hl
  refine zs_X7_add t t_size t_rights t_latest t_seenStep t_seenFrom t_seenTo t_seenValue t_timesRight t_rightStep t_rightOf t_rightValue t_knownValue i1 i2 i3 i4 hx hb hml hown hts hK hA s.heap [] ls hP hD hS hl ⟨out, h, ?_⟩
  exact fun H locs ls pc hP hD hS hd => W.iret hx hb hr (fun t ht hW => ⟨⟨_, (), rfl, rfl, by rw [ht]; exact hP, va_K.moved hW.alike hK, hD⟩, hS.F ht⟩) hS.2.2 hd
/-! DiamondRows$Sightings.putRight(III)I -/
abbrev zr_X7_putRight : Room := { frames := 1, cells := 0, slots := 0, locals := 21 }
noncomputable def zf_X7_putRight  (t_size : Int) (t_rights : Int) (t_latest : Int) (t_timesRight : Nat) (t_rightStep : Nat) (t_rightOf : Nat) (t_rightValue : Nat) (i1 : Int) (i2 : Int) (i3 : Int) : Option (Int × Int × Int × Nat × Nat × Nat × Nat) :=
  if zout t_rights then none else
  if (20 : Int) ≤ t_rights then
  some ((-3 : Int), t_rights, t_latest, t_timesRight, t_rightStep, t_rightOf, t_rightValue)
  else
  Option.bind (zf_X7_has t_size i2) (fun o2 =>
  if o2 = false then
  some ((-3 : Int), t_rights, t_latest, t_timesRight, t_rightStep, t_rightOf, t_rightValue)
  else
  if t_rights < 0 ∨ 20 ≤ t_rights then none else
  if i2 < 0 ∨ 20 ≤ i2 then none else
  some ((zget (zset t_timesRight (Int.toNat i2) ((zget t_timesRight (Int.toNat i2)) + (1 : Int))) (Int.toNat i2)), (t_rights + (1 : Int)), i1, (zset t_timesRight (Int.toNat i2) ((zget t_timesRight (Int.toNat i2)) + (1 : Int))), (zset t_rightStep (Int.toNat t_rights) i1), (zset t_rightOf (Int.toNat t_rights) i2), (zset t_rightValue (Int.toNat t_rights) i3)))
theorem zi_X7_putRight_X7 : ∀ w ∈ u_ws RX7 TX7 12, w ∈ wsX7_putRight := by decide +kernel
theorem zl_X7_putRight_24 : Cond.fieldLink RX7 24 "DiamondRows$Sightings" "timesRight" "[I" ∈ wsX7_putRight := by decide +kernel
theorem zl_X7_putRight_27 : Cond.fieldLink RX7 27 "DiamondRows$Sightings" "rightStep" "[I" ∈ wsX7_putRight := by decide +kernel
theorem zl_X7_putRight_30 : Cond.fieldLink RX7 30 "DiamondRows$Sightings" "rightOf" "[I" ∈ wsX7_putRight := by decide +kernel
theorem zl_X7_putRight_33 : Cond.fieldLink RX7 33 "DiamondRows$Sightings" "rightValue" "[I" ∈ wsX7_putRight := by decide +kernel
theorem zl_X7_putRight_43 : Cond.fieldLink RX7 43 "DiamondRows$Sightings" "rights" "I" ∈ wsX7_putRight := by decide +kernel
theorem zl_X7_putRight_50 : Cond.fieldLink RX7 50 "DiamondRows$Sightings" "latest" "I" ∈ wsX7_putRight := by decide +kernel
def zQ_X7_putRight (p : Program) (l : Launch) (e : Env) (s : State) (m : MethodId) (args : Array Value) (below : List Frame) (meth : Method) (c : Code) (Q : State → Prop) (D : va_G) (κ : Nat → ClassId) (A : Nat → Prop) (H0 : Heap) (t : Nat → Nat) (t_size : Int) (t_seenStep : Nat) (t_seenFrom : Nat) (t_seenTo : Nat) (t_seenValue : Nat) (t_knownValue : Nat) (o : Int × Int × Int × Nat × Nat × Nat × Nat) : Prop := ∀ (H : Heap) (locs : List Loc) (ls : Array Slot) (pc : Nat), va_P D vwCl ([((t 0), .inr (7, [.ref (t 1), .ref (t 2), .ref (t 3), .ref (t 4), .ref (t 5), .ref (t 6), .ref (t 7), .ref (t 8), .ref (t 9), .int (zi t_size), .int (zi (o.2.1)), .int (zi (o.2.2.1))])), ((t 1), .inl (κ 1, 20, .inl (zc t_seenStep))), ((t 2), .inl (κ 1, 20, .inl (zc t_seenFrom))), ((t 3), .inl (κ 1, 20, .inl (zc t_seenTo))), ((t 4), .inl (κ 1, 20, .inl (zc t_seenValue))), ((t 5), .inl (κ 1, 20, .inl (zc (o.2.2.2.1)))), ((t 6), .inl (κ 1, 20, .inl (zc (o.2.2.2.2.1)))), ((t 7), .inl (κ 1, 20, .inl (zc (o.2.2.2.2.2.1)))), ((t 8), .inl (κ 1, 20, .inl (zc (o.2.2.2.2.2.2)))), ((t 9), .inl (κ 1, 20, .inl (zc t_knownValue)))]) H → va_D A ([((t 0), .inr (7, [.ref (t 1), .ref (t 2), .ref (t 3), .ref (t 4), .ref (t 5), .ref (t 6), .ref (t 7), .ref (t 8), .ref (t 9), .int (zi t_size), .int (zi (o.2.1)), .int (zi (o.2.2.1))])), ((t 1), .inl (κ 1, 20, .inl (zc t_seenStep))), ((t 2), .inl (κ 1, 20, .inl (zc t_seenFrom))), ((t 3), .inl (κ 1, 20, .inl (zc t_seenTo))), ((t 4), .inl (κ 1, 20, .inl (zc t_seenValue))), ((t 5), .inl (κ 1, 20, .inl (zc (o.2.2.2.1)))), ((t 6), .inl (κ 1, 20, .inl (zc (o.2.2.2.2.1)))), ((t 7), .inl (κ 1, 20, .inl (zc (o.2.2.2.2.2.1)))), ((t 8), .inl (κ 1, 20, .inl (zc (o.2.2.2.2.2.2)))), ((t 9), .inl (κ 1, 20, .inl (zc t_knownValue)))]) → va_S A H0 H locs → decode cX7_putRight pc = .ok (.ireturn, 1) → W p l e zr_X7_putRight s m args below meth c H locs 0 0 Q (F0 m pc ls [.int (zi (o.1))])
set_option maxHeartbeats 4000000 in
set_option maxRecDepth 100000 in
theorem zs_X7_putRight {p : Program} {l : Launch} {e : Env} {s : State} {m : MethodId} {args : Array Value} {below : List Frame} {meth : Method} {c : Code} {Q : State → Prop} {D : va_G} {κ : Nat → ClassId} {A : Nat → Prop} {H0 : Heap} (t : Nat → Nat) (t_size : Int) (t_rights : Int) (t_latest : Int) (t_seenStep : Nat) (t_seenFrom : Nat) (t_seenTo : Nat) (t_seenValue : Nat) (t_timesRight : Nat) (t_rightStep : Nat) (t_rightOf : Nat) (t_rightValue : Nat) (t_knownValue : Nat) (i1 : Int) (i2 : Int) (i3 : Int) (hx : p.tables.exec = Jvm.exec) (hb : c.code = cX7_putRight) (hml : c.maxLocals = 4) (hown : s.vm.findClass RX7 = some m.cls) (hts : ∀ w ∈ wsX7_putRight, w.before args s = true) (hK : va_K D vwCl (zTY κ) s) (hA : ∀ q : Nat, H0.size ≤ q → A q) (H : Heap) (locs : List Loc) (ls : Array Slot) (hP : va_P D vwCl ([((t 0), .inr (7, [.ref (t 1), .ref (t 2), .ref (t 3), .ref (t 4), .ref (t 5), .ref (t 6), .ref (t 7), .ref (t 8), .ref (t 9), .int (zi t_size), .int (zi t_rights), .int (zi t_latest)])), ((t 1), .inl (κ 1, 20, .inl (zc t_seenStep))), ((t 2), .inl (κ 1, 20, .inl (zc t_seenFrom))), ((t 3), .inl (κ 1, 20, .inl (zc t_seenTo))), ((t 4), .inl (κ 1, 20, .inl (zc t_seenValue))), ((t 5), .inl (κ 1, 20, .inl (zc t_timesRight))), ((t 6), .inl (κ 1, 20, .inl (zc t_rightStep))), ((t 7), .inl (κ 1, 20, .inl (zc t_rightOf))), ((t 8), .inl (κ 1, 20, .inl (zc t_rightValue))), ((t 9), .inl (κ 1, 20, .inl (zc t_knownValue)))]) H) (hD : va_D A ([((t 0), .inr (7, [.ref (t 1), .ref (t 2), .ref (t 3), .ref (t 4), .ref (t 5), .ref (t 6), .ref (t 7), .ref (t 8), .ref (t 9), .int (zi t_size), .int (zi t_rights), .int (zi t_latest)])), ((t 1), .inl (κ 1, 20, .inl (zc t_seenStep))), ((t 2), .inl (κ 1, 20, .inl (zc t_seenFrom))), ((t 3), .inl (κ 1, 20, .inl (zc t_seenTo))), ((t 4), .inl (κ 1, 20, .inl (zc t_seenValue))), ((t 5), .inl (κ 1, 20, .inl (zc t_timesRight))), ((t 6), .inl (κ 1, 20, .inl (zc t_rightStep))), ((t 7), .inl (κ 1, 20, .inl (zc t_rightOf))), ((t 8), .inl (κ 1, 20, .inl (zc t_rightValue))), ((t 9), .inl (κ 1, 20, .inl (zc t_knownValue)))])) (hS : va_S A H0 H locs) (hl : lv_has ls 4 [(0, .ref (t 0)), (1, .int (zi i1)), (2, .int (zi i2)), (3, .int (zi i3))]) (hg : Go (zQ_X7_putRight p l e s m args below meth c Q D κ A H0 t t_size t_seenStep t_seenFrom t_seenTo t_seenValue t_knownValue) (zf_X7_putRight t_size t_rights t_latest t_timesRight t_rightStep t_rightOf t_rightValue i1 i2 i3)) : W p l e zr_X7_putRight s m args below meth c H locs 0 0 Q (F0 m 0 ls []) := by
  unfold zf_X7_putRight at hg
  refine lv_aload_n hx hb dX7_putRight_0 rfl (lv_at hl 0 rfl) ?_
  refine va_get (D := D) (ci := 7) (v := .int (zi t_rights)) (C := RX7) (T := TX7) (N := 12) hx hb hts zi_X7_putRight_X7 hown hK hP 0 rfl rfl 10 (by decide) (hts (.fieldLink RX7 43 "DiamondRows$Sightings" "rights" "I") zl_X7_putRight_43) (fun _ h9 => h9) rfl dX7_putRight_1 ?_
  refine zv_bipush hx hb dX7_putRight_4 (by decide) ?_
  obtain ⟨b1, hg⟩ := Go_n hg
  refine zv_icmp_ge (tgt := 17) hx hb dX7_putRight_6 (by decide) b1 (by decide) (fun c6 => ?_) (fun c6 => ?_)
  · have hg := Go_t c6 hg
    refine zv_bipush hx hb dX7_putRight_17 (by decide) ?_
    exact (Go_s hg) _ _ _ _ hP hD hS dX7_putRight_19
  · have hg := Go_f c6 hg
    refine lv_aload_n hx hb dX7_putRight_9 rfl (lv_at hl 0 rfl) ?_
    refine lv_iload_n hx hb dX7_putRight_10 rfl (lv_at hl 2 rfl) ?_
    obtain ⟨o2, ho2, hg⟩ := Go_b hg
    refine zc_vi (rest := []) ⟨hx, hb, hml, hown, hts⟩ (zc_X7_has l D κ t t_size t_rights t_latest t_seenStep t_seenFrom t_seenTo t_seenValue t_timesRight t_rightStep t_rightOf t_rightValue t_knownValue i2 o2 ho2) (cwV 1 hts gX7_putRight_X7_has rfl rfl rfl (by decide +kernel) ⟨Nat.le_of_ble_eq_true rfl, Nat.le_of_ble_eq_true rfl⟩) (zpreV hK (hP.sub [0, 1, 2, 3, 4, 5, 6, 7, 8, 9] rfl) 7 0 rfl rfl) rfl hl.1 rfl (Nat.le_of_ble_eq_true rfl) dX7_putRight_11 ⟨Nat.zero_le _, Nat.zero_le _⟩ ?_
    refine zv_ifb_ne (tgt := 20) hx hb dX7_putRight_14 (by decide) (fun c5 => ?_) (fun c5 => ?_)
    · have hg := Go_f c5 hg
      refine lv_aload_n hx hb dX7_putRight_20 rfl (lv_at hl 0 rfl) ?_
      refine va_get (D := D) (ci := 7) (v := .ref (t 6)) (C := RX7) (T := TX7) (N := 12) hx hb hts zi_X7_putRight_X7 hown hK hP 0 rfl rfl 5 (by decide) (hts (.fieldLink RX7 27 "DiamondRows$Sightings" "rightStep" "[I") zl_X7_putRight_27) (fun _ h9 => h9) rfl dX7_putRight_21 ?_
      refine lv_aload_n hx hb dX7_putRight_24 rfl (lv_at hl 0 rfl) ?_
      refine va_get (D := D) (ci := 7) (v := .int (zi t_rights)) (C := RX7) (T := TX7) (N := 12) hx hb hts zi_X7_putRight_X7 hown hK hP 0 rfl rfl 10 (by decide) (hts (.fieldLink RX7 43 "DiamondRows$Sightings" "rights" "I") zl_X7_putRight_43) (fun _ h9 => h9) rfl dX7_putRight_25 ?_
      refine lv_iload_n hx hb dX7_putRight_28 rfl (lv_at hl 1 rfl) ?_
      obtain ⟨n3, hg⟩ := Go_n hg
      refine zv_iast hx hb hK hP hD hS 6 1 rfl rfl (by decide) n3 dX7_putRight_29 (fun H locs hP hD hS => ?_)
      have hP : va_P D vwCl ([((t 0), .inr (7, [.ref (t 1), .ref (t 2), .ref (t 3), .ref (t 4), .ref (t 5), .ref (t 6), .ref (t 7), .ref (t 8), .ref (t 9), .int (zi t_size), .int (zi t_rights), .int (zi t_latest)])), ((t 1), .inl (κ 1, 20, .inl (zc t_seenStep))), ((t 2), .inl (κ 1, 20, .inl (zc t_seenFrom))), ((t 3), .inl (κ 1, 20, .inl (zc t_seenTo))), ((t 4), .inl (κ 1, 20, .inl (zc t_seenValue))), ((t 5), .inl (κ 1, 20, .inl (zc t_timesRight))), ((t 6), .inl (κ 1, 20, .inl (zc (zset t_rightStep (Int.toNat t_rights) i1)))), ((t 7), .inl (κ 1, 20, .inl (zc t_rightOf))), ((t 8), .inl (κ 1, 20, .inl (zc t_rightValue))), ((t 9), .inl (κ 1, 20, .inl (zc t_knownValue)))]) H := hP
      have hD : va_D A ([((t 0), .inr (7, [.ref (t 1), .ref (t 2), .ref (t 3), .ref (t 4), .ref (t 5), .ref (t 6), .ref (t 7), .ref (t 8), .ref (t 9), .int (zi t_size), .int (zi t_rights), .int (zi t_latest)])), ((t 1), .inl (κ 1, 20, .inl (zc t_seenStep))), ((t 2), .inl (κ 1, 20, .inl (zc t_seenFrom))), ((t 3), .inl (κ 1, 20, .inl (zc t_seenTo))), ((t 4), .inl (κ 1, 20, .inl (zc t_seenValue))), ((t 5), .inl (κ 1, 20, .inl (zc t_timesRight))), ((t 6), .inl (κ 1, 20, .inl (zc (zset t_rightStep (Int.toNat t_rights) i1)))), ((t 7), .inl (κ 1, 20, .inl (zc t_rightOf))), ((t 8), .inl (κ 1, 20, .inl (zc t_rightValue))), ((t 9), .inl (κ 1, 20, .inl (zc t_knownValue)))]) := hD
      refine lv_aload_n hx hb dX7_putRight_30 rfl (lv_at hl 0 rfl) ?_
      refine va_get (D := D) (ci := 7) (v := .ref (t 7)) (C := RX7) (T := TX7) (N := 12) hx hb hts zi_X7_putRight_X7 hown hK hP 0 rfl rfl 6 (by decide) (hts (.fieldLink RX7 30 "DiamondRows$Sightings" "rightOf" "[I") zl_X7_putRight_30) (fun _ h9 => h9) rfl dX7_putRight_31 ?_
      refine lv_aload_n hx hb dX7_putRight_34 rfl (lv_at hl 0 rfl) ?_
      refine va_get (D := D) (ci := 7) (v := .int (zi t_rights)) (C := RX7) (T := TX7) (N := 12) hx hb hts zi_X7_putRight_X7 hown hK hP 0 rfl rfl 10 (by decide) (hts (.fieldLink RX7 43 "DiamondRows$Sightings" "rights" "I") zl_X7_putRight_43) (fun _ h9 => h9) rfl dX7_putRight_35 ?_
      refine lv_iload_n hx hb dX7_putRight_38 rfl (lv_at hl 2 rfl) ?_
      refine zv_iast hx hb hK hP hD hS 7 1 rfl rfl (by decide) n3 dX7_putRight_39 (fun H locs hP hD hS => ?_)
      have hP : va_P D vwCl ([((t 0), .inr (7, [.ref (t 1), .ref (t 2), .ref (t 3), .ref (t 4), .ref (t 5), .ref (t 6), .ref (t 7), .ref (t 8), .ref (t 9), .int (zi t_size), .int (zi t_rights), .int (zi t_latest)])), ((t 1), .inl (κ 1, 20, .inl (zc t_seenStep))), ((t 2), .inl (κ 1, 20, .inl (zc t_seenFrom))), ((t 3), .inl (κ 1, 20, .inl (zc t_seenTo))), ((t 4), .inl (κ 1, 20, .inl (zc t_seenValue))), ((t 5), .inl (κ 1, 20, .inl (zc t_timesRight))), ((t 6), .inl (κ 1, 20, .inl (zc (zset t_rightStep (Int.toNat t_rights) i1)))), ((t 7), .inl (κ 1, 20, .inl (zc (zset t_rightOf (Int.toNat t_rights) i2)))), ((t 8), .inl (κ 1, 20, .inl (zc t_rightValue))), ((t 9), .inl (κ 1, 20, .inl (zc t_knownValue)))]) H := hP
      have hD : va_D A ([((t 0), .inr (7, [.ref (t 1), .ref (t 2), .ref (t 3), .ref (t 4), .ref (t 5), .ref (t 6), .ref (t 7), .ref (t 8), .ref (t 9), .int (zi t_size), .int (zi t_rights), .int (zi t_latest)])), ((t 1), .inl (κ 1, 20, .inl (zc t_seenStep))), ((t 2), .inl (κ 1, 20, .inl (zc t_seenFrom))), ((t 3), .inl (κ 1, 20, .inl (zc t_seenTo))), ((t 4), .inl (κ 1, 20, .inl (zc t_seenValue))), ((t 5), .inl (κ 1, 20, .inl (zc t_timesRight))), ((t 6), .inl (κ 1, 20, .inl (zc (zset t_rightStep (Int.toNat t_rights) i1)))), ((t 7), .inl (κ 1, 20, .inl (zc (zset t_rightOf (Int.toNat t_rights) i2)))), ((t 8), .inl (κ 1, 20, .inl (zc t_rightValue))), ((t 9), .inl (κ 1, 20, .inl (zc t_knownValue)))]) := hD
      refine lv_aload_n hx hb dX7_putRight_40 rfl (lv_at hl 0 rfl) ?_
      refine va_get (D := D) (ci := 7) (v := .ref (t 8)) (C := RX7) (T := TX7) (N := 12) hx hb hts zi_X7_putRight_X7 hown hK hP 0 rfl rfl 7 (by decide) (hts (.fieldLink RX7 33 "DiamondRows$Sightings" "rightValue" "[I") zl_X7_putRight_33) (fun _ h9 => h9) rfl dX7_putRight_41 ?_
      refine lv_aload_n hx hb dX7_putRight_44 rfl (lv_at hl 0 rfl) ?_
      refine va_get (D := D) (ci := 7) (v := .int (zi t_rights)) (C := RX7) (T := TX7) (N := 12) hx hb hts zi_X7_putRight_X7 hown hK hP 0 rfl rfl 10 (by decide) (hts (.fieldLink RX7 43 "DiamondRows$Sightings" "rights" "I") zl_X7_putRight_43) (fun _ h9 => h9) rfl dX7_putRight_45 ?_
      refine lv_iload_n hx hb dX7_putRight_48 rfl (lv_at hl 3 rfl) ?_
      refine zv_iast hx hb hK hP hD hS 8 1 rfl rfl (by decide) n3 dX7_putRight_49 (fun H locs hP hD hS => ?_)
      have hP : va_P D vwCl ([((t 0), .inr (7, [.ref (t 1), .ref (t 2), .ref (t 3), .ref (t 4), .ref (t 5), .ref (t 6), .ref (t 7), .ref (t 8), .ref (t 9), .int (zi t_size), .int (zi t_rights), .int (zi t_latest)])), ((t 1), .inl (κ 1, 20, .inl (zc t_seenStep))), ((t 2), .inl (κ 1, 20, .inl (zc t_seenFrom))), ((t 3), .inl (κ 1, 20, .inl (zc t_seenTo))), ((t 4), .inl (κ 1, 20, .inl (zc t_seenValue))), ((t 5), .inl (κ 1, 20, .inl (zc t_timesRight))), ((t 6), .inl (κ 1, 20, .inl (zc (zset t_rightStep (Int.toNat t_rights) i1)))), ((t 7), .inl (κ 1, 20, .inl (zc (zset t_rightOf (Int.toNat t_rights) i2)))), ((t 8), .inl (κ 1, 20, .inl (zc (zset t_rightValue (Int.toNat t_rights) i3)))), ((t 9), .inl (κ 1, 20, .inl (zc t_knownValue)))]) H := hP
      have hD : va_D A ([((t 0), .inr (7, [.ref (t 1), .ref (t 2), .ref (t 3), .ref (t 4), .ref (t 5), .ref (t 6), .ref (t 7), .ref (t 8), .ref (t 9), .int (zi t_size), .int (zi t_rights), .int (zi t_latest)])), ((t 1), .inl (κ 1, 20, .inl (zc t_seenStep))), ((t 2), .inl (κ 1, 20, .inl (zc t_seenFrom))), ((t 3), .inl (κ 1, 20, .inl (zc t_seenTo))), ((t 4), .inl (κ 1, 20, .inl (zc t_seenValue))), ((t 5), .inl (κ 1, 20, .inl (zc t_timesRight))), ((t 6), .inl (κ 1, 20, .inl (zc (zset t_rightStep (Int.toNat t_rights) i1)))), ((t 7), .inl (κ 1, 20, .inl (zc (zset t_rightOf (Int.toNat t_rights) i2)))), ((t 8), .inl (κ 1, 20, .inl (zc (zset t_rightValue (Int.toNat t_rights) i3)))), ((t 9), .inl (κ 1, 20, .inl (zc t_knownValue)))]) := hD
      refine lv_aload_n hx hb dX7_putRight_50 rfl (lv_at hl 0 rfl) ?_
      refine lv_iload_n hx hb dX7_putRight_51 rfl (lv_at hl 1 rfl) ?_
      refine va_put (D := D) (ci := 7) (v := .int (zi i1)) (ty := .int) (C := RX7) (T := TX7) (N := 12) hx hb hts zi_X7_putRight_X7 tyX7 tyX7_ok nmX7 hown hK hP hD hS 0 rfl rfl 11 (by decide) (hts (.fieldLink RX7 50 "DiamondRows$Sightings" "latest" "I") zl_X7_putRight_50) (fun _ h9 => h9) rfl (by decide +kernel) rfl rfl (Nat.le_of_ble_eq_true rfl) dX7_putRight_52 (fun H locs hP hD hS => ?_)
      have hP : va_P D vwCl ([((t 0), .inr (7, [.ref (t 1), .ref (t 2), .ref (t 3), .ref (t 4), .ref (t 5), .ref (t 6), .ref (t 7), .ref (t 8), .ref (t 9), .int (zi t_size), .int (zi t_rights), .int (zi i1)])), ((t 1), .inl (κ 1, 20, .inl (zc t_seenStep))), ((t 2), .inl (κ 1, 20, .inl (zc t_seenFrom))), ((t 3), .inl (κ 1, 20, .inl (zc t_seenTo))), ((t 4), .inl (κ 1, 20, .inl (zc t_seenValue))), ((t 5), .inl (κ 1, 20, .inl (zc t_timesRight))), ((t 6), .inl (κ 1, 20, .inl (zc (zset t_rightStep (Int.toNat t_rights) i1)))), ((t 7), .inl (κ 1, 20, .inl (zc (zset t_rightOf (Int.toNat t_rights) i2)))), ((t 8), .inl (κ 1, 20, .inl (zc (zset t_rightValue (Int.toNat t_rights) i3)))), ((t 9), .inl (κ 1, 20, .inl (zc t_knownValue)))]) H := hP
      have hD : va_D A ([((t 0), .inr (7, [.ref (t 1), .ref (t 2), .ref (t 3), .ref (t 4), .ref (t 5), .ref (t 6), .ref (t 7), .ref (t 8), .ref (t 9), .int (zi t_size), .int (zi t_rights), .int (zi i1)])), ((t 1), .inl (κ 1, 20, .inl (zc t_seenStep))), ((t 2), .inl (κ 1, 20, .inl (zc t_seenFrom))), ((t 3), .inl (κ 1, 20, .inl (zc t_seenTo))), ((t 4), .inl (κ 1, 20, .inl (zc t_seenValue))), ((t 5), .inl (κ 1, 20, .inl (zc t_timesRight))), ((t 6), .inl (κ 1, 20, .inl (zc (zset t_rightStep (Int.toNat t_rights) i1)))), ((t 7), .inl (κ 1, 20, .inl (zc (zset t_rightOf (Int.toNat t_rights) i2)))), ((t 8), .inl (κ 1, 20, .inl (zc (zset t_rightValue (Int.toNat t_rights) i3)))), ((t 9), .inl (κ 1, 20, .inl (zc t_knownValue)))]) := hD
      refine lv_aload_n hx hb dX7_putRight_55 rfl (lv_at hl 0 rfl) ?_
      refine lv_dup hx hb dX7_putRight_56 rfl ?_
      refine va_get (D := D) (ci := 7) (v := .int (zi t_rights)) (C := RX7) (T := TX7) (N := 12) hx hb hts zi_X7_putRight_X7 hown hK hP 0 rfl rfl 10 (by decide) (hts (.fieldLink RX7 43 "DiamondRows$Sightings" "rights" "I") zl_X7_putRight_43) (fun _ h9 => h9) rfl dX7_putRight_57 ?_
      refine zv_iconst hx hb dX7_putRight_60 ?_
      refine zv_iadd hx hb dX7_putRight_61 ?_
      refine va_put (D := D) (ci := 7) (v := .int (zi (t_rights + (1 : Int)))) (ty := .int) (C := RX7) (T := TX7) (N := 12) hx hb hts zi_X7_putRight_X7 tyX7 tyX7_ok nmX7 hown hK hP hD hS 0 rfl rfl 10 (by decide) (hts (.fieldLink RX7 43 "DiamondRows$Sightings" "rights" "I") zl_X7_putRight_43) (fun _ h9 => h9) rfl (by decide +kernel) rfl rfl (Nat.le_of_ble_eq_true rfl) dX7_putRight_62 (fun H locs hP hD hS => ?_)
      have hP : va_P D vwCl ([((t 0), .inr (7, [.ref (t 1), .ref (t 2), .ref (t 3), .ref (t 4), .ref (t 5), .ref (t 6), .ref (t 7), .ref (t 8), .ref (t 9), .int (zi t_size), .int (zi (t_rights + (1 : Int))), .int (zi i1)])), ((t 1), .inl (κ 1, 20, .inl (zc t_seenStep))), ((t 2), .inl (κ 1, 20, .inl (zc t_seenFrom))), ((t 3), .inl (κ 1, 20, .inl (zc t_seenTo))), ((t 4), .inl (κ 1, 20, .inl (zc t_seenValue))), ((t 5), .inl (κ 1, 20, .inl (zc t_timesRight))), ((t 6), .inl (κ 1, 20, .inl (zc (zset t_rightStep (Int.toNat t_rights) i1)))), ((t 7), .inl (κ 1, 20, .inl (zc (zset t_rightOf (Int.toNat t_rights) i2)))), ((t 8), .inl (κ 1, 20, .inl (zc (zset t_rightValue (Int.toNat t_rights) i3)))), ((t 9), .inl (κ 1, 20, .inl (zc t_knownValue)))]) H := hP
      have hD : va_D A ([((t 0), .inr (7, [.ref (t 1), .ref (t 2), .ref (t 3), .ref (t 4), .ref (t 5), .ref (t 6), .ref (t 7), .ref (t 8), .ref (t 9), .int (zi t_size), .int (zi (t_rights + (1 : Int))), .int (zi i1)])), ((t 1), .inl (κ 1, 20, .inl (zc t_seenStep))), ((t 2), .inl (κ 1, 20, .inl (zc t_seenFrom))), ((t 3), .inl (κ 1, 20, .inl (zc t_seenTo))), ((t 4), .inl (κ 1, 20, .inl (zc t_seenValue))), ((t 5), .inl (κ 1, 20, .inl (zc t_timesRight))), ((t 6), .inl (κ 1, 20, .inl (zc (zset t_rightStep (Int.toNat t_rights) i1)))), ((t 7), .inl (κ 1, 20, .inl (zc (zset t_rightOf (Int.toNat t_rights) i2)))), ((t 8), .inl (κ 1, 20, .inl (zc (zset t_rightValue (Int.toNat t_rights) i3)))), ((t 9), .inl (κ 1, 20, .inl (zc t_knownValue)))]) := hD
      refine lv_aload_n hx hb dX7_putRight_65 rfl (lv_at hl 0 rfl) ?_
      refine va_get (D := D) (ci := 7) (v := .ref (t 5)) (C := RX7) (T := TX7) (N := 12) hx hb hts zi_X7_putRight_X7 hown hK hP 0 rfl rfl 4 (by decide) (hts (.fieldLink RX7 24 "DiamondRows$Sightings" "timesRight" "[I") zl_X7_putRight_24) (fun _ h9 => h9) rfl dX7_putRight_66 ?_
      refine lv_iload_n hx hb dX7_putRight_69 rfl (lv_at hl 2 rfl) ?_
      refine lv_dup2_11 hx hb dX7_putRight_70 rfl rfl ?_
      obtain ⟨n4, hg⟩ := Go_n hg
      refine zv_iald hx hb hK hP 5 1 rfl rfl (by decide) n4 dX7_putRight_71 ?_
      refine zv_iconst hx hb dX7_putRight_72 ?_
      refine zv_iadd hx hb dX7_putRight_73 ?_
      refine zv_iast hx hb hK hP hD hS 5 1 rfl rfl (by decide) n4 dX7_putRight_74 (fun H locs hP hD hS => ?_)
      have hP : va_P D vwCl ([((t 0), .inr (7, [.ref (t 1), .ref (t 2), .ref (t 3), .ref (t 4), .ref (t 5), .ref (t 6), .ref (t 7), .ref (t 8), .ref (t 9), .int (zi t_size), .int (zi (t_rights + (1 : Int))), .int (zi i1)])), ((t 1), .inl (κ 1, 20, .inl (zc t_seenStep))), ((t 2), .inl (κ 1, 20, .inl (zc t_seenFrom))), ((t 3), .inl (κ 1, 20, .inl (zc t_seenTo))), ((t 4), .inl (κ 1, 20, .inl (zc t_seenValue))), ((t 5), .inl (κ 1, 20, .inl (zc (zset t_timesRight (Int.toNat i2) ((zget t_timesRight (Int.toNat i2)) + (1 : Int)))))), ((t 6), .inl (κ 1, 20, .inl (zc (zset t_rightStep (Int.toNat t_rights) i1)))), ((t 7), .inl (κ 1, 20, .inl (zc (zset t_rightOf (Int.toNat t_rights) i2)))), ((t 8), .inl (κ 1, 20, .inl (zc (zset t_rightValue (Int.toNat t_rights) i3)))), ((t 9), .inl (κ 1, 20, .inl (zc t_knownValue)))]) H := hP
      have hD : va_D A ([((t 0), .inr (7, [.ref (t 1), .ref (t 2), .ref (t 3), .ref (t 4), .ref (t 5), .ref (t 6), .ref (t 7), .ref (t 8), .ref (t 9), .int (zi t_size), .int (zi (t_rights + (1 : Int))), .int (zi i1)])), ((t 1), .inl (κ 1, 20, .inl (zc t_seenStep))), ((t 2), .inl (κ 1, 20, .inl (zc t_seenFrom))), ((t 3), .inl (κ 1, 20, .inl (zc t_seenTo))), ((t 4), .inl (κ 1, 20, .inl (zc t_seenValue))), ((t 5), .inl (κ 1, 20, .inl (zc (zset t_timesRight (Int.toNat i2) ((zget t_timesRight (Int.toNat i2)) + (1 : Int)))))), ((t 6), .inl (κ 1, 20, .inl (zc (zset t_rightStep (Int.toNat t_rights) i1)))), ((t 7), .inl (κ 1, 20, .inl (zc (zset t_rightOf (Int.toNat t_rights) i2)))), ((t 8), .inl (κ 1, 20, .inl (zc (zset t_rightValue (Int.toNat t_rights) i3)))), ((t 9), .inl (κ 1, 20, .inl (zc t_knownValue)))]) := hD
      refine lv_aload_n hx hb dX7_putRight_75 rfl (lv_at hl 0 rfl) ?_
      refine va_get (D := D) (ci := 7) (v := .ref (t 5)) (C := RX7) (T := TX7) (N := 12) hx hb hts zi_X7_putRight_X7 hown hK hP 0 rfl rfl 4 (by decide) (hts (.fieldLink RX7 24 "DiamondRows$Sightings" "timesRight" "[I") zl_X7_putRight_24) (fun _ h9 => h9) rfl dX7_putRight_76 ?_
      refine lv_iload_n hx hb dX7_putRight_79 rfl (lv_at hl 2 rfl) ?_
      refine zv_iald hx hb hK hP 5 1 rfl rfl (by decide) n4 dX7_putRight_80 ?_
      exact (Go_s hg) _ _ _ _ hP hD hS dX7_putRight_81
    · have hg := Go_t c5 hg
      refine zv_bipush hx hb dX7_putRight_17 (by decide) ?_
      exact (Go_s hg) _ _ _ _ hP hD hS dX7_putRight_19
set_option maxHeartbeats 4000000 in
set_option maxRecDepth 100000 in
theorem zc_X7_putRight (l : Launch) (D : va_G) (κ : Nat → ClassId) (t : Nat → Nat) (sz : Nat) (t_size : Int) (t_rights : Int) (t_latest : Int) (t_seenStep : Nat) (t_seenFrom : Nat) (t_seenTo : Nat) (t_seenValue : Nat) (t_timesRight : Nat) (t_rightStep : Nat) (t_rightOf : Nat) (t_rightValue : Nat) (t_knownValue : Nat) (i1 : Int) (i2 : Int) (i3 : Int) (out : Int × Int × Int × Nat × Nat × Nat × Nat) (h : zf_X7_putRight t_size t_rights t_latest t_timesRight t_rightStep t_rightOf t_rightValue i1 i2 i3 = some out) : Met l yX7_putRight wsX7_putRight zr_X7_putRight (va_Pc [.ref (t 0), .int (zi i1), .int (zi i2), .int (zi i3)] (zW D κ ([((t 0), .inr (7, [.ref (t 1), .ref (t 2), .ref (t 3), .ref (t 4), .ref (t 5), .ref (t 6), .ref (t 7), .ref (t 8), .ref (t 9), .int (zi t_size), .int (zi t_rights), .int (zi t_latest)])), ((t 1), .inl (κ 1, 20, .inl (zc t_seenStep))), ((t 2), .inl (κ 1, 20, .inl (zc t_seenFrom))), ((t 3), .inl (κ 1, 20, .inl (zc t_seenTo))), ((t 4), .inl (κ 1, 20, .inl (zc t_seenValue))), ((t 5), .inl (κ 1, 20, .inl (zc t_timesRight))), ((t 6), .inl (κ 1, 20, .inl (zc t_rightStep))), ((t 7), .inl (κ 1, 20, .inl (zc t_rightOf))), ((t 8), .inl (κ 1, 20, .inl (zc t_rightValue))), ((t 9), .inl (κ 1, 20, .inl (zc t_knownValue)))]) sz)) (va_Qi (fun r (_ : Unit) => r = zi (out.1)) (fun _ => zB D κ (va_A ([((t 0), .inr (7, [.ref (t 1), .ref (t 2), .ref (t 3), .ref (t 4), .ref (t 5), .ref (t 6), .ref (t 7), .ref (t 8), .ref (t 9), .int (zi t_size), .int (zi t_rights), .int (zi t_latest)])), ((t 1), .inl (κ 1, 20, .inl (zc t_seenStep))), ((t 2), .inl (κ 1, 20, .inl (zc t_seenFrom))), ((t 3), .inl (κ 1, 20, .inl (zc t_seenTo))), ((t 4), .inl (κ 1, 20, .inl (zc t_seenValue))), ((t 5), .inl (κ 1, 20, .inl (zc t_timesRight))), ((t 6), .inl (κ 1, 20, .inl (zc t_rightStep))), ((t 7), .inl (κ 1, 20, .inl (zc t_rightOf))), ((t 8), .inl (κ 1, 20, .inl (zc t_rightValue))), ((t 9), .inl (κ 1, 20, .inl (zc t_knownValue)))]) sz) ([((t 0), .inr (7, [.ref (t 1), .ref (t 2), .ref (t 3), .ref (t 4), .ref (t 5), .ref (t 6), .ref (t 7), .ref (t 8), .ref (t 9), .int (zi t_size), .int (zi (out.2.1)), .int (zi (out.2.2.1))])), ((t 1), .inl (κ 1, 20, .inl (zc t_seenStep))), ((t 2), .inl (κ 1, 20, .inl (zc t_seenFrom))), ((t 3), .inl (κ 1, 20, .inl (zc t_seenTo))), ((t 4), .inl (κ 1, 20, .inl (zc t_seenValue))), ((t 5), .inl (κ 1, 20, .inl (zc (out.2.2.2.1)))), ((t 6), .inl (κ 1, 20, .inl (zc (out.2.2.2.2.1)))), ((t 7), .inl (κ 1, 20, .inl (zc (out.2.2.2.2.2.1)))), ((t 8), .inl (κ 1, 20, .inl (zc (out.2.2.2.2.2.2)))), ((t 9), .inl (κ 1, 20, .inl (zc t_knownValue)))])) (va_A ([((t 0), .inr (7, [.ref (t 1), .ref (t 2), .ref (t 3), .ref (t 4), .ref (t 5), .ref (t 6), .ref (t 7), .ref (t 8), .ref (t 9), .int (zi t_size), .int (zi t_rights), .int (zi t_latest)])), ((t 1), .inl (κ 1, 20, .inl (zc t_seenStep))), ((t 2), .inl (κ 1, 20, .inl (zc t_seenFrom))), ((t 3), .inl (κ 1, 20, .inl (zc t_seenTo))), ((t 4), .inl (κ 1, 20, .inl (zc t_seenValue))), ((t 5), .inl (κ 1, 20, .inl (zc t_timesRight))), ((t 6), .inl (κ 1, 20, .inl (zc t_rightStep))), ((t 7), .inl (κ 1, 20, .inl (zc t_rightOf))), ((t 8), .inl (κ 1, 20, .inl (zc t_rightValue))), ((t 9), .inl (κ 1, 20, .inl (zc t_knownValue)))]) sz)) 0 0 (va_A ([((t 0), .inr (7, [.ref (t 1), .ref (t 2), .ref (t 3), .ref (t 4), .ref (t 5), .ref (t 6), .ref (t 7), .ref (t 8), .ref (t 9), .int (zi t_size), .int (zi t_rights), .int (zi t_latest)])), ((t 1), .inl (κ 1, 20, .inl (zc t_seenStep))), ((t 2), .inl (κ 1, 20, .inl (zc t_seenFrom))), ((t 3), .inl (κ 1, 20, .inl (zc t_seenTo))), ((t 4), .inl (κ 1, 20, .inl (zc t_seenValue))), ((t 5), .inl (κ 1, 20, .inl (zc t_timesRight))), ((t 6), .inl (κ 1, 20, .inl (zc t_rightStep))), ((t 7), .inl (κ 1, 20, .inl (zc t_rightOf))), ((t 8), .inl (κ 1, 20, .inl (zc t_rightValue))), ((t 9), .inl (κ 1, 20, .inl (zc t_knownValue)))]) sz) := by
  refine Met.ofW (cc := cX7_putRight) (maxL := 4) (ret := (some .int)) (by decide +kernel) rfl ?_
  intro p e s m args below meth c s₁ B hml hv
  obtain ⟨rfl, hsz, hP, hK, hD0⟩ := hv
  have hx := B.exec
  have hb := B.bytes
  have hr := B.returns
  have hts := atoms_spec (ws := wsX7_putRight) B.pre
  have hown : s.vm.findClass RX7 = some m.cls := findClass_of_methodNamed B.named
  have hlocks := B.notSynchronized
  subst hsz
  have hD := hD0.self (sz := s.heap.size)
  generalize hAe : va_A ([((t 0), .inr (7, [.ref (t 1), .ref (t 2), .ref (t 3), .ref (t 4), .ref (t 5), .ref (t 6), .ref (t 7), .ref (t 8), .ref (t 9), .int (zi t_size), .int (zi t_rights), .int (zi t_latest)])), ((t 1), .inl (κ 1, 20, .inl (zc t_seenStep))), ((t 2), .inl (κ 1, 20, .inl (zc t_seenFrom))), ((t 3), .inl (κ 1, 20, .inl (zc t_seenTo))), ((t 4), .inl (κ 1, 20, .inl (zc t_seenValue))), ((t 5), .inl (κ 1, 20, .inl (zc t_timesRight))), ((t 6), .inl (κ 1, 20, .inl (zc t_rightStep))), ((t 7), .inl (κ 1, 20, .inl (zc t_rightOf))), ((t 8), .inl (κ 1, 20, .inl (zc t_rightValue))), ((t 9), .inl (κ 1, 20, .inl (zc t_knownValue)))]) s.heap.size = A at hD ⊢
  have hA : ∀ q : Nat, s.heap.size ≤ q → A q := fun q h => by rw [← hAe]; exact Or.inr h
  have hS : va_S A s.heap s.heap [] := va_S.rf
  have hl := lv_entry ([.ref (t 0), .int (zi i1), .int (zi i2), .int (zi i3)]) (n := 4) (Nat.le_of_ble_eq_true rfl)
  rw [lg_entry_eq]
  generalize (lg_sl ([.ref (t 0), .int (zi i1), .int (zi i2), .int (zi i3)]) ++ List.replicate (4 - (lg_sl ([.ref (t 0), .int (zi i1), .int (zi i2), .int (zi i3)])).length) Slot.unset).toArray = ls at hl ⊢
  have hl : lv_has ls 4 [(0, .ref (t 0)), (1, .int (zi i1)), (2, .int (zi i2)), (3, .int (zi i3))] := hl
  refine zs_X7_putRight t t_size t_rights t_latest t_seenStep t_seenFrom t_seenTo t_seenValue t_timesRight t_rightStep t_rightOf t_rightValue t_knownValue i1 i2 i3 hx hb hml hown hts hK hA s.heap [] ls hP hD hS hl ⟨out, h, ?_⟩
  exact fun H locs ls pc hP hD hS hd => W.iret hx hb hr (fun t ht hW => ⟨⟨_, (), rfl, rfl, by rw [ht]; exact hP, va_K.moved hW.alike hK, hD⟩, hS.F ht⟩) hS.2.2 hd
/-! DiamondRows$Sightings.recall(I)V -/
abbrev zr_X7_recall : Room := { frames := 1, cells := 0, slots := 0, locals := 21 }
abbrev zS_X7_recall : Type := Nat × Int × Int × Nat
abbrev zO_X7_recall : Type := Nat
noncomputable def zg_X7_recall_0  (t_size : Int) (t_rights : Int) (t_seenStep : Nat) (t_seenValue : Nat) (t_rightStep : Nat) (t_rightOf : Nat) (t_rightValue : Nat) (i1 : Int) (i2 : Int) (t_knownValue : Nat) : Option (zO_X7_recall ⊕ zS_X7_recall) :=
  some (.inr (2, i1, (0 : Int), t_knownValue))
noncomputable def zg_X7_recall_2  (t_size : Int) (t_rights : Int) (t_seenStep : Nat) (t_seenValue : Nat) (t_rightStep : Nat) (t_rightOf : Nat) (t_rightValue : Nat) (i1 : Int) (i2 : Int) (t_knownValue : Nat) : Option (zO_X7_recall ⊕ zS_X7_recall) :=
  if zout i2 then none else
  if zout t_size then none else
  if t_size ≤ i2 then
  some (.inr (44, i1, (0 : Int), t_knownValue))
  else
  if i2 < 0 ∨ 20 ≤ i2 then none else
  if zout i1 then none else
  if i1 < (zget t_seenStep (Int.toNat i2)) then
  some (.inr (2, i1, (i2 + (1 : Int)), (zset t_knownValue (Int.toNat i2) (-1 : Int))))
  else
  some (.inr (2, i1, (i2 + (1 : Int)), (zset t_knownValue (Int.toNat i2) (zget t_seenValue (Int.toNat i2)))))
noncomputable def zg_X7_recall_44  (t_size : Int) (t_rights : Int) (t_seenStep : Nat) (t_seenValue : Nat) (t_rightStep : Nat) (t_rightOf : Nat) (t_rightValue : Nat) (i1 : Int) (i2 : Int) (t_knownValue : Nat) : Option (zO_X7_recall ⊕ zS_X7_recall) :=
  if zout i2 then none else
  if zout t_rights then none else
  if t_rights ≤ i2 then
  some (.inl (t_knownValue))
  else
  if i2 < 0 ∨ 20 ≤ i2 then none else
  if zout i1 then none else
  if i1 < (zget t_rightStep (Int.toNat i2)) then
  some (.inr (44, i1, (i2 + (1 : Int)), t_knownValue))
  else
  Option.bind (zf_X7_has t_size (zget t_rightOf (Int.toNat i2))) (fun o11 =>
  if o11 = false then
  some (.inr (44, i1, (i2 + (1 : Int)), t_knownValue))
  else
  if (zget t_rightOf (Int.toNat i2)) < 0 ∨ 20 ≤ (zget t_rightOf (Int.toNat i2)) then none else
  some (.inr (44, i1, (i2 + (1 : Int)), (zset t_knownValue (Int.toNat (zget t_rightOf (Int.toNat i2))) (zget t_rightValue (Int.toNat i2))))))
noncomputable def zg_X7_recall  (t_size : Int) (t_rights : Int) (t_seenStep : Nat) (t_seenValue : Nat) (t_rightStep : Nat) (t_rightOf : Nat) (t_rightValue : Nat) (st : zS_X7_recall) : Option (zO_X7_recall ⊕ zS_X7_recall) := match st with
  | (lab, i1, i2, t_knownValue) => if lab = 0 then zg_X7_recall_0 t_size t_rights t_seenStep t_seenValue t_rightStep t_rightOf t_rightValue i1 i2 t_knownValue else if lab = 2 then zg_X7_recall_2 t_size t_rights t_seenStep t_seenValue t_rightStep t_rightOf t_rightValue i1 i2 t_knownValue else if lab = 44 then zg_X7_recall_44 t_size t_rights t_seenStep t_seenValue t_rightStep t_rightOf t_rightValue i1 i2 t_knownValue else none
noncomputable def zf_X7_recall  (t_size : Int) (t_rights : Int) (t_seenStep : Nat) (t_seenValue : Nat) (t_rightStep : Nat) (t_rightOf : Nat) (t_rightValue : Nat) (t_knownValue : Nat) (i1 : Int) : Option (Nat) := jrun (zg_X7_recall t_size t_rights t_seenStep t_seenValue t_rightStep t_rightOf t_rightValue) jfuel (0, i1, 0, t_knownValue)
theorem zi_X7_recall_X7 : ∀ w ∈ u_ws RX7 TX7 12, w ∈ wsX7_recall := by decide +kernel
theorem zl_X7_recall_11 : Cond.fieldLink RX7 11 "DiamondRows$Sightings" "seenStep" "[I" ∈ wsX7_recall := by decide +kernel
theorem zl_X7_recall_21 : Cond.fieldLink RX7 21 "DiamondRows$Sightings" "seenValue" "[I" ∈ wsX7_recall := by decide +kernel
theorem zl_X7_recall_27 : Cond.fieldLink RX7 27 "DiamondRows$Sightings" "rightStep" "[I" ∈ wsX7_recall := by decide +kernel
theorem zl_X7_recall_30 : Cond.fieldLink RX7 30 "DiamondRows$Sightings" "rightOf" "[I" ∈ wsX7_recall := by decide +kernel
theorem zl_X7_recall_33 : Cond.fieldLink RX7 33 "DiamondRows$Sightings" "rightValue" "[I" ∈ wsX7_recall := by decide +kernel
theorem zl_X7_recall_36 : Cond.fieldLink RX7 36 "DiamondRows$Sightings" "knownValue" "[I" ∈ wsX7_recall := by decide +kernel
theorem zl_X7_recall_39 : Cond.fieldLink RX7 39 "DiamondRows$Sightings" "size" "I" ∈ wsX7_recall := by decide +kernel
theorem zl_X7_recall_43 : Cond.fieldLink RX7 43 "DiamondRows$Sightings" "rights" "I" ∈ wsX7_recall := by decide +kernel
def zQ_X7_recall (p : Program) (l : Launch) (e : Env) (s : State) (m : MethodId) (args : Array Value) (below : List Frame) (meth : Method) (c : Code) (Q : State → Prop) (D : va_G) (κ : Nat → ClassId) (A : Nat → Prop) (H0 : Heap) (t : Nat → Nat) (t_size : Int) (t_rights : Int) (t_latest : Int) (t_seenStep : Nat) (t_seenFrom : Nat) (t_seenTo : Nat) (t_seenValue : Nat) (t_timesRight : Nat) (t_rightStep : Nat) (t_rightOf : Nat) (t_rightValue : Nat) (o : Nat) : Prop := ∀ (H : Heap) (locs : List Loc) (ls : Array Slot) (pc : Nat), va_P D vwCl ([((t 0), .inr (7, [.ref (t 1), .ref (t 2), .ref (t 3), .ref (t 4), .ref (t 5), .ref (t 6), .ref (t 7), .ref (t 8), .ref (t 9), .int (zi t_size), .int (zi t_rights), .int (zi t_latest)])), ((t 1), .inl (κ 1, 20, .inl (zc t_seenStep))), ((t 2), .inl (κ 1, 20, .inl (zc t_seenFrom))), ((t 3), .inl (κ 1, 20, .inl (zc t_seenTo))), ((t 4), .inl (κ 1, 20, .inl (zc t_seenValue))), ((t 5), .inl (κ 1, 20, .inl (zc t_timesRight))), ((t 6), .inl (κ 1, 20, .inl (zc t_rightStep))), ((t 7), .inl (κ 1, 20, .inl (zc t_rightOf))), ((t 8), .inl (κ 1, 20, .inl (zc t_rightValue))), ((t 9), .inl (κ 1, 20, .inl (zc o)))]) H → va_D A ([((t 0), .inr (7, [.ref (t 1), .ref (t 2), .ref (t 3), .ref (t 4), .ref (t 5), .ref (t 6), .ref (t 7), .ref (t 8), .ref (t 9), .int (zi t_size), .int (zi t_rights), .int (zi t_latest)])), ((t 1), .inl (κ 1, 20, .inl (zc t_seenStep))), ((t 2), .inl (κ 1, 20, .inl (zc t_seenFrom))), ((t 3), .inl (κ 1, 20, .inl (zc t_seenTo))), ((t 4), .inl (κ 1, 20, .inl (zc t_seenValue))), ((t 5), .inl (κ 1, 20, .inl (zc t_timesRight))), ((t 6), .inl (κ 1, 20, .inl (zc t_rightStep))), ((t 7), .inl (κ 1, 20, .inl (zc t_rightOf))), ((t 8), .inl (κ 1, 20, .inl (zc t_rightValue))), ((t 9), .inl (κ 1, 20, .inl (zc o)))]) → va_S A H0 H locs → decode cX7_recall pc = .ok (.return_, 1) → W p l e zr_X7_recall s m args below meth c H locs 0 0 Q (F0 m pc ls [])
def zA_X7_recall_0 (p : Program) (l : Launch) (e : Env) (s : State) (m : MethodId) (args : Array Value) (below : List Frame) (meth : Method) (c : Code) (Q : State → Prop) (D : va_G) (κ : Nat → ClassId) (A : Nat → Prop) (H0 : Heap) (t : Nat → Nat) (t_size : Int) (t_rights : Int) (t_latest : Int) (t_seenStep : Nat) (t_seenFrom : Nat) (t_seenTo : Nat) (t_seenValue : Nat) (t_timesRight : Nat) (t_rightStep : Nat) (t_rightOf : Nat) (t_rightValue : Nat) (i1 : Int) (i2 : Int) (t_knownValue : Nat) : Prop := ∀ (H : Heap) (locs : List Loc) (ls : Array Slot), va_P D vwCl ([((t 0), .inr (7, [.ref (t 1), .ref (t 2), .ref (t 3), .ref (t 4), .ref (t 5), .ref (t 6), .ref (t 7), .ref (t 8), .ref (t 9), .int (zi t_size), .int (zi t_rights), .int (zi t_latest)])), ((t 1), .inl (κ 1, 20, .inl (zc t_seenStep))), ((t 2), .inl (κ 1, 20, .inl (zc t_seenFrom))), ((t 3), .inl (κ 1, 20, .inl (zc t_seenTo))), ((t 4), .inl (κ 1, 20, .inl (zc t_seenValue))), ((t 5), .inl (κ 1, 20, .inl (zc t_timesRight))), ((t 6), .inl (κ 1, 20, .inl (zc t_rightStep))), ((t 7), .inl (κ 1, 20, .inl (zc t_rightOf))), ((t 8), .inl (κ 1, 20, .inl (zc t_rightValue))), ((t 9), .inl (κ 1, 20, .inl (zc t_knownValue)))]) H → va_D A ([((t 0), .inr (7, [.ref (t 1), .ref (t 2), .ref (t 3), .ref (t 4), .ref (t 5), .ref (t 6), .ref (t 7), .ref (t 8), .ref (t 9), .int (zi t_size), .int (zi t_rights), .int (zi t_latest)])), ((t 1), .inl (κ 1, 20, .inl (zc t_seenStep))), ((t 2), .inl (κ 1, 20, .inl (zc t_seenFrom))), ((t 3), .inl (κ 1, 20, .inl (zc t_seenTo))), ((t 4), .inl (κ 1, 20, .inl (zc t_seenValue))), ((t 5), .inl (κ 1, 20, .inl (zc t_timesRight))), ((t 6), .inl (κ 1, 20, .inl (zc t_rightStep))), ((t 7), .inl (κ 1, 20, .inl (zc t_rightOf))), ((t 8), .inl (κ 1, 20, .inl (zc t_rightValue))), ((t 9), .inl (κ 1, 20, .inl (zc t_knownValue)))]) → va_S A H0 H locs → lv_has ls 3 [(0, .ref (t 0)), (1, .int (zi i1))] → W p l e zr_X7_recall s m args below meth c H locs 0 0 Q (F0 m 0 ls [])
def zA_X7_recall_2 (p : Program) (l : Launch) (e : Env) (s : State) (m : MethodId) (args : Array Value) (below : List Frame) (meth : Method) (c : Code) (Q : State → Prop) (D : va_G) (κ : Nat → ClassId) (A : Nat → Prop) (H0 : Heap) (t : Nat → Nat) (t_size : Int) (t_rights : Int) (t_latest : Int) (t_seenStep : Nat) (t_seenFrom : Nat) (t_seenTo : Nat) (t_seenValue : Nat) (t_timesRight : Nat) (t_rightStep : Nat) (t_rightOf : Nat) (t_rightValue : Nat) (i1 : Int) (i2 : Int) (t_knownValue : Nat) : Prop := ∀ (H : Heap) (locs : List Loc) (ls : Array Slot), va_P D vwCl ([((t 0), .inr (7, [.ref (t 1), .ref (t 2), .ref (t 3), .ref (t 4), .ref (t 5), .ref (t 6), .ref (t 7), .ref (t 8), .ref (t 9), .int (zi t_size), .int (zi t_rights), .int (zi t_latest)])), ((t 1), .inl (κ 1, 20, .inl (zc t_seenStep))), ((t 2), .inl (κ 1, 20, .inl (zc t_seenFrom))), ((t 3), .inl (κ 1, 20, .inl (zc t_seenTo))), ((t 4), .inl (κ 1, 20, .inl (zc t_seenValue))), ((t 5), .inl (κ 1, 20, .inl (zc t_timesRight))), ((t 6), .inl (κ 1, 20, .inl (zc t_rightStep))), ((t 7), .inl (κ 1, 20, .inl (zc t_rightOf))), ((t 8), .inl (κ 1, 20, .inl (zc t_rightValue))), ((t 9), .inl (κ 1, 20, .inl (zc t_knownValue)))]) H → va_D A ([((t 0), .inr (7, [.ref (t 1), .ref (t 2), .ref (t 3), .ref (t 4), .ref (t 5), .ref (t 6), .ref (t 7), .ref (t 8), .ref (t 9), .int (zi t_size), .int (zi t_rights), .int (zi t_latest)])), ((t 1), .inl (κ 1, 20, .inl (zc t_seenStep))), ((t 2), .inl (κ 1, 20, .inl (zc t_seenFrom))), ((t 3), .inl (κ 1, 20, .inl (zc t_seenTo))), ((t 4), .inl (κ 1, 20, .inl (zc t_seenValue))), ((t 5), .inl (κ 1, 20, .inl (zc t_timesRight))), ((t 6), .inl (κ 1, 20, .inl (zc t_rightStep))), ((t 7), .inl (κ 1, 20, .inl (zc t_rightOf))), ((t 8), .inl (κ 1, 20, .inl (zc t_rightValue))), ((t 9), .inl (κ 1, 20, .inl (zc t_knownValue)))]) → va_S A H0 H locs → lv_has ls 3 [(0, .ref (t 0)), (1, .int (zi i1)), (2, .int (zi i2))] → W p l e zr_X7_recall s m args below meth c H locs 0 0 Q (F0 m 2 ls [])
def zA_X7_recall_44 (p : Program) (l : Launch) (e : Env) (s : State) (m : MethodId) (args : Array Value) (below : List Frame) (meth : Method) (c : Code) (Q : State → Prop) (D : va_G) (κ : Nat → ClassId) (A : Nat → Prop) (H0 : Heap) (t : Nat → Nat) (t_size : Int) (t_rights : Int) (t_latest : Int) (t_seenStep : Nat) (t_seenFrom : Nat) (t_seenTo : Nat) (t_seenValue : Nat) (t_timesRight : Nat) (t_rightStep : Nat) (t_rightOf : Nat) (t_rightValue : Nat) (i1 : Int) (i2 : Int) (t_knownValue : Nat) : Prop := ∀ (H : Heap) (locs : List Loc) (ls : Array Slot), va_P D vwCl ([((t 0), .inr (7, [.ref (t 1), .ref (t 2), .ref (t 3), .ref (t 4), .ref (t 5), .ref (t 6), .ref (t 7), .ref (t 8), .ref (t 9), .int (zi t_size), .int (zi t_rights), .int (zi t_latest)])), ((t 1), .inl (κ 1, 20, .inl (zc t_seenStep))), ((t 2), .inl (κ 1, 20, .inl (zc t_seenFrom))), ((t 3), .inl (κ 1, 20, .inl (zc t_seenTo))), ((t 4), .inl (κ 1, 20, .inl (zc t_seenValue))), ((t 5), .inl (κ 1, 20, .inl (zc t_timesRight))), ((t 6), .inl (κ 1, 20, .inl (zc t_rightStep))), ((t 7), .inl (κ 1, 20, .inl (zc t_rightOf))), ((t 8), .inl (κ 1, 20, .inl (zc t_rightValue))), ((t 9), .inl (κ 1, 20, .inl (zc t_knownValue)))]) H → va_D A ([((t 0), .inr (7, [.ref (t 1), .ref (t 2), .ref (t 3), .ref (t 4), .ref (t 5), .ref (t 6), .ref (t 7), .ref (t 8), .ref (t 9), .int (zi t_size), .int (zi t_rights), .int (zi t_latest)])), ((t 1), .inl (κ 1, 20, .inl (zc t_seenStep))), ((t 2), .inl (κ 1, 20, .inl (zc t_seenFrom))), ((t 3), .inl (κ 1, 20, .inl (zc t_seenTo))), ((t 4), .inl (κ 1, 20, .inl (zc t_seenValue))), ((t 5), .inl (κ 1, 20, .inl (zc t_timesRight))), ((t 6), .inl (κ 1, 20, .inl (zc t_rightStep))), ((t 7), .inl (κ 1, 20, .inl (zc t_rightOf))), ((t 8), .inl (κ 1, 20, .inl (zc t_rightValue))), ((t 9), .inl (κ 1, 20, .inl (zc t_knownValue)))]) → va_S A H0 H locs → lv_has ls 3 [(0, .ref (t 0)), (1, .int (zi i1)), (2, .int (zi i2))] → W p l e zr_X7_recall s m args below meth c H locs 0 0 Q (F0 m 44 ls [])
def zA_X7_recall (p : Program) (l : Launch) (e : Env) (s : State) (m : MethodId) (args : Array Value) (below : List Frame) (meth : Method) (c : Code) (Q : State → Prop) (D : va_G) (κ : Nat → ClassId) (A : Nat → Prop) (H0 : Heap) (t : Nat → Nat) (t_size : Int) (t_rights : Int) (t_latest : Int) (t_seenStep : Nat) (t_seenFrom : Nat) (t_seenTo : Nat) (t_seenValue : Nat) (t_timesRight : Nat) (t_rightStep : Nat) (t_rightOf : Nat) (t_rightValue : Nat) (st : zS_X7_recall) : Prop := match st with
  | (lab, i1, i2, t_knownValue) => if lab = 0 then zA_X7_recall_0 p l e s m args below meth c Q D κ A H0 t t_size t_rights t_latest t_seenStep t_seenFrom t_seenTo t_seenValue t_timesRight t_rightStep t_rightOf t_rightValue i1 i2 t_knownValue else if lab = 2 then zA_X7_recall_2 p l e s m args below meth c Q D κ A H0 t t_size t_rights t_latest t_seenStep t_seenFrom t_seenTo t_seenValue t_timesRight t_rightStep t_rightOf t_rightValue i1 i2 t_knownValue else if lab = 44 then zA_X7_recall_44 p l e s m args below meth c Q D κ A H0 t t_size t_rights t_latest t_seenStep t_seenFrom t_seenTo t_seenValue t_timesRight t_rightStep t_rightOf t_rightValue i1 i2 t_knownValue else True
set_option maxHeartbeats 4000000 in
set_option maxRecDepth 100000 in
theorem zs_X7_recall_0 {p : Program} {l : Launch} {e : Env} {s : State} {m : MethodId} {args : Array Value} {below : List Frame} {meth : Method} {c : Code} {Q : State → Prop} {D : va_G} {κ : Nat → ClassId} {A : Nat → Prop} {H0 : Heap} (t : Nat → Nat) (t_size : Int) (t_rights : Int) (t_latest : Int) (t_seenStep : Nat) (t_seenFrom : Nat) (t_seenTo : Nat) (t_seenValue : Nat) (t_timesRight : Nat) (t_rightStep : Nat) (t_rightOf : Nat) (t_rightValue : Nat) (hx : p.tables.exec = Jvm.exec) (hb : c.code = cX7_recall) (hml : c.maxLocals = 3) (hown : s.vm.findClass RX7 = some m.cls) (hts : ∀ w ∈ wsX7_recall, w.before args s = true) (hK : va_K D vwCl (zTY κ) s) (hA : ∀ q : Nat, H0.size ≤ q → A q) (i1 : Int) (i2 : Int) (t_knownValue : Nat) (hg : Go (GoE (zA_X7_recall p l e s m args below meth c Q D κ A H0 t t_size t_rights t_latest t_seenStep t_seenFrom t_seenTo t_seenValue t_timesRight t_rightStep t_rightOf t_rightValue) (zQ_X7_recall p l e s m args below meth c Q D κ A H0 t t_size t_rights t_latest t_seenStep t_seenFrom t_seenTo t_seenValue t_timesRight t_rightStep t_rightOf t_rightValue)) (zg_X7_recall_0 t_size t_rights t_seenStep t_seenValue t_rightStep t_rightOf t_rightValue i1 i2 t_knownValue)) : zA_X7_recall_0 p l e s m args below meth c Q D κ A H0 t t_size t_rights t_latest t_seenStep t_seenFrom t_seenTo t_seenValue t_timesRight t_rightStep t_rightOf t_rightValue i1 i2 t_knownValue := by
  intro H locs ls hP hD hS hl
  unfold zg_X7_recall_0 at hg
  refine zv_iconst hx hb dX7_recall_0 ?_
  refine lv_istore_n (lv' := [(2, .int (zi (0 : Int))), (0, .ref (t 0)), (1, .int (zi i1))]) hx hb dX7_recall_1 rfl hl (by decide) rfl (fun ls hl => ?_)
  exact (Go_s hg) H locs ls hP hD hS (lv_sub hl [1, 2, 0] rfl)
set_option maxHeartbeats 4000000 in
set_option maxRecDepth 100000 in
theorem zs_X7_recall_2 {p : Program} {l : Launch} {e : Env} {s : State} {m : MethodId} {args : Array Value} {below : List Frame} {meth : Method} {c : Code} {Q : State → Prop} {D : va_G} {κ : Nat → ClassId} {A : Nat → Prop} {H0 : Heap} (t : Nat → Nat) (t_size : Int) (t_rights : Int) (t_latest : Int) (t_seenStep : Nat) (t_seenFrom : Nat) (t_seenTo : Nat) (t_seenValue : Nat) (t_timesRight : Nat) (t_rightStep : Nat) (t_rightOf : Nat) (t_rightValue : Nat) (hx : p.tables.exec = Jvm.exec) (hb : c.code = cX7_recall) (hml : c.maxLocals = 3) (hown : s.vm.findClass RX7 = some m.cls) (hts : ∀ w ∈ wsX7_recall, w.before args s = true) (hK : va_K D vwCl (zTY κ) s) (hA : ∀ q : Nat, H0.size ≤ q → A q) (i1 : Int) (i2 : Int) (t_knownValue : Nat) (hg : Go (GoE (zA_X7_recall p l e s m args below meth c Q D κ A H0 t t_size t_rights t_latest t_seenStep t_seenFrom t_seenTo t_seenValue t_timesRight t_rightStep t_rightOf t_rightValue) (zQ_X7_recall p l e s m args below meth c Q D κ A H0 t t_size t_rights t_latest t_seenStep t_seenFrom t_seenTo t_seenValue t_timesRight t_rightStep t_rightOf t_rightValue)) (zg_X7_recall_2 t_size t_rights t_seenStep t_seenValue t_rightStep t_rightOf t_rightValue i1 i2 t_knownValue)) : zA_X7_recall_2 p l e s m args below meth c Q D κ A H0 t t_size t_rights t_latest t_seenStep t_seenFrom t_seenTo t_seenValue t_timesRight t_rightStep t_rightOf t_rightValue i1 i2 t_knownValue := by
  intro H locs ls hP hD hS hl
  unfold zg_X7_recall_2 at hg
  refine lv_iload_n hx hb dX7_recall_2 rfl (lv_at hl 2 rfl) ?_
  refine lv_aload_n hx hb dX7_recall_3 rfl (lv_at hl 0 rfl) ?_
  refine va_get (D := D) (ci := 7) (v := .int (zi t_size)) (C := RX7) (T := TX7) (N := 12) hx hb hts zi_X7_recall_X7 hown hK hP 0 rfl rfl 9 (by decide) (hts (.fieldLink RX7 39 "DiamondRows$Sightings" "size" "I") zl_X7_recall_39) (fun _ h9 => h9) rfl dX7_recall_4 ?_
  obtain ⟨b1, hg⟩ := Go_n hg
  obtain ⟨b2, hg⟩ := Go_n hg
  refine zv_icmp_ge (tgt := 42) hx hb dX7_recall_7 (by decide) b1 b2 (fun c6 => ?_) (fun c6 => ?_)
  · have hg := Go_t c6 hg
    refine zv_iconst hx hb dX7_recall_42 ?_
    refine lv_istore_n (lv' := [(2, .int (zi (0 : Int))), (0, .ref (t 0)), (1, .int (zi i1))]) hx hb dX7_recall_43 rfl hl (by decide) rfl (fun ls hl => ?_)
    exact (Go_s hg) H locs ls hP hD hS (lv_sub hl [1, 2, 0] rfl)
  · have hg := Go_f c6 hg
    refine lv_aload_n hx hb dX7_recall_10 rfl (lv_at hl 0 rfl) ?_
    refine va_get (D := D) (ci := 7) (v := .ref (t 9)) (C := RX7) (T := TX7) (N := 12) hx hb hts zi_X7_recall_X7 hown hK hP 0 rfl rfl 8 (by decide) (hts (.fieldLink RX7 36 "DiamondRows$Sightings" "knownValue" "[I") zl_X7_recall_36) (fun _ h9 => h9) rfl dX7_recall_11 ?_
    refine lv_iload_n hx hb dX7_recall_14 rfl (lv_at hl 2 rfl) ?_
    refine lv_aload_n hx hb dX7_recall_15 rfl (lv_at hl 0 rfl) ?_
    refine va_get (D := D) (ci := 7) (v := .ref (t 1)) (C := RX7) (T := TX7) (N := 12) hx hb hts zi_X7_recall_X7 hown hK hP 0 rfl rfl 0 (by decide) (hts (.fieldLink RX7 11 "DiamondRows$Sightings" "seenStep" "[I") zl_X7_recall_11) (fun _ h9 => h9) rfl dX7_recall_16 ?_
    refine lv_iload_n hx hb dX7_recall_19 rfl (lv_at hl 2 rfl) ?_
    obtain ⟨n3, hg⟩ := Go_n hg
    refine zv_iald hx hb hK hP 1 1 rfl rfl (by decide) n3 dX7_recall_20 ?_
    refine lv_iload_n hx hb dX7_recall_21 rfl (lv_at hl 1 rfl) ?_
    obtain ⟨b4, hg⟩ := Go_n hg
    refine zv_icmp_gt (tgt := 34) hx hb dX7_recall_22 (by decide) (zget_in _ _) b4 (fun c5 => ?_) (fun c5 => ?_)
    · have hg := Go_t c5 hg
      refine zv_iconst hx hb dX7_recall_34 ?_
      refine zv_iast hx hb hK hP hD hS 9 1 rfl rfl (by decide) n3 dX7_recall_35 (fun H locs hP hD hS => ?_)
      have hP : va_P D vwCl ([((t 0), .inr (7, [.ref (t 1), .ref (t 2), .ref (t 3), .ref (t 4), .ref (t 5), .ref (t 6), .ref (t 7), .ref (t 8), .ref (t 9), .int (zi t_size), .int (zi t_rights), .int (zi t_latest)])), ((t 1), .inl (κ 1, 20, .inl (zc t_seenStep))), ((t 2), .inl (κ 1, 20, .inl (zc t_seenFrom))), ((t 3), .inl (κ 1, 20, .inl (zc t_seenTo))), ((t 4), .inl (κ 1, 20, .inl (zc t_seenValue))), ((t 5), .inl (κ 1, 20, .inl (zc t_timesRight))), ((t 6), .inl (κ 1, 20, .inl (zc t_rightStep))), ((t 7), .inl (κ 1, 20, .inl (zc t_rightOf))), ((t 8), .inl (κ 1, 20, .inl (zc t_rightValue))), ((t 9), .inl (κ 1, 20, .inl (zc (zset t_knownValue (Int.toNat i2) (-1 : Int)))))]) H := hP
      have hD : va_D A ([((t 0), .inr (7, [.ref (t 1), .ref (t 2), .ref (t 3), .ref (t 4), .ref (t 5), .ref (t 6), .ref (t 7), .ref (t 8), .ref (t 9), .int (zi t_size), .int (zi t_rights), .int (zi t_latest)])), ((t 1), .inl (κ 1, 20, .inl (zc t_seenStep))), ((t 2), .inl (κ 1, 20, .inl (zc t_seenFrom))), ((t 3), .inl (κ 1, 20, .inl (zc t_seenTo))), ((t 4), .inl (κ 1, 20, .inl (zc t_seenValue))), ((t 5), .inl (κ 1, 20, .inl (zc t_timesRight))), ((t 6), .inl (κ 1, 20, .inl (zc t_rightStep))), ((t 7), .inl (κ 1, 20, .inl (zc t_rightOf))), ((t 8), .inl (κ 1, 20, .inl (zc t_rightValue))), ((t 9), .inl (κ 1, 20, .inl (zc (zset t_knownValue (Int.toNat i2) (-1 : Int)))))]) := hD
      refine lv_iinc (v := zi (i2 + (1 : Int))) (lv' := [(2, .int (zi (i2 + (1 : Int)))), (0, .ref (t 0)), (1, .int (zi i1))]) hx hb dX7_recall_36 hl (k := 2) rfl (zi_add i2 _) (by decide) rfl (fun ls hl => ?_)
      refine lv_goto (tgt := 2) hx hb dX7_recall_39 (by decide) ?_
      exact (Go_s hg) H locs ls hP hD hS (lv_sub hl [1, 2, 0] rfl)
    · have hg := Go_f c5 hg
      refine lv_aload_n hx hb dX7_recall_25 rfl (lv_at hl 0 rfl) ?_
      refine va_get (D := D) (ci := 7) (v := .ref (t 4)) (C := RX7) (T := TX7) (N := 12) hx hb hts zi_X7_recall_X7 hown hK hP 0 rfl rfl 3 (by decide) (hts (.fieldLink RX7 21 "DiamondRows$Sightings" "seenValue" "[I") zl_X7_recall_21) (fun _ h9 => h9) rfl dX7_recall_26 ?_
      refine lv_iload_n hx hb dX7_recall_29 rfl (lv_at hl 2 rfl) ?_
      refine zv_iald hx hb hK hP 4 1 rfl rfl (by decide) n3 dX7_recall_30 ?_
      refine lv_goto (tgt := 35) hx hb dX7_recall_31 (by decide) ?_
      refine zv_iast hx hb hK hP hD hS 9 1 rfl rfl (by decide) n3 dX7_recall_35 (fun H locs hP hD hS => ?_)
      have hP : va_P D vwCl ([((t 0), .inr (7, [.ref (t 1), .ref (t 2), .ref (t 3), .ref (t 4), .ref (t 5), .ref (t 6), .ref (t 7), .ref (t 8), .ref (t 9), .int (zi t_size), .int (zi t_rights), .int (zi t_latest)])), ((t 1), .inl (κ 1, 20, .inl (zc t_seenStep))), ((t 2), .inl (κ 1, 20, .inl (zc t_seenFrom))), ((t 3), .inl (κ 1, 20, .inl (zc t_seenTo))), ((t 4), .inl (κ 1, 20, .inl (zc t_seenValue))), ((t 5), .inl (κ 1, 20, .inl (zc t_timesRight))), ((t 6), .inl (κ 1, 20, .inl (zc t_rightStep))), ((t 7), .inl (κ 1, 20, .inl (zc t_rightOf))), ((t 8), .inl (κ 1, 20, .inl (zc t_rightValue))), ((t 9), .inl (κ 1, 20, .inl (zc (zset t_knownValue (Int.toNat i2) (zget t_seenValue (Int.toNat i2))))))]) H := hP
      have hD : va_D A ([((t 0), .inr (7, [.ref (t 1), .ref (t 2), .ref (t 3), .ref (t 4), .ref (t 5), .ref (t 6), .ref (t 7), .ref (t 8), .ref (t 9), .int (zi t_size), .int (zi t_rights), .int (zi t_latest)])), ((t 1), .inl (κ 1, 20, .inl (zc t_seenStep))), ((t 2), .inl (κ 1, 20, .inl (zc t_seenFrom))), ((t 3), .inl (κ 1, 20, .inl (zc t_seenTo))), ((t 4), .inl (κ 1, 20, .inl (zc t_seenValue))), ((t 5), .inl (κ 1, 20, .inl (zc t_timesRight))), ((t 6), .inl (κ 1, 20, .inl (zc t_rightStep))), ((t 7), .inl (κ 1, 20, .inl (zc t_rightOf))), ((t 8), .inl (κ 1, 20, .inl (zc t_rightValue))), ((t 9), .inl (κ 1, 20, .inl (zc (zset t_knownValue (Int.toNat i2) (zget t_seenValue (Int.toNat i2))))))]) := hD
      refine lv_iinc (v := zi (i2 + (1 : Int))) (lv' := [(2, .int (zi (i2 + (1 : Int)))), (0, .ref (t 0)), (1, .int (zi i1))]) hx hb dX7_recall_36 hl (k := 2) rfl (zi_add i2 _) (by decide) rfl (fun ls hl => ?_)
      refine lv_goto (tgt := 2) hx hb dX7_recall_39 (by decide) ?_
      exact (Go_s hg) H locs ls hP hD hS (lv_sub hl [1, 2, 0] rfl)
set_option maxHeartbeats 4000000 in
set_option maxRecDepth 100000 in
theorem zs_X7_recall_44 {p : Program} {l : Launch} {e : Env} {s : State} {m : MethodId} {args : Array Value} {below : List Frame} {meth : Method} {c : Code} {Q : State → Prop} {D : va_G} {κ : Nat → ClassId} {A : Nat → Prop} {H0 : Heap} (t : Nat → Nat) (t_size : Int) (t_rights : Int) (t_latest : Int) (t_seenStep : Nat) (t_seenFrom : Nat) (t_seenTo : Nat) (t_seenValue : Nat) (t_timesRight : Nat) (t_rightStep : Nat) (t_rightOf : Nat) (t_rightValue : Nat) (hx : p.tables.exec = Jvm.exec) (hb : c.code = cX7_recall) (hml : c.maxLocals = 3) (hown : s.vm.findClass RX7 = some m.cls) (hts : ∀ w ∈ wsX7_recall, w.before args s = true) (hK : va_K D vwCl (zTY κ) s) (hA : ∀ q : Nat, H0.size ≤ q → A q) (i1 : Int) (i2 : Int) (t_knownValue : Nat) (hg : Go (GoE (zA_X7_recall p l e s m args below meth c Q D κ A H0 t t_size t_rights t_latest t_seenStep t_seenFrom t_seenTo t_seenValue t_timesRight t_rightStep t_rightOf t_rightValue) (zQ_X7_recall p l e s m args below meth c Q D κ A H0 t t_size t_rights t_latest t_seenStep t_seenFrom t_seenTo t_seenValue t_timesRight t_rightStep t_rightOf t_rightValue)) (zg_X7_recall_44 t_size t_rights t_seenStep t_seenValue t_rightStep t_rightOf t_rightValue i1 i2 t_knownValue)) : zA_X7_recall_44 p l e s m args below meth c Q D κ A H0 t t_size t_rights t_latest t_seenStep t_seenFrom t_seenTo t_seenValue t_timesRight t_rightStep t_rightOf t_rightValue i1 i2 t_knownValue := by
  intro H locs ls hP hD hS hl
  unfold zg_X7_recall_44 at hg
  refine lv_iload_n hx hb dX7_recall_44 rfl (lv_at hl 2 rfl) ?_
  refine lv_aload_n hx hb dX7_recall_45 rfl (lv_at hl 0 rfl) ?_
  refine va_get (D := D) (ci := 7) (v := .int (zi t_rights)) (C := RX7) (T := TX7) (N := 12) hx hb hts zi_X7_recall_X7 hown hK hP 0 rfl rfl 10 (by decide) (hts (.fieldLink RX7 43 "DiamondRows$Sightings" "rights" "I") zl_X7_recall_43) (fun _ h9 => h9) rfl dX7_recall_46 ?_
  obtain ⟨b7, hg⟩ := Go_n hg
  obtain ⟨b8, hg⟩ := Go_n hg
  refine zv_icmp_ge (tgt := 98) hx hb dX7_recall_49 (by decide) b7 b8 (fun c15 => ?_) (fun c15 => ?_)
  · have hg := Go_t c15 hg
    exact (Go_s hg) _ _ _ _ hP hD hS dX7_recall_98
  · have hg := Go_f c15 hg
    refine lv_aload_n hx hb dX7_recall_52 rfl (lv_at hl 0 rfl) ?_
    refine va_get (D := D) (ci := 7) (v := .ref (t 6)) (C := RX7) (T := TX7) (N := 12) hx hb hts zi_X7_recall_X7 hown hK hP 0 rfl rfl 5 (by decide) (hts (.fieldLink RX7 27 "DiamondRows$Sightings" "rightStep" "[I") zl_X7_recall_27) (fun _ h9 => h9) rfl dX7_recall_53 ?_
    refine lv_iload_n hx hb dX7_recall_56 rfl (lv_at hl 2 rfl) ?_
    obtain ⟨n9, hg⟩ := Go_n hg
    refine zv_iald hx hb hK hP 6 1 rfl rfl (by decide) n9 dX7_recall_57 ?_
    refine lv_iload_n hx hb dX7_recall_58 rfl (lv_at hl 1 rfl) ?_
    obtain ⟨b10, hg⟩ := Go_n hg
    refine zv_icmp_gt (tgt := 92) hx hb dX7_recall_59 (by decide) (zget_in _ _) b10 (fun c14 => ?_) (fun c14 => ?_)
    · have hg := Go_t c14 hg
      refine lv_iinc (v := zi (i2 + (1 : Int))) (lv' := [(2, .int (zi (i2 + (1 : Int)))), (0, .ref (t 0)), (1, .int (zi i1))]) hx hb dX7_recall_92 hl (k := 2) rfl (zi_add i2 _) (by decide) rfl (fun ls hl => ?_)
      refine lv_goto (tgt := 44) hx hb dX7_recall_95 (by decide) ?_
      exact (Go_s hg) H locs ls hP hD hS (lv_sub hl [1, 2, 0] rfl)
    · have hg := Go_f c14 hg
      refine lv_aload_n hx hb dX7_recall_62 rfl (lv_at hl 0 rfl) ?_
      refine lv_aload_n hx hb dX7_recall_63 rfl (lv_at hl 0 rfl) ?_
      refine va_get (D := D) (ci := 7) (v := .ref (t 7)) (C := RX7) (T := TX7) (N := 12) hx hb hts zi_X7_recall_X7 hown hK hP 0 rfl rfl 6 (by decide) (hts (.fieldLink RX7 30 "DiamondRows$Sightings" "rightOf" "[I") zl_X7_recall_30) (fun _ h9 => h9) rfl dX7_recall_64 ?_
      refine lv_iload_n hx hb dX7_recall_67 rfl (lv_at hl 2 rfl) ?_
      refine zv_iald hx hb hK hP 7 1 rfl rfl (by decide) n9 dX7_recall_68 ?_
      obtain ⟨o11, ho11, hg⟩ := Go_b hg
      refine zc_vi (rest := []) ⟨hx, hb, hml, hown, hts⟩ (zc_X7_has l D κ t t_size t_rights t_latest t_seenStep t_seenFrom t_seenTo t_seenValue t_timesRight t_rightStep t_rightOf t_rightValue t_knownValue (zget t_rightOf (Int.toNat i2)) o11 ho11) (cwV 1 hts gX7_recall_X7_has rfl rfl rfl (by decide +kernel) ⟨Nat.le_of_ble_eq_true rfl, Nat.le_of_ble_eq_true rfl⟩) (zpreV hK (hP.sub [0, 1, 2, 3, 4, 5, 6, 7, 8, 9] rfl) 7 0 rfl rfl) rfl hl.1 rfl (Nat.le_of_ble_eq_true rfl) dX7_recall_69 ⟨Nat.zero_le _, Nat.zero_le _⟩ ?_
      refine zv_ifb_eq (tgt := 92) hx hb dX7_recall_72 (by decide) (fun c13 => ?_) (fun c13 => ?_)
      · have hg := Go_t c13 hg
        refine lv_iinc (v := zi (i2 + (1 : Int))) (lv' := [(2, .int (zi (i2 + (1 : Int)))), (0, .ref (t 0)), (1, .int (zi i1))]) hx hb dX7_recall_92 hl (k := 2) rfl (zi_add i2 _) (by decide) rfl (fun ls hl => ?_)
        refine lv_goto (tgt := 44) hx hb dX7_recall_95 (by decide) ?_
        exact (Go_s hg) H locs ls hP hD hS (lv_sub hl [1, 2, 0] rfl)
      · have hg := Go_f c13 hg
        refine lv_aload_n hx hb dX7_recall_75 rfl (lv_at hl 0 rfl) ?_
        refine va_get (D := D) (ci := 7) (v := .ref (t 9)) (C := RX7) (T := TX7) (N := 12) hx hb hts zi_X7_recall_X7 hown hK hP 0 rfl rfl 8 (by decide) (hts (.fieldLink RX7 36 "DiamondRows$Sightings" "knownValue" "[I") zl_X7_recall_36) (fun _ h9 => h9) rfl dX7_recall_76 ?_
        refine lv_aload_n hx hb dX7_recall_79 rfl (lv_at hl 0 rfl) ?_
        refine va_get (D := D) (ci := 7) (v := .ref (t 7)) (C := RX7) (T := TX7) (N := 12) hx hb hts zi_X7_recall_X7 hown hK hP 0 rfl rfl 6 (by decide) (hts (.fieldLink RX7 30 "DiamondRows$Sightings" "rightOf" "[I") zl_X7_recall_30) (fun _ h9 => h9) rfl dX7_recall_80 ?_
        refine lv_iload_n hx hb dX7_recall_83 rfl (lv_at hl 2 rfl) ?_
        refine zv_iald hx hb hK hP 7 1 rfl rfl (by decide) n9 dX7_recall_84 ?_
        refine lv_aload_n hx hb dX7_recall_85 rfl (lv_at hl 0 rfl) ?_
        refine va_get (D := D) (ci := 7) (v := .ref (t 8)) (C := RX7) (T := TX7) (N := 12) hx hb hts zi_X7_recall_X7 hown hK hP 0 rfl rfl 7 (by decide) (hts (.fieldLink RX7 33 "DiamondRows$Sightings" "rightValue" "[I") zl_X7_recall_33) (fun _ h9 => h9) rfl dX7_recall_86 ?_
        refine lv_iload_n hx hb dX7_recall_89 rfl (lv_at hl 2 rfl) ?_
        refine zv_iald hx hb hK hP 8 1 rfl rfl (by decide) n9 dX7_recall_90 ?_
        obtain ⟨n12, hg⟩ := Go_n hg
        refine zv_iast hx hb hK hP hD hS 9 1 rfl rfl (by decide) n12 dX7_recall_91 (fun H locs hP hD hS => ?_)
        have hP : va_P D vwCl ([((t 0), .inr (7, [.ref (t 1), .ref (t 2), .ref (t 3), .ref (t 4), .ref (t 5), .ref (t 6), .ref (t 7), .ref (t 8), .ref (t 9), .int (zi t_size), .int (zi t_rights), .int (zi t_latest)])), ((t 1), .inl (κ 1, 20, .inl (zc t_seenStep))), ((t 2), .inl (κ 1, 20, .inl (zc t_seenFrom))), ((t 3), .inl (κ 1, 20, .inl (zc t_seenTo))), ((t 4), .inl (κ 1, 20, .inl (zc t_seenValue))), ((t 5), .inl (κ 1, 20, .inl (zc t_timesRight))), ((t 6), .inl (κ 1, 20, .inl (zc t_rightStep))), ((t 7), .inl (κ 1, 20, .inl (zc t_rightOf))), ((t 8), .inl (κ 1, 20, .inl (zc t_rightValue))), ((t 9), .inl (κ 1, 20, .inl (zc (zset t_knownValue (Int.toNat (zget t_rightOf (Int.toNat i2))) (zget t_rightValue (Int.toNat i2))))))]) H := hP
        have hD : va_D A ([((t 0), .inr (7, [.ref (t 1), .ref (t 2), .ref (t 3), .ref (t 4), .ref (t 5), .ref (t 6), .ref (t 7), .ref (t 8), .ref (t 9), .int (zi t_size), .int (zi t_rights), .int (zi t_latest)])), ((t 1), .inl (κ 1, 20, .inl (zc t_seenStep))), ((t 2), .inl (κ 1, 20, .inl (zc t_seenFrom))), ((t 3), .inl (κ 1, 20, .inl (zc t_seenTo))), ((t 4), .inl (κ 1, 20, .inl (zc t_seenValue))), ((t 5), .inl (κ 1, 20, .inl (zc t_timesRight))), ((t 6), .inl (κ 1, 20, .inl (zc t_rightStep))), ((t 7), .inl (κ 1, 20, .inl (zc t_rightOf))), ((t 8), .inl (κ 1, 20, .inl (zc t_rightValue))), ((t 9), .inl (κ 1, 20, .inl (zc (zset t_knownValue (Int.toNat (zget t_rightOf (Int.toNat i2))) (zget t_rightValue (Int.toNat i2))))))]) := hD
        refine lv_iinc (v := zi (i2 + (1 : Int))) (lv' := [(2, .int (zi (i2 + (1 : Int)))), (0, .ref (t 0)), (1, .int (zi i1))]) hx hb dX7_recall_92 hl (k := 2) rfl (zi_add i2 _) (by decide) rfl (fun ls hl => ?_)
        refine lv_goto (tgt := 44) hx hb dX7_recall_95 (by decide) ?_
        exact (Go_s hg) H locs ls hP hD hS (lv_sub hl [1, 2, 0] rfl)
set_option maxHeartbeats 4000000 in
set_option maxRecDepth 100000 in
theorem zw_X7_recall {p : Program} {l : Launch} {e : Env} {s : State} {m : MethodId} {args : Array Value} {below : List Frame} {meth : Method} {c : Code} {Q : State → Prop} {D : va_G} {κ : Nat → ClassId} {A : Nat → Prop} {H0 : Heap} (t : Nat → Nat) (t_size : Int) (t_rights : Int) (t_latest : Int) (t_seenStep : Nat) (t_seenFrom : Nat) (t_seenTo : Nat) (t_seenValue : Nat) (t_timesRight : Nat) (t_rightStep : Nat) (t_rightOf : Nat) (t_rightValue : Nat) (t_knownValue : Nat) (i1 : Int) (hx : p.tables.exec = Jvm.exec) (hb : c.code = cX7_recall) (hml : c.maxLocals = 3) (hown : s.vm.findClass RX7 = some m.cls) (hts : ∀ w ∈ wsX7_recall, w.before args s = true) (hK : va_K D vwCl (zTY κ) s) (hA : ∀ q : Nat, H0.size ≤ q → A q) (out : Nat) (h : zf_X7_recall t_size t_rights t_seenStep t_seenValue t_rightStep t_rightOf t_rightValue t_knownValue i1 = some out) (hq : zQ_X7_recall p l e s m args below meth c Q D κ A H0 t t_size t_rights t_latest t_seenStep t_seenFrom t_seenTo t_seenValue t_timesRight t_rightStep t_rightOf t_rightValue out) : zA_X7_recall_0 p l e s m args below meth c Q D κ A H0 t t_size t_rights t_latest t_seenStep t_seenFrom t_seenTo t_seenValue t_timesRight t_rightStep t_rightOf t_rightValue i1 0 t_knownValue := by
  have hst : ∀ st : zS_X7_recall, Go (GoE (zA_X7_recall p l e s m args below meth c Q D κ A H0 t t_size t_rights t_latest t_seenStep t_seenFrom t_seenTo t_seenValue t_timesRight t_rightStep t_rightOf t_rightValue) (zQ_X7_recall p l e s m args below meth c Q D κ A H0 t t_size t_rights t_latest t_seenStep t_seenFrom t_seenTo t_seenValue t_timesRight t_rightStep t_rightOf t_rightValue)) (zg_X7_recall t_size t_rights t_seenStep t_seenValue t_rightStep t_rightOf t_rightValue st) → zA_X7_recall p l e s m args below meth c Q D κ A H0 t t_size t_rights t_latest t_seenStep t_seenFrom t_seenTo t_seenValue t_timesRight t_rightStep t_rightOf t_rightValue st := by
    intro st hg
    obtain ⟨lab, i1, i2, t_knownValue⟩ := st
    by_cases h0 : lab = 0
    · subst h0
      exact zs_X7_recall_0 t t_size t_rights t_latest t_seenStep t_seenFrom t_seenTo t_seenValue t_timesRight t_rightStep t_rightOf t_rightValue hx hb hml hown hts hK hA i1 i2 t_knownValue hg
    by_cases h2 : lab = 2
    · subst h2
      exact zs_X7_recall_2 t t_size t_rights t_latest t_seenStep t_seenFrom t_seenTo t_seenValue t_timesRight t_rightStep t_rightOf t_rightValue hx hb hml hown hts hK hA i1 i2 t_knownValue hg
    by_cases h44 : lab = 44
    · subst h44
      exact zs_X7_recall_44 t t_size t_rights t_latest t_seenStep t_seenFrom t_seenTo t_seenValue t_timesRight t_rightStep t_rightOf t_rightValue hx hb hml hown hts hK hA i1 i2 t_knownValue hg
    have hz : zg_X7_recall t_size t_rights t_seenStep t_seenValue t_rightStep t_rightOf t_rightValue (lab, i1, i2, t_knownValue) = none := by simp [zg_X7_recall, h0, h2, h44]
    rw [hz] at hg
    obtain ⟨a, h1, -⟩ := hg
    cases h1
  exact jwalk (At := zA_X7_recall p l e s m args below meth c Q D κ A H0 t t_size t_rights t_latest t_seenStep t_seenFrom t_seenTo t_seenValue t_timesRight t_rightStep t_rightOf t_rightValue) (Ret := zQ_X7_recall p l e s m args below meth c Q D κ A H0 t t_size t_rights t_latest t_seenStep t_seenFrom t_seenTo t_seenValue t_timesRight t_rightStep t_rightOf t_rightValue) hst _ _ _ h hq
set_option maxHeartbeats 4000000 in
set_option maxRecDepth 100000 in
theorem zc_X7_recall (l : Launch) (D : va_G) (κ : Nat → ClassId) (t : Nat → Nat) (sz : Nat) (t_size : Int) (t_rights : Int) (t_latest : Int) (t_seenStep : Nat) (t_seenFrom : Nat) (t_seenTo : Nat) (t_seenValue : Nat) (t_timesRight : Nat) (t_rightStep : Nat) (t_rightOf : Nat) (t_rightValue : Nat) (t_knownValue : Nat) (i1 : Int) (out : Nat) (h : zf_X7_recall t_size t_rights t_seenStep t_seenValue t_rightStep t_rightOf t_rightValue t_knownValue i1 = some out) : Met l yX7_recall wsX7_recall zr_X7_recall (va_Pc [.ref (t 0), .int (zi i1)] (zW D κ ([((t 0), .inr (7, [.ref (t 1), .ref (t 2), .ref (t 3), .ref (t 4), .ref (t 5), .ref (t 6), .ref (t 7), .ref (t 8), .ref (t 9), .int (zi t_size), .int (zi t_rights), .int (zi t_latest)])), ((t 1), .inl (κ 1, 20, .inl (zc t_seenStep))), ((t 2), .inl (κ 1, 20, .inl (zc t_seenFrom))), ((t 3), .inl (κ 1, 20, .inl (zc t_seenTo))), ((t 4), .inl (κ 1, 20, .inl (zc t_seenValue))), ((t 5), .inl (κ 1, 20, .inl (zc t_timesRight))), ((t 6), .inl (κ 1, 20, .inl (zc t_rightStep))), ((t 7), .inl (κ 1, 20, .inl (zc t_rightOf))), ((t 8), .inl (κ 1, 20, .inl (zc t_rightValue))), ((t 9), .inl (κ 1, 20, .inl (zc t_knownValue)))]) sz)) (va_Qv (fun (_ : Unit) => True) (fun _ => zB D κ (va_A ([((t 0), .inr (7, [.ref (t 1), .ref (t 2), .ref (t 3), .ref (t 4), .ref (t 5), .ref (t 6), .ref (t 7), .ref (t 8), .ref (t 9), .int (zi t_size), .int (zi t_rights), .int (zi t_latest)])), ((t 1), .inl (κ 1, 20, .inl (zc t_seenStep))), ((t 2), .inl (κ 1, 20, .inl (zc t_seenFrom))), ((t 3), .inl (κ 1, 20, .inl (zc t_seenTo))), ((t 4), .inl (κ 1, 20, .inl (zc t_seenValue))), ((t 5), .inl (κ 1, 20, .inl (zc t_timesRight))), ((t 6), .inl (κ 1, 20, .inl (zc t_rightStep))), ((t 7), .inl (κ 1, 20, .inl (zc t_rightOf))), ((t 8), .inl (κ 1, 20, .inl (zc t_rightValue))), ((t 9), .inl (κ 1, 20, .inl (zc t_knownValue)))]) sz) ([((t 0), .inr (7, [.ref (t 1), .ref (t 2), .ref (t 3), .ref (t 4), .ref (t 5), .ref (t 6), .ref (t 7), .ref (t 8), .ref (t 9), .int (zi t_size), .int (zi t_rights), .int (zi t_latest)])), ((t 1), .inl (κ 1, 20, .inl (zc t_seenStep))), ((t 2), .inl (κ 1, 20, .inl (zc t_seenFrom))), ((t 3), .inl (κ 1, 20, .inl (zc t_seenTo))), ((t 4), .inl (κ 1, 20, .inl (zc t_seenValue))), ((t 5), .inl (κ 1, 20, .inl (zc t_timesRight))), ((t 6), .inl (κ 1, 20, .inl (zc t_rightStep))), ((t 7), .inl (κ 1, 20, .inl (zc t_rightOf))), ((t 8), .inl (κ 1, 20, .inl (zc t_rightValue))), ((t 9), .inl (κ 1, 20, .inl (zc out)))])) (va_A ([((t 0), .inr (7, [.ref (t 1), .ref (t 2), .ref (t 3), .ref (t 4), .ref (t 5), .ref (t 6), .ref (t 7), .ref (t 8), .ref (t 9), .int (zi t_size), .int (zi t_rights), .int (zi t_latest)])), ((t 1), .inl (κ 1, 20, .inl (zc t_seenStep))), ((t 2), .inl (κ 1, 20, .inl (zc t_seenFrom))), ((t 3), .inl (κ 1, 20, .inl (zc t_seenTo))), ((t 4), .inl (κ 1, 20, .inl (zc t_seenValue))), ((t 5), .inl (κ 1, 20, .inl (zc t_timesRight))), ((t 6), .inl (κ 1, 20, .inl (zc t_rightStep))), ((t 7), .inl (κ 1, 20, .inl (zc t_rightOf))), ((t 8), .inl (κ 1, 20, .inl (zc t_rightValue))), ((t 9), .inl (κ 1, 20, .inl (zc t_knownValue)))]) sz)) 0 0 (va_A ([((t 0), .inr (7, [.ref (t 1), .ref (t 2), .ref (t 3), .ref (t 4), .ref (t 5), .ref (t 6), .ref (t 7), .ref (t 8), .ref (t 9), .int (zi t_size), .int (zi t_rights), .int (zi t_latest)])), ((t 1), .inl (κ 1, 20, .inl (zc t_seenStep))), ((t 2), .inl (κ 1, 20, .inl (zc t_seenFrom))), ((t 3), .inl (κ 1, 20, .inl (zc t_seenTo))), ((t 4), .inl (κ 1, 20, .inl (zc t_seenValue))), ((t 5), .inl (κ 1, 20, .inl (zc t_timesRight))), ((t 6), .inl (κ 1, 20, .inl (zc t_rightStep))), ((t 7), .inl (κ 1, 20, .inl (zc t_rightOf))), ((t 8), .inl (κ 1, 20, .inl (zc t_rightValue))), ((t 9), .inl (κ 1, 20, .inl (zc t_knownValue)))]) sz) := by
  refine Met.ofW (cc := cX7_recall) (maxL := 3) (ret := none) (by decide +kernel) rfl ?_
  intro p e s m args below meth c s₁ B hml hv
  obtain ⟨rfl, hsz, hP, hK, hD0⟩ := hv
  have hx := B.exec
  have hb := B.bytes
  have hr := B.returns
  have hts := atoms_spec (ws := wsX7_recall) B.pre
  have hown : s.vm.findClass RX7 = some m.cls := findClass_of_methodNamed B.named
  have hlocks := B.notSynchronized
  subst hsz
  have hD := hD0.self (sz := s.heap.size)
  generalize hAe : va_A ([((t 0), .inr (7, [.ref (t 1), .ref (t 2), .ref (t 3), .ref (t 4), .ref (t 5), .ref (t 6), .ref (t 7), .ref (t 8), .ref (t 9), .int (zi t_size), .int (zi t_rights), .int (zi t_latest)])), ((t 1), .inl (κ 1, 20, .inl (zc t_seenStep))), ((t 2), .inl (κ 1, 20, .inl (zc t_seenFrom))), ((t 3), .inl (κ 1, 20, .inl (zc t_seenTo))), ((t 4), .inl (κ 1, 20, .inl (zc t_seenValue))), ((t 5), .inl (κ 1, 20, .inl (zc t_timesRight))), ((t 6), .inl (κ 1, 20, .inl (zc t_rightStep))), ((t 7), .inl (κ 1, 20, .inl (zc t_rightOf))), ((t 8), .inl (κ 1, 20, .inl (zc t_rightValue))), ((t 9), .inl (κ 1, 20, .inl (zc t_knownValue)))]) s.heap.size = A at hD ⊢
  have hA : ∀ q : Nat, s.heap.size ≤ q → A q := fun q h => by rw [← hAe]; exact Or.inr h
  have hS : va_S A s.heap s.heap [] := va_S.rf
  have hl := lv_entry ([.ref (t 0), .int (zi i1)]) (n := 3) (Nat.le_of_ble_eq_true rfl)
  rw [lg_entry_eq]
  generalize (lg_sl ([.ref (t 0), .int (zi i1)]) ++ List.replicate (3 - (lg_sl ([.ref (t 0), .int (zi i1)])).length) Slot.unset).toArray = ls at hl ⊢
  have hl : lv_has ls 3 [(0, .ref (t 0)), (1, .int (zi i1))] := hl
  refine (zw_X7_recall t t_size t_rights t_latest t_seenStep t_seenFrom t_seenTo t_seenValue t_timesRight t_rightStep t_rightOf t_rightValue t_knownValue i1 hx hb hml hown hts hK hA out h ?_) s.heap [] ls hP hD hS (lv_sub hl [0, 1] rfl)
  exact fun H locs ls pc hP hD hS hd => W.vret hx hb hr (fun t ht hW => ⟨⟨(), rfl, trivial, by rw [ht]; exact hP, va_K.moved hW.alike hK, hD⟩, hS.F ht⟩) hS.2.2 hd
/-! DiamondRows$Sightings.agreeWith(LDiamondRows$Polygon;I)Z -/
abbrev zr_X7_agreeWith : Room := { frames := 3, cells := 0, slots := 0, locals := 70 }
abbrev zS_X7_agreeWith : Type := Nat × Int × Int
abbrev zO_X7_agreeWith : Type := Bool
noncomputable def zg_X7_agreeWith_0 (mk : Nat) (t_size : Int) (t_seenFrom : Nat) (t_seenTo : Nat) (t_knownValue : Nat) (n1 : Nat) (i2 : Int) (i3 : Int) : Option (zO_X7_agreeWith ⊕ zS_X7_agreeWith) :=
  some (.inr (2, i2, (0 : Int)))
noncomputable def zg_X7_agreeWith_2 (mk : Nat) (t_size : Int) (t_seenFrom : Nat) (t_seenTo : Nat) (t_knownValue : Nat) (n1 : Nat) (i2 : Int) (i3 : Int) : Option (zO_X7_agreeWith ⊕ zS_X7_agreeWith) :=
  if zout i3 then none else
  if zout t_size then none else
  if t_size ≤ i3 then
  some (.inl (true))
  else
  if i3 < 0 ∨ 20 ≤ i3 then none else
  if (zget t_knownValue (Int.toNat i3)) = (-1 : Int) then
  if (0 : Int) = 0 then
  some (.inr (2, i2, (i3 + (1 : Int))))
  else
  if zno mk n1 then none else
  Option.bind (zf_X5_entryOf n1 i2 (zget t_seenFrom (Int.toNat i3)) (zget t_seenTo (Int.toNat i3))) (fun o5 =>
  if zout o5 then none else
  if o5 = (zget t_knownValue (Int.toNat i3)) then
  some (.inr (2, i2, (i3 + (1 : Int))))
  else
  some (.inl (false)))
  else
  if (1 : Int) = 0 then
  some (.inr (2, i2, (i3 + (1 : Int))))
  else
  if zno mk n1 then none else
  Option.bind (zf_X5_entryOf n1 i2 (zget t_seenFrom (Int.toNat i3)) (zget t_seenTo (Int.toNat i3))) (fun o10 =>
  if zout o10 then none else
  if o10 = (zget t_knownValue (Int.toNat i3)) then
  some (.inr (2, i2, (i3 + (1 : Int))))
  else
  some (.inl (false)))
noncomputable def zg_X7_agreeWith (mk : Nat) (t_size : Int) (t_seenFrom : Nat) (t_seenTo : Nat) (t_knownValue : Nat) (n1 : Nat) (st : zS_X7_agreeWith) : Option (zO_X7_agreeWith ⊕ zS_X7_agreeWith) := match st with
  | (lab, i2, i3) => if lab = 0 then zg_X7_agreeWith_0 mk t_size t_seenFrom t_seenTo t_knownValue n1 i2 i3 else if lab = 2 then zg_X7_agreeWith_2 mk t_size t_seenFrom t_seenTo t_knownValue n1 i2 i3 else none
noncomputable def zf_X7_agreeWith (mk : Nat) (t_size : Int) (t_seenFrom : Nat) (t_seenTo : Nat) (t_knownValue : Nat) (n1 : Nat) (i2 : Int) : Option (Bool) := jrun (zg_X7_agreeWith mk t_size t_seenFrom t_seenTo t_knownValue n1) jfuel (0, i2, 0)
theorem zi_X7_agreeWith_X7 : ∀ w ∈ u_ws RX7 TX7 12, w ∈ wsX7_agreeWith := by decide +kernel
theorem zl_X7_agreeWith_15 : Cond.fieldLink RX7 15 "DiamondRows$Sightings" "seenFrom" "[I" ∈ wsX7_agreeWith := by decide +kernel
theorem zl_X7_agreeWith_18 : Cond.fieldLink RX7 18 "DiamondRows$Sightings" "seenTo" "[I" ∈ wsX7_agreeWith := by decide +kernel
theorem zl_X7_agreeWith_36 : Cond.fieldLink RX7 36 "DiamondRows$Sightings" "knownValue" "[I" ∈ wsX7_agreeWith := by decide +kernel
theorem zl_X7_agreeWith_39 : Cond.fieldLink RX7 39 "DiamondRows$Sightings" "size" "I" ∈ wsX7_agreeWith := by decide +kernel
def zQ_X7_agreeWith (p : Program) (l : Launch) (e : Env) (s : State) (m : MethodId) (args : Array Value) (below : List Frame) (meth : Method) (c : Code) (Q : State → Prop) (H : Heap) (locs : List Loc)  (o : Bool) : Prop := ∀ (ls : Array Slot) (pc : Nat), decode cX7_agreeWith pc = .ok (.ireturn, 1) → W p l e zr_X7_agreeWith s m args below meth c H locs 0 0 Q (F0 m pc ls [.int (zi (bI o))])
def zA_X7_agreeWith_0 (p : Program) (l : Launch) (e : Env) (s : State) (m : MethodId) (args : Array Value) (below : List Frame) (meth : Method) (c : Code) (Q : State → Prop) (H : Heap) (locs : List Loc) (t : Nat → Nat) (mk : Nat) (ad : Nat → Nat → Nat) (n1 : Nat) (i2 : Int) (i3 : Int) : Prop := ∀ ls : Array Slot, lv_has ls 5 [(0, .ref (t 0)), (1, .ref (ad n1 0)), (2, .int (zi i2))] → W p l e zr_X7_agreeWith s m args below meth c H locs 0 0 Q (F0 m 0 ls [])
def zA_X7_agreeWith_2 (p : Program) (l : Launch) (e : Env) (s : State) (m : MethodId) (args : Array Value) (below : List Frame) (meth : Method) (c : Code) (Q : State → Prop) (H : Heap) (locs : List Loc) (t : Nat → Nat) (mk : Nat) (ad : Nat → Nat → Nat) (n1 : Nat) (i2 : Int) (i3 : Int) : Prop := ∀ ls : Array Slot, lv_has ls 5 [(0, .ref (t 0)), (1, .ref (ad n1 0)), (2, .int (zi i2)), (3, .int (zi i3))] → W p l e zr_X7_agreeWith s m args below meth c H locs 0 0 Q (F0 m 2 ls [])
def zA_X7_agreeWith (p : Program) (l : Launch) (e : Env) (s : State) (m : MethodId) (args : Array Value) (below : List Frame) (meth : Method) (c : Code) (Q : State → Prop) (H : Heap) (locs : List Loc) (t : Nat → Nat) (mk : Nat) (ad : Nat → Nat → Nat) (n1 : Nat) (st : zS_X7_agreeWith) : Prop := match st with
  | (lab, i2, i3) => if lab = 0 then zA_X7_agreeWith_0 p l e s m args below meth c Q H locs t mk ad n1 i2 i3 else if lab = 2 then zA_X7_agreeWith_2 p l e s m args below meth c Q H locs t mk ad n1 i2 i3 else True
set_option maxHeartbeats 4000000 in
set_option maxRecDepth 100000 in
theorem zs_X7_agreeWith_0 {p : Program} {l : Launch} {e : Env} {s : State} {m : MethodId} {args : Array Value} {below : List Frame} {meth : Method} {c : Code} {Q : State → Prop} {D : va_G} {κ : Nat → ClassId} {H : Heap} {locs : List Loc} (t : Nat → Nat) (mk : Nat) (ad : Nat → Nat → Nat) (t_size : Int) (t_rights : Int) (t_latest : Int) (t_seenStep : Nat) (t_seenFrom : Nat) (t_seenTo : Nat) (t_seenValue : Nat) (t_timesRight : Nat) (t_rightStep : Nat) (t_rightOf : Nat) (t_rightValue : Nat) (t_knownValue : Nat) (n1 : Nat) (hx : p.tables.exec = Jvm.exec) (hb : c.code = cX7_agreeWith) (hml : c.maxLocals = 5) (hown : s.vm.findClass RX7 = some m.cls) (hts : ∀ w ∈ wsX7_agreeWith, w.before args s = true) (hK : va_K D vwCl (zTY κ) s) (hP : va_P D vwCl ([((t 0), .inr (7, [.ref (t 1), .ref (t 2), .ref (t 3), .ref (t 4), .ref (t 5), .ref (t 6), .ref (t 7), .ref (t 8), .ref (t 9), .int (zi t_size), .int (zi t_rights), .int (zi t_latest)])), ((t 1), .inl (κ 1, 20, .inl (zc t_seenStep))), ((t 2), .inl (κ 1, 20, .inl (zc t_seenFrom))), ((t 3), .inl (κ 1, 20, .inl (zc t_seenTo))), ((t 4), .inl (κ 1, 20, .inl (zc t_seenValue))), ((t 5), .inl (κ 1, 20, .inl (zc t_timesRight))), ((t 6), .inl (κ 1, 20, .inl (zc t_rightStep))), ((t 7), .inl (κ 1, 20, .inl (zc t_rightOf))), ((t 8), .inl (κ 1, 20, .inl (zc t_rightValue))), ((t 9), .inl (κ 1, 20, .inl (zc t_knownValue)))]) H) (hB : zAmb D κ mk ad H) (i2 : Int) (i3 : Int) (hg : Go (GoE (zA_X7_agreeWith p l e s m args below meth c Q H locs t mk ad n1) (zQ_X7_agreeWith p l e s m args below meth c Q H locs)) (zg_X7_agreeWith_0 mk t_size t_seenFrom t_seenTo t_knownValue n1 i2 i3)) : zA_X7_agreeWith_0 p l e s m args below meth c Q H locs t mk ad n1 i2 i3 := by
  intro ls hl
  unfold zg_X7_agreeWith_0 at hg
  refine zv_iconst hx hb dX7_agreeWith_0 ?_
  refine lv_istore_n (lv' := [(3, .int (zi (0 : Int))), (0, .ref (t 0)), (1, .ref (ad n1 0)), (2, .int (zi i2))]) hx hb dX7_agreeWith_1 rfl hl (by decide) rfl (fun ls hl => ?_)
  exact (Go_s hg) ls (lv_sub hl [1, 2, 3, 0] rfl)
set_option maxHeartbeats 4000000 in
set_option maxRecDepth 100000 in
theorem zs_X7_agreeWith_2 {p : Program} {l : Launch} {e : Env} {s : State} {m : MethodId} {args : Array Value} {below : List Frame} {meth : Method} {c : Code} {Q : State → Prop} {D : va_G} {κ : Nat → ClassId} {H : Heap} {locs : List Loc} (t : Nat → Nat) (mk : Nat) (ad : Nat → Nat → Nat) (t_size : Int) (t_rights : Int) (t_latest : Int) (t_seenStep : Nat) (t_seenFrom : Nat) (t_seenTo : Nat) (t_seenValue : Nat) (t_timesRight : Nat) (t_rightStep : Nat) (t_rightOf : Nat) (t_rightValue : Nat) (t_knownValue : Nat) (n1 : Nat) (hx : p.tables.exec = Jvm.exec) (hb : c.code = cX7_agreeWith) (hml : c.maxLocals = 5) (hown : s.vm.findClass RX7 = some m.cls) (hts : ∀ w ∈ wsX7_agreeWith, w.before args s = true) (hK : va_K D vwCl (zTY κ) s) (hP : va_P D vwCl ([((t 0), .inr (7, [.ref (t 1), .ref (t 2), .ref (t 3), .ref (t 4), .ref (t 5), .ref (t 6), .ref (t 7), .ref (t 8), .ref (t 9), .int (zi t_size), .int (zi t_rights), .int (zi t_latest)])), ((t 1), .inl (κ 1, 20, .inl (zc t_seenStep))), ((t 2), .inl (κ 1, 20, .inl (zc t_seenFrom))), ((t 3), .inl (κ 1, 20, .inl (zc t_seenTo))), ((t 4), .inl (κ 1, 20, .inl (zc t_seenValue))), ((t 5), .inl (κ 1, 20, .inl (zc t_timesRight))), ((t 6), .inl (κ 1, 20, .inl (zc t_rightStep))), ((t 7), .inl (κ 1, 20, .inl (zc t_rightOf))), ((t 8), .inl (κ 1, 20, .inl (zc t_rightValue))), ((t 9), .inl (κ 1, 20, .inl (zc t_knownValue)))]) H) (hB : zAmb D κ mk ad H) (i2 : Int) (i3 : Int) (hg : Go (GoE (zA_X7_agreeWith p l e s m args below meth c Q H locs t mk ad n1) (zQ_X7_agreeWith p l e s m args below meth c Q H locs)) (zg_X7_agreeWith_2 mk t_size t_seenFrom t_seenTo t_knownValue n1 i2 i3)) : zA_X7_agreeWith_2 p l e s m args below meth c Q H locs t mk ad n1 i2 i3 := by
  intro ls hl
  unfold zg_X7_agreeWith_2 at hg
  refine lv_iload_n hx hb dX7_agreeWith_2 rfl (lv_at hl 3 rfl) ?_
  refine lv_aload_n hx hb dX7_agreeWith_3 rfl (lv_at hl 0 rfl) ?_
  refine va_get (D := D) (ci := 7) (v := .int (zi t_size)) (C := RX7) (T := TX7) (N := 12) hx hb hts zi_X7_agreeWith_X7 hown hK hP 0 rfl rfl 9 (by decide) (hts (.fieldLink RX7 39 "DiamondRows$Sightings" "size" "I") zl_X7_agreeWith_39) (fun _ h9 => h9) rfl dX7_agreeWith_4 ?_
  obtain ⟨b1, hg⟩ := Go_n hg
  obtain ⟨b2, hg⟩ := Go_n hg
  refine zv_icmp_ge (tgt := 66) hx hb dX7_agreeWith_7 (by decide) b1 b2 (fun c15 => ?_) (fun c15 => ?_)
  · have hg := Go_t c15 hg
    refine zv_iconst hx hb dX7_agreeWith_66 ?_
    exact (Go_s hg) _ _ dX7_agreeWith_67
  · have hg := Go_f c15 hg
    refine lv_aload_n hx hb dX7_agreeWith_10 rfl (lv_at hl 0 rfl) ?_
    refine va_get (D := D) (ci := 7) (v := .ref (t 9)) (C := RX7) (T := TX7) (N := 12) hx hb hts zi_X7_agreeWith_X7 hown hK hP 0 rfl rfl 8 (by decide) (hts (.fieldLink RX7 36 "DiamondRows$Sightings" "knownValue" "[I") zl_X7_agreeWith_36) (fun _ h9 => h9) rfl dX7_agreeWith_11 ?_
    refine lv_iload_n hx hb dX7_agreeWith_14 rfl (lv_at hl 3 rfl) ?_
    obtain ⟨n3, hg⟩ := Go_n hg
    refine zv_iald hx hb hK hP 9 1 rfl rfl (by decide) n3 dX7_agreeWith_15 ?_
    refine zv_iconst hx hb dX7_agreeWith_16 ?_
    refine zv_icmp_eq (tgt := 24) hx hb dX7_agreeWith_17 (by decide) (zget_in _ _) (by decide) (fun c14 => ?_) (fun c14 => ?_)
    · have hg := Go_t c14 hg
      refine zv_iconst hx hb dX7_agreeWith_24 ?_
      refine lv_istore (lv' := [(4, .int (zi (0 : Int))), (0, .ref (t 0)), (1, .ref (ad n1 0)), (2, .int (zi i2)), (3, .int (zi i3))]) hx hb dX7_agreeWith_25 hl (by decide) rfl (fun ls hl => ?_)
      refine lv_iload hx hb dX7_agreeWith_27 (lv_at hl 0 rfl) ?_
      refine zv_if_eq (tgt := 60) hx hb dX7_agreeWith_29 (by decide) (by decide) (fun c8 => ?_) (fun c8 => ?_)
      · have hg := Go_t c8 hg
        refine lv_iinc (v := zi (i3 + (1 : Int))) (lv' := [(3, .int (zi (i3 + (1 : Int)))), (4, .int (zi (0 : Int))), (0, .ref (t 0)), (1, .ref (ad n1 0)), (2, .int (zi i2))]) hx hb dX7_agreeWith_60 hl (k := 4) rfl (zi_add i3 _) (by decide) rfl (fun ls hl => ?_)
        refine lv_goto (tgt := 2) hx hb dX7_agreeWith_63 (by decide) ?_
        exact (Go_s hg) ls (lv_sub hl [2, 3, 4, 0] rfl)
      · have hg := Go_f c8 hg
        refine lv_aload_n hx hb dX7_agreeWith_32 rfl (lv_at hl 2 rfl) ?_
        refine lv_iload_n hx hb dX7_agreeWith_33 rfl (lv_at hl 3 rfl) ?_
        refine lv_aload_n hx hb dX7_agreeWith_34 rfl (lv_at hl 1 rfl) ?_
        refine va_get (D := D) (ci := 7) (v := .ref (t 2)) (C := RX7) (T := TX7) (N := 12) hx hb hts zi_X7_agreeWith_X7 hown hK hP 0 rfl rfl 1 (by decide) (hts (.fieldLink RX7 15 "DiamondRows$Sightings" "seenFrom" "[I") zl_X7_agreeWith_15) (fun _ h9 => h9) rfl dX7_agreeWith_35 ?_
        refine lv_iload_n hx hb dX7_agreeWith_38 rfl (lv_at hl 4 rfl) ?_
        refine zv_iald hx hb hK hP 2 1 rfl rfl (by decide) n3 dX7_agreeWith_39 ?_
        refine lv_aload_n hx hb dX7_agreeWith_40 rfl (lv_at hl 1 rfl) ?_
        refine va_get (D := D) (ci := 7) (v := .ref (t 3)) (C := RX7) (T := TX7) (N := 12) hx hb hts zi_X7_agreeWith_X7 hown hK hP 0 rfl rfl 2 (by decide) (hts (.fieldLink RX7 18 "DiamondRows$Sightings" "seenTo" "[I") zl_X7_agreeWith_18) (fun _ h9 => h9) rfl dX7_agreeWith_41 ?_
        refine lv_iload_n hx hb dX7_agreeWith_44 rfl (lv_at hl 4 rfl) ?_
        refine zv_iald hx hb hK hP 3 1 rfl rfl (by decide) n3 dX7_agreeWith_45 ?_
        obtain ⟨m4, hg⟩ := Go_n hg
        obtain ⟨o5, ho5, hg⟩ := Go_b hg
        refine zc_vi (rest := []) ⟨hx, hb, hml, hown, hts⟩ (zc_X5_entryOf l D κ (ad n1) n1 i2 (zget t_seenFrom (Int.toNat i3)) (zget t_seenTo (Int.toNat i3)) o5 ho5) (cwV 3 hts gX7_agreeWith_X5_entryOf rfl rfl rfl (by decide +kernel) ⟨Nat.le_of_ble_eq_true rfl, Nat.le_of_ble_eq_true rfl⟩) (zpreV hK (hB n1 m4) 5 0 rfl rfl) rfl hl.1 rfl (Nat.le_of_ble_eq_true rfl) dX7_agreeWith_46 ⟨Nat.zero_le _, Nat.zero_le _⟩ ?_
        refine lv_aload_n hx hb dX7_agreeWith_49 rfl (lv_at hl 1 rfl) ?_
        refine va_get (D := D) (ci := 7) (v := .ref (t 9)) (C := RX7) (T := TX7) (N := 12) hx hb hts zi_X7_agreeWith_X7 hown hK hP 0 rfl rfl 8 (by decide) (hts (.fieldLink RX7 36 "DiamondRows$Sightings" "knownValue" "[I") zl_X7_agreeWith_36) (fun _ h9 => h9) rfl dX7_agreeWith_50 ?_
        refine lv_iload_n hx hb dX7_agreeWith_53 rfl (lv_at hl 4 rfl) ?_
        refine zv_iald hx hb hK hP 9 1 rfl rfl (by decide) n3 dX7_agreeWith_54 ?_
        obtain ⟨b6, hg⟩ := Go_n hg
        refine zv_icmp_eq (tgt := 60) hx hb dX7_agreeWith_55 (by decide) b6 (zget_in _ _) (fun c7 => ?_) (fun c7 => ?_)
        · have hg := Go_t c7 hg
          refine lv_iinc (v := zi (i3 + (1 : Int))) (lv' := [(3, .int (zi (i3 + (1 : Int)))), (4, .int (zi (0 : Int))), (0, .ref (t 0)), (1, .ref (ad n1 0)), (2, .int (zi i2))]) hx hb dX7_agreeWith_60 hl (k := 4) rfl (zi_add i3 _) (by decide) rfl (fun ls hl => ?_)
          refine lv_goto (tgt := 2) hx hb dX7_agreeWith_63 (by decide) ?_
          exact (Go_s hg) ls (lv_sub hl [2, 3, 4, 0] rfl)
        · have hg := Go_f c7 hg
          refine zv_iconst hx hb dX7_agreeWith_58 ?_
          exact (Go_s hg) _ _ dX7_agreeWith_59
    · have hg := Go_f c14 hg
      refine zv_iconst hx hb dX7_agreeWith_20 ?_
      refine lv_goto (tgt := 25) hx hb dX7_agreeWith_21 (by decide) ?_
      refine lv_istore (lv' := [(4, .int (zi (1 : Int))), (0, .ref (t 0)), (1, .ref (ad n1 0)), (2, .int (zi i2)), (3, .int (zi i3))]) hx hb dX7_agreeWith_25 hl (by decide) rfl (fun ls hl => ?_)
      refine lv_iload hx hb dX7_agreeWith_27 (lv_at hl 0 rfl) ?_
      refine zv_if_eq (tgt := 60) hx hb dX7_agreeWith_29 (by decide) (by decide) (fun c13 => ?_) (fun c13 => ?_)
      · have hg := Go_t c13 hg
        refine lv_iinc (v := zi (i3 + (1 : Int))) (lv' := [(3, .int (zi (i3 + (1 : Int)))), (4, .int (zi (1 : Int))), (0, .ref (t 0)), (1, .ref (ad n1 0)), (2, .int (zi i2))]) hx hb dX7_agreeWith_60 hl (k := 4) rfl (zi_add i3 _) (by decide) rfl (fun ls hl => ?_)
        refine lv_goto (tgt := 2) hx hb dX7_agreeWith_63 (by decide) ?_
        exact (Go_s hg) ls (lv_sub hl [2, 3, 4, 0] rfl)
      · have hg := Go_f c13 hg
        refine lv_aload_n hx hb dX7_agreeWith_32 rfl (lv_at hl 2 rfl) ?_
        refine lv_iload_n hx hb dX7_agreeWith_33 rfl (lv_at hl 3 rfl) ?_
        refine lv_aload_n hx hb dX7_agreeWith_34 rfl (lv_at hl 1 rfl) ?_
        refine va_get (D := D) (ci := 7) (v := .ref (t 2)) (C := RX7) (T := TX7) (N := 12) hx hb hts zi_X7_agreeWith_X7 hown hK hP 0 rfl rfl 1 (by decide) (hts (.fieldLink RX7 15 "DiamondRows$Sightings" "seenFrom" "[I") zl_X7_agreeWith_15) (fun _ h9 => h9) rfl dX7_agreeWith_35 ?_
        refine lv_iload_n hx hb dX7_agreeWith_38 rfl (lv_at hl 4 rfl) ?_
        refine zv_iald hx hb hK hP 2 1 rfl rfl (by decide) n3 dX7_agreeWith_39 ?_
        refine lv_aload_n hx hb dX7_agreeWith_40 rfl (lv_at hl 1 rfl) ?_
        refine va_get (D := D) (ci := 7) (v := .ref (t 3)) (C := RX7) (T := TX7) (N := 12) hx hb hts zi_X7_agreeWith_X7 hown hK hP 0 rfl rfl 2 (by decide) (hts (.fieldLink RX7 18 "DiamondRows$Sightings" "seenTo" "[I") zl_X7_agreeWith_18) (fun _ h9 => h9) rfl dX7_agreeWith_41 ?_
        refine lv_iload_n hx hb dX7_agreeWith_44 rfl (lv_at hl 4 rfl) ?_
        refine zv_iald hx hb hK hP 3 1 rfl rfl (by decide) n3 dX7_agreeWith_45 ?_
        obtain ⟨m9, hg⟩ := Go_n hg
        obtain ⟨o10, ho10, hg⟩ := Go_b hg
        refine zc_vi (rest := []) ⟨hx, hb, hml, hown, hts⟩ (zc_X5_entryOf l D κ (ad n1) n1 i2 (zget t_seenFrom (Int.toNat i3)) (zget t_seenTo (Int.toNat i3)) o10 ho10) (cwV 3 hts gX7_agreeWith_X5_entryOf rfl rfl rfl (by decide +kernel) ⟨Nat.le_of_ble_eq_true rfl, Nat.le_of_ble_eq_true rfl⟩) (zpreV hK (hB n1 m9) 5 0 rfl rfl) rfl hl.1 rfl (Nat.le_of_ble_eq_true rfl) dX7_agreeWith_46 ⟨Nat.zero_le _, Nat.zero_le _⟩ ?_
        refine lv_aload_n hx hb dX7_agreeWith_49 rfl (lv_at hl 1 rfl) ?_
        refine va_get (D := D) (ci := 7) (v := .ref (t 9)) (C := RX7) (T := TX7) (N := 12) hx hb hts zi_X7_agreeWith_X7 hown hK hP 0 rfl rfl 8 (by decide) (hts (.fieldLink RX7 36 "DiamondRows$Sightings" "knownValue" "[I") zl_X7_agreeWith_36) (fun _ h9 => h9) rfl dX7_agreeWith_50 ?_
        refine lv_iload_n hx hb dX7_agreeWith_53 rfl (lv_at hl 4 rfl) ?_
        refine zv_iald hx hb hK hP 9 1 rfl rfl (by decide) n3 dX7_agreeWith_54 ?_
        obtain ⟨b11, hg⟩ := Go_n hg
        refine zv_icmp_eq (tgt := 60) hx hb dX7_agreeWith_55 (by decide) b11 (zget_in _ _) (fun c12 => ?_) (fun c12 => ?_)
        · have hg := Go_t c12 hg
          refine lv_iinc (v := zi (i3 + (1 : Int))) (lv' := [(3, .int (zi (i3 + (1 : Int)))), (4, .int (zi (1 : Int))), (0, .ref (t 0)), (1, .ref (ad n1 0)), (2, .int (zi i2))]) hx hb dX7_agreeWith_60 hl (k := 4) rfl (zi_add i3 _) (by decide) rfl (fun ls hl => ?_)
          refine lv_goto (tgt := 2) hx hb dX7_agreeWith_63 (by decide) ?_
          exact (Go_s hg) ls (lv_sub hl [2, 3, 4, 0] rfl)
        · have hg := Go_f c12 hg
          refine zv_iconst hx hb dX7_agreeWith_58 ?_
          exact (Go_s hg) _ _ dX7_agreeWith_59
set_option maxHeartbeats 4000000 in
set_option maxRecDepth 100000 in
theorem zw_X7_agreeWith {p : Program} {l : Launch} {e : Env} {s : State} {m : MethodId} {args : Array Value} {below : List Frame} {meth : Method} {c : Code} {Q : State → Prop} {D : va_G} {κ : Nat → ClassId} {H : Heap} {locs : List Loc} (t : Nat → Nat) (mk : Nat) (ad : Nat → Nat → Nat) (t_size : Int) (t_rights : Int) (t_latest : Int) (t_seenStep : Nat) (t_seenFrom : Nat) (t_seenTo : Nat) (t_seenValue : Nat) (t_timesRight : Nat) (t_rightStep : Nat) (t_rightOf : Nat) (t_rightValue : Nat) (t_knownValue : Nat) (n1 : Nat) (i2 : Int) (hx : p.tables.exec = Jvm.exec) (hb : c.code = cX7_agreeWith) (hml : c.maxLocals = 5) (hown : s.vm.findClass RX7 = some m.cls) (hts : ∀ w ∈ wsX7_agreeWith, w.before args s = true) (hK : va_K D vwCl (zTY κ) s) (hP : va_P D vwCl ([((t 0), .inr (7, [.ref (t 1), .ref (t 2), .ref (t 3), .ref (t 4), .ref (t 5), .ref (t 6), .ref (t 7), .ref (t 8), .ref (t 9), .int (zi t_size), .int (zi t_rights), .int (zi t_latest)])), ((t 1), .inl (κ 1, 20, .inl (zc t_seenStep))), ((t 2), .inl (κ 1, 20, .inl (zc t_seenFrom))), ((t 3), .inl (κ 1, 20, .inl (zc t_seenTo))), ((t 4), .inl (κ 1, 20, .inl (zc t_seenValue))), ((t 5), .inl (κ 1, 20, .inl (zc t_timesRight))), ((t 6), .inl (κ 1, 20, .inl (zc t_rightStep))), ((t 7), .inl (κ 1, 20, .inl (zc t_rightOf))), ((t 8), .inl (κ 1, 20, .inl (zc t_rightValue))), ((t 9), .inl (κ 1, 20, .inl (zc t_knownValue)))]) H) (hB : zAmb D κ mk ad H) (out : Bool) (h : zf_X7_agreeWith mk t_size t_seenFrom t_seenTo t_knownValue n1 i2 = some out) (hq : zQ_X7_agreeWith p l e s m args below meth c Q H locs out) : zA_X7_agreeWith_0 p l e s m args below meth c Q H locs t mk ad n1 i2 0 := by
  have hst : ∀ st : zS_X7_agreeWith, Go (GoE (zA_X7_agreeWith p l e s m args below meth c Q H locs t mk ad n1) (zQ_X7_agreeWith p l e s m args below meth c Q H locs)) (zg_X7_agreeWith mk t_size t_seenFrom t_seenTo t_knownValue n1 st) → zA_X7_agreeWith p l e s m args below meth c Q H locs t mk ad n1 st := by
    intro st hg
    obtain ⟨lab, i2, i3⟩ := st
    by_cases h0 : lab = 0
    · subst h0
      exact zs_X7_agreeWith_0 t mk ad t_size t_rights t_latest t_seenStep t_seenFrom t_seenTo t_seenValue t_timesRight t_rightStep t_rightOf t_rightValue t_knownValue n1 hx hb hml hown hts hK hP hB i2 i3 hg
    by_cases h2 : lab = 2
    · subst h2
      exact zs_X7_agreeWith_2 t mk ad t_size t_rights t_latest t_seenStep t_seenFrom t_seenTo t_seenValue t_timesRight t_rightStep t_rightOf t_rightValue t_knownValue n1 hx hb hml hown hts hK hP hB i2 i3 hg
    have hz : zg_X7_agreeWith mk t_size t_seenFrom t_seenTo t_knownValue n1 (lab, i2, i3) = none := by simp [zg_X7_agreeWith, h0, h2]
    rw [hz] at hg
    obtain ⟨a, h1, -⟩ := hg
    cases h1
  exact jwalk (At := zA_X7_agreeWith p l e s m args below meth c Q H locs t mk ad n1) (Ret := zQ_X7_agreeWith p l e s m args below meth c Q H locs) hst _ _ _ h hq
set_option maxHeartbeats 4000000 in
set_option maxRecDepth 100000 in
theorem zc_X7_agreeWith (l : Launch) (D : va_G) (κ : Nat → ClassId) (t : Nat → Nat) (mk : Nat) (ad : Nat → Nat → Nat) (t_size : Int) (t_rights : Int) (t_latest : Int) (t_seenStep : Nat) (t_seenFrom : Nat) (t_seenTo : Nat) (t_seenValue : Nat) (t_timesRight : Nat) (t_rightStep : Nat) (t_rightOf : Nat) (t_rightValue : Nat) (t_knownValue : Nat) (n1 : Nat) (i2 : Int) (out : Bool) (h : zf_X7_agreeWith mk t_size t_seenFrom t_seenTo t_knownValue n1 i2 = some out) : Met l yX7_agreeWith wsX7_agreeWith zr_X7_agreeWith (va_Pc [.ref (t 0), .ref (ad n1 0), .int (zi i2)] (zRa D κ mk ad ([((t 0), .inr (7, [.ref (t 1), .ref (t 2), .ref (t 3), .ref (t 4), .ref (t 5), .ref (t 6), .ref (t 7), .ref (t 8), .ref (t 9), .int (zi t_size), .int (zi t_rights), .int (zi t_latest)])), ((t 1), .inl (κ 1, 20, .inl (zc t_seenStep))), ((t 2), .inl (κ 1, 20, .inl (zc t_seenFrom))), ((t 3), .inl (κ 1, 20, .inl (zc t_seenTo))), ((t 4), .inl (κ 1, 20, .inl (zc t_seenValue))), ((t 5), .inl (κ 1, 20, .inl (zc t_timesRight))), ((t 6), .inl (κ 1, 20, .inl (zc t_rightStep))), ((t 7), .inl (κ 1, 20, .inl (zc t_rightOf))), ((t 8), .inl (κ 1, 20, .inl (zc t_rightValue))), ((t 9), .inl (κ 1, 20, .inl (zc t_knownValue)))]))) (vp_Si (fun x => x = zi (bI out))) 0 0 (fun _ => False) := by
  refine Met.ofW (cc := cX7_agreeWith) (maxL := 5) (ret := (some .boolean)) (by decide +kernel) rfl ?_
  intro p e s m args below meth c s₁ B hml hv
  obtain ⟨rfl, hP, hK, hB⟩ := hv
  have hx := B.exec
  have hb := B.bytes
  have hr := B.returns
  have hts := atoms_spec (ws := wsX7_agreeWith) B.pre
  have hown : s.vm.findClass RX7 = some m.cls := findClass_of_methodNamed B.named
  have hlocks := B.notSynchronized
  have hl := lv_entry ([.ref (t 0), .ref (ad n1 0), .int (zi i2)]) (n := 5) (Nat.le_of_ble_eq_true rfl)
  rw [lg_entry_eq]
  generalize (lg_sl ([.ref (t 0), .ref (ad n1 0), .int (zi i2)]) ++ List.replicate (5 - (lg_sl ([.ref (t 0), .ref (ad n1 0), .int (zi i2)])).length) Slot.unset).toArray = ls at hl ⊢
  have hl : lv_has ls 5 [(0, .ref (t 0)), (1, .ref (ad n1 0)), (2, .int (zi i2))] := hl
  refine (zw_X7_agreeWith t mk ad t_size t_rights t_latest t_seenStep t_seenFrom t_seenTo t_seenValue t_timesRight t_rightStep t_rightOf t_rightValue t_knownValue n1 i2 hx hb hml hown hts hK hP hB out h ?_) ls (lv_sub hl [0, 1, 2] rfl)
  exact fun ls pc hd => W.zret hx hb hr (bI_nar _) (fun t ht hW => ⟨_, rfl, rfl, ht⟩) (fun _ h => by cases h) hd
