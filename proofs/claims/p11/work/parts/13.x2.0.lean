section
/-! DiamondRows$Endless.size()I -/
abbrev zr_X2_size : Room := { frames := 0, cells := 0, slots := 0, locals := 0 }
noncomputable def zf_X2_size  (t_size : Int)  : Option (Int) :=
  some (t_size)
theorem zi_X2_size_X2 : ∀ w ∈ u_ws RX2 TX2 2, w ∈ wsX2_size := fun w h => (List.mem_cons_of_mem _ (List.mem_append_right _ h))
theorem zl_X2_size_15 : Cond.fieldLink RX2 15 "DiamondRows$Endless" "size" "I" ∈ wsX2_size := (List.mem_cons_of_mem _ (List.mem_append_left _ (List.mem_of_getElem? (i := 0) rfl)))
def zQ_X2_size (p : Program) (l : Launch) (e : Env) (s : State) (m : MethodId) (args : Array Value) (below : List Frame) (meth : Method) (c : Code) (Q : State → Prop) (H : Heap) (locs : List Loc)  (o : Int) : Prop := ∀ (ls : Array Slot) (pc : Nat), decode cX2_size pc = .ok (.ireturn, 1) → W p l e zr_X2_size s m args below meth c H locs 0 0 Q (F0 m pc ls [.int (zi o)])
set_option maxHeartbeats 4000000 in
set_option maxRecDepth 100000 in
theorem zs_X2_size {p : Program} {l : Launch} {e : Env} {s : State} {m : MethodId} {args : Array Value} {below : List Frame} {meth : Method} {c : Code} {Q : State → Prop} {D : va_G} {κ : Nat → ClassId} {H : Heap} {locs : List Loc} (t : Nat → Nat) (t_size : Int) (t_numbers : Nat)  (hx : p.tables.exec = Jvm.exec) (hb : c.code = cX2_size) (hml : c.maxLocals = 1) (hown : s.vm.findClass RX2 = some m.cls) (hts : ∀ w ∈ wsX2_size, w.before args s = true) (hK : va_K D vwCl (zTY κ) s) (hP : va_P D vwCl ([((t 0), .inr (2, [.ref (t 1), .int (zi t_size)])), ((t 1), .inl (κ 1, 10, .inl (zc t_numbers)))]) H) (ls : Array Slot) (hl : lv_has ls 1 [(0, .ref (t 0))]) (hg : Go (zQ_X2_size p l e s m args below meth c Q H locs) (zf_X2_size t_size )) : W p l e zr_X2_size s m args below meth c H locs 0 0 Q (F0 m 0 ls []) := by
  unfold zf_X2_size at hg
  refine lv_aload_n hx hb dX2_size_0 rfl (lv_at hl 0 rfl) ?_
  refine va_get (D := D) (ci := 2) (v := .int (zi t_size)) (C := RX2) (T := TX2) (N := 2) hx hb hts zi_X2_size_X2 hown hK hP 0 rfl rfl 1 (by decide) (hts (.fieldLink RX2 15 "DiamondRows$Endless" "size" "I") zl_X2_size_15) (fun _ h9 => h9) rfl dX2_size_1 ?_
  exact (Go_s hg) _ _ dX2_size_4
set_option maxHeartbeats 4000000 in
set_option maxRecDepth 100000 in
theorem zc_X2_size (l : Launch) (D : va_G) (κ : Nat → ClassId) (t : Nat → Nat) (t_size : Int) (t_numbers : Nat)  (out : Int) (h : zf_X2_size t_size  = some out) : Met l yX2_size wsX2_size zr_X2_size (va_Pc [.ref (t 0)] (zR D κ ([((t 0), .inr (2, [.ref (t 1), .int (zi t_size)])), ((t 1), .inl (κ 1, 10, .inl (zc t_numbers)))]))) (vp_Si (fun x => x = zi out)) 0 0 (fun _ => False) := by
  refine Met.ofW (cc := cX2_size) (maxL := 1) (ret := (some .int)) (by decide +kernel) rfl ?_
  intro p e s m args below meth c s₁ B hml hv
  obtain ⟨rfl, hP, hK⟩ := hv
  have hx := B.exec
  have hb := B.bytes
  have hr := B.returns
  have hts := atoms_spec (ws := wsX2_size) B.pre
  have hown : s.vm.findClass RX2 = some m.cls := findClass_of_methodNamed B.named
  have hlocks := B.notSynchronized
  have hl := lv_entry ([.ref (t 0)]) (n := 1) (Nat.le_of_ble_eq_true rfl)
  rw [lg_entry_eq]
  generalize (lg_sl ([.ref (t 0)]) ++ List.replicate (1 - (lg_sl ([.ref (t 0)])).length) Slot.unset).toArray = ls at hl ⊢
  have hl : lv_has ls 1 [(0, .ref (t 0))] := hl
  refine zs_X2_size t t_size t_numbers  hx hb hml hown hts hK hP ls hl ⟨out, h, ?_⟩
  exact fun ls pc hd => W.iret hx hb hr (fun t ht hW => ⟨_, rfl, rfl, ht⟩) (fun _ h => by cases h) hd
/-! DiamondRows$Endless.hasPlace(I)Z -/
abbrev zr_X2_hasPlace : Room := { frames := 0, cells := 0, slots := 0, locals := 0 }
noncomputable def zf_X2_hasPlace  (t_size : Int) (i1 : Int) : Option (Bool) :=
  if zout i1 then none else
  if i1 < 0 then
  some (false)
  else
  if zout t_size then none else
  if t_size ≤ i1 then
  some (false)
  else
  some (true)
theorem zi_X2_hasPlace_X2 : ∀ w ∈ u_ws RX2 TX2 2, w ∈ wsX2_hasPlace := fun w h => (List.mem_cons_of_mem _ (List.mem_append_right _ h))
theorem zl_X2_hasPlace_15 : Cond.fieldLink RX2 15 "DiamondRows$Endless" "size" "I" ∈ wsX2_hasPlace := (List.mem_cons_of_mem _ (List.mem_append_left _ (List.mem_of_getElem? (i := 0) rfl)))
def zQ_X2_hasPlace (p : Program) (l : Launch) (e : Env) (s : State) (m : MethodId) (args : Array Value) (below : List Frame) (meth : Method) (c : Code) (Q : State → Prop) (H : Heap) (locs : List Loc)  (o : Bool) : Prop := ∀ (ls : Array Slot) (pc : Nat), decode cX2_hasPlace pc = .ok (.ireturn, 1) → W p l e zr_X2_hasPlace s m args below meth c H locs 0 0 Q (F0 m pc ls [.int (zi (bI o))])
set_option maxHeartbeats 4000000 in
set_option maxRecDepth 100000 in
theorem zs_X2_hasPlace {p : Program} {l : Launch} {e : Env} {s : State} {m : MethodId} {args : Array Value} {below : List Frame} {meth : Method} {c : Code} {Q : State → Prop} {D : va_G} {κ : Nat → ClassId} {H : Heap} {locs : List Loc} (t : Nat → Nat) (t_size : Int) (t_numbers : Nat) (i1 : Int) (hx : p.tables.exec = Jvm.exec) (hb : c.code = cX2_hasPlace) (hml : c.maxLocals = 2) (hown : s.vm.findClass RX2 = some m.cls) (hts : ∀ w ∈ wsX2_hasPlace, w.before args s = true) (hK : va_K D vwCl (zTY κ) s) (hP : va_P D vwCl ([((t 0), .inr (2, [.ref (t 1), .int (zi t_size)])), ((t 1), .inl (κ 1, 10, .inl (zc t_numbers)))]) H) (ls : Array Slot) (hl : lv_has ls 2 [(0, .ref (t 0)), (1, .int (zi i1))]) (hg : Go (zQ_X2_hasPlace p l e s m args below meth c Q H locs) (zf_X2_hasPlace t_size i1)) : W p l e zr_X2_hasPlace s m args below meth c H locs 0 0 Q (F0 m 0 ls []) := by
  unfold zf_X2_hasPlace at hg
  refine lv_iload_n hx hb dX2_hasPlace_0 rfl (lv_at hl 1 rfl) ?_
  obtain ⟨b1, hg⟩ := Go_n hg
  refine zv_if_lt (tgt := 16) hx hb dX2_hasPlace_1 (by decide) b1 (fun c4 => ?_) (fun c4 => ?_)
  · have hg := Go_t c4 hg
    refine zv_iconst hx hb dX2_hasPlace_16 ?_
    exact (Go_s hg) _ _ dX2_hasPlace_17
  · have hg := Go_f c4 hg
    refine lv_iload_n hx hb dX2_hasPlace_4 rfl (lv_at hl 1 rfl) ?_
    refine lv_aload_n hx hb dX2_hasPlace_5 rfl (lv_at hl 0 rfl) ?_
    refine va_get (D := D) (ci := 2) (v := .int (zi t_size)) (C := RX2) (T := TX2) (N := 2) hx hb hts zi_X2_hasPlace_X2 hown hK hP 0 rfl rfl 1 (by decide) (hts (.fieldLink RX2 15 "DiamondRows$Endless" "size" "I") zl_X2_hasPlace_15) (fun _ h9 => h9) rfl dX2_hasPlace_6 ?_
    obtain ⟨b2, hg⟩ := Go_n hg
    refine zv_icmp_ge (tgt := 16) hx hb dX2_hasPlace_9 (by decide) b1 b2 (fun c3 => ?_) (fun c3 => ?_)
    · have hg := Go_t c3 hg
      refine zv_iconst hx hb dX2_hasPlace_16 ?_
      exact (Go_s hg) _ _ dX2_hasPlace_17
    · have hg := Go_f c3 hg
      refine zv_iconst hx hb dX2_hasPlace_12 ?_
      refine lv_goto (tgt := 17) hx hb dX2_hasPlace_13 (by decide) ?_
      exact (Go_s hg) _ _ dX2_hasPlace_17
set_option maxHeartbeats 4000000 in
set_option maxRecDepth 100000 in
theorem zc_X2_hasPlace (l : Launch) (D : va_G) (κ : Nat → ClassId) (t : Nat → Nat) (t_size : Int) (t_numbers : Nat) (i1 : Int) (out : Bool) (h : zf_X2_hasPlace t_size i1 = some out) : Met l yX2_hasPlace wsX2_hasPlace zr_X2_hasPlace (va_Pc [.ref (t 0), .int (zi i1)] (zR D κ ([((t 0), .inr (2, [.ref (t 1), .int (zi t_size)])), ((t 1), .inl (κ 1, 10, .inl (zc t_numbers)))]))) (vp_Si (fun x => x = zi (bI out))) 0 0 (fun _ => False) := by
  refine Met.ofW (cc := cX2_hasPlace) (maxL := 2) (ret := (some .boolean)) (by decide +kernel) rfl ?_
  intro p e s m args below meth c s₁ B hml hv
  obtain ⟨rfl, hP, hK⟩ := hv
  have hx := B.exec
  have hb := B.bytes
  have hr := B.returns
  have hts := atoms_spec (ws := wsX2_hasPlace) B.pre
  have hown : s.vm.findClass RX2 = some m.cls := findClass_of_methodNamed B.named
  have hlocks := B.notSynchronized
  have hl := lv_entry ([.ref (t 0), .int (zi i1)]) (n := 2) (Nat.le_of_ble_eq_true rfl)
  rw [lg_entry_eq]
  generalize (lg_sl ([.ref (t 0), .int (zi i1)]) ++ List.replicate (2 - (lg_sl ([.ref (t 0), .int (zi i1)])).length) Slot.unset).toArray = ls at hl ⊢
  have hl : lv_has ls 2 [(0, .ref (t 0)), (1, .int (zi i1))] := hl
  refine zs_X2_hasPlace t t_size t_numbers i1 hx hb hml hown hts hK hP ls hl ⟨out, h, ?_⟩
  exact fun ls pc hd => W.zret hx hb hr (bI_nar _) (fun t ht hW => ⟨_, rfl, rfl, ht⟩) (fun _ h => by cases h) hd
/-! DiamondRows$Endless.accepts([II)Z -/
abbrev zr_X2_accepts : Room := { frames := 0, cells := 0, slots := 0, locals := 0 }
abbrev zS_X2_accepts : Type := Nat × Int × Int
abbrev zO_X2_accepts : Type := Bool
noncomputable def zg_X2_accepts_0  (q1_c : Nat) (i2 : Int) (i3 : Int) : Option (zO_X2_accepts ⊕ zS_X2_accepts) :=
  if zout i2 then none else
  if i2 < (1 : Int) then
  some (.inl (false))
  else
  if (10 : Int) < i2 then
  some (.inl (false))
  else
  if i2 ≤ (10 : Int) then
  some (.inr (21, i2, (0 : Int)))
  else
  some (.inl (false))
noncomputable def zg_X2_accepts_21  (q1_c : Nat) (i2 : Int) (i3 : Int) : Option (zO_X2_accepts ⊕ zS_X2_accepts) :=
  if zout i3 then none else
  if zout i2 then none else
  if i2 ≤ i3 then
  some (.inl (true))
  else
  if i3 < 0 ∨ 10 ≤ i3 then none else
  if (zget q1_c (Int.toNat i3)) < (1 : Int) then
  some (.inl (false))
  else
  if (zget q1_c (Int.toNat i3)) ≤ (20 : Int) then
  some (.inr (21, i2, (i3 + (1 : Int))))
  else
  some (.inl (false))
noncomputable def zg_X2_accepts  (q1_c : Nat) (st : zS_X2_accepts) : Option (zO_X2_accepts ⊕ zS_X2_accepts) := match st with
  | (lab, i2, i3) => if lab = 0 then zg_X2_accepts_0 q1_c i2 i3 else if lab = 21 then zg_X2_accepts_21 q1_c i2 i3 else none
noncomputable def zf_X2_accepts  (q1_c : Nat) (i2 : Int) : Option (Bool) := jrun (zg_X2_accepts q1_c) jfuel (0, i2, 0)
def zQ_X2_accepts (p : Program) (l : Launch) (e : Env) (s : State) (m : MethodId) (args : Array Value) (below : List Frame) (meth : Method) (c : Code) (Q : State → Prop) (H : Heap) (locs : List Loc)  (o : Bool) : Prop := ∀ (ls : Array Slot) (pc : Nat), decode cX2_accepts pc = .ok (.ireturn, 1) → W p l e zr_X2_accepts s m args below meth c H locs 0 0 Q (F0 m pc ls [.int (zi (bI o))])
def zA_X2_accepts_0 (p : Program) (l : Launch) (e : Env) (s : State) (m : MethodId) (args : Array Value) (below : List Frame) (meth : Method) (c : Code) (Q : State → Prop) (H : Heap) (locs : List Loc) (t : Nat → Nat) (q1 : Nat)  (i2 : Int) (i3 : Int) : Prop := ∀ ls : Array Slot, lv_has ls 4 [(0, .ref (t 0)), (1, .ref q1), (2, .int (zi i2))] → W p l e zr_X2_accepts s m args below meth c H locs 0 0 Q (F0 m 0 ls [])
def zA_X2_accepts_21 (p : Program) (l : Launch) (e : Env) (s : State) (m : MethodId) (args : Array Value) (below : List Frame) (meth : Method) (c : Code) (Q : State → Prop) (H : Heap) (locs : List Loc) (t : Nat → Nat) (q1 : Nat)  (i2 : Int) (i3 : Int) : Prop := ∀ ls : Array Slot, lv_has ls 4 [(1, .ref q1), (2, .int (zi i2)), (3, .int (zi i3))] → W p l e zr_X2_accepts s m args below meth c H locs 0 0 Q (F0 m 21 ls [])
def zA_X2_accepts (p : Program) (l : Launch) (e : Env) (s : State) (m : MethodId) (args : Array Value) (below : List Frame) (meth : Method) (c : Code) (Q : State → Prop) (H : Heap) (locs : List Loc) (t : Nat → Nat) (q1 : Nat)  (st : zS_X2_accepts) : Prop := match st with
  | (lab, i2, i3) => if lab = 0 then zA_X2_accepts_0 p l e s m args below meth c Q H locs t q1  i2 i3 else if lab = 21 then zA_X2_accepts_21 p l e s m args below meth c Q H locs t q1  i2 i3 else True
set_option maxHeartbeats 4000000 in
set_option maxRecDepth 100000 in
theorem zs_X2_accepts_0 {p : Program} {l : Launch} {e : Env} {s : State} {m : MethodId} {args : Array Value} {below : List Frame} {meth : Method} {c : Code} {Q : State → Prop} {D : va_G} {κ : Nat → ClassId} {H : Heap} {locs : List Loc} (t : Nat → Nat) (q1 : Nat) (t_size : Int) (t_numbers : Nat) (q1_c : Nat)  (hx : p.tables.exec = Jvm.exec) (hb : c.code = cX2_accepts) (hml : c.maxLocals = 4) (hown : s.vm.findClass RX2 = some m.cls) (hts : ∀ w ∈ wsX2_accepts, w.before args s = true) (hK : va_K D vwCl (zTY κ) s) (hP : va_P D vwCl ([((t 0), .inr (2, [.ref (t 1), .int (zi t_size)])), ((t 1), .inl (κ 1, 10, .inl (zc t_numbers))), (q1, .inl (κ 1, 10, .inl (zc q1_c)))]) H) (i2 : Int) (i3 : Int) (hg : Go (GoE (zA_X2_accepts p l e s m args below meth c Q H locs t q1 ) (zQ_X2_accepts p l e s m args below meth c Q H locs)) (zg_X2_accepts_0 q1_c i2 i3)) : zA_X2_accepts_0 p l e s m args below meth c Q H locs t q1  i2 i3 := by
  intro ls hl
  unfold zg_X2_accepts_0 at hg
  refine lv_iload_n hx hb dX2_accepts_0 rfl (lv_at hl 2 rfl) ?_
  refine zv_iconst hx hb dX2_accepts_1 ?_
  obtain ⟨b1, hg⟩ := Go_n hg
  refine zv_icmp_lt (tgt := 17) hx hb dX2_accepts_2 (by decide) b1 (by decide) (fun c4 => ?_) (fun c4 => ?_)
  · have hg := Go_t c4 hg
    refine zv_iconst hx hb dX2_accepts_17 ?_
    exact (Go_s hg) _ _ dX2_accepts_18
  · have hg := Go_f c4 hg
    refine lv_iload_n hx hb dX2_accepts_5 rfl (lv_at hl 2 rfl) ?_
    refine zv_bipush hx hb dX2_accepts_6 (by decide) ?_
    refine zv_icmp_gt (tgt := 17) hx hb dX2_accepts_8 (by decide) b1 (by decide) (fun c3 => ?_) (fun c3 => ?_)
    · have hg := Go_t c3 hg
      refine zv_iconst hx hb dX2_accepts_17 ?_
      exact (Go_s hg) _ _ dX2_accepts_18
    · have hg := Go_f c3 hg
      refine lv_iload_n hx hb dX2_accepts_11 rfl (lv_at hl 2 rfl) ?_
      refine lv_aload_n hx hb dX2_accepts_12 rfl (lv_at hl 1 rfl) ?_
      refine va_alen (v := zi (10 : Int)) hx hb hK hP 2 1 rfl rfl rfl dX2_accepts_13 ?_
      refine zv_icmp_le (tgt := 19) hx hb dX2_accepts_14 (by decide) b1 (by decide) (fun c2 => ?_) (fun c2 => ?_)
      · have hg := Go_t c2 hg
        refine zv_iconst hx hb dX2_accepts_19 ?_
        refine lv_istore_n (lv' := [(3, .int (zi (0 : Int))), (0, .ref (t 0)), (1, .ref q1), (2, .int (zi i2))]) hx hb dX2_accepts_20 rfl hl (by decide) rfl (fun ls hl => ?_)
        exact (Go_s hg) ls (lv_sub hl [2, 3, 0] rfl)
      · have hg := Go_f c2 hg
        refine zv_iconst hx hb dX2_accepts_17 ?_
        exact (Go_s hg) _ _ dX2_accepts_18
set_option maxHeartbeats 4000000 in
set_option maxRecDepth 100000 in
theorem zs_X2_accepts_21 {p : Program} {l : Launch} {e : Env} {s : State} {m : MethodId} {args : Array Value} {below : List Frame} {meth : Method} {c : Code} {Q : State → Prop} {D : va_G} {κ : Nat → ClassId} {H : Heap} {locs : List Loc} (t : Nat → Nat) (q1 : Nat) (t_size : Int) (t_numbers : Nat) (q1_c : Nat)  (hx : p.tables.exec = Jvm.exec) (hb : c.code = cX2_accepts) (hml : c.maxLocals = 4) (hown : s.vm.findClass RX2 = some m.cls) (hts : ∀ w ∈ wsX2_accepts, w.before args s = true) (hK : va_K D vwCl (zTY κ) s) (hP : va_P D vwCl ([((t 0), .inr (2, [.ref (t 1), .int (zi t_size)])), ((t 1), .inl (κ 1, 10, .inl (zc t_numbers))), (q1, .inl (κ 1, 10, .inl (zc q1_c)))]) H) (i2 : Int) (i3 : Int) (hg : Go (GoE (zA_X2_accepts p l e s m args below meth c Q H locs t q1 ) (zQ_X2_accepts p l e s m args below meth c Q H locs)) (zg_X2_accepts_21 q1_c i2 i3)) : zA_X2_accepts_21 p l e s m args below meth c Q H locs t q1  i2 i3 := by
  intro ls hl
  unfold zg_X2_accepts_21 at hg
  refine lv_iload_n hx hb dX2_accepts_21 rfl (lv_at hl 2 rfl) ?_
  refine lv_iload_n hx hb dX2_accepts_22 rfl (lv_at hl 1 rfl) ?_
  obtain ⟨b5, hg⟩ := Go_n hg
  obtain ⟨b6, hg⟩ := Go_n hg
  refine zv_icmp_ge (tgt := 49) hx hb dX2_accepts_23 (by decide) b5 b6 (fun c10 => ?_) (fun c10 => ?_)
  · have hg := Go_t c10 hg
    refine zv_iconst hx hb dX2_accepts_49 ?_
    exact (Go_s hg) _ _ dX2_accepts_50
  · have hg := Go_f c10 hg
    refine lv_aload_n hx hb dX2_accepts_26 rfl (lv_at hl 0 rfl) ?_
    refine lv_iload_n hx hb dX2_accepts_27 rfl (lv_at hl 2 rfl) ?_
    obtain ⟨n7, hg⟩ := Go_n hg
    refine zv_iald hx hb hK hP 2 1 rfl rfl (by decide) n7 dX2_accepts_28 ?_
    refine zv_iconst hx hb dX2_accepts_29 ?_
    refine zv_icmp_lt (tgt := 41) hx hb dX2_accepts_30 (by decide) (zget_in _ _) (by decide) (fun c9 => ?_) (fun c9 => ?_)
    · have hg := Go_t c9 hg
      refine zv_iconst hx hb dX2_accepts_41 ?_
      exact (Go_s hg) _ _ dX2_accepts_42
    · have hg := Go_f c9 hg
      refine lv_aload_n hx hb dX2_accepts_33 rfl (lv_at hl 0 rfl) ?_
      refine lv_iload_n hx hb dX2_accepts_34 rfl (lv_at hl 2 rfl) ?_
      refine zv_iald hx hb hK hP 2 1 rfl rfl (by decide) n7 dX2_accepts_35 ?_
      refine zv_bipush hx hb dX2_accepts_36 (by decide) ?_
      refine zv_icmp_le (tgt := 43) hx hb dX2_accepts_38 (by decide) (zget_in _ _) (by decide) (fun c8 => ?_) (fun c8 => ?_)
      · have hg := Go_t c8 hg
        refine lv_iinc (v := zi (i3 + (1 : Int))) (lv' := [(3, .int (zi (i3 + (1 : Int)))), (1, .ref q1), (2, .int (zi i2))]) hx hb dX2_accepts_43 hl (k := 2) rfl (zi_add i3 _) (by decide) rfl (fun ls hl => ?_)
        refine lv_goto (tgt := 21) hx hb dX2_accepts_46 (by decide) ?_
        exact (Go_s hg) ls (lv_sub hl [1, 2, 0] rfl)
      · have hg := Go_f c8 hg
        refine zv_iconst hx hb dX2_accepts_41 ?_
        exact (Go_s hg) _ _ dX2_accepts_42
set_option maxHeartbeats 4000000 in
set_option maxRecDepth 100000 in
theorem zw_X2_accepts {p : Program} {l : Launch} {e : Env} {s : State} {m : MethodId} {args : Array Value} {below : List Frame} {meth : Method} {c : Code} {Q : State → Prop} {D : va_G} {κ : Nat → ClassId} {H : Heap} {locs : List Loc} (t : Nat → Nat) (q1 : Nat) (t_size : Int) (t_numbers : Nat) (q1_c : Nat)  (i2 : Int) (hx : p.tables.exec = Jvm.exec) (hb : c.code = cX2_accepts) (hml : c.maxLocals = 4) (hown : s.vm.findClass RX2 = some m.cls) (hts : ∀ w ∈ wsX2_accepts, w.before args s = true) (hK : va_K D vwCl (zTY κ) s) (hP : va_P D vwCl ([((t 0), .inr (2, [.ref (t 1), .int (zi t_size)])), ((t 1), .inl (κ 1, 10, .inl (zc t_numbers))), (q1, .inl (κ 1, 10, .inl (zc q1_c)))]) H) (out : Bool) (h : zf_X2_accepts q1_c i2 = some out) (hq : zQ_X2_accepts p l e s m args below meth c Q H locs out) : zA_X2_accepts_0 p l e s m args below meth c Q H locs t q1  i2 0 := by
  have hst : ∀ st : zS_X2_accepts, Go (GoE (zA_X2_accepts p l e s m args below meth c Q H locs t q1 ) (zQ_X2_accepts p l e s m args below meth c Q H locs)) (zg_X2_accepts q1_c st) → zA_X2_accepts p l e s m args below meth c Q H locs t q1  st := by
    intro st hg
    obtain ⟨lab, i2, i3⟩ := st
    by_cases h0 : lab = 0
    · subst h0
      exact zs_X2_accepts_0 t q1 t_size t_numbers q1_c  hx hb hml hown hts hK hP i2 i3 hg
    by_cases h21 : lab = 21
    · subst h21
      exact zs_X2_accepts_21 t q1 t_size t_numbers q1_c  hx hb hml hown hts hK hP i2 i3 hg
    have hz : zg_X2_accepts q1_c (lab, i2, i3) = none := by simp [zg_X2_accepts, h0, h21]
    rw [hz] at hg
    obtain ⟨a, h1, -⟩ := hg
    cases h1
  exact jwalk (At := zA_X2_accepts p l e s m args below meth c Q H locs t q1 ) (Ret := zQ_X2_accepts p l e s m args below meth c Q H locs) hst _ _ _ h hq
set_option maxHeartbeats 4000000 in
set_option maxRecDepth 100000 in
theorem zc_X2_accepts (l : Launch) (D : va_G) (κ : Nat → ClassId) (t : Nat → Nat) (q1 : Nat) (t_size : Int) (t_numbers : Nat) (q1_c : Nat) (i2 : Int) (out : Bool) (h : zf_X2_accepts q1_c i2 = some out) : Met l yX2_accepts wsX2_accepts zr_X2_accepts (va_Pc [.ref (t 0), .ref q1, .int (zi i2)] (zR D κ ([((t 0), .inr (2, [.ref (t 1), .int (zi t_size)])), ((t 1), .inl (κ 1, 10, .inl (zc t_numbers))), (q1, .inl (κ 1, 10, .inl (zc q1_c)))]))) (vp_Si (fun x => x = zi (bI out))) 0 0 (fun _ => False) := by
  refine Met.ofW (cc := cX2_accepts) (maxL := 4) (ret := (some .boolean)) (by decide +kernel) rfl ?_
  intro p e s m args below meth c s₁ B hml hv
  obtain ⟨rfl, hP, hK⟩ := hv
  have hx := B.exec
  have hb := B.bytes
  have hr := B.returns
  have hts := atoms_spec (ws := wsX2_accepts) B.pre
  have hown : s.vm.findClass RX2 = some m.cls := findClass_of_methodNamed B.named
  have hlocks := B.notSynchronized
  have hl := lv_entry ([.ref (t 0), .ref q1, .int (zi i2)]) (n := 4) (Nat.le_of_ble_eq_true rfl)
  rw [lg_entry_eq]
  generalize (lg_sl ([.ref (t 0), .ref q1, .int (zi i2)]) ++ List.replicate (4 - (lg_sl ([.ref (t 0), .ref q1, .int (zi i2)])).length) Slot.unset).toArray = ls at hl ⊢
  have hl : lv_has ls 4 [(0, .ref (t 0)), (1, .ref q1), (2, .int (zi i2))] := hl
  refine (zw_X2_accepts t q1 t_size t_numbers q1_c  i2 hx hb hml hown hts hK hP out h ?_) ls (lv_sub hl [0, 1, 2] rfl)
  exact fun ls pc hd => W.zret hx hb hr (bI_nar _) (fun t ht hW => ⟨_, rfl, rfl, ht⟩) (fun _ h => by cases h) hd
/-! DiamondRows$Endless.become([II)I -/
abbrev zr_X2_become : Room := { frames := 1, cells := 0, slots := 0, locals := 30 }
abbrev zS_X2_become : Type := Nat × Int × Int × Int × Nat
abbrev zO_X2_become : Type := Int × Int × Nat
noncomputable def zg_X2_become_0  (q1_c : Nat) (i2 : Int) (i3 : Int) (t_size : Int) (t_numbers : Nat) : Option (zO_X2_become ⊕ zS_X2_become) :=
  if zout i2 then none else
  some (.inr (12, i2, (0 : Int), (zmin i2 (10 : Int)), t_numbers))
noncomputable def zg_X2_become_12  (q1_c : Nat) (i2 : Int) (i3 : Int) (t_size : Int) (t_numbers : Nat) : Option (zO_X2_become ⊕ zS_X2_become) :=
  if zout i3 then none else
  if zout t_size then none else
  if t_size ≤ i3 then
  some (.inl (t_size, t_size, t_numbers))
  else
  if (10 : Int) ≤ i3 then
  some (.inl (t_size, t_size, t_numbers))
  else
  if i3 < 0 ∨ 10 ≤ i3 then none else
  some (.inr (12, 0, (i3 + (1 : Int)), t_size, (zset t_numbers (Int.toNat i3) (zget q1_c (Int.toNat i3)))))
noncomputable def zg_X2_become  (q1_c : Nat) (st : zS_X2_become) : Option (zO_X2_become ⊕ zS_X2_become) := match st with
  | (lab, i2, i3, t_size, t_numbers) => if lab = 0 then zg_X2_become_0 q1_c i2 i3 t_size t_numbers else if lab = 12 then zg_X2_become_12 q1_c i2 i3 t_size t_numbers else none
noncomputable def zf_X2_become  (t_size : Int) (t_numbers : Nat) (q1_c : Nat) (i2 : Int) : Option (Int × Int × Nat) := jrun (zg_X2_become q1_c) jfuel (0, i2, 0, t_size, t_numbers)
theorem zi_X2_become_X2 : ∀ w ∈ u_ws RX2 TX2 2, w ∈ wsX2_become := fun w h => (List.mem_cons_of_mem _ (List.mem_append_right _ h))
theorem zl_X2_become_11 : Cond.fieldLink RX2 11 "DiamondRows$Endless" "numbers" "[I" ∈ wsX2_become := (List.mem_cons_of_mem _ (List.mem_append_left _ (List.mem_of_getElem? (i := 5) rfl)))
theorem zl_X2_become_15 : Cond.fieldLink RX2 15 "DiamondRows$Endless" "size" "I" ∈ wsX2_become := (List.mem_cons_of_mem _ (List.mem_append_left _ (List.mem_of_getElem? (i := 4) rfl)))
def zQ_X2_become (p : Program) (l : Launch) (e : Env) (s : State) (m : MethodId) (args : Array Value) (below : List Frame) (meth : Method) (c : Code) (Q : State → Prop) (D : va_G) (κ : Nat → ClassId) (A : Nat → Prop) (H0 : Heap) (t : Nat → Nat) (q1 : Nat) (q1_c : Nat) (o : Int × Int × Nat) : Prop := ∀ (H : Heap) (locs : List Loc) (ls : Array Slot) (pc : Nat), va_P D vwCl ([((t 0), .inr (2, [.ref (t 1), .int (zi (o.2.1))])), ((t 1), .inl (κ 1, 10, .inl (zc (o.2.2)))), (q1, .inl (κ 1, 10, .inl (zc q1_c)))]) H → va_D A ([((t 0), .inr (2, [.ref (t 1), .int (zi (o.2.1))])), ((t 1), .inl (κ 1, 10, .inl (zc (o.2.2)))), (q1, .inl (κ 1, 10, .inl (zc q1_c)))]) → va_S A H0 H locs → decode cX2_become pc = .ok (.ireturn, 1) → W p l e zr_X2_become s m args below meth c H locs 0 0 Q (F0 m pc ls [.int (zi (o.1))])
def zA_X2_become_0 (p : Program) (l : Launch) (e : Env) (s : State) (m : MethodId) (args : Array Value) (below : List Frame) (meth : Method) (c : Code) (Q : State → Prop) (D : va_G) (κ : Nat → ClassId) (A : Nat → Prop) (H0 : Heap) (t : Nat → Nat) (q1 : Nat) (q1_c : Nat) (i2 : Int) (i3 : Int) (t_size : Int) (t_numbers : Nat) : Prop := ∀ (H : Heap) (locs : List Loc) (ls : Array Slot), va_P D vwCl ([((t 0), .inr (2, [.ref (t 1), .int (zi t_size)])), ((t 1), .inl (κ 1, 10, .inl (zc t_numbers))), (q1, .inl (κ 1, 10, .inl (zc q1_c)))]) H → va_D A ([((t 0), .inr (2, [.ref (t 1), .int (zi t_size)])), ((t 1), .inl (κ 1, 10, .inl (zc t_numbers))), (q1, .inl (κ 1, 10, .inl (zc q1_c)))]) → va_S A H0 H locs → lv_has ls 4 [(0, .ref (t 0)), (1, .ref q1), (2, .int (zi i2))] → W p l e zr_X2_become s m args below meth c H locs 0 0 Q (F0 m 0 ls [])
def zA_X2_become_12 (p : Program) (l : Launch) (e : Env) (s : State) (m : MethodId) (args : Array Value) (below : List Frame) (meth : Method) (c : Code) (Q : State → Prop) (D : va_G) (κ : Nat → ClassId) (A : Nat → Prop) (H0 : Heap) (t : Nat → Nat) (q1 : Nat) (q1_c : Nat) (i2 : Int) (i3 : Int) (t_size : Int) (t_numbers : Nat) : Prop := ∀ (H : Heap) (locs : List Loc) (ls : Array Slot), va_P D vwCl ([((t 0), .inr (2, [.ref (t 1), .int (zi t_size)])), ((t 1), .inl (κ 1, 10, .inl (zc t_numbers))), (q1, .inl (κ 1, 10, .inl (zc q1_c)))]) H → va_D A ([((t 0), .inr (2, [.ref (t 1), .int (zi t_size)])), ((t 1), .inl (κ 1, 10, .inl (zc t_numbers))), (q1, .inl (κ 1, 10, .inl (zc q1_c)))]) → va_S A H0 H locs → lv_has ls 4 [(0, .ref (t 0)), (1, .ref q1), (3, .int (zi i3))] → W p l e zr_X2_become s m args below meth c H locs 0 0 Q (F0 m 12 ls [])
def zA_X2_become (p : Program) (l : Launch) (e : Env) (s : State) (m : MethodId) (args : Array Value) (below : List Frame) (meth : Method) (c : Code) (Q : State → Prop) (D : va_G) (κ : Nat → ClassId) (A : Nat → Prop) (H0 : Heap) (t : Nat → Nat) (q1 : Nat) (q1_c : Nat) (st : zS_X2_become) : Prop := match st with
  | (lab, i2, i3, t_size, t_numbers) => if lab = 0 then zA_X2_become_0 p l e s m args below meth c Q D κ A H0 t q1 q1_c i2 i3 t_size t_numbers else if lab = 12 then zA_X2_become_12 p l e s m args below meth c Q D κ A H0 t q1 q1_c i2 i3 t_size t_numbers else True
set_option maxHeartbeats 4000000 in
set_option maxRecDepth 100000 in
theorem zs_X2_become_0 {p : Program} {l : Launch} {e : Env} {s : State} {m : MethodId} {args : Array Value} {below : List Frame} {meth : Method} {c : Code} {Q : State → Prop} {D : va_G} {κ : Nat → ClassId} {A : Nat → Prop} {H0 : Heap} (t : Nat → Nat) (q1 : Nat) (q1_c : Nat) (hx : p.tables.exec = Jvm.exec) (hb : c.code = cX2_become) (hml : c.maxLocals = 4) (hown : s.vm.findClass RX2 = some m.cls) (hts : ∀ w ∈ wsX2_become, w.before args s = true) (hK : va_K D vwCl (zTY κ) s) (hA : ∀ q : Nat, H0.size ≤ q → A q) (i2 : Int) (i3 : Int) (t_size : Int) (t_numbers : Nat) (hg : Go (GoE (zA_X2_become p l e s m args below meth c Q D κ A H0 t q1 q1_c) (zQ_X2_become p l e s m args below meth c Q D κ A H0 t q1 q1_c)) (zg_X2_become_0 q1_c i2 i3 t_size t_numbers)) : zA_X2_become_0 p l e s m args below meth c Q D κ A H0 t q1 q1_c i2 i3 t_size t_numbers := by
  intro H locs ls hP hD hS hl
  unfold zg_X2_become_0 at hg
  refine lv_aload_n hx hb dX2_become_0 rfl (lv_at hl 0 rfl) ?_
  refine lv_iload_n hx hb dX2_become_1 rfl (lv_at hl 2 rfl) ?_
  refine zv_bipush hx hb dX2_become_2 (by decide) ?_
  obtain ⟨b1, hg⟩ := Go_n hg
  refine va_mmin hx hb (by rw [hml]; exact hl.1.symm) hown (hts (.methodLink RX2 19 Lib.Math.min.name) (List.mem_cons_of_mem _ (List.mem_append_left _ (List.mem_of_getElem? (i := 0) rfl)))) (hts (.static Lib.Math.min.name) (List.mem_cons_of_mem _ (List.mem_append_left _ (List.mem_of_getElem? (i := 1) rfl)))) (hts (.initialized "java/lang/Math") (List.mem_cons_of_mem _ (List.mem_append_left _ (List.mem_of_getElem? (i := 2) rfl)))) (hts (.code Lib.Math.min.name Lib.Math.min.code 2 (some .int)) (List.mem_cons_of_mem _ (List.mem_append_left _ (List.mem_of_getElem? (i := 3) rfl)))) (Nat.le_of_ble_eq_true rfl) (Nat.le_of_ble_eq_true rfl) (Nat.zero_le _) (Nat.zero_le _) dX2_become_4 ?_
  rw [zi_min b1 (by decide)]
  refine va_put (D := D) (ci := 2) (v := .int (zi (zmin i2 (10 : Int)))) (ty := .int) (C := RX2) (T := TX2) (N := 2) hx hb hts zi_X2_become_X2 tyX2 tyX2_ok nmX2 hown hK hP hD hS 0 rfl rfl 1 (by decide) (hts (.fieldLink RX2 15 "DiamondRows$Endless" "size" "I") zl_X2_become_15) (fun _ h9 => h9) rfl (by decide +kernel) rfl rfl (Nat.le_of_ble_eq_true rfl) dX2_become_7 (fun H locs hP hD hS => ?_)
  have hP : va_P D vwCl ([((t 0), .inr (2, [.ref (t 1), .int (zi (zmin i2 (10 : Int)))])), ((t 1), .inl (κ 1, 10, .inl (zc t_numbers))), (q1, .inl (κ 1, 10, .inl (zc q1_c)))]) H := hP
  have hD : va_D A ([((t 0), .inr (2, [.ref (t 1), .int (zi (zmin i2 (10 : Int)))])), ((t 1), .inl (κ 1, 10, .inl (zc t_numbers))), (q1, .inl (κ 1, 10, .inl (zc q1_c)))]) := hD
  refine zv_iconst hx hb dX2_become_10 ?_
  refine lv_istore_n (lv' := [(3, .int (zi (0 : Int))), (0, .ref (t 0)), (1, .ref q1), (2, .int (zi i2))]) hx hb dX2_become_11 rfl hl (by decide) rfl (fun ls hl => ?_)
  exact (Go_s hg) H locs ls hP hD hS (lv_sub hl [1, 2, 0] rfl)
set_option maxHeartbeats 4000000 in
set_option maxRecDepth 100000 in
theorem zs_X2_become_12 {p : Program} {l : Launch} {e : Env} {s : State} {m : MethodId} {args : Array Value} {below : List Frame} {meth : Method} {c : Code} {Q : State → Prop} {D : va_G} {κ : Nat → ClassId} {A : Nat → Prop} {H0 : Heap} (t : Nat → Nat) (q1 : Nat) (q1_c : Nat) (hx : p.tables.exec = Jvm.exec) (hb : c.code = cX2_become) (hml : c.maxLocals = 4) (hown : s.vm.findClass RX2 = some m.cls) (hts : ∀ w ∈ wsX2_become, w.before args s = true) (hK : va_K D vwCl (zTY κ) s) (hA : ∀ q : Nat, H0.size ≤ q → A q) (i2 : Int) (i3 : Int) (t_size : Int) (t_numbers : Nat) (hg : Go (GoE (zA_X2_become p l e s m args below meth c Q D κ A H0 t q1 q1_c) (zQ_X2_become p l e s m args below meth c Q D κ A H0 t q1 q1_c)) (zg_X2_become_12 q1_c i2 i3 t_size t_numbers)) : zA_X2_become_12 p l e s m args below meth c Q D κ A H0 t q1 q1_c i2 i3 t_size t_numbers := by
  intro H locs ls hP hD hS hl
  unfold zg_X2_become_12 at hg
  refine lv_iload_n hx hb dX2_become_12 rfl (lv_at hl 2 rfl) ?_
  refine lv_aload_n hx hb dX2_become_13 rfl (lv_at hl 0 rfl) ?_
  refine va_get (D := D) (ci := 2) (v := .int (zi t_size)) (C := RX2) (T := TX2) (N := 2) hx hb hts zi_X2_become_X2 hown hK hP 0 rfl rfl 1 (by decide) (hts (.fieldLink RX2 15 "DiamondRows$Endless" "size" "I") zl_X2_become_15) (fun _ h9 => h9) rfl dX2_become_14 ?_
  obtain ⟨b2, hg⟩ := Go_n hg
  obtain ⟨b3, hg⟩ := Go_n hg
  refine zv_icmp_ge (tgt := 41) hx hb dX2_become_17 (by decide) b2 b3 (fun c6 => ?_) (fun c6 => ?_)
  · have hg := Go_t c6 hg
    refine lv_aload_n hx hb dX2_become_41 rfl (lv_at hl 0 rfl) ?_
    refine va_get (D := D) (ci := 2) (v := .int (zi t_size)) (C := RX2) (T := TX2) (N := 2) hx hb hts zi_X2_become_X2 hown hK hP 0 rfl rfl 1 (by decide) (hts (.fieldLink RX2 15 "DiamondRows$Endless" "size" "I") zl_X2_become_15) (fun _ h9 => h9) rfl dX2_become_42 ?_
    exact (Go_s hg) _ _ _ _ hP hD hS dX2_become_45
  · have hg := Go_f c6 hg
    refine lv_iload_n hx hb dX2_become_20 rfl (lv_at hl 2 rfl) ?_
    refine lv_aload_n hx hb dX2_become_21 rfl (lv_at hl 1 rfl) ?_
    refine va_alen (v := zi (10 : Int)) hx hb hK hP 2 1 rfl rfl rfl dX2_become_22 ?_
    refine zv_icmp_ge (tgt := 41) hx hb dX2_become_23 (by decide) b2 (by decide) (fun c5 => ?_) (fun c5 => ?_)
    · have hg := Go_t c5 hg
      refine lv_aload_n hx hb dX2_become_41 rfl (lv_at hl 0 rfl) ?_
      refine va_get (D := D) (ci := 2) (v := .int (zi t_size)) (C := RX2) (T := TX2) (N := 2) hx hb hts zi_X2_become_X2 hown hK hP 0 rfl rfl 1 (by decide) (hts (.fieldLink RX2 15 "DiamondRows$Endless" "size" "I") zl_X2_become_15) (fun _ h9 => h9) rfl dX2_become_42 ?_
      exact (Go_s hg) _ _ _ _ hP hD hS dX2_become_45
    · have hg := Go_f c5 hg
      refine lv_aload_n hx hb dX2_become_26 rfl (lv_at hl 0 rfl) ?_
      refine va_get (D := D) (ci := 2) (v := .ref (t 1)) (C := RX2) (T := TX2) (N := 2) hx hb hts zi_X2_become_X2 hown hK hP 0 rfl rfl 0 (by decide) (hts (.fieldLink RX2 11 "DiamondRows$Endless" "numbers" "[I") zl_X2_become_11) (fun _ h9 => h9) rfl dX2_become_27 ?_
      refine lv_iload_n hx hb dX2_become_30 rfl (lv_at hl 2 rfl) ?_
      refine lv_aload_n hx hb dX2_become_31 rfl (lv_at hl 1 rfl) ?_
      refine lv_iload_n hx hb dX2_become_32 rfl (lv_at hl 2 rfl) ?_
      obtain ⟨n4, hg⟩ := Go_n hg
      refine zv_iald hx hb hK hP 2 1 rfl rfl (by decide) n4 dX2_become_33 ?_
      refine zv_iast hx hb hK hP hD hS 1 1 rfl rfl (by decide) n4 dX2_become_34 (fun H locs hP hD hS => ?_)
      have hP : va_P D vwCl ([((t 0), .inr (2, [.ref (t 1), .int (zi t_size)])), ((t 1), .inl (κ 1, 10, .inl (zc (zset t_numbers (Int.toNat i3) (zget q1_c (Int.toNat i3)))))), (q1, .inl (κ 1, 10, .inl (zc q1_c)))]) H := hP
      have hD : va_D A ([((t 0), .inr (2, [.ref (t 1), .int (zi t_size)])), ((t 1), .inl (κ 1, 10, .inl (zc (zset t_numbers (Int.toNat i3) (zget q1_c (Int.toNat i3)))))), (q1, .inl (κ 1, 10, .inl (zc q1_c)))]) := hD
      refine lv_iinc (v := zi (i3 + (1 : Int))) (lv' := [(3, .int (zi (i3 + (1 : Int)))), (0, .ref (t 0)), (1, .ref q1)]) hx hb dX2_become_35 hl (k := 2) rfl (zi_add i3 _) (by decide) rfl (fun ls hl => ?_)
      refine lv_goto (tgt := 12) hx hb dX2_become_38 (by decide) ?_
      exact (Go_s hg) H locs ls hP hD hS (lv_sub hl [1, 2, 0] rfl)
set_option maxHeartbeats 4000000 in
set_option maxRecDepth 100000 in
theorem zw_X2_become {p : Program} {l : Launch} {e : Env} {s : State} {m : MethodId} {args : Array Value} {below : List Frame} {meth : Method} {c : Code} {Q : State → Prop} {D : va_G} {κ : Nat → ClassId} {A : Nat → Prop} {H0 : Heap} (t : Nat → Nat) (q1 : Nat) (q1_c : Nat) (t_size : Int) (t_numbers : Nat) (i2 : Int) (hx : p.tables.exec = Jvm.exec) (hb : c.code = cX2_become) (hml : c.maxLocals = 4) (hown : s.vm.findClass RX2 = some m.cls) (hts : ∀ w ∈ wsX2_become, w.before args s = true) (hK : va_K D vwCl (zTY κ) s) (hA : ∀ q : Nat, H0.size ≤ q → A q) (out : Int × Int × Nat) (h : zf_X2_become t_size t_numbers q1_c i2 = some out) (hq : zQ_X2_become p l e s m args below meth c Q D κ A H0 t q1 q1_c out) : zA_X2_become_0 p l e s m args below meth c Q D κ A H0 t q1 q1_c i2 0 t_size t_numbers := by
  have hst : ∀ st : zS_X2_become, Go (GoE (zA_X2_become p l e s m args below meth c Q D κ A H0 t q1 q1_c) (zQ_X2_become p l e s m args below meth c Q D κ A H0 t q1 q1_c)) (zg_X2_become q1_c st) → zA_X2_become p l e s m args below meth c Q D κ A H0 t q1 q1_c st := by
    intro st hg
    obtain ⟨lab, i2, i3, t_size, t_numbers⟩ := st
    by_cases h0 : lab = 0
    · subst h0
      exact zs_X2_become_0 t q1 q1_c hx hb hml hown hts hK hA i2 i3 t_size t_numbers hg
    by_cases h12 : lab = 12
    · subst h12
      exact zs_X2_become_12 t q1 q1_c hx hb hml hown hts hK hA i2 i3 t_size t_numbers hg
    have hz : zg_X2_become q1_c (lab, i2, i3, t_size, t_numbers) = none := by simp [zg_X2_become, h0, h12]
    rw [hz] at hg
    obtain ⟨a, h1, -⟩ := hg
    cases h1
  exact jwalk (At := zA_X2_become p l e s m args below meth c Q D κ A H0 t q1 q1_c) (Ret := zQ_X2_become p l e s m args below meth c Q D κ A H0 t q1 q1_c) hst _ _ _ h hq
set_option maxHeartbeats 4000000 in
set_option maxRecDepth 100000 in
theorem zc_X2_become (l : Launch) (D : va_G) (κ : Nat → ClassId) (t : Nat → Nat) (q1 : Nat) (sz : Nat) (t_size : Int) (t_numbers : Nat) (q1_c : Nat) (i2 : Int) (out : Int × Int × Nat) (h : zf_X2_become t_size t_numbers q1_c i2 = some out) : Met l yX2_become wsX2_become zr_X2_become (va_Pc [.ref (t 0), .ref q1, .int (zi i2)] (zW D κ ([((t 0), .inr (2, [.ref (t 1), .int (zi t_size)])), ((t 1), .inl (κ 1, 10, .inl (zc t_numbers))), (q1, .inl (κ 1, 10, .inl (zc q1_c)))]) sz)) (va_Qi (fun r (_ : Unit) => r = zi (out.1)) (fun _ => zB D κ (va_A ([((t 0), .inr (2, [.ref (t 1), .int (zi t_size)])), ((t 1), .inl (κ 1, 10, .inl (zc t_numbers))), (q1, .inl (κ 1, 10, .inl (zc q1_c)))]) sz) ([((t 0), .inr (2, [.ref (t 1), .int (zi (out.2.1))])), ((t 1), .inl (κ 1, 10, .inl (zc (out.2.2)))), (q1, .inl (κ 1, 10, .inl (zc q1_c)))])) (va_A ([((t 0), .inr (2, [.ref (t 1), .int (zi t_size)])), ((t 1), .inl (κ 1, 10, .inl (zc t_numbers))), (q1, .inl (κ 1, 10, .inl (zc q1_c)))]) sz)) 0 0 (va_A ([((t 0), .inr (2, [.ref (t 1), .int (zi t_size)])), ((t 1), .inl (κ 1, 10, .inl (zc t_numbers))), (q1, .inl (κ 1, 10, .inl (zc q1_c)))]) sz) := by
  refine Met.ofW (cc := cX2_become) (maxL := 4) (ret := (some .int)) (by decide +kernel) rfl ?_
  intro p e s m args below meth c s₁ B hml hv
  obtain ⟨rfl, hsz, hP, hK, hD0⟩ := hv
  have hx := B.exec
  have hb := B.bytes
  have hr := B.returns
  have hts := atoms_spec (ws := wsX2_become) B.pre
  have hown : s.vm.findClass RX2 = some m.cls := findClass_of_methodNamed B.named
  have hlocks := B.notSynchronized
  subst hsz
  have hD := hD0.self (sz := s.heap.size)
  generalize hAe : va_A ([((t 0), .inr (2, [.ref (t 1), .int (zi t_size)])), ((t 1), .inl (κ 1, 10, .inl (zc t_numbers))), (q1, .inl (κ 1, 10, .inl (zc q1_c)))]) s.heap.size = A at hD ⊢
  have hA : ∀ q : Nat, s.heap.size ≤ q → A q := fun q h => by rw [← hAe]; exact Or.inr h
  have hS : va_S A s.heap s.heap [] := va_S.rf
  have hl := lv_entry ([.ref (t 0), .ref q1, .int (zi i2)]) (n := 4) (Nat.le_of_ble_eq_true rfl)
  rw [lg_entry_eq]
  generalize (lg_sl ([.ref (t 0), .ref q1, .int (zi i2)]) ++ List.replicate (4 - (lg_sl ([.ref (t 0), .ref q1, .int (zi i2)])).length) Slot.unset).toArray = ls at hl ⊢
  have hl : lv_has ls 4 [(0, .ref (t 0)), (1, .ref q1), (2, .int (zi i2))] := hl
  refine (zw_X2_become t q1 q1_c t_size t_numbers i2 hx hb hml hown hts hK hA out h ?_) s.heap [] ls hP hD hS (lv_sub hl [0, 1, 2] rfl)
  exact fun H locs ls pc hP hD hS hd => W.iret hx hb hr (fun t ht hW => ⟨⟨_, (), rfl, rfl, by rw [ht]; exact hP, va_K.moved hW.alike hK, hD⟩, hS.F ht⟩) hS.2.2 hd
/-! DiamondRows$Endless.wrapped(I)I -/
abbrev zr_X2_wrapped : Room := { frames := 1, cells := 0, slots := 0, locals := 22 }
noncomputable def zf_X2_wrapped  (t_size : Int) (i1 : Int) : Option (Int) :=
  if zout t_size then none else
  if t_size ≤ 0 then
  some ((0 : Int))
  else
  Option.bind (zf_J9_floorMod_7cf53 i1 t_size) (fun o2 =>
  some (o2))
theorem zi_X2_wrapped_X2 : ∀ w ∈ u_ws RX2 TX2 2, w ∈ wsX2_wrapped := fun w h => (List.mem_cons_of_mem _ (List.mem_append_right _ (List.mem_append_left _ h)))
theorem zl_X2_wrapped_15 : Cond.fieldLink RX2 15 "DiamondRows$Endless" "size" "I" ∈ wsX2_wrapped := (List.mem_cons_of_mem _ (List.mem_append_left _ (List.mem_of_getElem? (i := 0) rfl)))
def zQ_X2_wrapped (p : Program) (l : Launch) (e : Env) (s : State) (m : MethodId) (args : Array Value) (below : List Frame) (meth : Method) (c : Code) (Q : State → Prop) (H : Heap) (locs : List Loc)  (o : Int) : Prop := ∀ (ls : Array Slot) (pc : Nat), decode cX2_wrapped pc = .ok (.ireturn, 1) → W p l e zr_X2_wrapped s m args below meth c H locs 0 0 Q (F0 m pc ls [.int (zi o)])
set_option maxHeartbeats 4000000 in
set_option maxRecDepth 100000 in
theorem zs_X2_wrapped {p : Program} {l : Launch} {e : Env} {s : State} {m : MethodId} {args : Array Value} {below : List Frame} {meth : Method} {c : Code} {Q : State → Prop} {D : va_G} {κ : Nat → ClassId} {H : Heap} {locs : List Loc} (t : Nat → Nat) (t_size : Int) (t_numbers : Nat) (i1 : Int) (hx : p.tables.exec = Jvm.exec) (hb : c.code = cX2_wrapped) (hml : c.maxLocals = 2) (hown : s.vm.findClass RX2 = some m.cls) (hts : ∀ w ∈ wsX2_wrapped, w.before args s = true) (hK : va_K D vwCl (zTY κ) s) (hP : va_P D vwCl ([((t 0), .inr (2, [.ref (t 1), .int (zi t_size)])), ((t 1), .inl (κ 1, 10, .inl (zc t_numbers)))]) H) (ls : Array Slot) (hl : lv_has ls 2 [(0, .ref (t 0)), (1, .int (zi i1))]) (hg : Go (zQ_X2_wrapped p l e s m args below meth c Q H locs) (zf_X2_wrapped t_size i1)) : W p l e zr_X2_wrapped s m args below meth c H locs 0 0 Q (F0 m 0 ls []) := by
  unfold zf_X2_wrapped at hg
  refine lv_aload_n hx hb dX2_wrapped_0 rfl (lv_at hl 0 rfl) ?_
  refine va_get (D := D) (ci := 2) (v := .int (zi t_size)) (C := RX2) (T := TX2) (N := 2) hx hb hts zi_X2_wrapped_X2 hown hK hP 0 rfl rfl 1 (by decide) (hts (.fieldLink RX2 15 "DiamondRows$Endless" "size" "I") zl_X2_wrapped_15) (fun _ h9 => h9) rfl dX2_wrapped_1 ?_
  obtain ⟨b1, hg⟩ := Go_n hg
  refine zv_if_le (tgt := 18) hx hb dX2_wrapped_4 (by decide) b1 (fun c3 => ?_) (fun c3 => ?_)
  · have hg := Go_t c3 hg
    refine zv_iconst hx hb dX2_wrapped_18 ?_
    exact (Go_s hg) _ _ dX2_wrapped_19
  · have hg := Go_f c3 hg
    refine lv_iload_n hx hb dX2_wrapped_7 rfl (lv_at hl 1 rfl) ?_
    refine lv_aload_n hx hb dX2_wrapped_8 rfl (lv_at hl 0 rfl) ?_
    refine va_get (D := D) (ci := 2) (v := .int (zi t_size)) (C := RX2) (T := TX2) (N := 2) hx hb hts zi_X2_wrapped_X2 hown hK hP 0 rfl rfl 1 (by decide) (hts (.fieldLink RX2 15 "DiamondRows$Endless" "size" "I") zl_X2_wrapped_15) (fun _ h9 => h9) rfl dX2_wrapped_9 ?_
    obtain ⟨o2, ho2, hg⟩ := Go_b hg
    refine zc_si (rest := []) ⟨hx, hb, hml, hown, hts⟩ (zc_J9_floorMod_7cf53 l D κ i1 t_size o2 ho2) (va_cwS 2 hts gX2_wrapped_J9_floorMod_7cf53 rfl rfl rfl hs_J9_floorMod_7cf53 ⟨Nat.le_of_ble_eq_true rfl, Nat.le_of_ble_eq_true rfl⟩) (zpreS hK (hP.sub [] rfl)) rfl hl.1 rfl (Nat.le_of_ble_eq_true rfl) dX2_wrapped_12 ⟨Nat.zero_le _, Nat.zero_le _⟩ ?_
    refine lv_goto (tgt := 19) hx hb dX2_wrapped_15 (by decide) ?_
    exact (Go_s hg) _ _ dX2_wrapped_19
set_option maxHeartbeats 4000000 in
set_option maxRecDepth 100000 in
theorem zc_X2_wrapped (l : Launch) (D : va_G) (κ : Nat → ClassId) (t : Nat → Nat) (t_size : Int) (t_numbers : Nat) (i1 : Int) (out : Int) (h : zf_X2_wrapped t_size i1 = some out) : Met l yX2_wrapped wsX2_wrapped zr_X2_wrapped (va_Pc [.ref (t 0), .int (zi i1)] (zR D κ ([((t 0), .inr (2, [.ref (t 1), .int (zi t_size)])), ((t 1), .inl (κ 1, 10, .inl (zc t_numbers)))]))) (vp_Si (fun x => x = zi out)) 0 0 (fun _ => False) := by
  refine Met.ofW (cc := cX2_wrapped) (maxL := 2) (ret := (some .int)) (by decide +kernel) rfl ?_
  intro p e s m args below meth c s₁ B hml hv
  obtain ⟨rfl, hP, hK⟩ := hv
  have hx := B.exec
  have hb := B.bytes
  have hr := B.returns
  have hts := atoms_spec (ws := wsX2_wrapped) B.pre
  have hown : s.vm.findClass RX2 = some m.cls := findClass_of_methodNamed B.named
  have hlocks := B.notSynchronized
  have hl := lv_entry ([.ref (t 0), .int (zi i1)]) (n := 2) (Nat.le_of_ble_eq_true rfl)
  rw [lg_entry_eq]
  generalize (lg_sl ([.ref (t 0), .int (zi i1)]) ++ List.replicate (2 - (lg_sl ([.ref (t 0), .int (zi i1)])).length) Slot.unset).toArray = ls at hl ⊢
  have hl : lv_has ls 2 [(0, .ref (t 0)), (1, .int (zi i1))] := hl
  refine zs_X2_wrapped t t_size t_numbers i1 hx hb hml hown hts hK hP ls hl ⟨out, h, ?_⟩
  exact fun ls pc hd => W.iret hx hb hr (fun t ht hW => ⟨_, rfl, rfl, ht⟩) (fun _ h => by cases h) hd
/-! DiamondRows$Endless.at(I)I -/
abbrev zr_X2_at : Room := { frames := 2, cells := 0, slots := 0, locals := 43 }
noncomputable def zf_X2_at  (t_size : Int) (t_numbers : Nat) (i1 : Int) : Option (Int) :=
  Option.bind (zf_X2_wrapped t_size i1) (fun o1 =>
  if o1 < 0 ∨ 10 ≤ o1 then none else
  some ((zget t_numbers (Int.toNat o1))))
theorem zi_X2_at_X2 : ∀ w ∈ u_ws RX2 TX2 2, w ∈ wsX2_at := fun w h => (List.mem_cons_of_mem _ (List.mem_append_right _ (List.mem_append_left _ h)))
theorem zl_X2_at_11 : Cond.fieldLink RX2 11 "DiamondRows$Endless" "numbers" "[I" ∈ wsX2_at := (List.mem_cons_of_mem _ (List.mem_append_left _ (List.mem_of_getElem? (i := 0) rfl)))
def zQ_X2_at (p : Program) (l : Launch) (e : Env) (s : State) (m : MethodId) (args : Array Value) (below : List Frame) (meth : Method) (c : Code) (Q : State → Prop) (H : Heap) (locs : List Loc)  (o : Int) : Prop := ∀ (ls : Array Slot) (pc : Nat), decode cX2_at pc = .ok (.ireturn, 1) → W p l e zr_X2_at s m args below meth c H locs 0 0 Q (F0 m pc ls [.int (zi o)])
set_option maxHeartbeats 4000000 in
set_option maxRecDepth 100000 in
theorem zs_X2_at {p : Program} {l : Launch} {e : Env} {s : State} {m : MethodId} {args : Array Value} {below : List Frame} {meth : Method} {c : Code} {Q : State → Prop} {D : va_G} {κ : Nat → ClassId} {H : Heap} {locs : List Loc} (t : Nat → Nat) (t_size : Int) (t_numbers : Nat) (i1 : Int) (hx : p.tables.exec = Jvm.exec) (hb : c.code = cX2_at) (hml : c.maxLocals = 2) (hown : s.vm.findClass RX2 = some m.cls) (hts : ∀ w ∈ wsX2_at, w.before args s = true) (hK : va_K D vwCl (zTY κ) s) (hP : va_P D vwCl ([((t 0), .inr (2, [.ref (t 1), .int (zi t_size)])), ((t 1), .inl (κ 1, 10, .inl (zc t_numbers)))]) H) (ls : Array Slot) (hl : lv_has ls 2 [(0, .ref (t 0)), (1, .int (zi i1))]) (hg : Go (zQ_X2_at p l e s m args below meth c Q H locs) (zf_X2_at t_size t_numbers i1)) : W p l e zr_X2_at s m args below meth c H locs 0 0 Q (F0 m 0 ls []) := by
  unfold zf_X2_at at hg
  refine lv_aload_n hx hb dX2_at_0 rfl (lv_at hl 0 rfl) ?_
  refine va_get (D := D) (ci := 2) (v := .ref (t 1)) (C := RX2) (T := TX2) (N := 2) hx hb hts zi_X2_at_X2 hown hK hP 0 rfl rfl 0 (by decide) (hts (.fieldLink RX2 11 "DiamondRows$Endless" "numbers" "[I") zl_X2_at_11) (fun _ h9 => h9) rfl dX2_at_1 ?_
  refine lv_aload_n hx hb dX2_at_4 rfl (lv_at hl 0 rfl) ?_
  refine lv_iload_n hx hb dX2_at_5 rfl (lv_at hl 1 rfl) ?_
  obtain ⟨o1, ho1, hg⟩ := Go_b hg
  refine zc_vi (rest := [.ref (t 1)]) ⟨hx, hb, hml, hown, hts⟩ (zc_X2_wrapped l D κ t t_size t_numbers i1 o1 ho1) (cwV 1 hts gX2_at_X2_wrapped rfl rfl rfl hv_X2_wrapped ⟨Nat.le_of_ble_eq_true rfl, Nat.le_of_ble_eq_true rfl⟩) (zpreV hK (hP.sub [0, 1] rfl) 2 0 rfl rfl) rfl hl.1 rfl (Nat.le_of_ble_eq_true rfl) dX2_at_6 ⟨Nat.zero_le _, Nat.zero_le _⟩ ?_
  obtain ⟨n2, hg⟩ := Go_n hg
  refine zv_iald hx hb hK hP 1 1 rfl rfl (by decide) n2 dX2_at_9 ?_
  exact (Go_s hg) _ _ dX2_at_10
set_option maxHeartbeats 4000000 in
set_option maxRecDepth 100000 in
theorem zc_X2_at (l : Launch) (D : va_G) (κ : Nat → ClassId) (t : Nat → Nat) (t_size : Int) (t_numbers : Nat) (i1 : Int) (out : Int) (h : zf_X2_at t_size t_numbers i1 = some out) : Met l yX2_at wsX2_at zr_X2_at (va_Pc [.ref (t 0), .int (zi i1)] (zR D κ ([((t 0), .inr (2, [.ref (t 1), .int (zi t_size)])), ((t 1), .inl (κ 1, 10, .inl (zc t_numbers)))]))) (vp_Si (fun x => x = zi out)) 0 0 (fun _ => False) := by
  refine Met.ofW (cc := cX2_at) (maxL := 2) (ret := (some .int)) (by decide +kernel) rfl ?_
  intro p e s m args below meth c s₁ B hml hv
  obtain ⟨rfl, hP, hK⟩ := hv
  have hx := B.exec
  have hb := B.bytes
  have hr := B.returns
  have hts := atoms_spec (ws := wsX2_at) B.pre
  have hown : s.vm.findClass RX2 = some m.cls := findClass_of_methodNamed B.named
  have hlocks := B.notSynchronized
  have hl := lv_entry ([.ref (t 0), .int (zi i1)]) (n := 2) (Nat.le_of_ble_eq_true rfl)
  rw [lg_entry_eq]
  generalize (lg_sl ([.ref (t 0), .int (zi i1)]) ++ List.replicate (2 - (lg_sl ([.ref (t 0), .int (zi i1)])).length) Slot.unset).toArray = ls at hl ⊢
  have hl : lv_has ls 2 [(0, .ref (t 0)), (1, .int (zi i1))] := hl
  refine zs_X2_at t t_size t_numbers i1 hx hb hml hown hts hK hP ls hl ⟨out, h, ?_⟩
  exact fun ls pc hd => W.iret hx hb hr (fun t ht hW => ⟨_, rfl, rfl, ht⟩) (fun _ h => by cases h) hd
/-! DiamondRows$Endless.entryAt(II)J -/
abbrev zr_X2_entryAt : Room := { frames := 3, cells := 0, slots := 0, locals := 64 }
abbrev zS_X2_entryAt : Type := Nat × Int × Int × Int × Int × Int
abbrev zO_X2_entryAt : Type := Int
noncomputable def zg_X2_entryAt_0  (t_size : Int) (t_numbers : Nat) (i1 : Int) (i2 : Int) (i3 : Int) (i5 : Int) (i7 : Int) : Option (zO_X2_entryAt ⊕ zS_X2_entryAt) :=
  if zout i2 then none else
  if 0 < i2 then
  some (.inr (14, i1, i2, (0 : Int), (1 : Int), (1 : Int)))
  else
  some (.inl ((0 : Int)))
noncomputable def zg_X2_entryAt_14  (t_size : Int) (t_numbers : Nat) (i1 : Int) (i2 : Int) (i3 : Int) (i5 : Int) (i7 : Int) : Option (zO_X2_entryAt ⊕ zS_X2_entryAt) :=
  if zout i7 then none else
  if zout i2 then none else
  if i2 ≤ i7 then
  some (.inl (i5))
  else
  if (12 : Int) ≤ i7 then
  some (.inl (i5))
  else
  Option.bind (zf_X2_at t_size t_numbers (i1 + i7)) (fun o5 =>
  if zout o5 then none else
  some (.inr (14, i1, i2, i5, ((o5 * i5) - i3), (i7 + (1 : Int)))))
noncomputable def zg_X2_entryAt  (t_size : Int) (t_numbers : Nat) (st : zS_X2_entryAt) : Option (zO_X2_entryAt ⊕ zS_X2_entryAt) := match st with
  | (lab, i1, i2, i3, i5, i7) => if lab = 0 then zg_X2_entryAt_0 t_size t_numbers i1 i2 i3 i5 i7 else if lab = 14 then zg_X2_entryAt_14 t_size t_numbers i1 i2 i3 i5 i7 else none
noncomputable def zf_X2_entryAt  (t_size : Int) (t_numbers : Nat) (i1 : Int) (i2 : Int) : Option (Int) := jrun (zg_X2_entryAt t_size t_numbers) jfuel (0, i1, i2, 0, 0, 0)
def zQ_X2_entryAt (p : Program) (l : Launch) (e : Env) (s : State) (m : MethodId) (args : Array Value) (below : List Frame) (meth : Method) (c : Code) (Q : State → Prop) (H : Heap) (locs : List Loc)  (o : Int) : Prop := ∀ (ls : Array Slot) (pc : Nat), decode cX2_entryAt pc = .ok (.lreturn, 1) → W p l e zr_X2_entryAt s m args below meth c H locs 0 0 Q (F0 m pc ls [.long (zl o)])
def zA_X2_entryAt_0 (p : Program) (l : Launch) (e : Env) (s : State) (m : MethodId) (args : Array Value) (below : List Frame) (meth : Method) (c : Code) (Q : State → Prop) (H : Heap) (locs : List Loc) (t : Nat → Nat)  (i1 : Int) (i2 : Int) (i3 : Int) (i5 : Int) (i7 : Int) : Prop := ∀ ls : Array Slot, lv_has ls 10 [(0, .ref (t 0)), (1, .int (zi i1)), (2, .int (zi i2))] → W p l e zr_X2_entryAt s m args below meth c H locs 0 0 Q (F0 m 0 ls [])
def zA_X2_entryAt_14 (p : Program) (l : Launch) (e : Env) (s : State) (m : MethodId) (args : Array Value) (below : List Frame) (meth : Method) (c : Code) (Q : State → Prop) (H : Heap) (locs : List Loc) (t : Nat → Nat)  (i1 : Int) (i2 : Int) (i3 : Int) (i5 : Int) (i7 : Int) : Prop := ∀ ls : Array Slot, lv_has ls 10 [(0, .ref (t 0)), (1, .int (zi i1)), (2, .int (zi i2)), (3, .long (zl i3)), (5, .long (zl i5)), (7, .int (zi i7))] → W p l e zr_X2_entryAt s m args below meth c H locs 0 0 Q (F0 m 14 ls [])
def zA_X2_entryAt (p : Program) (l : Launch) (e : Env) (s : State) (m : MethodId) (args : Array Value) (below : List Frame) (meth : Method) (c : Code) (Q : State → Prop) (H : Heap) (locs : List Loc) (t : Nat → Nat)  (st : zS_X2_entryAt) : Prop := match st with
  | (lab, i1, i2, i3, i5, i7) => if lab = 0 then zA_X2_entryAt_0 p l e s m args below meth c Q H locs t  i1 i2 i3 i5 i7 else if lab = 14 then zA_X2_entryAt_14 p l e s m args below meth c Q H locs t  i1 i2 i3 i5 i7 else True
set_option maxHeartbeats 4000000 in
set_option maxRecDepth 100000 in
theorem zs_X2_entryAt_0 {p : Program} {l : Launch} {e : Env} {s : State} {m : MethodId} {args : Array Value} {below : List Frame} {meth : Method} {c : Code} {Q : State → Prop} {D : va_G} {κ : Nat → ClassId} {H : Heap} {locs : List Loc} (t : Nat → Nat) (t_size : Int) (t_numbers : Nat)  (hx : p.tables.exec = Jvm.exec) (hb : c.code = cX2_entryAt) (hml : c.maxLocals = 10) (hown : s.vm.findClass RX2 = some m.cls) (hts : ∀ w ∈ wsX2_entryAt, w.before args s = true) (hK : va_K D vwCl (zTY κ) s) (hP : va_P D vwCl ([((t 0), .inr (2, [.ref (t 1), .int (zi t_size)])), ((t 1), .inl (κ 1, 10, .inl (zc t_numbers)))]) H) (i1 : Int) (i2 : Int) (i3 : Int) (i5 : Int) (i7 : Int) (hg : Go (GoE (zA_X2_entryAt p l e s m args below meth c Q H locs t ) (zQ_X2_entryAt p l e s m args below meth c Q H locs)) (zg_X2_entryAt_0 t_size t_numbers i1 i2 i3 i5 i7)) : zA_X2_entryAt_0 p l e s m args below meth c Q H locs t  i1 i2 i3 i5 i7 := by
  intro ls hl
  unfold zg_X2_entryAt_0 at hg
  refine lv_iload_n hx hb dX2_entryAt_0 rfl (lv_at hl 2 rfl) ?_
  obtain ⟨b1, hg⟩ := Go_n hg
  refine zv_if_gt (tgt := 6) hx hb dX2_entryAt_1 (by decide) b1 (fun c2 => ?_) (fun c2 => ?_)
  · have hg := Go_t c2 hg
    refine lv_lconst (v := zl (0 : Int)) hx hb dX2_entryAt_6 (by decide) ?_
    refine lv_lstore_n (lv' := [(3, .long (zl (0 : Int))), (0, .ref (t 0)), (1, .int (zi i1)), (2, .int (zi i2))]) hx hb dX2_entryAt_7 rfl hl (by decide) rfl (fun ls hl => ?_)
    refine lv_lconst (v := zl (1 : Int)) hx hb dX2_entryAt_8 (by decide) ?_
    refine lv_lstore (lv' := [(5, .long (zl (1 : Int))), (3, .long (zl (0 : Int))), (0, .ref (t 0)), (1, .int (zi i1)), (2, .int (zi i2))]) hx hb dX2_entryAt_9 hl (by decide) rfl (fun ls hl => ?_)
    refine zv_iconst hx hb dX2_entryAt_11 ?_
    refine lv_istore (lv' := [(7, .int (zi (1 : Int))), (5, .long (zl (1 : Int))), (3, .long (zl (0 : Int))), (0, .ref (t 0)), (1, .int (zi i1)), (2, .int (zi i2))]) hx hb dX2_entryAt_12 hl (by decide) rfl (fun ls hl => ?_)
    exact (Go_s hg) ls (lv_sub hl [3, 4, 5, 2, 1, 0] rfl)
  · have hg := Go_f c2 hg
    refine lv_lconst (v := zl (0 : Int)) hx hb dX2_entryAt_4 (by decide) ?_
    exact (Go_s hg) _ _ dX2_entryAt_5
set_option maxHeartbeats 4000000 in
set_option maxRecDepth 100000 in
theorem zs_X2_entryAt_14 {p : Program} {l : Launch} {e : Env} {s : State} {m : MethodId} {args : Array Value} {below : List Frame} {meth : Method} {c : Code} {Q : State → Prop} {D : va_G} {κ : Nat → ClassId} {H : Heap} {locs : List Loc} (t : Nat → Nat) (t_size : Int) (t_numbers : Nat)  (hx : p.tables.exec = Jvm.exec) (hb : c.code = cX2_entryAt) (hml : c.maxLocals = 10) (hown : s.vm.findClass RX2 = some m.cls) (hts : ∀ w ∈ wsX2_entryAt, w.before args s = true) (hK : va_K D vwCl (zTY κ) s) (hP : va_P D vwCl ([((t 0), .inr (2, [.ref (t 1), .int (zi t_size)])), ((t 1), .inl (κ 1, 10, .inl (zc t_numbers)))]) H) (i1 : Int) (i2 : Int) (i3 : Int) (i5 : Int) (i7 : Int) (hg : Go (GoE (zA_X2_entryAt p l e s m args below meth c Q H locs t ) (zQ_X2_entryAt p l e s m args below meth c Q H locs)) (zg_X2_entryAt_14 t_size t_numbers i1 i2 i3 i5 i7)) : zA_X2_entryAt_14 p l e s m args below meth c Q H locs t  i1 i2 i3 i5 i7 := by
  intro ls hl
  unfold zg_X2_entryAt_14 at hg
  refine lv_iload hx hb dX2_entryAt_14 (lv_at hl 5 rfl) ?_
  refine lv_iload_n hx hb dX2_entryAt_16 rfl (lv_at hl 2 rfl) ?_
  obtain ⟨b3, hg⟩ := Go_n hg
  obtain ⟨b4, hg⟩ := Go_n hg
  refine zv_icmp_ge (tgt := 56) hx hb dX2_entryAt_17 (by decide) b3 b4 (fun c8 => ?_) (fun c8 => ?_)
  · have hg := Go_t c8 hg
    refine lv_lload hx hb dX2_entryAt_56 (lv_at hl 4 rfl) ?_
    exact (Go_s hg) _ _ dX2_entryAt_58
  · have hg := Go_f c8 hg
    refine lv_iload hx hb dX2_entryAt_20 (lv_at hl 5 rfl) ?_
    refine zv_bipush hx hb dX2_entryAt_22 (by decide) ?_
    refine zv_icmp_ge (tgt := 56) hx hb dX2_entryAt_24 (by decide) b3 (by decide) (fun c7 => ?_) (fun c7 => ?_)
    · have hg := Go_t c7 hg
      refine lv_lload hx hb dX2_entryAt_56 (lv_at hl 4 rfl) ?_
      exact (Go_s hg) _ _ dX2_entryAt_58
    · have hg := Go_f c7 hg
      refine lv_aload_n hx hb dX2_entryAt_27 rfl (lv_at hl 0 rfl) ?_
      refine lv_iload_n hx hb dX2_entryAt_28 rfl (lv_at hl 1 rfl) ?_
      refine lv_iload hx hb dX2_entryAt_29 (lv_at hl 5 rfl) ?_
      refine zv_iadd hx hb dX2_entryAt_31 ?_
      obtain ⟨o5, ho5, hg⟩ := Go_b hg
      refine zc_vi (rest := []) ⟨hx, hb, hml, hown, hts⟩ (zc_X2_at l D κ t t_size t_numbers (i1 + i7) o5 ho5) (cwV 1 hts gX2_entryAt_X2_at rfl rfl rfl hv_X2_at ⟨Nat.le_of_ble_eq_true rfl, Nat.le_of_ble_eq_true rfl⟩) (zpreV hK (hP.sub [0, 1] rfl) 2 0 rfl rfl) rfl hl.1 rfl (Nat.le_of_ble_eq_true rfl) dX2_entryAt_32 ⟨Nat.zero_le _, Nat.zero_le _⟩ ?_
      obtain ⟨b6, hg⟩ := Go_n hg
      refine zv_i2l hx hb b6 dX2_entryAt_35 ?_
      refine lv_lload hx hb dX2_entryAt_36 (lv_at hl 4 rfl) ?_
      refine zv_lmul hx hb dX2_entryAt_38 ?_
      refine lv_lload_n hx hb dX2_entryAt_39 rfl (lv_at hl 3 rfl) ?_
      refine zv_lsub hx hb dX2_entryAt_40 ?_
      refine lv_lstore (lv' := [(8, .long (zl ((o5 * i5) - i3))), (0, .ref (t 0)), (1, .int (zi i1)), (2, .int (zi i2)), (3, .long (zl i3)), (5, .long (zl i5)), (7, .int (zi i7))]) hx hb dX2_entryAt_41 hl (by decide) rfl (fun ls hl => ?_)
      refine lv_lload hx hb dX2_entryAt_43 (lv_at hl 5 rfl) ?_
      refine lv_lstore_n (lv' := [(3, .long (zl i5)), (8, .long (zl ((o5 * i5) - i3))), (0, .ref (t 0)), (1, .int (zi i1)), (2, .int (zi i2)), (5, .long (zl i5)), (7, .int (zi i7))]) hx hb dX2_entryAt_45 rfl hl (by decide) rfl (fun ls hl => ?_)
      refine lv_lload hx hb dX2_entryAt_46 (lv_at hl 1 rfl) ?_
      refine lv_lstore (lv' := [(5, .long (zl ((o5 * i5) - i3))), (3, .long (zl i5)), (8, .long (zl ((o5 * i5) - i3))), (0, .ref (t 0)), (1, .int (zi i1)), (2, .int (zi i2)), (7, .int (zi i7))]) hx hb dX2_entryAt_48 hl (by decide) rfl (fun ls hl => ?_)
      refine lv_iinc (v := zi (i7 + (1 : Int))) (lv' := [(7, .int (zi (i7 + (1 : Int)))), (5, .long (zl ((o5 * i5) - i3))), (3, .long (zl i5)), (8, .long (zl ((o5 * i5) - i3))), (0, .ref (t 0)), (1, .int (zi i1)), (2, .int (zi i2))]) hx hb dX2_entryAt_50 hl (k := 6) rfl (zi_add i7 _) (by decide) rfl (fun ls hl => ?_)
      refine lv_goto (tgt := 14) hx hb dX2_entryAt_53 (by decide) ?_
      exact (Go_s hg) ls (lv_sub hl [4, 5, 6, 2, 1, 0] rfl)
set_option maxHeartbeats 4000000 in
set_option maxRecDepth 100000 in
theorem zw_X2_entryAt {p : Program} {l : Launch} {e : Env} {s : State} {m : MethodId} {args : Array Value} {below : List Frame} {meth : Method} {c : Code} {Q : State → Prop} {D : va_G} {κ : Nat → ClassId} {H : Heap} {locs : List Loc} (t : Nat → Nat) (t_size : Int) (t_numbers : Nat)  (i1 : Int) (i2 : Int) (hx : p.tables.exec = Jvm.exec) (hb : c.code = cX2_entryAt) (hml : c.maxLocals = 10) (hown : s.vm.findClass RX2 = some m.cls) (hts : ∀ w ∈ wsX2_entryAt, w.before args s = true) (hK : va_K D vwCl (zTY κ) s) (hP : va_P D vwCl ([((t 0), .inr (2, [.ref (t 1), .int (zi t_size)])), ((t 1), .inl (κ 1, 10, .inl (zc t_numbers)))]) H) (out : Int) (h : zf_X2_entryAt t_size t_numbers i1 i2 = some out) (hq : zQ_X2_entryAt p l e s m args below meth c Q H locs out) : zA_X2_entryAt_0 p l e s m args below meth c Q H locs t  i1 i2 0 0 0 := by
  have hst : ∀ st : zS_X2_entryAt, Go (GoE (zA_X2_entryAt p l e s m args below meth c Q H locs t ) (zQ_X2_entryAt p l e s m args below meth c Q H locs)) (zg_X2_entryAt t_size t_numbers st) → zA_X2_entryAt p l e s m args below meth c Q H locs t  st := by
    intro st hg
    obtain ⟨lab, i1, i2, i3, i5, i7⟩ := st
    by_cases h0 : lab = 0
    · subst h0
      exact zs_X2_entryAt_0 t t_size t_numbers  hx hb hml hown hts hK hP i1 i2 i3 i5 i7 hg
    by_cases h14 : lab = 14
    · subst h14
      exact zs_X2_entryAt_14 t t_size t_numbers  hx hb hml hown hts hK hP i1 i2 i3 i5 i7 hg
    have hz : zg_X2_entryAt t_size t_numbers (lab, i1, i2, i3, i5, i7) = none := by simp [zg_X2_entryAt, h0, h14]
    rw [hz] at hg
    obtain ⟨a, h1, -⟩ := hg
    cases h1
  exact jwalk (At := zA_X2_entryAt p l e s m args below meth c Q H locs t ) (Ret := zQ_X2_entryAt p l e s m args below meth c Q H locs) hst _ _ _ h hq
set_option maxHeartbeats 4000000 in
set_option maxRecDepth 100000 in
theorem zc_X2_entryAt (l : Launch) (D : va_G) (κ : Nat → ClassId) (t : Nat → Nat) (t_size : Int) (t_numbers : Nat) (i1 : Int) (i2 : Int) (out : Int) (h : zf_X2_entryAt t_size t_numbers i1 i2 = some out) : Met l yX2_entryAt wsX2_entryAt zr_X2_entryAt (va_Pc [.ref (t 0), .int (zi i1), .int (zi i2)] (zR D κ ([((t 0), .inr (2, [.ref (t 1), .int (zi t_size)])), ((t 1), .inl (κ 1, 10, .inl (zc t_numbers)))]))) (vp_Sl (fun x => x = zl out)) 0 0 (fun _ => False) := by
  refine Met.ofW (cc := cX2_entryAt) (maxL := 10) (ret := (some .long)) (by decide +kernel) rfl ?_
  intro p e s m args below meth c s₁ B hml hv
  obtain ⟨rfl, hP, hK⟩ := hv
  have hx := B.exec
  have hb := B.bytes
  have hr := B.returns
  have hts := atoms_spec (ws := wsX2_entryAt) B.pre
  have hown : s.vm.findClass RX2 = some m.cls := findClass_of_methodNamed B.named
  have hlocks := B.notSynchronized
  have hl := lv_entry ([.ref (t 0), .int (zi i1), .int (zi i2)]) (n := 10) (Nat.le_of_ble_eq_true rfl)
  rw [lg_entry_eq]
  generalize (lg_sl ([.ref (t 0), .int (zi i1), .int (zi i2)]) ++ List.replicate (10 - (lg_sl ([.ref (t 0), .int (zi i1), .int (zi i2)])).length) Slot.unset).toArray = ls at hl ⊢
  have hl : lv_has ls 10 [(0, .ref (t 0)), (1, .int (zi i1)), (2, .int (zi i2))] := hl
  refine (zw_X2_entryAt t t_size t_numbers  i1 i2 hx hb hml hown hts hK hP out h ?_) ls (lv_sub hl [0, 1, 2] rfl)
  exact fun ls pc hd => W.lret hx hb hr (fun t ht hW => ⟨_, rfl, rfl, ht⟩) (fun _ h => by cases h) hd
/-! DiamondRows$Endless.breakPlace(I)I -/
abbrev zr_X2_breakPlace : Room := { frames := 4, cells := 0, slots := 0, locals := 93 }
abbrev zS_X2_breakPlace : Type := Nat × Int × Int
abbrev zO_X2_breakPlace : Type := Int
noncomputable def zg_X2_breakPlace_0  (t_size : Int) (t_numbers : Nat) (i1 : Int) (i2 : Int) : Option (zO_X2_breakPlace ⊕ zS_X2_breakPlace) :=
  some (.inr (2, i1, (0 : Int)))
noncomputable def zg_X2_breakPlace_2  (t_size : Int) (t_numbers : Nat) (i1 : Int) (i2 : Int) : Option (zO_X2_breakPlace ⊕ zS_X2_breakPlace) :=
  if zout i2 then none else
  if zout t_size then none else
  if t_size ≤ i2 then
  some (.inl ((-1 : Int)))
  else
  Option.bind (zf_X2_entryAt t_size t_numbers i2 i1) (fun o3 =>
  if zoutL o3 then none else
  if (0 : Int) < o3 then
  some (.inr (2, i1, (i2 + (1 : Int))))
  else
  some (.inl (i2)))
noncomputable def zg_X2_breakPlace  (t_size : Int) (t_numbers : Nat) (st : zS_X2_breakPlace) : Option (zO_X2_breakPlace ⊕ zS_X2_breakPlace) := match st with
  | (lab, i1, i2) => if lab = 0 then zg_X2_breakPlace_0 t_size t_numbers i1 i2 else if lab = 2 then zg_X2_breakPlace_2 t_size t_numbers i1 i2 else none
noncomputable def zf_X2_breakPlace  (t_size : Int) (t_numbers : Nat) (i1 : Int) : Option (Int) := jrun (zg_X2_breakPlace t_size t_numbers) jfuel (0, i1, 0)
theorem zi_X2_breakPlace_X2 : ∀ w ∈ u_ws RX2 TX2 2, w ∈ wsX2_breakPlace := fun w h => (List.mem_cons_of_mem _ (List.mem_append_right _ (List.mem_append_left _ h)))
theorem zl_X2_breakPlace_15 : Cond.fieldLink RX2 15 "DiamondRows$Endless" "size" "I" ∈ wsX2_breakPlace := (List.mem_cons_of_mem _ (List.mem_append_left _ (List.mem_of_getElem? (i := 0) rfl)))
def zQ_X2_breakPlace (p : Program) (l : Launch) (e : Env) (s : State) (m : MethodId) (args : Array Value) (below : List Frame) (meth : Method) (c : Code) (Q : State → Prop) (H : Heap) (locs : List Loc)  (o : Int) : Prop := ∀ (ls : Array Slot) (pc : Nat), decode cX2_breakPlace pc = .ok (.ireturn, 1) → W p l e zr_X2_breakPlace s m args below meth c H locs 0 0 Q (F0 m pc ls [.int (zi o)])
def zA_X2_breakPlace_0 (p : Program) (l : Launch) (e : Env) (s : State) (m : MethodId) (args : Array Value) (below : List Frame) (meth : Method) (c : Code) (Q : State → Prop) (H : Heap) (locs : List Loc) (t : Nat → Nat)  (i1 : Int) (i2 : Int) : Prop := ∀ ls : Array Slot, lv_has ls 3 [(0, .ref (t 0)), (1, .int (zi i1))] → W p l e zr_X2_breakPlace s m args below meth c H locs 0 0 Q (F0 m 0 ls [])
def zA_X2_breakPlace_2 (p : Program) (l : Launch) (e : Env) (s : State) (m : MethodId) (args : Array Value) (below : List Frame) (meth : Method) (c : Code) (Q : State → Prop) (H : Heap) (locs : List Loc) (t : Nat → Nat)  (i1 : Int) (i2 : Int) : Prop := ∀ ls : Array Slot, lv_has ls 3 [(0, .ref (t 0)), (1, .int (zi i1)), (2, .int (zi i2))] → W p l e zr_X2_breakPlace s m args below meth c H locs 0 0 Q (F0 m 2 ls [])
def zA_X2_breakPlace (p : Program) (l : Launch) (e : Env) (s : State) (m : MethodId) (args : Array Value) (below : List Frame) (meth : Method) (c : Code) (Q : State → Prop) (H : Heap) (locs : List Loc) (t : Nat → Nat)  (st : zS_X2_breakPlace) : Prop := match st with
  | (lab, i1, i2) => if lab = 0 then zA_X2_breakPlace_0 p l e s m args below meth c Q H locs t  i1 i2 else if lab = 2 then zA_X2_breakPlace_2 p l e s m args below meth c Q H locs t  i1 i2 else True
set_option maxHeartbeats 4000000 in
set_option maxRecDepth 100000 in
theorem zs_X2_breakPlace_0 {p : Program} {l : Launch} {e : Env} {s : State} {m : MethodId} {args : Array Value} {below : List Frame} {meth : Method} {c : Code} {Q : State → Prop} {D : va_G} {κ : Nat → ClassId} {H : Heap} {locs : List Loc} (t : Nat → Nat) (t_size : Int) (t_numbers : Nat)  (hx : p.tables.exec = Jvm.exec) (hb : c.code = cX2_breakPlace) (hml : c.maxLocals = 3) (hown : s.vm.findClass RX2 = some m.cls) (hts : ∀ w ∈ wsX2_breakPlace, w.before args s = true) (hK : va_K D vwCl (zTY κ) s) (hP : va_P D vwCl ([((t 0), .inr (2, [.ref (t 1), .int (zi t_size)])), ((t 1), .inl (κ 1, 10, .inl (zc t_numbers)))]) H) (i1 : Int) (i2 : Int) (hg : Go (GoE (zA_X2_breakPlace p l e s m args below meth c Q H locs t ) (zQ_X2_breakPlace p l e s m args below meth c Q H locs)) (zg_X2_breakPlace_0 t_size t_numbers i1 i2)) : zA_X2_breakPlace_0 p l e s m args below meth c Q H locs t  i1 i2 := by
  intro ls hl
  unfold zg_X2_breakPlace_0 at hg
  refine zv_iconst hx hb dX2_breakPlace_0 ?_
  refine lv_istore_n (lv' := [(2, .int (zi (0 : Int))), (0, .ref (t 0)), (1, .int (zi i1))]) hx hb dX2_breakPlace_1 rfl hl (by decide) rfl (fun ls hl => ?_)
  exact (Go_s hg) ls (lv_sub hl [1, 2, 0] rfl)
set_option maxHeartbeats 4000000 in
set_option maxRecDepth 100000 in
theorem zs_X2_breakPlace_2 {p : Program} {l : Launch} {e : Env} {s : State} {m : MethodId} {args : Array Value} {below : List Frame} {meth : Method} {c : Code} {Q : State → Prop} {D : va_G} {κ : Nat → ClassId} {H : Heap} {locs : List Loc} (t : Nat → Nat) (t_size : Int) (t_numbers : Nat)  (hx : p.tables.exec = Jvm.exec) (hb : c.code = cX2_breakPlace) (hml : c.maxLocals = 3) (hown : s.vm.findClass RX2 = some m.cls) (hts : ∀ w ∈ wsX2_breakPlace, w.before args s = true) (hK : va_K D vwCl (zTY κ) s) (hP : va_P D vwCl ([((t 0), .inr (2, [.ref (t 1), .int (zi t_size)])), ((t 1), .inl (κ 1, 10, .inl (zc t_numbers)))]) H) (i1 : Int) (i2 : Int) (hg : Go (GoE (zA_X2_breakPlace p l e s m args below meth c Q H locs t ) (zQ_X2_breakPlace p l e s m args below meth c Q H locs)) (zg_X2_breakPlace_2 t_size t_numbers i1 i2)) : zA_X2_breakPlace_2 p l e s m args below meth c Q H locs t  i1 i2 := by
  intro ls hl
  unfold zg_X2_breakPlace_2 at hg
  refine lv_iload_n hx hb dX2_breakPlace_2 rfl (lv_at hl 2 rfl) ?_
  refine lv_aload_n hx hb dX2_breakPlace_3 rfl (lv_at hl 0 rfl) ?_
  refine va_get (D := D) (ci := 2) (v := .int (zi t_size)) (C := RX2) (T := TX2) (N := 2) hx hb hts zi_X2_breakPlace_X2 hown hK hP 0 rfl rfl 1 (by decide) (hts (.fieldLink RX2 15 "DiamondRows$Endless" "size" "I") zl_X2_breakPlace_15) (fun _ h9 => h9) rfl dX2_breakPlace_4 ?_
  obtain ⟨b1, hg⟩ := Go_n hg
  obtain ⟨b2, hg⟩ := Go_n hg
  refine zv_icmp_ge (tgt := 29) hx hb dX2_breakPlace_7 (by decide) b1 b2 (fun c6 => ?_) (fun c6 => ?_)
  · have hg := Go_t c6 hg
    refine zv_iconst hx hb dX2_breakPlace_29 ?_
    exact (Go_s hg) _ _ dX2_breakPlace_30
  · have hg := Go_f c6 hg
    refine lv_aload_n hx hb dX2_breakPlace_10 rfl (lv_at hl 0 rfl) ?_
    refine lv_iload_n hx hb dX2_breakPlace_11 rfl (lv_at hl 2 rfl) ?_
    refine lv_iload_n hx hb dX2_breakPlace_12 rfl (lv_at hl 1 rfl) ?_
    obtain ⟨o3, ho3, hg⟩ := Go_b hg
    refine zc_vl (rest := []) ⟨hx, hb, hml, hown, hts⟩ (zc_X2_entryAt l D κ t t_size t_numbers i2 i1 o3 ho3) (cwV 2 hts gX2_breakPlace_X2_entryAt rfl rfl rfl hv_X2_entryAt ⟨Nat.le_of_ble_eq_true rfl, Nat.le_of_ble_eq_true rfl⟩) (zpreV hK (hP.sub [0, 1] rfl) 2 0 rfl rfl) rfl hl.1 rfl (Nat.le_of_ble_eq_true rfl) dX2_breakPlace_13 ⟨Nat.zero_le _, Nat.zero_le _⟩ ?_
    refine lv_lconst (v := zl (0 : Int)) hx hb dX2_breakPlace_16 (by decide) ?_
    obtain ⟨b4, hg⟩ := Go_n hg
    refine zv_lif_gt (tgt := 23) hx hb dX2_breakPlace_17 dX2_breakPlace_18 (by decide) b4 (by decide) (fun c5 => ?_) (fun c5 => ?_)
    · have hg := Go_t c5 hg
      refine lv_iinc (v := zi (i2 + (1 : Int))) (lv' := [(2, .int (zi (i2 + (1 : Int)))), (0, .ref (t 0)), (1, .int (zi i1))]) hx hb dX2_breakPlace_23 hl (k := 2) rfl (zi_add i2 _) (by decide) rfl (fun ls hl => ?_)
      refine lv_goto (tgt := 2) hx hb dX2_breakPlace_26 (by decide) ?_
      exact (Go_s hg) ls (lv_sub hl [1, 2, 0] rfl)
    · have hg := Go_f c5 hg
      refine lv_iload_n hx hb dX2_breakPlace_21 rfl (lv_at hl 2 rfl) ?_
      exact (Go_s hg) _ _ dX2_breakPlace_22
set_option maxHeartbeats 4000000 in
set_option maxRecDepth 100000 in
theorem zw_X2_breakPlace {p : Program} {l : Launch} {e : Env} {s : State} {m : MethodId} {args : Array Value} {below : List Frame} {meth : Method} {c : Code} {Q : State → Prop} {D : va_G} {κ : Nat → ClassId} {H : Heap} {locs : List Loc} (t : Nat → Nat) (t_size : Int) (t_numbers : Nat)  (i1 : Int) (hx : p.tables.exec = Jvm.exec) (hb : c.code = cX2_breakPlace) (hml : c.maxLocals = 3) (hown : s.vm.findClass RX2 = some m.cls) (hts : ∀ w ∈ wsX2_breakPlace, w.before args s = true) (hK : va_K D vwCl (zTY κ) s) (hP : va_P D vwCl ([((t 0), .inr (2, [.ref (t 1), .int (zi t_size)])), ((t 1), .inl (κ 1, 10, .inl (zc t_numbers)))]) H) (out : Int) (h : zf_X2_breakPlace t_size t_numbers i1 = some out) (hq : zQ_X2_breakPlace p l e s m args below meth c Q H locs out) : zA_X2_breakPlace_0 p l e s m args below meth c Q H locs t  i1 0 := by
  have hst : ∀ st : zS_X2_breakPlace, Go (GoE (zA_X2_breakPlace p l e s m args below meth c Q H locs t ) (zQ_X2_breakPlace p l e s m args below meth c Q H locs)) (zg_X2_breakPlace t_size t_numbers st) → zA_X2_breakPlace p l e s m args below meth c Q H locs t  st := by
    intro st hg
    obtain ⟨lab, i1, i2⟩ := st
    by_cases h0 : lab = 0
    · subst h0
      exact zs_X2_breakPlace_0 t t_size t_numbers  hx hb hml hown hts hK hP i1 i2 hg
    by_cases h2 : lab = 2
    · subst h2
      exact zs_X2_breakPlace_2 t t_size t_numbers  hx hb hml hown hts hK hP i1 i2 hg
    have hz : zg_X2_breakPlace t_size t_numbers (lab, i1, i2) = none := by simp [zg_X2_breakPlace, h0, h2]
    rw [hz] at hg
    obtain ⟨a, h1, -⟩ := hg
    cases h1
  exact jwalk (At := zA_X2_breakPlace p l e s m args below meth c Q H locs t ) (Ret := zQ_X2_breakPlace p l e s m args below meth c Q H locs) hst _ _ _ h hq
set_option maxHeartbeats 4000000 in
set_option maxRecDepth 100000 in
theorem zc_X2_breakPlace (l : Launch) (D : va_G) (κ : Nat → ClassId) (t : Nat → Nat) (t_size : Int) (t_numbers : Nat) (i1 : Int) (out : Int) (h : zf_X2_breakPlace t_size t_numbers i1 = some out) : Met l yX2_breakPlace wsX2_breakPlace zr_X2_breakPlace (va_Pc [.ref (t 0), .int (zi i1)] (zR D κ ([((t 0), .inr (2, [.ref (t 1), .int (zi t_size)])), ((t 1), .inl (κ 1, 10, .inl (zc t_numbers)))]))) (vp_Si (fun x => x = zi out)) 0 0 (fun _ => False) := by
  refine Met.ofW (cc := cX2_breakPlace) (maxL := 3) (ret := (some .int)) (by decide +kernel) rfl ?_
  intro p e s m args below meth c s₁ B hml hv
  obtain ⟨rfl, hP, hK⟩ := hv
  have hx := B.exec
  have hb := B.bytes
  have hr := B.returns
  have hts := atoms_spec (ws := wsX2_breakPlace) B.pre
  have hown : s.vm.findClass RX2 = some m.cls := findClass_of_methodNamed B.named
  have hlocks := B.notSynchronized
  have hl := lv_entry ([.ref (t 0), .int (zi i1)]) (n := 3) (Nat.le_of_ble_eq_true rfl)
  rw [lg_entry_eq]
  generalize (lg_sl ([.ref (t 0), .int (zi i1)]) ++ List.replicate (3 - (lg_sl ([.ref (t 0), .int (zi i1)])).length) Slot.unset).toArray = ls at hl ⊢
  have hl : lv_has ls 3 [(0, .ref (t 0)), (1, .int (zi i1))] := hl
  refine (zw_X2_breakPlace t t_size t_numbers  i1 hx hb hml hown hts hK hP out h ?_) ls (lv_sub hl [0, 1] rfl)
  exact fun ls pc hd => W.iret hx hb hr (fun t ht hW => ⟨_, rfl, rfl, ht⟩) (fun _ h => by cases h) hd
/-! DiamondRows$Endless.breakLength()I -/
abbrev zr_X2_breakLength : Room := { frames := 5, cells := 0, slots := 0, locals := 115 }
abbrev zS_X2_breakLength : Type := Nat × Int
abbrev zO_X2_breakLength : Type := Int
noncomputable def zg_X2_breakLength_0  (t_size : Int) (t_numbers : Nat) (i1 : Int) : Option (zO_X2_breakLength ⊕ zS_X2_breakLength) :=
  some (.inr (2, (2 : Int)))
noncomputable def zg_X2_breakLength_2  (t_size : Int) (t_numbers : Nat) (i1 : Int) : Option (zO_X2_breakLength ⊕ zS_X2_breakLength) :=
  if zout i1 then none else
  if (12 : Int) < i1 then
  some (.inl ((-1 : Int)))
  else
  Option.bind (zf_X2_breakPlace t_size t_numbers i1) (fun o2 =>
  if zout o2 then none else
  if o2 = (-1 : Int) then
  some (.inr (2, (i1 + (1 : Int))))
  else
  some (.inl (i1)))
noncomputable def zg_X2_breakLength  (t_size : Int) (t_numbers : Nat) (st : zS_X2_breakLength) : Option (zO_X2_breakLength ⊕ zS_X2_breakLength) := match st with
  | (lab, i1) => if lab = 0 then zg_X2_breakLength_0 t_size t_numbers i1 else if lab = 2 then zg_X2_breakLength_2 t_size t_numbers i1 else none
noncomputable def zf_X2_breakLength  (t_size : Int) (t_numbers : Nat)  : Option (Int) := jrun (zg_X2_breakLength t_size t_numbers) jfuel (0, 0)
def zQ_X2_breakLength (p : Program) (l : Launch) (e : Env) (s : State) (m : MethodId) (args : Array Value) (below : List Frame) (meth : Method) (c : Code) (Q : State → Prop) (H : Heap) (locs : List Loc)  (o : Int) : Prop := ∀ (ls : Array Slot) (pc : Nat), decode cX2_breakLength pc = .ok (.ireturn, 1) → W p l e zr_X2_breakLength s m args below meth c H locs 0 0 Q (F0 m pc ls [.int (zi o)])
def zA_X2_breakLength_0 (p : Program) (l : Launch) (e : Env) (s : State) (m : MethodId) (args : Array Value) (below : List Frame) (meth : Method) (c : Code) (Q : State → Prop) (H : Heap) (locs : List Loc) (t : Nat → Nat)  (i1 : Int) : Prop := ∀ ls : Array Slot, lv_has ls 2 [(0, .ref (t 0))] → W p l e zr_X2_breakLength s m args below meth c H locs 0 0 Q (F0 m 0 ls [])
def zA_X2_breakLength_2 (p : Program) (l : Launch) (e : Env) (s : State) (m : MethodId) (args : Array Value) (below : List Frame) (meth : Method) (c : Code) (Q : State → Prop) (H : Heap) (locs : List Loc) (t : Nat → Nat)  (i1 : Int) : Prop := ∀ ls : Array Slot, lv_has ls 2 [(0, .ref (t 0)), (1, .int (zi i1))] → W p l e zr_X2_breakLength s m args below meth c H locs 0 0 Q (F0 m 2 ls [])
def zA_X2_breakLength (p : Program) (l : Launch) (e : Env) (s : State) (m : MethodId) (args : Array Value) (below : List Frame) (meth : Method) (c : Code) (Q : State → Prop) (H : Heap) (locs : List Loc) (t : Nat → Nat)  (st : zS_X2_breakLength) : Prop := match st with
  | (lab, i1) => if lab = 0 then zA_X2_breakLength_0 p l e s m args below meth c Q H locs t  i1 else if lab = 2 then zA_X2_breakLength_2 p l e s m args below meth c Q H locs t  i1 else True
set_option maxHeartbeats 4000000 in
set_option maxRecDepth 100000 in
theorem zs_X2_breakLength_0 {p : Program} {l : Launch} {e : Env} {s : State} {m : MethodId} {args : Array Value} {below : List Frame} {meth : Method} {c : Code} {Q : State → Prop} {D : va_G} {κ : Nat → ClassId} {H : Heap} {locs : List Loc} (t : Nat → Nat) (t_size : Int) (t_numbers : Nat)  (hx : p.tables.exec = Jvm.exec) (hb : c.code = cX2_breakLength) (hml : c.maxLocals = 2) (hown : s.vm.findClass RX2 = some m.cls) (hts : ∀ w ∈ wsX2_breakLength, w.before args s = true) (hK : va_K D vwCl (zTY κ) s) (hP : va_P D vwCl ([((t 0), .inr (2, [.ref (t 1), .int (zi t_size)])), ((t 1), .inl (κ 1, 10, .inl (zc t_numbers)))]) H) (i1 : Int) (hg : Go (GoE (zA_X2_breakLength p l e s m args below meth c Q H locs t ) (zQ_X2_breakLength p l e s m args below meth c Q H locs)) (zg_X2_breakLength_0 t_size t_numbers i1)) : zA_X2_breakLength_0 p l e s m args below meth c Q H locs t  i1 := by
  intro ls hl
  unfold zg_X2_breakLength_0 at hg
  refine zv_iconst hx hb dX2_breakLength_0 ?_
  refine lv_istore_n (lv' := [(1, .int (zi (2 : Int))), (0, .ref (t 0))]) hx hb dX2_breakLength_1 rfl hl (by decide) rfl (fun ls hl => ?_)
  exact (Go_s hg) ls (lv_sub hl [1, 0] rfl)
set_option maxHeartbeats 4000000 in
set_option maxRecDepth 100000 in
theorem zs_X2_breakLength_2 {p : Program} {l : Launch} {e : Env} {s : State} {m : MethodId} {args : Array Value} {below : List Frame} {meth : Method} {c : Code} {Q : State → Prop} {D : va_G} {κ : Nat → ClassId} {H : Heap} {locs : List Loc} (t : Nat → Nat) (t_size : Int) (t_numbers : Nat)  (hx : p.tables.exec = Jvm.exec) (hb : c.code = cX2_breakLength) (hml : c.maxLocals = 2) (hown : s.vm.findClass RX2 = some m.cls) (hts : ∀ w ∈ wsX2_breakLength, w.before args s = true) (hK : va_K D vwCl (zTY κ) s) (hP : va_P D vwCl ([((t 0), .inr (2, [.ref (t 1), .int (zi t_size)])), ((t 1), .inl (κ 1, 10, .inl (zc t_numbers)))]) H) (i1 : Int) (hg : Go (GoE (zA_X2_breakLength p l e s m args below meth c Q H locs t ) (zQ_X2_breakLength p l e s m args below meth c Q H locs)) (zg_X2_breakLength_2 t_size t_numbers i1)) : zA_X2_breakLength_2 p l e s m args below meth c Q H locs t  i1 := by
  intro ls hl
  unfold zg_X2_breakLength_2 at hg
  refine lv_iload_n hx hb dX2_breakLength_2 rfl (lv_at hl 1 rfl) ?_
  refine zv_bipush hx hb dX2_breakLength_3 (by decide) ?_
  obtain ⟨b1, hg⟩ := Go_n hg
  refine zv_icmp_gt (tgt := 25) hx hb dX2_breakLength_5 (by decide) b1 (by decide) (fun c5 => ?_) (fun c5 => ?_)
  · have hg := Go_t c5 hg
    refine zv_iconst hx hb dX2_breakLength_25 ?_
    exact (Go_s hg) _ _ dX2_breakLength_26
  · have hg := Go_f c5 hg
    refine lv_aload_n hx hb dX2_breakLength_8 rfl (lv_at hl 0 rfl) ?_
    refine lv_iload_n hx hb dX2_breakLength_9 rfl (lv_at hl 1 rfl) ?_
    obtain ⟨o2, ho2, hg⟩ := Go_b hg
    refine zc_vi (rest := []) ⟨hx, hb, hml, hown, hts⟩ (zc_X2_breakPlace l D κ t t_size t_numbers i1 o2 ho2) (cwV 1 hts gX2_breakLength_X2_breakPlace rfl rfl rfl hv_X2_breakPlace ⟨Nat.le_of_ble_eq_true rfl, Nat.le_of_ble_eq_true rfl⟩) (zpreV hK (hP.sub [0, 1] rfl) 2 0 rfl rfl) rfl hl.1 rfl (Nat.le_of_ble_eq_true rfl) dX2_breakLength_10 ⟨Nat.zero_le _, Nat.zero_le _⟩ ?_
    refine zv_iconst hx hb dX2_breakLength_13 ?_
    obtain ⟨b3, hg⟩ := Go_n hg
    refine zv_icmp_eq (tgt := 19) hx hb dX2_breakLength_14 (by decide) b3 (by decide) (fun c4 => ?_) (fun c4 => ?_)
    · have hg := Go_t c4 hg
      refine lv_iinc (v := zi (i1 + (1 : Int))) (lv' := [(1, .int (zi (i1 + (1 : Int)))), (0, .ref (t 0))]) hx hb dX2_breakLength_19 hl (k := 1) rfl (zi_add i1 _) (by decide) rfl (fun ls hl => ?_)
      refine lv_goto (tgt := 2) hx hb dX2_breakLength_22 (by decide) ?_
      exact (Go_s hg) ls (lv_sub hl [1, 0] rfl)
    · have hg := Go_f c4 hg
      refine lv_iload_n hx hb dX2_breakLength_17 rfl (lv_at hl 1 rfl) ?_
      exact (Go_s hg) _ _ dX2_breakLength_18
set_option maxHeartbeats 4000000 in
set_option maxRecDepth 100000 in
theorem zw_X2_breakLength {p : Program} {l : Launch} {e : Env} {s : State} {m : MethodId} {args : Array Value} {below : List Frame} {meth : Method} {c : Code} {Q : State → Prop} {D : va_G} {κ : Nat → ClassId} {H : Heap} {locs : List Loc} (t : Nat → Nat) (t_size : Int) (t_numbers : Nat)   (hx : p.tables.exec = Jvm.exec) (hb : c.code = cX2_breakLength) (hml : c.maxLocals = 2) (hown : s.vm.findClass RX2 = some m.cls) (hts : ∀ w ∈ wsX2_breakLength, w.before args s = true) (hK : va_K D vwCl (zTY κ) s) (hP : va_P D vwCl ([((t 0), .inr (2, [.ref (t 1), .int (zi t_size)])), ((t 1), .inl (κ 1, 10, .inl (zc t_numbers)))]) H) (out : Int) (h : zf_X2_breakLength t_size t_numbers  = some out) (hq : zQ_X2_breakLength p l e s m args below meth c Q H locs out) : zA_X2_breakLength_0 p l e s m args below meth c Q H locs t  0 := by
  have hst : ∀ st : zS_X2_breakLength, Go (GoE (zA_X2_breakLength p l e s m args below meth c Q H locs t ) (zQ_X2_breakLength p l e s m args below meth c Q H locs)) (zg_X2_breakLength t_size t_numbers st) → zA_X2_breakLength p l e s m args below meth c Q H locs t  st := by
    intro st hg
    obtain ⟨lab, i1⟩ := st
    by_cases h0 : lab = 0
    · subst h0
      exact zs_X2_breakLength_0 t t_size t_numbers  hx hb hml hown hts hK hP i1 hg
    by_cases h2 : lab = 2
    · subst h2
      exact zs_X2_breakLength_2 t t_size t_numbers  hx hb hml hown hts hK hP i1 hg
    have hz : zg_X2_breakLength t_size t_numbers (lab, i1) = none := by simp [zg_X2_breakLength, h0, h2]
    rw [hz] at hg
    obtain ⟨a, h1, -⟩ := hg
    cases h1
  exact jwalk (At := zA_X2_breakLength p l e s m args below meth c Q H locs t ) (Ret := zQ_X2_breakLength p l e s m args below meth c Q H locs) hst _ _ _ h hq
set_option maxHeartbeats 4000000 in
set_option maxRecDepth 100000 in
theorem zc_X2_breakLength (l : Launch) (D : va_G) (κ : Nat → ClassId) (t : Nat → Nat) (t_size : Int) (t_numbers : Nat)  (out : Int) (h : zf_X2_breakLength t_size t_numbers  = some out) : Met l yX2_breakLength wsX2_breakLength zr_X2_breakLength (va_Pc [.ref (t 0)] (zR D κ ([((t 0), .inr (2, [.ref (t 1), .int (zi t_size)])), ((t 1), .inl (κ 1, 10, .inl (zc t_numbers)))]))) (vp_Si (fun x => x = zi out)) 0 0 (fun _ => False) := by
  refine Met.ofW (cc := cX2_breakLength) (maxL := 2) (ret := (some .int)) (by decide +kernel) rfl ?_
  intro p e s m args below meth c s₁ B hml hv
  obtain ⟨rfl, hP, hK⟩ := hv
  have hx := B.exec
  have hb := B.bytes
  have hr := B.returns
  have hts := atoms_spec (ws := wsX2_breakLength) B.pre
  have hown : s.vm.findClass RX2 = some m.cls := findClass_of_methodNamed B.named
  have hlocks := B.notSynchronized
  have hl := lv_entry ([.ref (t 0)]) (n := 2) (Nat.le_of_ble_eq_true rfl)
  rw [lg_entry_eq]
  generalize (lg_sl ([.ref (t 0)]) ++ List.replicate (2 - (lg_sl ([.ref (t 0)])).length) Slot.unset).toArray = ls at hl ⊢
  have hl : lv_has ls 2 [(0, .ref (t 0))] := hl
  refine (zw_X2_breakLength t t_size t_numbers   hx hb hml hown hts hK hP out h ?_) ls (lv_sub hl [0] rfl)
  exact fun ls pc hd => W.iret hx hb hr (fun t ht hW => ⟨_, rfl, rfl, ht⟩) (fun _ h => by cases h) hd
/-! DiamondRows$Endless.allAre(IJ)Z -/
abbrev zr_X2_allAre : Room := { frames := 4, cells := 0, slots := 0, locals := 93 }
abbrev zS_X2_allAre : Type := Nat × Int × Int × Int
abbrev zO_X2_allAre : Type := Bool
noncomputable def zg_X2_allAre_0  (t_size : Int) (t_numbers : Nat) (i1 : Int) (i2 : Int) (i4 : Int) : Option (zO_X2_allAre ⊕ zS_X2_allAre) :=
  some (.inr (3, i1, i2, (0 : Int)))
noncomputable def zg_X2_allAre_3  (t_size : Int) (t_numbers : Nat) (i1 : Int) (i2 : Int) (i4 : Int) : Option (zO_X2_allAre ⊕ zS_X2_allAre) :=
  if zout i4 then none else
  if zout t_size then none else
  if t_size ≤ i4 then
  some (.inl (true))
  else
  Option.bind (zf_X2_entryAt t_size t_numbers i4 i1) (fun o3 =>
  if zoutL o3 then none else
  if zoutL i2 then none else
  if o3 = i2 then
  some (.inr (3, i1, i2, (i4 + (1 : Int))))
  else
  some (.inl (false)))
noncomputable def zg_X2_allAre  (t_size : Int) (t_numbers : Nat) (st : zS_X2_allAre) : Option (zO_X2_allAre ⊕ zS_X2_allAre) := match st with
  | (lab, i1, i2, i4) => if lab = 0 then zg_X2_allAre_0 t_size t_numbers i1 i2 i4 else if lab = 3 then zg_X2_allAre_3 t_size t_numbers i1 i2 i4 else none
noncomputable def zf_X2_allAre  (t_size : Int) (t_numbers : Nat) (i1 : Int) (i2 : Int) : Option (Bool) := jrun (zg_X2_allAre t_size t_numbers) jfuel (0, i1, i2, 0)
theorem zi_X2_allAre_X2 : ∀ w ∈ u_ws RX2 TX2 2, w ∈ wsX2_allAre := fun w h => (List.mem_cons_of_mem _ (List.mem_append_right _ (List.mem_append_left _ h)))
theorem zl_X2_allAre_15 : Cond.fieldLink RX2 15 "DiamondRows$Endless" "size" "I" ∈ wsX2_allAre := (List.mem_cons_of_mem _ (List.mem_append_left _ (List.mem_of_getElem? (i := 0) rfl)))
def zQ_X2_allAre (p : Program) (l : Launch) (e : Env) (s : State) (m : MethodId) (args : Array Value) (below : List Frame) (meth : Method) (c : Code) (Q : State → Prop) (H : Heap) (locs : List Loc)  (o : Bool) : Prop := ∀ (ls : Array Slot) (pc : Nat), decode cX2_allAre pc = .ok (.ireturn, 1) → W p l e zr_X2_allAre s m args below meth c H locs 0 0 Q (F0 m pc ls [.int (zi (bI o))])
def zA_X2_allAre_0 (p : Program) (l : Launch) (e : Env) (s : State) (m : MethodId) (args : Array Value) (below : List Frame) (meth : Method) (c : Code) (Q : State → Prop) (H : Heap) (locs : List Loc) (t : Nat → Nat)  (i1 : Int) (i2 : Int) (i4 : Int) : Prop := ∀ ls : Array Slot, lv_has ls 5 [(0, .ref (t 0)), (1, .int (zi i1)), (2, .long (zl i2))] → W p l e zr_X2_allAre s m args below meth c H locs 0 0 Q (F0 m 0 ls [])
def zA_X2_allAre_3 (p : Program) (l : Launch) (e : Env) (s : State) (m : MethodId) (args : Array Value) (below : List Frame) (meth : Method) (c : Code) (Q : State → Prop) (H : Heap) (locs : List Loc) (t : Nat → Nat)  (i1 : Int) (i2 : Int) (i4 : Int) : Prop := ∀ ls : Array Slot, lv_has ls 5 [(0, .ref (t 0)), (1, .int (zi i1)), (2, .long (zl i2)), (4, .int (zi i4))] → W p l e zr_X2_allAre s m args below meth c H locs 0 0 Q (F0 m 3 ls [])
def zA_X2_allAre (p : Program) (l : Launch) (e : Env) (s : State) (m : MethodId) (args : Array Value) (below : List Frame) (meth : Method) (c : Code) (Q : State → Prop) (H : Heap) (locs : List Loc) (t : Nat → Nat)  (st : zS_X2_allAre) : Prop := match st with
  | (lab, i1, i2, i4) => if lab = 0 then zA_X2_allAre_0 p l e s m args below meth c Q H locs t  i1 i2 i4 else if lab = 3 then zA_X2_allAre_3 p l e s m args below meth c Q H locs t  i1 i2 i4 else True
set_option maxHeartbeats 4000000 in
set_option maxRecDepth 100000 in
theorem zs_X2_allAre_0 {p : Program} {l : Launch} {e : Env} {s : State} {m : MethodId} {args : Array Value} {below : List Frame} {meth : Method} {c : Code} {Q : State → Prop} {D : va_G} {κ : Nat → ClassId} {H : Heap} {locs : List Loc} (t : Nat → Nat) (t_size : Int) (t_numbers : Nat)  (hx : p.tables.exec = Jvm.exec) (hb : c.code = cX2_allAre) (hml : c.maxLocals = 5) (hown : s.vm.findClass RX2 = some m.cls) (hts : ∀ w ∈ wsX2_allAre, w.before args s = true) (hK : va_K D vwCl (zTY κ) s) (hP : va_P D vwCl ([((t 0), .inr (2, [.ref (t 1), .int (zi t_size)])), ((t 1), .inl (κ 1, 10, .inl (zc t_numbers)))]) H) (i1 : Int) (i2 : Int) (i4 : Int) (hg : Go (GoE (zA_X2_allAre p l e s m args below meth c Q H locs t ) (zQ_X2_allAre p l e s m args below meth c Q H locs)) (zg_X2_allAre_0 t_size t_numbers i1 i2 i4)) : zA_X2_allAre_0 p l e s m args below meth c Q H locs t  i1 i2 i4 := by
  intro ls hl
  unfold zg_X2_allAre_0 at hg
  refine zv_iconst hx hb dX2_allAre_0 ?_
  refine lv_istore (lv' := [(4, .int (zi (0 : Int))), (0, .ref (t 0)), (1, .int (zi i1)), (2, .long (zl i2))]) hx hb dX2_allAre_1 hl (by decide) rfl (fun ls hl => ?_)
  exact (Go_s hg) ls (lv_sub hl [1, 2, 3, 0] rfl)
set_option maxHeartbeats 4000000 in
set_option maxRecDepth 100000 in
theorem zs_X2_allAre_3 {p : Program} {l : Launch} {e : Env} {s : State} {m : MethodId} {args : Array Value} {below : List Frame} {meth : Method} {c : Code} {Q : State → Prop} {D : va_G} {κ : Nat → ClassId} {H : Heap} {locs : List Loc} (t : Nat → Nat) (t_size : Int) (t_numbers : Nat)  (hx : p.tables.exec = Jvm.exec) (hb : c.code = cX2_allAre) (hml : c.maxLocals = 5) (hown : s.vm.findClass RX2 = some m.cls) (hts : ∀ w ∈ wsX2_allAre, w.before args s = true) (hK : va_K D vwCl (zTY κ) s) (hP : va_P D vwCl ([((t 0), .inr (2, [.ref (t 1), .int (zi t_size)])), ((t 1), .inl (κ 1, 10, .inl (zc t_numbers)))]) H) (i1 : Int) (i2 : Int) (i4 : Int) (hg : Go (GoE (zA_X2_allAre p l e s m args below meth c Q H locs t ) (zQ_X2_allAre p l e s m args below meth c Q H locs)) (zg_X2_allAre_3 t_size t_numbers i1 i2 i4)) : zA_X2_allAre_3 p l e s m args below meth c Q H locs t  i1 i2 i4 := by
  intro ls hl
  unfold zg_X2_allAre_3 at hg
  refine lv_iload hx hb dX2_allAre_3 (lv_at hl 3 rfl) ?_
  refine lv_aload_n hx hb dX2_allAre_5 rfl (lv_at hl 0 rfl) ?_
  refine va_get (D := D) (ci := 2) (v := .int (zi t_size)) (C := RX2) (T := TX2) (N := 2) hx hb hts zi_X2_allAre_X2 hown hK hP 0 rfl rfl 1 (by decide) (hts (.fieldLink RX2 15 "DiamondRows$Endless" "size" "I") zl_X2_allAre_15) (fun _ h9 => h9) rfl dX2_allAre_6 ?_
  obtain ⟨b1, hg⟩ := Go_n hg
  obtain ⟨b2, hg⟩ := Go_n hg
  refine zv_icmp_ge (tgt := 32) hx hb dX2_allAre_9 (by decide) b1 b2 (fun c7 => ?_) (fun c7 => ?_)
  · have hg := Go_t c7 hg
    refine zv_iconst hx hb dX2_allAre_32 ?_
    exact (Go_s hg) _ _ dX2_allAre_33
  · have hg := Go_f c7 hg
    refine lv_aload_n hx hb dX2_allAre_12 rfl (lv_at hl 0 rfl) ?_
    refine lv_iload hx hb dX2_allAre_13 (lv_at hl 3 rfl) ?_
    refine lv_iload_n hx hb dX2_allAre_15 rfl (lv_at hl 1 rfl) ?_
    obtain ⟨o3, ho3, hg⟩ := Go_b hg
    refine zc_vl (rest := []) ⟨hx, hb, hml, hown, hts⟩ (zc_X2_entryAt l D κ t t_size t_numbers i4 i1 o3 ho3) (cwV 2 hts gX2_allAre_X2_entryAt rfl rfl rfl hv_X2_entryAt ⟨Nat.le_of_ble_eq_true rfl, Nat.le_of_ble_eq_true rfl⟩) (zpreV hK (hP.sub [0, 1] rfl) 2 0 rfl rfl) rfl hl.1 rfl (Nat.le_of_ble_eq_true rfl) dX2_allAre_16 ⟨Nat.zero_le _, Nat.zero_le _⟩ ?_
    refine lv_lload_n hx hb dX2_allAre_19 rfl (lv_at hl 2 rfl) ?_
    obtain ⟨b4, hg⟩ := Go_n hg
    obtain ⟨b5, hg⟩ := Go_n hg
    refine zv_lif_eq (tgt := 26) hx hb dX2_allAre_20 dX2_allAre_21 (by decide) b4 b5 (fun c6 => ?_) (fun c6 => ?_)
    · have hg := Go_t c6 hg
      refine lv_iinc (v := zi (i4 + (1 : Int))) (lv' := [(4, .int (zi (i4 + (1 : Int)))), (0, .ref (t 0)), (1, .int (zi i1)), (2, .long (zl i2))]) hx hb dX2_allAre_26 hl (k := 3) rfl (zi_add i4 _) (by decide) rfl (fun ls hl => ?_)
      refine lv_goto (tgt := 3) hx hb dX2_allAre_29 (by decide) ?_
      exact (Go_s hg) ls (lv_sub hl [1, 2, 3, 0] rfl)
    · have hg := Go_f c6 hg
      refine zv_iconst hx hb dX2_allAre_24 ?_
      exact (Go_s hg) _ _ dX2_allAre_25
set_option maxHeartbeats 4000000 in
set_option maxRecDepth 100000 in
theorem zw_X2_allAre {p : Program} {l : Launch} {e : Env} {s : State} {m : MethodId} {args : Array Value} {below : List Frame} {meth : Method} {c : Code} {Q : State → Prop} {D : va_G} {κ : Nat → ClassId} {H : Heap} {locs : List Loc} (t : Nat → Nat) (t_size : Int) (t_numbers : Nat)  (i1 : Int) (i2 : Int) (hx : p.tables.exec = Jvm.exec) (hb : c.code = cX2_allAre) (hml : c.maxLocals = 5) (hown : s.vm.findClass RX2 = some m.cls) (hts : ∀ w ∈ wsX2_allAre, w.before args s = true) (hK : va_K D vwCl (zTY κ) s) (hP : va_P D vwCl ([((t 0), .inr (2, [.ref (t 1), .int (zi t_size)])), ((t 1), .inl (κ 1, 10, .inl (zc t_numbers)))]) H) (out : Bool) (h : zf_X2_allAre t_size t_numbers i1 i2 = some out) (hq : zQ_X2_allAre p l e s m args below meth c Q H locs out) : zA_X2_allAre_0 p l e s m args below meth c Q H locs t  i1 i2 0 := by
  have hst : ∀ st : zS_X2_allAre, Go (GoE (zA_X2_allAre p l e s m args below meth c Q H locs t ) (zQ_X2_allAre p l e s m args below meth c Q H locs)) (zg_X2_allAre t_size t_numbers st) → zA_X2_allAre p l e s m args below meth c Q H locs t  st := by
    intro st hg
    obtain ⟨lab, i1, i2, i4⟩ := st
    by_cases h0 : lab = 0
    · subst h0
      exact zs_X2_allAre_0 t t_size t_numbers  hx hb hml hown hts hK hP i1 i2 i4 hg
    by_cases h3 : lab = 3
    · subst h3
      exact zs_X2_allAre_3 t t_size t_numbers  hx hb hml hown hts hK hP i1 i2 i4 hg
    have hz : zg_X2_allAre t_size t_numbers (lab, i1, i2, i4) = none := by simp [zg_X2_allAre, h0, h3]
    rw [hz] at hg
    obtain ⟨a, h1, -⟩ := hg
    cases h1
  exact jwalk (At := zA_X2_allAre p l e s m args below meth c Q H locs t ) (Ret := zQ_X2_allAre p l e s m args below meth c Q H locs) hst _ _ _ h hq
set_option maxHeartbeats 4000000 in
set_option maxRecDepth 100000 in
theorem zc_X2_allAre (l : Launch) (D : va_G) (κ : Nat → ClassId) (t : Nat → Nat) (t_size : Int) (t_numbers : Nat) (i1 : Int) (i2 : Int) (out : Bool) (h : zf_X2_allAre t_size t_numbers i1 i2 = some out) : Met l yX2_allAre wsX2_allAre zr_X2_allAre (va_Pc [.ref (t 0), .int (zi i1), .long (zl i2)] (zR D κ ([((t 0), .inr (2, [.ref (t 1), .int (zi t_size)])), ((t 1), .inl (κ 1, 10, .inl (zc t_numbers)))]))) (vp_Si (fun x => x = zi (bI out))) 0 0 (fun _ => False) := by
  refine Met.ofW (cc := cX2_allAre) (maxL := 5) (ret := (some .boolean)) (by decide +kernel) rfl ?_
  intro p e s m args below meth c s₁ B hml hv
  obtain ⟨rfl, hP, hK⟩ := hv
  have hx := B.exec
  have hb := B.bytes
  have hr := B.returns
  have hts := atoms_spec (ws := wsX2_allAre) B.pre
  have hown : s.vm.findClass RX2 = some m.cls := findClass_of_methodNamed B.named
  have hlocks := B.notSynchronized
  have hl := lv_entry ([.ref (t 0), .int (zi i1), .long (zl i2)]) (n := 5) (Nat.le_of_ble_eq_true rfl)
  rw [lg_entry_eq]
  generalize (lg_sl ([.ref (t 0), .int (zi i1), .long (zl i2)]) ++ List.replicate (5 - (lg_sl ([.ref (t 0), .int (zi i1), .long (zl i2)])).length) Slot.unset).toArray = ls at hl ⊢
  have hl : lv_has ls 5 [(0, .ref (t 0)), (1, .int (zi i1)), (2, .long (zl i2))] := hl
  refine (zw_X2_allAre t t_size t_numbers  i1 i2 hx hb hml hown hts hK hP out h ?_) ls (lv_sub hl [0, 1, 2] rfl)
  exact fun ls pc hd => W.zret hx hb hr (bI_nar _) (fun t ht hW => ⟨_, rfl, rfl, ht⟩) (fun _ h => by cases h) hd
/-! DiamondRows$Endless.comesBack(I)Z -/
abbrev zr_X2_comesBack : Room := { frames := 5, cells := 0, slots := 0, locals := 117 }
noncomputable def zf_X2_comesBack  (t_size : Int) (t_numbers : Nat) (i1 : Int) : Option (Bool) :=
  Option.bind (zf_X2_allAre t_size t_numbers i1 (0 : Int)) (fun o1 =>
  if o1 = false then
  some (false)
  else
  if zout i1 then none else
  if i1 = (12 : Int) then
  some (true)
  else
  Option.bind (zf_X2_allAre t_size t_numbers (i1 + (1 : Int)) (-1 : Int)) (fun o3 =>
  if o3 = false then
  some (false)
  else
  some (true)))
def zQ_X2_comesBack (p : Program) (l : Launch) (e : Env) (s : State) (m : MethodId) (args : Array Value) (below : List Frame) (meth : Method) (c : Code) (Q : State → Prop) (H : Heap) (locs : List Loc)  (o : Bool) : Prop := ∀ (ls : Array Slot) (pc : Nat), decode cX2_comesBack pc = .ok (.ireturn, 1) → W p l e zr_X2_comesBack s m args below meth c H locs 0 0 Q (F0 m pc ls [.int (zi (bI o))])
set_option maxHeartbeats 4000000 in
set_option maxRecDepth 100000 in
theorem zs_X2_comesBack {p : Program} {l : Launch} {e : Env} {s : State} {m : MethodId} {args : Array Value} {below : List Frame} {meth : Method} {c : Code} {Q : State → Prop} {D : va_G} {κ : Nat → ClassId} {H : Heap} {locs : List Loc} (t : Nat → Nat) (t_size : Int) (t_numbers : Nat) (i1 : Int) (hx : p.tables.exec = Jvm.exec) (hb : c.code = cX2_comesBack) (hml : c.maxLocals = 2) (hown : s.vm.findClass RX2 = some m.cls) (hts : ∀ w ∈ wsX2_comesBack, w.before args s = true) (hK : va_K D vwCl (zTY κ) s) (hP : va_P D vwCl ([((t 0), .inr (2, [.ref (t 1), .int (zi t_size)])), ((t 1), .inl (κ 1, 10, .inl (zc t_numbers)))]) H) (ls : Array Slot) (hl : lv_has ls 2 [(0, .ref (t 0)), (1, .int (zi i1))]) (hg : Go (zQ_X2_comesBack p l e s m args below meth c Q H locs) (zf_X2_comesBack t_size t_numbers i1)) : W p l e zr_X2_comesBack s m args below meth c H locs 0 0 Q (F0 m 0 ls []) := by
  unfold zf_X2_comesBack at hg
  refine lv_aload_n hx hb dX2_comesBack_0 rfl (lv_at hl 0 rfl) ?_
  refine lv_iload_n hx hb dX2_comesBack_1 rfl (lv_at hl 1 rfl) ?_
  refine lv_lconst (v := zl (0 : Int)) hx hb dX2_comesBack_2 (by decide) ?_
  obtain ⟨o1, ho1, hg⟩ := Go_b hg
  refine zc_vi (rest := []) ⟨hx, hb, hml, hown, hts⟩ (zc_X2_allAre l D κ t t_size t_numbers i1 (0 : Int) o1 ho1) (cwV 2 hts gX2_comesBack_X2_allAre rfl rfl rfl hv_X2_allAre ⟨Nat.le_of_ble_eq_true rfl, Nat.le_of_ble_eq_true rfl⟩) (zpreV hK (hP.sub [0, 1] rfl) 2 0 rfl rfl) rfl hl.1 rfl (Nat.le_of_ble_eq_true rfl) dX2_comesBack_3 ⟨Nat.zero_le _, Nat.zero_le _⟩ ?_
  refine zv_ifb_eq (tgt := 32) hx hb dX2_comesBack_6 (by decide) (fun c6 => ?_) (fun c6 => ?_)
  · have hg := Go_t c6 hg
    refine zv_iconst hx hb dX2_comesBack_32 ?_
    exact (Go_s hg) _ _ dX2_comesBack_33
  · have hg := Go_f c6 hg
    refine lv_iload_n hx hb dX2_comesBack_9 rfl (lv_at hl 1 rfl) ?_
    refine zv_bipush hx hb dX2_comesBack_10 (by decide) ?_
    obtain ⟨b2, hg⟩ := Go_n hg
    refine zv_icmp_eq (tgt := 28) hx hb dX2_comesBack_12 (by decide) b2 (by decide) (fun c5 => ?_) (fun c5 => ?_)
    · have hg := Go_t c5 hg
      refine zv_iconst hx hb dX2_comesBack_28 ?_
      refine lv_goto (tgt := 33) hx hb dX2_comesBack_29 (by decide) ?_
      exact (Go_s hg) _ _ dX2_comesBack_33
    · have hg := Go_f c5 hg
      refine lv_aload_n hx hb dX2_comesBack_15 rfl (lv_at hl 0 rfl) ?_
      refine lv_iload_n hx hb dX2_comesBack_16 rfl (lv_at hl 1 rfl) ?_
      refine zv_iconst hx hb dX2_comesBack_17 ?_
      refine zv_iadd hx hb dX2_comesBack_18 ?_
      refine lv_ldc2 (v := zl (-1 : Int)) hx hb hown (hts (.constantLong RX2 46 (-1)) (List.mem_cons_of_mem _ (List.mem_append_left _ (List.mem_of_getElem? (i := 0) rfl)))) dX2_comesBack_19 ?_
      obtain ⟨o3, ho3, hg⟩ := Go_b hg
      refine zc_vi (rest := []) ⟨hx, hb, hml, hown, hts⟩ (zc_X2_allAre l D κ t t_size t_numbers (i1 + (1 : Int)) (-1 : Int) o3 ho3) (cwV 2 hts gX2_comesBack_X2_allAre rfl rfl rfl hv_X2_allAre ⟨Nat.le_of_ble_eq_true rfl, Nat.le_of_ble_eq_true rfl⟩) (zpreV hK (hP.sub [0, 1] rfl) 2 0 rfl rfl) rfl hl.1 rfl (Nat.le_of_ble_eq_true rfl) dX2_comesBack_22 ⟨Nat.zero_le _, Nat.zero_le _⟩ ?_
      refine zv_ifb_eq (tgt := 32) hx hb dX2_comesBack_25 (by decide) (fun c4 => ?_) (fun c4 => ?_)
      · have hg := Go_t c4 hg
        refine zv_iconst hx hb dX2_comesBack_32 ?_
        exact (Go_s hg) _ _ dX2_comesBack_33
      · have hg := Go_f c4 hg
        refine zv_iconst hx hb dX2_comesBack_28 ?_
        refine lv_goto (tgt := 33) hx hb dX2_comesBack_29 (by decide) ?_
        exact (Go_s hg) _ _ dX2_comesBack_33
set_option maxHeartbeats 4000000 in
set_option maxRecDepth 100000 in
theorem zc_X2_comesBack (l : Launch) (D : va_G) (κ : Nat → ClassId) (t : Nat → Nat) (t_size : Int) (t_numbers : Nat) (i1 : Int) (out : Bool) (h : zf_X2_comesBack t_size t_numbers i1 = some out) : Met l yX2_comesBack wsX2_comesBack zr_X2_comesBack (va_Pc [.ref (t 0), .int (zi i1)] (zR D κ ([((t 0), .inr (2, [.ref (t 1), .int (zi t_size)])), ((t 1), .inl (κ 1, 10, .inl (zc t_numbers)))]))) (vp_Si (fun x => x = zi (bI out))) 0 0 (fun _ => False) := by
  refine Met.ofW (cc := cX2_comesBack) (maxL := 2) (ret := (some .boolean)) (by decide +kernel) rfl ?_
  intro p e s m args below meth c s₁ B hml hv
  obtain ⟨rfl, hP, hK⟩ := hv
  have hx := B.exec
  have hb := B.bytes
  have hr := B.returns
  have hts := atoms_spec (ws := wsX2_comesBack) B.pre
  have hown : s.vm.findClass RX2 = some m.cls := findClass_of_methodNamed B.named
  have hlocks := B.notSynchronized
  have hl := lv_entry ([.ref (t 0), .int (zi i1)]) (n := 2) (Nat.le_of_ble_eq_true rfl)
  rw [lg_entry_eq]
  generalize (lg_sl ([.ref (t 0), .int (zi i1)]) ++ List.replicate (2 - (lg_sl ([.ref (t 0), .int (zi i1)])).length) Slot.unset).toArray = ls at hl ⊢
  have hl : lv_has ls 2 [(0, .ref (t 0)), (1, .int (zi i1))] := hl
  refine zs_X2_comesBack t t_size t_numbers i1 hx hb hml hown hts hK hP ls hl ⟨out, h, ?_⟩
  exact fun ls pc hd => W.zret hx hb hr (bI_nar _) (fun t ht hW => ⟨_, rfl, rfl, ht⟩) (fun _ h => by cases h) hd
/-! DiamondRows$Endless.growthOfRound()J -/
abbrev zr_X2_growthOfRound : Room := { frames := 4, cells := 0, slots := 0, locals := 93 }
noncomputable def zf_X2_growthOfRound  (t_size : Int) (t_numbers : Nat)  : Option (Int) :=
  Option.bind (zf_X2_entryAt t_size t_numbers (0 : Int) (t_size + (1 : Int))) (fun o1 =>
  Option.bind (zf_X2_entryAt t_size t_numbers (1 : Int) (t_size - (1 : Int))) (fun o2 =>
  some ((o1 - o2))))
theorem zi_X2_growthOfRound_X2 : ∀ w ∈ u_ws RX2 TX2 2, w ∈ wsX2_growthOfRound := fun w h => (List.mem_cons_of_mem _ (List.mem_append_right _ (List.mem_append_left _ h)))
theorem zl_X2_growthOfRound_15 : Cond.fieldLink RX2 15 "DiamondRows$Endless" "size" "I" ∈ wsX2_growthOfRound := (List.mem_cons_of_mem _ (List.mem_append_left _ (List.mem_of_getElem? (i := 0) rfl)))
def zQ_X2_growthOfRound (p : Program) (l : Launch) (e : Env) (s : State) (m : MethodId) (args : Array Value) (below : List Frame) (meth : Method) (c : Code) (Q : State → Prop) (H : Heap) (locs : List Loc)  (o : Int) : Prop := ∀ (ls : Array Slot) (pc : Nat), decode cX2_growthOfRound pc = .ok (.lreturn, 1) → W p l e zr_X2_growthOfRound s m args below meth c H locs 0 0 Q (F0 m pc ls [.long (zl o)])
set_option maxHeartbeats 4000000 in
set_option maxRecDepth 100000 in
theorem zs_X2_growthOfRound {p : Program} {l : Launch} {e : Env} {s : State} {m : MethodId} {args : Array Value} {below : List Frame} {meth : Method} {c : Code} {Q : State → Prop} {D : va_G} {κ : Nat → ClassId} {H : Heap} {locs : List Loc} (t : Nat → Nat) (t_size : Int) (t_numbers : Nat)  (hx : p.tables.exec = Jvm.exec) (hb : c.code = cX2_growthOfRound) (hml : c.maxLocals = 1) (hown : s.vm.findClass RX2 = some m.cls) (hts : ∀ w ∈ wsX2_growthOfRound, w.before args s = true) (hK : va_K D vwCl (zTY κ) s) (hP : va_P D vwCl ([((t 0), .inr (2, [.ref (t 1), .int (zi t_size)])), ((t 1), .inl (κ 1, 10, .inl (zc t_numbers)))]) H) (ls : Array Slot) (hl : lv_has ls 1 [(0, .ref (t 0))]) (hg : Go (zQ_X2_growthOfRound p l e s m args below meth c Q H locs) (zf_X2_growthOfRound t_size t_numbers )) : W p l e zr_X2_growthOfRound s m args below meth c H locs 0 0 Q (F0 m 0 ls []) := by
  unfold zf_X2_growthOfRound at hg
  refine lv_aload_n hx hb dX2_growthOfRound_0 rfl (lv_at hl 0 rfl) ?_
  refine zv_iconst hx hb dX2_growthOfRound_1 ?_
  refine lv_aload_n hx hb dX2_growthOfRound_2 rfl (lv_at hl 0 rfl) ?_
  refine va_get (D := D) (ci := 2) (v := .int (zi t_size)) (C := RX2) (T := TX2) (N := 2) hx hb hts zi_X2_growthOfRound_X2 hown hK hP 0 rfl rfl 1 (by decide) (hts (.fieldLink RX2 15 "DiamondRows$Endless" "size" "I") zl_X2_growthOfRound_15) (fun _ h9 => h9) rfl dX2_growthOfRound_3 ?_
  refine zv_iconst hx hb dX2_growthOfRound_6 ?_
  refine zv_iadd hx hb dX2_growthOfRound_7 ?_
  obtain ⟨o1, ho1, hg⟩ := Go_b hg
  refine zc_vl (rest := []) ⟨hx, hb, hml, hown, hts⟩ (zc_X2_entryAt l D κ t t_size t_numbers (0 : Int) (t_size + (1 : Int)) o1 ho1) (cwV 2 hts gX2_growthOfRound_X2_entryAt rfl rfl rfl hv_X2_entryAt ⟨Nat.le_of_ble_eq_true rfl, Nat.le_of_ble_eq_true rfl⟩) (zpreV hK (hP.sub [0, 1] rfl) 2 0 rfl rfl) rfl hl.1 rfl (Nat.le_of_ble_eq_true rfl) dX2_growthOfRound_8 ⟨Nat.zero_le _, Nat.zero_le _⟩ ?_
  refine lv_aload_n hx hb dX2_growthOfRound_11 rfl (lv_at hl 0 rfl) ?_
  refine zv_iconst hx hb dX2_growthOfRound_12 ?_
  refine lv_aload_n hx hb dX2_growthOfRound_13 rfl (lv_at hl 0 rfl) ?_
  refine va_get (D := D) (ci := 2) (v := .int (zi t_size)) (C := RX2) (T := TX2) (N := 2) hx hb hts zi_X2_growthOfRound_X2 hown hK hP 0 rfl rfl 1 (by decide) (hts (.fieldLink RX2 15 "DiamondRows$Endless" "size" "I") zl_X2_growthOfRound_15) (fun _ h9 => h9) rfl dX2_growthOfRound_14 ?_
  refine zv_iconst hx hb dX2_growthOfRound_17 ?_
  refine zv_isub hx hb dX2_growthOfRound_18 ?_
  obtain ⟨o2, ho2, hg⟩ := Go_b hg
  refine zc_vl (rest := [.long (zl o1)]) ⟨hx, hb, hml, hown, hts⟩ (zc_X2_entryAt l D κ t t_size t_numbers (1 : Int) (t_size - (1 : Int)) o2 ho2) (cwV 2 hts gX2_growthOfRound_X2_entryAt rfl rfl rfl hv_X2_entryAt ⟨Nat.le_of_ble_eq_true rfl, Nat.le_of_ble_eq_true rfl⟩) (zpreV hK (hP.sub [0, 1] rfl) 2 0 rfl rfl) rfl hl.1 rfl (Nat.le_of_ble_eq_true rfl) dX2_growthOfRound_19 ⟨Nat.zero_le _, Nat.zero_le _⟩ ?_
  refine zv_lsub hx hb dX2_growthOfRound_22 ?_
  exact (Go_s hg) _ _ dX2_growthOfRound_23
set_option maxHeartbeats 4000000 in
set_option maxRecDepth 100000 in
theorem zc_X2_growthOfRound (l : Launch) (D : va_G) (κ : Nat → ClassId) (t : Nat → Nat) (t_size : Int) (t_numbers : Nat)  (out : Int) (h : zf_X2_growthOfRound t_size t_numbers  = some out) : Met l yX2_growthOfRound wsX2_growthOfRound zr_X2_growthOfRound (va_Pc [.ref (t 0)] (zR D κ ([((t 0), .inr (2, [.ref (t 1), .int (zi t_size)])), ((t 1), .inl (κ 1, 10, .inl (zc t_numbers)))]))) (vp_Sl (fun x => x = zl out)) 0 0 (fun _ => False) := by
  refine Met.ofW (cc := cX2_growthOfRound) (maxL := 1) (ret := (some .long)) (by decide +kernel) rfl ?_
  intro p e s m args below meth c s₁ B hml hv
  obtain ⟨rfl, hP, hK⟩ := hv
  have hx := B.exec
  have hb := B.bytes
  have hr := B.returns
  have hts := atoms_spec (ws := wsX2_growthOfRound) B.pre
  have hown : s.vm.findClass RX2 = some m.cls := findClass_of_methodNamed B.named
  have hlocks := B.notSynchronized
  have hl := lv_entry ([.ref (t 0)]) (n := 1) (Nat.le_of_ble_eq_true rfl)
  rw [lg_entry_eq]
  generalize (lg_sl ([.ref (t 0)]) ++ List.replicate (1 - (lg_sl ([.ref (t 0)])).length) Slot.unset).toArray = ls at hl ⊢
  have hl : lv_has ls 1 [(0, .ref (t 0))] := hl
  refine zs_X2_growthOfRound t t_size t_numbers  hx hb hml hown hts hK hP ls hl ⟨out, h, ?_⟩
  exact fun ls pc hd => W.lret hx hb hr (fun t ht hW => ⟨_, rfl, rfl, ht⟩) (fun _ h => by cases h) hd
/-! DiamondRows$Endless.canGlue(I)Z -/
abbrev zr_X2_canGlue : Room := { frames := 3, cells := 0, slots := 0, locals := 64 }
noncomputable def zf_X2_canGlue  (t_size : Int) (t_numbers : Nat) (i1 : Int) : Option (Bool) :=
  if zout t_size then none else
  if t_size < (10 : Int) then
  if t_size = (1 : Int) then
  Option.bind (zf_X2_at t_size t_numbers i1) (fun o8 =>
  if zout (o8 + (2 : Int)) then none else
  if (20 : Int) < (o8 + (2 : Int)) then
  some (false)
  else
  Option.bind (zf_X2_at t_size t_numbers (i1 + (1 : Int))) (fun o10 =>
  if zout (o10 + (2 : Int)) then none else
  if (20 : Int) < (o10 + (2 : Int)) then
  some (false)
  else
  some (true)))
  else
  Option.bind (zf_X2_at t_size t_numbers i1) (fun o2 =>
  if zout (o2 + (1 : Int)) then none else
  if (20 : Int) < (o2 + (1 : Int)) then
  some (false)
  else
  Option.bind (zf_X2_at t_size t_numbers (i1 + (1 : Int))) (fun o4 =>
  if zout (o4 + (1 : Int)) then none else
  if (20 : Int) < (o4 + (1 : Int)) then
  some (false)
  else
  some (true)))
  else
  some (false)
theorem zi_X2_canGlue_X2 : ∀ w ∈ u_ws RX2 TX2 2, w ∈ wsX2_canGlue := fun w h => (List.mem_cons_of_mem _ (List.mem_append_right _ (List.mem_append_left _ h)))
theorem zl_X2_canGlue_15 : Cond.fieldLink RX2 15 "DiamondRows$Endless" "size" "I" ∈ wsX2_canGlue := (List.mem_cons_of_mem _ (List.mem_append_left _ (List.mem_of_getElem? (i := 0) rfl)))
def zQ_X2_canGlue (p : Program) (l : Launch) (e : Env) (s : State) (m : MethodId) (args : Array Value) (below : List Frame) (meth : Method) (c : Code) (Q : State → Prop) (H : Heap) (locs : List Loc)  (o : Bool) : Prop := ∀ (ls : Array Slot) (pc : Nat), decode cX2_canGlue pc = .ok (.ireturn, 1) → W p l e zr_X2_canGlue s m args below meth c H locs 0 0 Q (F0 m pc ls [.int (zi (bI o))])
set_option maxHeartbeats 4000000 in
set_option maxRecDepth 100000 in
theorem zs_X2_canGlue {p : Program} {l : Launch} {e : Env} {s : State} {m : MethodId} {args : Array Value} {below : List Frame} {meth : Method} {c : Code} {Q : State → Prop} {D : va_G} {κ : Nat → ClassId} {H : Heap} {locs : List Loc} (t : Nat → Nat) (t_size : Int) (t_numbers : Nat) (i1 : Int) (hx : p.tables.exec = Jvm.exec) (hb : c.code = cX2_canGlue) (hml : c.maxLocals = 3) (hown : s.vm.findClass RX2 = some m.cls) (hts : ∀ w ∈ wsX2_canGlue, w.before args s = true) (hK : va_K D vwCl (zTY κ) s) (hP : va_P D vwCl ([((t 0), .inr (2, [.ref (t 1), .int (zi t_size)])), ((t 1), .inl (κ 1, 10, .inl (zc t_numbers)))]) H) (ls : Array Slot) (hl : lv_has ls 3 [(0, .ref (t 0)), (1, .int (zi i1))]) (hg : Go (zQ_X2_canGlue p l e s m args below meth c Q H locs) (zf_X2_canGlue t_size t_numbers i1)) : W p l e zr_X2_canGlue s m args below meth c H locs 0 0 Q (F0 m 0 ls []) := by
  unfold zf_X2_canGlue at hg
  refine lv_aload_n hx hb dX2_canGlue_0 rfl (lv_at hl 0 rfl) ?_
  refine va_get (D := D) (ci := 2) (v := .int (zi t_size)) (C := RX2) (T := TX2) (N := 2) hx hb hts zi_X2_canGlue_X2 hown hK hP 0 rfl rfl 1 (by decide) (hts (.fieldLink RX2 15 "DiamondRows$Endless" "size" "I") zl_X2_canGlue_15) (fun _ h9 => h9) rfl dX2_canGlue_1 ?_
  refine zv_bipush hx hb dX2_canGlue_4 (by decide) ?_
  obtain ⟨b1, hg⟩ := Go_n hg
  refine zv_icmp_lt (tgt := 11) hx hb dX2_canGlue_6 (by decide) b1 (by decide) (fun c15 => ?_) (fun c15 => ?_)
  · have hg := Go_t c15 hg
    refine lv_aload_n hx hb dX2_canGlue_11 rfl (lv_at hl 0 rfl) ?_
    refine va_get (D := D) (ci := 2) (v := .int (zi t_size)) (C := RX2) (T := TX2) (N := 2) hx hb hts zi_X2_canGlue_X2 hown hK hP 0 rfl rfl 1 (by decide) (hts (.fieldLink RX2 15 "DiamondRows$Endless" "size" "I") zl_X2_canGlue_15) (fun _ h9 => h9) rfl dX2_canGlue_12 ?_
    refine zv_iconst hx hb dX2_canGlue_15 ?_
    refine zv_icmp_ne (tgt := 23) hx hb dX2_canGlue_16 (by decide) b1 (by decide) (fun c14 => ?_) (fun c14 => ?_)
    · have hg := Go_f c14 hg
      refine zv_iconst hx hb dX2_canGlue_23 ?_
      refine lv_istore_n (lv' := [(2, .int (zi (1 : Int))), (0, .ref (t 0)), (1, .int (zi i1))]) hx hb dX2_canGlue_24 rfl hl (by decide) rfl (fun ls hl => ?_)
      refine lv_aload_n hx hb dX2_canGlue_25 rfl (lv_at hl 1 rfl) ?_
      refine lv_iload_n hx hb dX2_canGlue_26 rfl (lv_at hl 2 rfl) ?_
      obtain ⟨o2, ho2, hg⟩ := Go_b hg
      refine zc_vi (rest := []) ⟨hx, hb, hml, hown, hts⟩ (zc_X2_at l D κ t t_size t_numbers i1 o2 ho2) (cwV 1 hts gX2_canGlue_X2_at rfl rfl rfl hv_X2_at ⟨Nat.le_of_ble_eq_true rfl, Nat.le_of_ble_eq_true rfl⟩) (zpreV hK (hP.sub [0, 1] rfl) 2 0 rfl rfl) rfl hl.1 rfl (Nat.le_of_ble_eq_true rfl) dX2_canGlue_27 ⟨Nat.zero_le _, Nat.zero_le _⟩ ?_
      refine lv_iload_n hx hb dX2_canGlue_30 rfl (lv_at hl 0 rfl) ?_
      refine zv_iadd hx hb dX2_canGlue_31 ?_
      refine zv_bipush hx hb dX2_canGlue_32 (by decide) ?_
      obtain ⟨b3, hg⟩ := Go_n hg
      refine zv_icmp_gt (tgt := 55) hx hb dX2_canGlue_34 (by decide) b3 (by decide) (fun c7 => ?_) (fun c7 => ?_)
      · have hg := Go_t c7 hg
        refine zv_iconst hx hb dX2_canGlue_55 ?_
        exact (Go_s hg) _ _ dX2_canGlue_56
      · have hg := Go_f c7 hg
        refine lv_aload_n hx hb dX2_canGlue_37 rfl (lv_at hl 1 rfl) ?_
        refine lv_iload_n hx hb dX2_canGlue_38 rfl (lv_at hl 2 rfl) ?_
        refine zv_iconst hx hb dX2_canGlue_39 ?_
        refine zv_iadd hx hb dX2_canGlue_40 ?_
        obtain ⟨o4, ho4, hg⟩ := Go_b hg
        refine zc_vi (rest := []) ⟨hx, hb, hml, hown, hts⟩ (zc_X2_at l D κ t t_size t_numbers (i1 + (1 : Int)) o4 ho4) (cwV 1 hts gX2_canGlue_X2_at rfl rfl rfl hv_X2_at ⟨Nat.le_of_ble_eq_true rfl, Nat.le_of_ble_eq_true rfl⟩) (zpreV hK (hP.sub [0, 1] rfl) 2 0 rfl rfl) rfl hl.1 rfl (Nat.le_of_ble_eq_true rfl) dX2_canGlue_41 ⟨Nat.zero_le _, Nat.zero_le _⟩ ?_
        refine lv_iload_n hx hb dX2_canGlue_44 rfl (lv_at hl 0 rfl) ?_
        refine zv_iadd hx hb dX2_canGlue_45 ?_
        refine zv_bipush hx hb dX2_canGlue_46 (by decide) ?_
        obtain ⟨b5, hg⟩ := Go_n hg
        refine zv_icmp_gt (tgt := 55) hx hb dX2_canGlue_48 (by decide) b5 (by decide) (fun c6 => ?_) (fun c6 => ?_)
        · have hg := Go_t c6 hg
          refine zv_iconst hx hb dX2_canGlue_55 ?_
          exact (Go_s hg) _ _ dX2_canGlue_56
        · have hg := Go_f c6 hg
          refine zv_iconst hx hb dX2_canGlue_51 ?_
          refine lv_goto (tgt := 56) hx hb dX2_canGlue_52 (by decide) ?_
          exact (Go_s hg) _ _ dX2_canGlue_56
    · have hg := Go_t c14 hg
      refine zv_iconst hx hb dX2_canGlue_19 ?_
      refine lv_goto (tgt := 24) hx hb dX2_canGlue_20 (by decide) ?_
      refine lv_istore_n (lv' := [(2, .int (zi (2 : Int))), (0, .ref (t 0)), (1, .int (zi i1))]) hx hb dX2_canGlue_24 rfl hl (by decide) rfl (fun ls hl => ?_)
      refine lv_aload_n hx hb dX2_canGlue_25 rfl (lv_at hl 1 rfl) ?_
      refine lv_iload_n hx hb dX2_canGlue_26 rfl (lv_at hl 2 rfl) ?_
      obtain ⟨o8, ho8, hg⟩ := Go_b hg
      refine zc_vi (rest := []) ⟨hx, hb, hml, hown, hts⟩ (zc_X2_at l D κ t t_size t_numbers i1 o8 ho8) (cwV 1 hts gX2_canGlue_X2_at rfl rfl rfl hv_X2_at ⟨Nat.le_of_ble_eq_true rfl, Nat.le_of_ble_eq_true rfl⟩) (zpreV hK (hP.sub [0, 1] rfl) 2 0 rfl rfl) rfl hl.1 rfl (Nat.le_of_ble_eq_true rfl) dX2_canGlue_27 ⟨Nat.zero_le _, Nat.zero_le _⟩ ?_
      refine lv_iload_n hx hb dX2_canGlue_30 rfl (lv_at hl 0 rfl) ?_
      refine zv_iadd hx hb dX2_canGlue_31 ?_
      refine zv_bipush hx hb dX2_canGlue_32 (by decide) ?_
      obtain ⟨b9, hg⟩ := Go_n hg
      refine zv_icmp_gt (tgt := 55) hx hb dX2_canGlue_34 (by decide) b9 (by decide) (fun c13 => ?_) (fun c13 => ?_)
      · have hg := Go_t c13 hg
        refine zv_iconst hx hb dX2_canGlue_55 ?_
        exact (Go_s hg) _ _ dX2_canGlue_56
      · have hg := Go_f c13 hg
        refine lv_aload_n hx hb dX2_canGlue_37 rfl (lv_at hl 1 rfl) ?_
        refine lv_iload_n hx hb dX2_canGlue_38 rfl (lv_at hl 2 rfl) ?_
        refine zv_iconst hx hb dX2_canGlue_39 ?_
        refine zv_iadd hx hb dX2_canGlue_40 ?_
        obtain ⟨o10, ho10, hg⟩ := Go_b hg
        refine zc_vi (rest := []) ⟨hx, hb, hml, hown, hts⟩ (zc_X2_at l D κ t t_size t_numbers (i1 + (1 : Int)) o10 ho10) (cwV 1 hts gX2_canGlue_X2_at rfl rfl rfl hv_X2_at ⟨Nat.le_of_ble_eq_true rfl, Nat.le_of_ble_eq_true rfl⟩) (zpreV hK (hP.sub [0, 1] rfl) 2 0 rfl rfl) rfl hl.1 rfl (Nat.le_of_ble_eq_true rfl) dX2_canGlue_41 ⟨Nat.zero_le _, Nat.zero_le _⟩ ?_
        refine lv_iload_n hx hb dX2_canGlue_44 rfl (lv_at hl 0 rfl) ?_
        refine zv_iadd hx hb dX2_canGlue_45 ?_
        refine zv_bipush hx hb dX2_canGlue_46 (by decide) ?_
        obtain ⟨b11, hg⟩ := Go_n hg
        refine zv_icmp_gt (tgt := 55) hx hb dX2_canGlue_48 (by decide) b11 (by decide) (fun c12 => ?_) (fun c12 => ?_)
        · have hg := Go_t c12 hg
          refine zv_iconst hx hb dX2_canGlue_55 ?_
          exact (Go_s hg) _ _ dX2_canGlue_56
        · have hg := Go_f c12 hg
          refine zv_iconst hx hb dX2_canGlue_51 ?_
          refine lv_goto (tgt := 56) hx hb dX2_canGlue_52 (by decide) ?_
          exact (Go_s hg) _ _ dX2_canGlue_56
  · have hg := Go_f c15 hg
    refine zv_iconst hx hb dX2_canGlue_9 ?_
    exact (Go_s hg) _ _ dX2_canGlue_10
set_option maxHeartbeats 4000000 in
set_option maxRecDepth 100000 in
theorem zc_X2_canGlue (l : Launch) (D : va_G) (κ : Nat → ClassId) (t : Nat → Nat) (t_size : Int) (t_numbers : Nat) (i1 : Int) (out : Bool) (h : zf_X2_canGlue t_size t_numbers i1 = some out) : Met l yX2_canGlue wsX2_canGlue zr_X2_canGlue (va_Pc [.ref (t 0), .int (zi i1)] (zR D κ ([((t 0), .inr (2, [.ref (t 1), .int (zi t_size)])), ((t 1), .inl (κ 1, 10, .inl (zc t_numbers)))]))) (vp_Si (fun x => x = zi (bI out))) 0 0 (fun _ => False) := by
  refine Met.ofW (cc := cX2_canGlue) (maxL := 3) (ret := (some .boolean)) (by decide +kernel) rfl ?_
  intro p e s m args below meth c s₁ B hml hv
  obtain ⟨rfl, hP, hK⟩ := hv
  have hx := B.exec
  have hb := B.bytes
  have hr := B.returns
  have hts := atoms_spec (ws := wsX2_canGlue) B.pre
  have hown : s.vm.findClass RX2 = some m.cls := findClass_of_methodNamed B.named
  have hlocks := B.notSynchronized
  have hl := lv_entry ([.ref (t 0), .int (zi i1)]) (n := 3) (Nat.le_of_ble_eq_true rfl)
  rw [lg_entry_eq]
  generalize (lg_sl ([.ref (t 0), .int (zi i1)]) ++ List.replicate (3 - (lg_sl ([.ref (t 0), .int (zi i1)])).length) Slot.unset).toArray = ls at hl ⊢
  have hl : lv_has ls 3 [(0, .ref (t 0)), (1, .int (zi i1))] := hl
  refine zs_X2_canGlue t t_size t_numbers i1 hx hb hml hown hts hK hP ls hl ⟨out, h, ?_⟩
  exact fun ls pc hd => W.zret hx hb hr (bI_nar _) (fun t ht hW => ⟨_, rfl, rfl, ht⟩) (fun _ h => by cases h) hd
/-! DiamondRows$Endless.glueBehind(I)I -/
abbrev zr_X2_glueBehind : Room := { frames := 4, cells := 0, slots := 0, locals := 86 }
abbrev zS_X2_glueBehind : Type := Nat × Int × Int × Int × Nat
abbrev zO_X2_glueBehind : Type := Int × Int × Nat
noncomputable def zg_X2_glueBehind_0   (i1 : Int) (i2 : Int) (t_size : Int) (t_numbers : Nat) : Option (zO_X2_glueBehind ⊕ zS_X2_glueBehind) :=
  Option.bind (zf_X2_hasPlace t_size i1) (fun o1 =>
  if o1 = false then
  some (.inl (t_size, t_size, t_numbers))
  else
  Option.bind (zf_X2_canGlue t_size t_numbers i1) (fun o2 =>
  if o2 = false then
  some (.inl (t_size, t_size, t_numbers))
  else
  if i1 < 0 ∨ 10 ≤ i1 then none else
  Option.bind (zf_X2_wrapped t_size (i1 + (1 : Int))) (fun o4 =>
  if o4 < 0 ∨ 10 ≤ o4 then none else
  some (.inr (52, i1, t_size, t_size, (zset (zset t_numbers (Int.toNat i1) ((zget t_numbers (Int.toNat i1)) + (1 : Int))) (Int.toNat o4) ((zget (zset t_numbers (Int.toNat i1) ((zget t_numbers (Int.toNat i1)) + (1 : Int))) (Int.toNat o4)) + (1 : Int))))))))
noncomputable def zg_X2_glueBehind_52   (i1 : Int) (i2 : Int) (t_size : Int) (t_numbers : Nat) : Option (zO_X2_glueBehind ⊕ zS_X2_glueBehind) :=
  if zout i2 then none else
  if zout (i1 + (1 : Int)) then none else
  if i2 ≤ (i1 + (1 : Int)) then
  if (i1 + (1 : Int)) < 0 ∨ 10 ≤ (i1 + (1 : Int)) then none else
  some (.inl ((t_size + (1 : Int)), (t_size + (1 : Int)), (zset t_numbers (Int.toNat (i1 + (1 : Int))) (1 : Int))))
  else
  if (i2 - (1 : Int)) < 0 ∨ 10 ≤ (i2 - (1 : Int)) then none else
  if i2 < 0 ∨ 10 ≤ i2 then none else
  some (.inr (52, i1, (i2 + (-1 : Int)), t_size, (zset t_numbers (Int.toNat i2) (zget t_numbers (Int.toNat (i2 - (1 : Int)))))))
noncomputable def zg_X2_glueBehind   (st : zS_X2_glueBehind) : Option (zO_X2_glueBehind ⊕ zS_X2_glueBehind) := match st with
  | (lab, i1, i2, t_size, t_numbers) => if lab = 0 then zg_X2_glueBehind_0  i1 i2 t_size t_numbers else if lab = 52 then zg_X2_glueBehind_52  i1 i2 t_size t_numbers else none
noncomputable def zf_X2_glueBehind  (t_size : Int) (t_numbers : Nat) (i1 : Int) : Option (Int × Int × Nat) := jrun (zg_X2_glueBehind ) jfuel (0, i1, 0, t_size, t_numbers)
theorem zi_X2_glueBehind_X2 : ∀ w ∈ u_ws RX2 TX2 2, w ∈ wsX2_glueBehind := fun w h => (List.mem_cons_of_mem _ (List.mem_append_right _ (List.mem_append_left _ h)))
theorem zl_X2_glueBehind_11 : Cond.fieldLink RX2 11 "DiamondRows$Endless" "numbers" "[I" ∈ wsX2_glueBehind := (List.mem_cons_of_mem _ (List.mem_append_left _ (List.mem_of_getElem? (i := 1) rfl)))
theorem zl_X2_glueBehind_15 : Cond.fieldLink RX2 15 "DiamondRows$Endless" "size" "I" ∈ wsX2_glueBehind := (List.mem_cons_of_mem _ (List.mem_append_left _ (List.mem_of_getElem? (i := 0) rfl)))
def zQ_X2_glueBehind (p : Program) (l : Launch) (e : Env) (s : State) (m : MethodId) (args : Array Value) (below : List Frame) (meth : Method) (c : Code) (Q : State → Prop) (D : va_G) (κ : Nat → ClassId) (A : Nat → Prop) (H0 : Heap) (t : Nat → Nat)  (o : Int × Int × Nat) : Prop := ∀ (H : Heap) (locs : List Loc) (ls : Array Slot) (pc : Nat), va_P D vwCl ([((t 0), .inr (2, [.ref (t 1), .int (zi (o.2.1))])), ((t 1), .inl (κ 1, 10, .inl (zc (o.2.2))))]) H → va_D A ([((t 0), .inr (2, [.ref (t 1), .int (zi (o.2.1))])), ((t 1), .inl (κ 1, 10, .inl (zc (o.2.2))))]) → va_S A H0 H locs → decode cX2_glueBehind pc = .ok (.ireturn, 1) → W p l e zr_X2_glueBehind s m args below meth c H locs 0 0 Q (F0 m pc ls [.int (zi (o.1))])
def zA_X2_glueBehind_0 (p : Program) (l : Launch) (e : Env) (s : State) (m : MethodId) (args : Array Value) (below : List Frame) (meth : Method) (c : Code) (Q : State → Prop) (D : va_G) (κ : Nat → ClassId) (A : Nat → Prop) (H0 : Heap) (t : Nat → Nat)  (i1 : Int) (i2 : Int) (t_size : Int) (t_numbers : Nat) : Prop := ∀ (H : Heap) (locs : List Loc) (ls : Array Slot), va_P D vwCl ([((t 0), .inr (2, [.ref (t 1), .int (zi t_size)])), ((t 1), .inl (κ 1, 10, .inl (zc t_numbers)))]) H → va_D A ([((t 0), .inr (2, [.ref (t 1), .int (zi t_size)])), ((t 1), .inl (κ 1, 10, .inl (zc t_numbers)))]) → va_S A H0 H locs → lv_has ls 3 [(0, .ref (t 0)), (1, .int (zi i1))] → W p l e zr_X2_glueBehind s m args below meth c H locs 0 0 Q (F0 m 0 ls [])
def zA_X2_glueBehind_52 (p : Program) (l : Launch) (e : Env) (s : State) (m : MethodId) (args : Array Value) (below : List Frame) (meth : Method) (c : Code) (Q : State → Prop) (D : va_G) (κ : Nat → ClassId) (A : Nat → Prop) (H0 : Heap) (t : Nat → Nat)  (i1 : Int) (i2 : Int) (t_size : Int) (t_numbers : Nat) : Prop := ∀ (H : Heap) (locs : List Loc) (ls : Array Slot), va_P D vwCl ([((t 0), .inr (2, [.ref (t 1), .int (zi t_size)])), ((t 1), .inl (κ 1, 10, .inl (zc t_numbers)))]) H → va_D A ([((t 0), .inr (2, [.ref (t 1), .int (zi t_size)])), ((t 1), .inl (κ 1, 10, .inl (zc t_numbers)))]) → va_S A H0 H locs → lv_has ls 3 [(0, .ref (t 0)), (1, .int (zi i1)), (2, .int (zi i2))] → W p l e zr_X2_glueBehind s m args below meth c H locs 0 0 Q (F0 m 52 ls [])
def zA_X2_glueBehind (p : Program) (l : Launch) (e : Env) (s : State) (m : MethodId) (args : Array Value) (below : List Frame) (meth : Method) (c : Code) (Q : State → Prop) (D : va_G) (κ : Nat → ClassId) (A : Nat → Prop) (H0 : Heap) (t : Nat → Nat)  (st : zS_X2_glueBehind) : Prop := match st with
  | (lab, i1, i2, t_size, t_numbers) => if lab = 0 then zA_X2_glueBehind_0 p l e s m args below meth c Q D κ A H0 t  i1 i2 t_size t_numbers else if lab = 52 then zA_X2_glueBehind_52 p l e s m args below meth c Q D κ A H0 t  i1 i2 t_size t_numbers else True
set_option maxHeartbeats 4000000 in
set_option maxRecDepth 100000 in
theorem zs_X2_glueBehind_0 {p : Program} {l : Launch} {e : Env} {s : State} {m : MethodId} {args : Array Value} {below : List Frame} {meth : Method} {c : Code} {Q : State → Prop} {D : va_G} {κ : Nat → ClassId} {A : Nat → Prop} {H0 : Heap} (t : Nat → Nat)  (hx : p.tables.exec = Jvm.exec) (hb : c.code = cX2_glueBehind) (hml : c.maxLocals = 3) (hown : s.vm.findClass RX2 = some m.cls) (hts : ∀ w ∈ wsX2_glueBehind, w.before args s = true) (hK : va_K D vwCl (zTY κ) s) (hA : ∀ q : Nat, H0.size ≤ q → A q) (i1 : Int) (i2 : Int) (t_size : Int) (t_numbers : Nat) (hg : Go (GoE (zA_X2_glueBehind p l e s m args below meth c Q D κ A H0 t ) (zQ_X2_glueBehind p l e s m args below meth c Q D κ A H0 t )) (zg_X2_glueBehind_0  i1 i2 t_size t_numbers)) : zA_X2_glueBehind_0 p l e s m args below meth c Q D κ A H0 t  i1 i2 t_size t_numbers := by
  intro H locs ls hP hD hS hl
  unfold zg_X2_glueBehind_0 at hg
  refine lv_aload_n hx hb dX2_glueBehind_0 rfl (lv_at hl 0 rfl) ?_
  refine lv_iload_n hx hb dX2_glueBehind_1 rfl (lv_at hl 1 rfl) ?_
  obtain ⟨o1, ho1, hg⟩ := Go_b hg
  refine zc_vi (rest := []) ⟨hx, hb, hml, hown, hts⟩ (zc_X2_hasPlace l D κ t t_size t_numbers i1 o1 ho1) (cwV 1 hts gX2_glueBehind_X2_hasPlace rfl rfl rfl hv_X2_hasPlace ⟨Nat.le_of_ble_eq_true rfl, Nat.le_of_ble_eq_true rfl⟩) (zpreV hK (hP.sub [0, 1] rfl) 2 0 rfl rfl) rfl hl.1 rfl (Nat.le_of_ble_eq_true rfl) dX2_glueBehind_2 ⟨Nat.zero_le _, Nat.zero_le _⟩ ?_
  refine zv_ifb_eq (tgt := 16) hx hb dX2_glueBehind_5 (by decide) (fun c7 => ?_) (fun c7 => ?_)
  · have hg := Go_t c7 hg
    refine lv_aload_n hx hb dX2_glueBehind_16 rfl (lv_at hl 0 rfl) ?_
    refine va_get (D := D) (ci := 2) (v := .int (zi t_size)) (C := RX2) (T := TX2) (N := 2) hx hb hts zi_X2_glueBehind_X2 hown hK hP 0 rfl rfl 1 (by decide) (hts (.fieldLink RX2 15 "DiamondRows$Endless" "size" "I") zl_X2_glueBehind_15) (fun _ h9 => h9) rfl dX2_glueBehind_17 ?_
    exact (Go_s hg) _ _ _ _ hP hD hS dX2_glueBehind_20
  · have hg := Go_f c7 hg
    refine lv_aload_n hx hb dX2_glueBehind_8 rfl (lv_at hl 0 rfl) ?_
    refine lv_iload_n hx hb dX2_glueBehind_9 rfl (lv_at hl 1 rfl) ?_
    obtain ⟨o2, ho2, hg⟩ := Go_b hg
    refine zc_vi (rest := []) ⟨hx, hb, hml, hown, hts⟩ (zc_X2_canGlue l D κ t t_size t_numbers i1 o2 ho2) (cwV 1 hts gX2_glueBehind_X2_canGlue rfl rfl rfl hv_X2_canGlue ⟨Nat.le_of_ble_eq_true rfl, Nat.le_of_ble_eq_true rfl⟩) (zpreV hK (hP.sub [0, 1] rfl) 2 0 rfl rfl) rfl hl.1 rfl (Nat.le_of_ble_eq_true rfl) dX2_glueBehind_10 ⟨Nat.zero_le _, Nat.zero_le _⟩ ?_
    refine zv_ifb_ne (tgt := 21) hx hb dX2_glueBehind_13 (by decide) (fun c6 => ?_) (fun c6 => ?_)
    · have hg := Go_f c6 hg
      refine lv_aload_n hx hb dX2_glueBehind_21 rfl (lv_at hl 0 rfl) ?_
      refine va_get (D := D) (ci := 2) (v := .ref (t 1)) (C := RX2) (T := TX2) (N := 2) hx hb hts zi_X2_glueBehind_X2 hown hK hP 0 rfl rfl 0 (by decide) (hts (.fieldLink RX2 11 "DiamondRows$Endless" "numbers" "[I") zl_X2_glueBehind_11) (fun _ h9 => h9) rfl dX2_glueBehind_22 ?_
      refine lv_iload_n hx hb dX2_glueBehind_25 rfl (lv_at hl 1 rfl) ?_
      refine lv_dup2_11 hx hb dX2_glueBehind_26 rfl rfl ?_
      obtain ⟨n3, hg⟩ := Go_n hg
      refine zv_iald hx hb hK hP 1 1 rfl rfl (by decide) n3 dX2_glueBehind_27 ?_
      refine zv_iconst hx hb dX2_glueBehind_28 ?_
      refine zv_iadd hx hb dX2_glueBehind_29 ?_
      refine zv_iast hx hb hK hP hD hS 1 1 rfl rfl (by decide) n3 dX2_glueBehind_30 (fun H locs hP hD hS => ?_)
      have hP : va_P D vwCl ([((t 0), .inr (2, [.ref (t 1), .int (zi t_size)])), ((t 1), .inl (κ 1, 10, .inl (zc (zset t_numbers (Int.toNat i1) ((zget t_numbers (Int.toNat i1)) + (1 : Int))))))]) H := hP
      have hD : va_D A ([((t 0), .inr (2, [.ref (t 1), .int (zi t_size)])), ((t 1), .inl (κ 1, 10, .inl (zc (zset t_numbers (Int.toNat i1) ((zget t_numbers (Int.toNat i1)) + (1 : Int))))))]) := hD
      refine lv_aload_n hx hb dX2_glueBehind_31 rfl (lv_at hl 0 rfl) ?_
      refine va_get (D := D) (ci := 2) (v := .ref (t 1)) (C := RX2) (T := TX2) (N := 2) hx hb hts zi_X2_glueBehind_X2 hown hK hP 0 rfl rfl 0 (by decide) (hts (.fieldLink RX2 11 "DiamondRows$Endless" "numbers" "[I") zl_X2_glueBehind_11) (fun _ h9 => h9) rfl dX2_glueBehind_32 ?_
      refine lv_aload_n hx hb dX2_glueBehind_35 rfl (lv_at hl 0 rfl) ?_
      refine lv_iload_n hx hb dX2_glueBehind_36 rfl (lv_at hl 1 rfl) ?_
      refine zv_iconst hx hb dX2_glueBehind_37 ?_
      refine zv_iadd hx hb dX2_glueBehind_38 ?_
      obtain ⟨o4, ho4, hg⟩ := Go_b hg
      refine zc_vi (rest := [.ref (t 1)]) ⟨hx, hb, hml, hown, hts⟩ (zc_X2_wrapped l D κ t t_size (zset t_numbers (Int.toNat i1) ((zget t_numbers (Int.toNat i1)) + (1 : Int))) (i1 + (1 : Int)) o4 ho4) (cwV 1 hts gX2_glueBehind_X2_wrapped rfl rfl rfl hv_X2_wrapped ⟨Nat.le_of_ble_eq_true rfl, Nat.le_of_ble_eq_true rfl⟩) (zpreV hK (hP.sub [0, 1] rfl) 2 0 rfl rfl) rfl hl.1 rfl (Nat.le_of_ble_eq_true rfl) dX2_glueBehind_39 ⟨Nat.zero_le _, Nat.zero_le _⟩ ?_
      refine lv_dup2_11 hx hb dX2_glueBehind_42 rfl rfl ?_
      obtain ⟨n5, hg⟩ := Go_n hg
      refine zv_iald hx hb hK hP 1 1 rfl rfl (by decide) n5 dX2_glueBehind_43 ?_
      refine zv_iconst hx hb dX2_glueBehind_44 ?_
      refine zv_iadd hx hb dX2_glueBehind_45 ?_
      refine zv_iast hx hb hK hP hD hS 1 1 rfl rfl (by decide) n5 dX2_glueBehind_46 (fun H locs hP hD hS => ?_)
      have hP : va_P D vwCl ([((t 0), .inr (2, [.ref (t 1), .int (zi t_size)])), ((t 1), .inl (κ 1, 10, .inl (zc (zset (zset t_numbers (Int.toNat i1) ((zget t_numbers (Int.toNat i1)) + (1 : Int))) (Int.toNat o4) ((zget (zset t_numbers (Int.toNat i1) ((zget t_numbers (Int.toNat i1)) + (1 : Int))) (Int.toNat o4)) + (1 : Int))))))]) H := hP
      have hD : va_D A ([((t 0), .inr (2, [.ref (t 1), .int (zi t_size)])), ((t 1), .inl (κ 1, 10, .inl (zc (zset (zset t_numbers (Int.toNat i1) ((zget t_numbers (Int.toNat i1)) + (1 : Int))) (Int.toNat o4) ((zget (zset t_numbers (Int.toNat i1) ((zget t_numbers (Int.toNat i1)) + (1 : Int))) (Int.toNat o4)) + (1 : Int))))))]) := hD
      refine lv_aload_n hx hb dX2_glueBehind_47 rfl (lv_at hl 0 rfl) ?_
      refine va_get (D := D) (ci := 2) (v := .int (zi t_size)) (C := RX2) (T := TX2) (N := 2) hx hb hts zi_X2_glueBehind_X2 hown hK hP 0 rfl rfl 1 (by decide) (hts (.fieldLink RX2 15 "DiamondRows$Endless" "size" "I") zl_X2_glueBehind_15) (fun _ h9 => h9) rfl dX2_glueBehind_48 ?_
      refine lv_istore_n (lv' := [(2, .int (zi t_size)), (0, .ref (t 0)), (1, .int (zi i1))]) hx hb dX2_glueBehind_51 rfl hl (by decide) rfl (fun ls hl => ?_)
      exact (Go_s hg) H locs ls hP hD hS (lv_sub hl [1, 2, 0] rfl)
    · have hg := Go_t c6 hg
      refine lv_aload_n hx hb dX2_glueBehind_16 rfl (lv_at hl 0 rfl) ?_
      refine va_get (D := D) (ci := 2) (v := .int (zi t_size)) (C := RX2) (T := TX2) (N := 2) hx hb hts zi_X2_glueBehind_X2 hown hK hP 0 rfl rfl 1 (by decide) (hts (.fieldLink RX2 15 "DiamondRows$Endless" "size" "I") zl_X2_glueBehind_15) (fun _ h9 => h9) rfl dX2_glueBehind_17 ?_
      exact (Go_s hg) _ _ _ _ hP hD hS dX2_glueBehind_20
set_option maxHeartbeats 4000000 in
set_option maxRecDepth 100000 in
theorem zs_X2_glueBehind_52 {p : Program} {l : Launch} {e : Env} {s : State} {m : MethodId} {args : Array Value} {below : List Frame} {meth : Method} {c : Code} {Q : State → Prop} {D : va_G} {κ : Nat → ClassId} {A : Nat → Prop} {H0 : Heap} (t : Nat → Nat)  (hx : p.tables.exec = Jvm.exec) (hb : c.code = cX2_glueBehind) (hml : c.maxLocals = 3) (hown : s.vm.findClass RX2 = some m.cls) (hts : ∀ w ∈ wsX2_glueBehind, w.before args s = true) (hK : va_K D vwCl (zTY κ) s) (hA : ∀ q : Nat, H0.size ≤ q → A q) (i1 : Int) (i2 : Int) (t_size : Int) (t_numbers : Nat) (hg : Go (GoE (zA_X2_glueBehind p l e s m args below meth c Q D κ A H0 t ) (zQ_X2_glueBehind p l e s m args below meth c Q D κ A H0 t )) (zg_X2_glueBehind_52  i1 i2 t_size t_numbers)) : zA_X2_glueBehind_52 p l e s m args below meth c Q D κ A H0 t  i1 i2 t_size t_numbers := by
  intro H locs ls hP hD hS hl
  unfold zg_X2_glueBehind_52 at hg
  refine lv_iload_n hx hb dX2_glueBehind_52 rfl (lv_at hl 2 rfl) ?_
  refine lv_iload_n hx hb dX2_glueBehind_53 rfl (lv_at hl 1 rfl) ?_
  refine zv_iconst hx hb dX2_glueBehind_54 ?_
  refine zv_iadd hx hb dX2_glueBehind_55 ?_
  obtain ⟨b8, hg⟩ := Go_n hg
  obtain ⟨b9, hg⟩ := Go_n hg
  refine zv_icmp_le (tgt := 79) hx hb dX2_glueBehind_56 (by decide) b8 b9 (fun c13 => ?_) (fun c13 => ?_)
  · have hg := Go_t c13 hg
    refine lv_aload_n hx hb dX2_glueBehind_79 rfl (lv_at hl 0 rfl) ?_
    refine va_get (D := D) (ci := 2) (v := .ref (t 1)) (C := RX2) (T := TX2) (N := 2) hx hb hts zi_X2_glueBehind_X2 hown hK hP 0 rfl rfl 0 (by decide) (hts (.fieldLink RX2 11 "DiamondRows$Endless" "numbers" "[I") zl_X2_glueBehind_11) (fun _ h9 => h9) rfl dX2_glueBehind_80 ?_
    refine lv_iload_n hx hb dX2_glueBehind_83 rfl (lv_at hl 1 rfl) ?_
    refine zv_iconst hx hb dX2_glueBehind_84 ?_
    refine zv_iadd hx hb dX2_glueBehind_85 ?_
    refine zv_iconst hx hb dX2_glueBehind_86 ?_
    obtain ⟨n10, hg⟩ := Go_n hg
    refine zv_iast hx hb hK hP hD hS 1 1 rfl rfl (by decide) n10 dX2_glueBehind_87 (fun H locs hP hD hS => ?_)
    have hP : va_P D vwCl ([((t 0), .inr (2, [.ref (t 1), .int (zi t_size)])), ((t 1), .inl (κ 1, 10, .inl (zc (zset t_numbers (Int.toNat (i1 + (1 : Int))) (1 : Int)))))]) H := hP
    have hD : va_D A ([((t 0), .inr (2, [.ref (t 1), .int (zi t_size)])), ((t 1), .inl (κ 1, 10, .inl (zc (zset t_numbers (Int.toNat (i1 + (1 : Int))) (1 : Int)))))]) := hD
    refine lv_aload_n hx hb dX2_glueBehind_88 rfl (lv_at hl 0 rfl) ?_
    refine lv_dup hx hb dX2_glueBehind_89 rfl ?_
    refine va_get (D := D) (ci := 2) (v := .int (zi t_size)) (C := RX2) (T := TX2) (N := 2) hx hb hts zi_X2_glueBehind_X2 hown hK hP 0 rfl rfl 1 (by decide) (hts (.fieldLink RX2 15 "DiamondRows$Endless" "size" "I") zl_X2_glueBehind_15) (fun _ h9 => h9) rfl dX2_glueBehind_90 ?_
    refine zv_iconst hx hb dX2_glueBehind_93 ?_
    refine zv_iadd hx hb dX2_glueBehind_94 ?_
    refine va_put (D := D) (ci := 2) (v := .int (zi (t_size + (1 : Int)))) (ty := .int) (C := RX2) (T := TX2) (N := 2) hx hb hts zi_X2_glueBehind_X2 tyX2 tyX2_ok nmX2 hown hK hP hD hS 0 rfl rfl 1 (by decide) (hts (.fieldLink RX2 15 "DiamondRows$Endless" "size" "I") zl_X2_glueBehind_15) (fun _ h9 => h9) rfl (by decide +kernel) rfl rfl (Nat.le_of_ble_eq_true rfl) dX2_glueBehind_95 (fun H locs hP hD hS => ?_)
    have hP : va_P D vwCl ([((t 0), .inr (2, [.ref (t 1), .int (zi (t_size + (1 : Int)))])), ((t 1), .inl (κ 1, 10, .inl (zc (zset t_numbers (Int.toNat (i1 + (1 : Int))) (1 : Int)))))]) H := hP
    have hD : va_D A ([((t 0), .inr (2, [.ref (t 1), .int (zi (t_size + (1 : Int)))])), ((t 1), .inl (κ 1, 10, .inl (zc (zset t_numbers (Int.toNat (i1 + (1 : Int))) (1 : Int)))))]) := hD
    refine lv_aload_n hx hb dX2_glueBehind_98 rfl (lv_at hl 0 rfl) ?_
    refine va_get (D := D) (ci := 2) (v := .int (zi (t_size + (1 : Int)))) (C := RX2) (T := TX2) (N := 2) hx hb hts zi_X2_glueBehind_X2 hown hK hP 0 rfl rfl 1 (by decide) (hts (.fieldLink RX2 15 "DiamondRows$Endless" "size" "I") zl_X2_glueBehind_15) (fun _ h9 => h9) rfl dX2_glueBehind_99 ?_
    exact (Go_s hg) _ _ _ _ hP hD hS dX2_glueBehind_102
  · have hg := Go_f c13 hg
    refine lv_aload_n hx hb dX2_glueBehind_59 rfl (lv_at hl 0 rfl) ?_
    refine va_get (D := D) (ci := 2) (v := .ref (t 1)) (C := RX2) (T := TX2) (N := 2) hx hb hts zi_X2_glueBehind_X2 hown hK hP 0 rfl rfl 0 (by decide) (hts (.fieldLink RX2 11 "DiamondRows$Endless" "numbers" "[I") zl_X2_glueBehind_11) (fun _ h9 => h9) rfl dX2_glueBehind_60 ?_
    refine lv_iload_n hx hb dX2_glueBehind_63 rfl (lv_at hl 2 rfl) ?_
    refine lv_aload_n hx hb dX2_glueBehind_64 rfl (lv_at hl 0 rfl) ?_
    refine va_get (D := D) (ci := 2) (v := .ref (t 1)) (C := RX2) (T := TX2) (N := 2) hx hb hts zi_X2_glueBehind_X2 hown hK hP 0 rfl rfl 0 (by decide) (hts (.fieldLink RX2 11 "DiamondRows$Endless" "numbers" "[I") zl_X2_glueBehind_11) (fun _ h9 => h9) rfl dX2_glueBehind_65 ?_
    refine lv_iload_n hx hb dX2_glueBehind_68 rfl (lv_at hl 2 rfl) ?_
    refine zv_iconst hx hb dX2_glueBehind_69 ?_
    refine zv_isub hx hb dX2_glueBehind_70 ?_
    obtain ⟨n11, hg⟩ := Go_n hg
    refine zv_iald hx hb hK hP 1 1 rfl rfl (by decide) n11 dX2_glueBehind_71 ?_
    obtain ⟨n12, hg⟩ := Go_n hg
    refine zv_iast hx hb hK hP hD hS 1 1 rfl rfl (by decide) n12 dX2_glueBehind_72 (fun H locs hP hD hS => ?_)
    have hP : va_P D vwCl ([((t 0), .inr (2, [.ref (t 1), .int (zi t_size)])), ((t 1), .inl (κ 1, 10, .inl (zc (zset t_numbers (Int.toNat i2) (zget t_numbers (Int.toNat (i2 - (1 : Int))))))))]) H := hP
    have hD : va_D A ([((t 0), .inr (2, [.ref (t 1), .int (zi t_size)])), ((t 1), .inl (κ 1, 10, .inl (zc (zset t_numbers (Int.toNat i2) (zget t_numbers (Int.toNat (i2 - (1 : Int))))))))]) := hD
    refine lv_iinc (v := zi (i2 + (-1 : Int))) (lv' := [(2, .int (zi (i2 + (-1 : Int)))), (0, .ref (t 0)), (1, .int (zi i1))]) hx hb dX2_glueBehind_73 hl (k := 2) rfl (zi_add i2 _) (by decide) rfl (fun ls hl => ?_)
    refine lv_goto (tgt := 52) hx hb dX2_glueBehind_76 (by decide) ?_
    exact (Go_s hg) H locs ls hP hD hS (lv_sub hl [1, 2, 0] rfl)
set_option maxHeartbeats 4000000 in
set_option maxRecDepth 100000 in
theorem zw_X2_glueBehind {p : Program} {l : Launch} {e : Env} {s : State} {m : MethodId} {args : Array Value} {below : List Frame} {meth : Method} {c : Code} {Q : State → Prop} {D : va_G} {κ : Nat → ClassId} {A : Nat → Prop} {H0 : Heap} (t : Nat → Nat)  (t_size : Int) (t_numbers : Nat) (i1 : Int) (hx : p.tables.exec = Jvm.exec) (hb : c.code = cX2_glueBehind) (hml : c.maxLocals = 3) (hown : s.vm.findClass RX2 = some m.cls) (hts : ∀ w ∈ wsX2_glueBehind, w.before args s = true) (hK : va_K D vwCl (zTY κ) s) (hA : ∀ q : Nat, H0.size ≤ q → A q) (out : Int × Int × Nat) (h : zf_X2_glueBehind t_size t_numbers i1 = some out) (hq : zQ_X2_glueBehind p l e s m args below meth c Q D κ A H0 t  out) : zA_X2_glueBehind_0 p l e s m args below meth c Q D κ A H0 t  i1 0 t_size t_numbers := by
  have hst : ∀ st : zS_X2_glueBehind, Go (GoE (zA_X2_glueBehind p l e s m args below meth c Q D κ A H0 t ) (zQ_X2_glueBehind p l e s m args below meth c Q D κ A H0 t )) (zg_X2_glueBehind  st) → zA_X2_glueBehind p l e s m args below meth c Q D κ A H0 t  st := by
    intro st hg
    obtain ⟨lab, i1, i2, t_size, t_numbers⟩ := st
    by_cases h0 : lab = 0
    · subst h0
      exact zs_X2_glueBehind_0 t  hx hb hml hown hts hK hA i1 i2 t_size t_numbers hg
    by_cases h52 : lab = 52
    · subst h52
      exact zs_X2_glueBehind_52 t  hx hb hml hown hts hK hA i1 i2 t_size t_numbers hg
    have hz : zg_X2_glueBehind  (lab, i1, i2, t_size, t_numbers) = none := by simp [zg_X2_glueBehind, h0, h52]
    rw [hz] at hg
    obtain ⟨a, h1, -⟩ := hg
    cases h1
  exact jwalk (At := zA_X2_glueBehind p l e s m args below meth c Q D κ A H0 t ) (Ret := zQ_X2_glueBehind p l e s m args below meth c Q D κ A H0 t ) hst _ _ _ h hq
set_option maxHeartbeats 4000000 in
set_option maxRecDepth 100000 in
theorem zc_X2_glueBehind (l : Launch) (D : va_G) (κ : Nat → ClassId) (t : Nat → Nat) (sz : Nat) (t_size : Int) (t_numbers : Nat) (i1 : Int) (out : Int × Int × Nat) (h : zf_X2_glueBehind t_size t_numbers i1 = some out) : Met l yX2_glueBehind wsX2_glueBehind zr_X2_glueBehind (va_Pc [.ref (t 0), .int (zi i1)] (zW D κ ([((t 0), .inr (2, [.ref (t 1), .int (zi t_size)])), ((t 1), .inl (κ 1, 10, .inl (zc t_numbers)))]) sz)) (va_Qi (fun r (_ : Unit) => r = zi (out.1)) (fun _ => zB D κ (va_A ([((t 0), .inr (2, [.ref (t 1), .int (zi t_size)])), ((t 1), .inl (κ 1, 10, .inl (zc t_numbers)))]) sz) ([((t 0), .inr (2, [.ref (t 1), .int (zi (out.2.1))])), ((t 1), .inl (κ 1, 10, .inl (zc (out.2.2))))])) (va_A ([((t 0), .inr (2, [.ref (t 1), .int (zi t_size)])), ((t 1), .inl (κ 1, 10, .inl (zc t_numbers)))]) sz)) 0 0 (va_A ([((t 0), .inr (2, [.ref (t 1), .int (zi t_size)])), ((t 1), .inl (κ 1, 10, .inl (zc t_numbers)))]) sz) := by
  refine Met.ofW (cc := cX2_glueBehind) (maxL := 3) (ret := (some .int)) (by decide +kernel) rfl ?_
  intro p e s m args below meth c s₁ B hml hv
  obtain ⟨rfl, hsz, hP, hK, hD0⟩ := hv
  have hx := B.exec
  have hb := B.bytes
  have hr := B.returns
  have hts := atoms_spec (ws := wsX2_glueBehind) B.pre
  have hown : s.vm.findClass RX2 = some m.cls := findClass_of_methodNamed B.named
  have hlocks := B.notSynchronized
  subst hsz
  have hD := hD0.self (sz := s.heap.size)
  generalize hAe : va_A ([((t 0), .inr (2, [.ref (t 1), .int (zi t_size)])), ((t 1), .inl (κ 1, 10, .inl (zc t_numbers)))]) s.heap.size = A at hD ⊢
  have hA : ∀ q : Nat, s.heap.size ≤ q → A q := fun q h => by rw [← hAe]; exact Or.inr h
  have hS : va_S A s.heap s.heap [] := va_S.rf
  have hl := lv_entry ([.ref (t 0), .int (zi i1)]) (n := 3) (Nat.le_of_ble_eq_true rfl)
  rw [lg_entry_eq]
  generalize (lg_sl ([.ref (t 0), .int (zi i1)]) ++ List.replicate (3 - (lg_sl ([.ref (t 0), .int (zi i1)])).length) Slot.unset).toArray = ls at hl ⊢
  have hl : lv_has ls 3 [(0, .ref (t 0)), (1, .int (zi i1))] := hl
  refine (zw_X2_glueBehind t  t_size t_numbers i1 hx hb hml hown hts hK hA out h ?_) s.heap [] ls hP hD hS (lv_sub hl [0, 1] rfl)
  exact fun H locs ls pc hP hD hS hd => W.iret hx hb hr (fun t ht hW => ⟨⟨_, (), rfl, rfl, by rw [ht]; exact hP, va_K.moved hW.alike hK, hD⟩, hS.F ht⟩) hS.2.2 hd
/-! DiamondRows$Endless.canLose(I)Z -/
abbrev zr_X2_canLose : Room := { frames := 3, cells := 0, slots := 0, locals := 64 }
noncomputable def zf_X2_canLose  (t_size : Int) (t_numbers : Nat) (i1 : Int) : Option (Bool) :=
  if zout t_size then none else
  if t_size < (3 : Int) then
  some (false)
  else
  Option.bind (zf_X2_at t_size t_numbers i1) (fun o2 =>
  if zout o2 then none else
  if o2 = (1 : Int) then
  Option.bind (zf_X2_at t_size t_numbers (i1 - (1 : Int))) (fun o4 =>
  if zout o4 then none else
  if o4 ≤ (1 : Int) then
  some (false)
  else
  Option.bind (zf_X2_at t_size t_numbers (i1 + (1 : Int))) (fun o6 =>
  if zout o6 then none else
  if o6 ≤ (1 : Int) then
  some (false)
  else
  some (true)))
  else
  some (false))
theorem zi_X2_canLose_X2 : ∀ w ∈ u_ws RX2 TX2 2, w ∈ wsX2_canLose := fun w h => (List.mem_cons_of_mem _ (List.mem_append_right _ (List.mem_append_left _ h)))
theorem zl_X2_canLose_15 : Cond.fieldLink RX2 15 "DiamondRows$Endless" "size" "I" ∈ wsX2_canLose := (List.mem_cons_of_mem _ (List.mem_append_left _ (List.mem_of_getElem? (i := 0) rfl)))
def zQ_X2_canLose (p : Program) (l : Launch) (e : Env) (s : State) (m : MethodId) (args : Array Value) (below : List Frame) (meth : Method) (c : Code) (Q : State → Prop) (H : Heap) (locs : List Loc)  (o : Bool) : Prop := ∀ (ls : Array Slot) (pc : Nat), decode cX2_canLose pc = .ok (.ireturn, 1) → W p l e zr_X2_canLose s m args below meth c H locs 0 0 Q (F0 m pc ls [.int (zi (bI o))])
set_option maxHeartbeats 4000000 in
set_option maxRecDepth 100000 in
theorem zs_X2_canLose {p : Program} {l : Launch} {e : Env} {s : State} {m : MethodId} {args : Array Value} {below : List Frame} {meth : Method} {c : Code} {Q : State → Prop} {D : va_G} {κ : Nat → ClassId} {H : Heap} {locs : List Loc} (t : Nat → Nat) (t_size : Int) (t_numbers : Nat) (i1 : Int) (hx : p.tables.exec = Jvm.exec) (hb : c.code = cX2_canLose) (hml : c.maxLocals = 2) (hown : s.vm.findClass RX2 = some m.cls) (hts : ∀ w ∈ wsX2_canLose, w.before args s = true) (hK : va_K D vwCl (zTY κ) s) (hP : va_P D vwCl ([((t 0), .inr (2, [.ref (t 1), .int (zi t_size)])), ((t 1), .inl (κ 1, 10, .inl (zc t_numbers)))]) H) (ls : Array Slot) (hl : lv_has ls 2 [(0, .ref (t 0)), (1, .int (zi i1))]) (hg : Go (zQ_X2_canLose p l e s m args below meth c Q H locs) (zf_X2_canLose t_size t_numbers i1)) : W p l e zr_X2_canLose s m args below meth c H locs 0 0 Q (F0 m 0 ls []) := by
  unfold zf_X2_canLose at hg
  refine lv_aload_n hx hb dX2_canLose_0 rfl (lv_at hl 0 rfl) ?_
  refine va_get (D := D) (ci := 2) (v := .int (zi t_size)) (C := RX2) (T := TX2) (N := 2) hx hb hts zi_X2_canLose_X2 hown hK hP 0 rfl rfl 1 (by decide) (hts (.fieldLink RX2 15 "DiamondRows$Endless" "size" "I") zl_X2_canLose_15) (fun _ h9 => h9) rfl dX2_canLose_1 ?_
  refine zv_iconst hx hb dX2_canLose_4 ?_
  obtain ⟨b1, hg⟩ := Go_n hg
  refine zv_icmp_lt (tgt := 43) hx hb dX2_canLose_5 (by decide) b1 (by decide) (fun c11 => ?_) (fun c11 => ?_)
  · have hg := Go_t c11 hg
    refine zv_iconst hx hb dX2_canLose_43 ?_
    exact (Go_s hg) _ _ dX2_canLose_44
  · have hg := Go_f c11 hg
    refine lv_aload_n hx hb dX2_canLose_8 rfl (lv_at hl 0 rfl) ?_
    refine lv_iload_n hx hb dX2_canLose_9 rfl (lv_at hl 1 rfl) ?_
    obtain ⟨o2, ho2, hg⟩ := Go_b hg
    refine zc_vi (rest := []) ⟨hx, hb, hml, hown, hts⟩ (zc_X2_at l D κ t t_size t_numbers i1 o2 ho2) (cwV 1 hts gX2_canLose_X2_at rfl rfl rfl hv_X2_at ⟨Nat.le_of_ble_eq_true rfl, Nat.le_of_ble_eq_true rfl⟩) (zpreV hK (hP.sub [0, 1] rfl) 2 0 rfl rfl) rfl hl.1 rfl (Nat.le_of_ble_eq_true rfl) dX2_canLose_10 ⟨Nat.zero_le _, Nat.zero_le _⟩ ?_
    refine zv_iconst hx hb dX2_canLose_13 ?_
    obtain ⟨b3, hg⟩ := Go_n hg
    refine zv_icmp_ne (tgt := 43) hx hb dX2_canLose_14 (by decide) b3 (by decide) (fun c10 => ?_) (fun c10 => ?_)
    · have hg := Go_f c10 hg
      refine zv_iconst hx hb dX2_canLose_43 ?_
      exact (Go_s hg) _ _ dX2_canLose_44
    · have hg := Go_t c10 hg
      refine lv_aload_n hx hb dX2_canLose_17 rfl (lv_at hl 0 rfl) ?_
      refine lv_iload_n hx hb dX2_canLose_18 rfl (lv_at hl 1 rfl) ?_
      refine zv_iconst hx hb dX2_canLose_19 ?_
      refine zv_isub hx hb dX2_canLose_20 ?_
      obtain ⟨o4, ho4, hg⟩ := Go_b hg
      refine zc_vi (rest := []) ⟨hx, hb, hml, hown, hts⟩ (zc_X2_at l D κ t t_size t_numbers (i1 - (1 : Int)) o4 ho4) (cwV 1 hts gX2_canLose_X2_at rfl rfl rfl hv_X2_at ⟨Nat.le_of_ble_eq_true rfl, Nat.le_of_ble_eq_true rfl⟩) (zpreV hK (hP.sub [0, 1] rfl) 2 0 rfl rfl) rfl hl.1 rfl (Nat.le_of_ble_eq_true rfl) dX2_canLose_21 ⟨Nat.zero_le _, Nat.zero_le _⟩ ?_
      refine zv_iconst hx hb dX2_canLose_24 ?_
      obtain ⟨b5, hg⟩ := Go_n hg
      refine zv_icmp_le (tgt := 43) hx hb dX2_canLose_25 (by decide) b5 (by decide) (fun c9 => ?_) (fun c9 => ?_)
      · have hg := Go_t c9 hg
        refine zv_iconst hx hb dX2_canLose_43 ?_
        exact (Go_s hg) _ _ dX2_canLose_44
      · have hg := Go_f c9 hg
        refine lv_aload_n hx hb dX2_canLose_28 rfl (lv_at hl 0 rfl) ?_
        refine lv_iload_n hx hb dX2_canLose_29 rfl (lv_at hl 1 rfl) ?_
        refine zv_iconst hx hb dX2_canLose_30 ?_
        refine zv_iadd hx hb dX2_canLose_31 ?_
        obtain ⟨o6, ho6, hg⟩ := Go_b hg
        refine zc_vi (rest := []) ⟨hx, hb, hml, hown, hts⟩ (zc_X2_at l D κ t t_size t_numbers (i1 + (1 : Int)) o6 ho6) (cwV 1 hts gX2_canLose_X2_at rfl rfl rfl hv_X2_at ⟨Nat.le_of_ble_eq_true rfl, Nat.le_of_ble_eq_true rfl⟩) (zpreV hK (hP.sub [0, 1] rfl) 2 0 rfl rfl) rfl hl.1 rfl (Nat.le_of_ble_eq_true rfl) dX2_canLose_32 ⟨Nat.zero_le _, Nat.zero_le _⟩ ?_
        refine zv_iconst hx hb dX2_canLose_35 ?_
        obtain ⟨b7, hg⟩ := Go_n hg
        refine zv_icmp_le (tgt := 43) hx hb dX2_canLose_36 (by decide) b7 (by decide) (fun c8 => ?_) (fun c8 => ?_)
        · have hg := Go_t c8 hg
          refine zv_iconst hx hb dX2_canLose_43 ?_
          exact (Go_s hg) _ _ dX2_canLose_44
        · have hg := Go_f c8 hg
          refine zv_iconst hx hb dX2_canLose_39 ?_
          refine lv_goto (tgt := 44) hx hb dX2_canLose_40 (by decide) ?_
          exact (Go_s hg) _ _ dX2_canLose_44
set_option maxHeartbeats 4000000 in
set_option maxRecDepth 100000 in
theorem zc_X2_canLose (l : Launch) (D : va_G) (κ : Nat → ClassId) (t : Nat → Nat) (t_size : Int) (t_numbers : Nat) (i1 : Int) (out : Bool) (h : zf_X2_canLose t_size t_numbers i1 = some out) : Met l yX2_canLose wsX2_canLose zr_X2_canLose (va_Pc [.ref (t 0), .int (zi i1)] (zR D κ ([((t 0), .inr (2, [.ref (t 1), .int (zi t_size)])), ((t 1), .inl (κ 1, 10, .inl (zc t_numbers)))]))) (vp_Si (fun x => x = zi (bI out))) 0 0 (fun _ => False) := by
  refine Met.ofW (cc := cX2_canLose) (maxL := 2) (ret := (some .boolean)) (by decide +kernel) rfl ?_
  intro p e s m args below meth c s₁ B hml hv
  obtain ⟨rfl, hP, hK⟩ := hv
  have hx := B.exec
  have hb := B.bytes
  have hr := B.returns
  have hts := atoms_spec (ws := wsX2_canLose) B.pre
  have hown : s.vm.findClass RX2 = some m.cls := findClass_of_methodNamed B.named
  have hlocks := B.notSynchronized
  have hl := lv_entry ([.ref (t 0), .int (zi i1)]) (n := 2) (Nat.le_of_ble_eq_true rfl)
  rw [lg_entry_eq]
  generalize (lg_sl ([.ref (t 0), .int (zi i1)]) ++ List.replicate (2 - (lg_sl ([.ref (t 0), .int (zi i1)])).length) Slot.unset).toArray = ls at hl ⊢
  have hl : lv_has ls 2 [(0, .ref (t 0)), (1, .int (zi i1))] := hl
  refine zs_X2_canLose t t_size t_numbers i1 hx hb hml hown hts hK hP ls hl ⟨out, h, ?_⟩
  exact fun ls pc hd => W.zret hx hb hr (bI_nar _) (fun t ht hW => ⟨_, rfl, rfl, ht⟩) (fun _ h => by cases h) hd
/-! DiamondRows$Endless.lose(I)I -/
abbrev zr_X2_lose : Room := { frames := 4, cells := 0, slots := 0, locals := 85 }
abbrev zS_X2_lose : Type := Nat × Int × Int × Int × Nat
abbrev zO_X2_lose : Type := Int × Int × Nat
noncomputable def zg_X2_lose_0   (i1 : Int) (i2 : Int) (t_size : Int) (t_numbers : Nat) : Option (zO_X2_lose ⊕ zS_X2_lose) :=
  Option.bind (zf_X2_hasPlace t_size i1) (fun o1 =>
  if o1 = false then
  some (.inl (t_size, t_size, t_numbers))
  else
  Option.bind (zf_X2_canLose t_size t_numbers i1) (fun o2 =>
  if o2 = false then
  some (.inl (t_size, t_size, t_numbers))
  else
  Option.bind (zf_X2_wrapped t_size (i1 - (1 : Int))) (fun o3 =>
  if o3 < 0 ∨ 10 ≤ o3 then none else
  Option.bind (zf_X2_wrapped t_size (i1 + (1 : Int))) (fun o5 =>
  if o5 < 0 ∨ 10 ≤ o5 then none else
  some (.inr (55, i1, i1, t_size, (zset (zset t_numbers (Int.toNat o3) ((zget t_numbers (Int.toNat o3)) - (1 : Int))) (Int.toNat o5) ((zget (zset t_numbers (Int.toNat o3) ((zget t_numbers (Int.toNat o3)) - (1 : Int))) (Int.toNat o5)) - (1 : Int)))))))))
noncomputable def zg_X2_lose_55   (i1 : Int) (i2 : Int) (t_size : Int) (t_numbers : Nat) : Option (zO_X2_lose ⊕ zS_X2_lose) :=
  if zout (i2 + (1 : Int)) then none else
  if zout t_size then none else
  if t_size ≤ (i2 + (1 : Int)) then
  some (.inl ((t_size - (1 : Int)), (t_size - (1 : Int)), t_numbers))
  else
  if (i2 + (1 : Int)) < 0 ∨ 10 ≤ (i2 + (1 : Int)) then none else
  if i2 < 0 ∨ 10 ≤ i2 then none else
  some (.inr (55, 0, (i2 + (1 : Int)), t_size, (zset t_numbers (Int.toNat i2) (zget t_numbers (Int.toNat (i2 + (1 : Int)))))))
noncomputable def zg_X2_lose   (st : zS_X2_lose) : Option (zO_X2_lose ⊕ zS_X2_lose) := match st with
  | (lab, i1, i2, t_size, t_numbers) => if lab = 0 then zg_X2_lose_0  i1 i2 t_size t_numbers else if lab = 55 then zg_X2_lose_55  i1 i2 t_size t_numbers else none
noncomputable def zf_X2_lose  (t_size : Int) (t_numbers : Nat) (i1 : Int) : Option (Int × Int × Nat) := jrun (zg_X2_lose ) jfuel (0, i1, 0, t_size, t_numbers)
theorem zi_X2_lose_X2 : ∀ w ∈ u_ws RX2 TX2 2, w ∈ wsX2_lose := fun w h => (List.mem_cons_of_mem _ (List.mem_append_right _ (List.mem_append_left _ h)))
theorem zl_X2_lose_11 : Cond.fieldLink RX2 11 "DiamondRows$Endless" "numbers" "[I" ∈ wsX2_lose := (List.mem_cons_of_mem _ (List.mem_append_left _ (List.mem_of_getElem? (i := 1) rfl)))
theorem zl_X2_lose_15 : Cond.fieldLink RX2 15 "DiamondRows$Endless" "size" "I" ∈ wsX2_lose := (List.mem_cons_of_mem _ (List.mem_append_left _ (List.mem_of_getElem? (i := 0) rfl)))
def zQ_X2_lose (p : Program) (l : Launch) (e : Env) (s : State) (m : MethodId) (args : Array Value) (below : List Frame) (meth : Method) (c : Code) (Q : State → Prop) (D : va_G) (κ : Nat → ClassId) (A : Nat → Prop) (H0 : Heap) (t : Nat → Nat)  (o : Int × Int × Nat) : Prop := ∀ (H : Heap) (locs : List Loc) (ls : Array Slot) (pc : Nat), va_P D vwCl ([((t 0), .inr (2, [.ref (t 1), .int (zi (o.2.1))])), ((t 1), .inl (κ 1, 10, .inl (zc (o.2.2))))]) H → va_D A ([((t 0), .inr (2, [.ref (t 1), .int (zi (o.2.1))])), ((t 1), .inl (κ 1, 10, .inl (zc (o.2.2))))]) → va_S A H0 H locs → decode cX2_lose pc = .ok (.ireturn, 1) → W p l e zr_X2_lose s m args below meth c H locs 0 0 Q (F0 m pc ls [.int (zi (o.1))])
def zA_X2_lose_0 (p : Program) (l : Launch) (e : Env) (s : State) (m : MethodId) (args : Array Value) (below : List Frame) (meth : Method) (c : Code) (Q : State → Prop) (D : va_G) (κ : Nat → ClassId) (A : Nat → Prop) (H0 : Heap) (t : Nat → Nat)  (i1 : Int) (i2 : Int) (t_size : Int) (t_numbers : Nat) : Prop := ∀ (H : Heap) (locs : List Loc) (ls : Array Slot), va_P D vwCl ([((t 0), .inr (2, [.ref (t 1), .int (zi t_size)])), ((t 1), .inl (κ 1, 10, .inl (zc t_numbers)))]) H → va_D A ([((t 0), .inr (2, [.ref (t 1), .int (zi t_size)])), ((t 1), .inl (κ 1, 10, .inl (zc t_numbers)))]) → va_S A H0 H locs → lv_has ls 3 [(0, .ref (t 0)), (1, .int (zi i1))] → W p l e zr_X2_lose s m args below meth c H locs 0 0 Q (F0 m 0 ls [])
def zA_X2_lose_55 (p : Program) (l : Launch) (e : Env) (s : State) (m : MethodId) (args : Array Value) (below : List Frame) (meth : Method) (c : Code) (Q : State → Prop) (D : va_G) (κ : Nat → ClassId) (A : Nat → Prop) (H0 : Heap) (t : Nat → Nat)  (i1 : Int) (i2 : Int) (t_size : Int) (t_numbers : Nat) : Prop := ∀ (H : Heap) (locs : List Loc) (ls : Array Slot), va_P D vwCl ([((t 0), .inr (2, [.ref (t 1), .int (zi t_size)])), ((t 1), .inl (κ 1, 10, .inl (zc t_numbers)))]) H → va_D A ([((t 0), .inr (2, [.ref (t 1), .int (zi t_size)])), ((t 1), .inl (κ 1, 10, .inl (zc t_numbers)))]) → va_S A H0 H locs → lv_has ls 3 [(0, .ref (t 0)), (2, .int (zi i2))] → W p l e zr_X2_lose s m args below meth c H locs 0 0 Q (F0 m 55 ls [])
def zA_X2_lose (p : Program) (l : Launch) (e : Env) (s : State) (m : MethodId) (args : Array Value) (below : List Frame) (meth : Method) (c : Code) (Q : State → Prop) (D : va_G) (κ : Nat → ClassId) (A : Nat → Prop) (H0 : Heap) (t : Nat → Nat)  (st : zS_X2_lose) : Prop := match st with
  | (lab, i1, i2, t_size, t_numbers) => if lab = 0 then zA_X2_lose_0 p l e s m args below meth c Q D κ A H0 t  i1 i2 t_size t_numbers else if lab = 55 then zA_X2_lose_55 p l e s m args below meth c Q D κ A H0 t  i1 i2 t_size t_numbers else True
set_option maxHeartbeats 4000000 in
set_option maxRecDepth 100000 in
theorem zs_X2_lose_0 {p : Program} {l : Launch} {e : Env} {s : State} {m : MethodId} {args : Array Value} {below : List Frame} {meth : Method} {c : Code} {Q : State → Prop} {D : va_G} {κ : Nat → ClassId} {A : Nat → Prop} {H0 : Heap} (t : Nat → Nat)  (hx : p.tables.exec = Jvm.exec) (hb : c.code = cX2_lose) (hml : c.maxLocals = 3) (hown : s.vm.findClass RX2 = some m.cls) (hts : ∀ w ∈ wsX2_lose, w.before args s = true) (hK : va_K D vwCl (zTY κ) s) (hA : ∀ q : Nat, H0.size ≤ q → A q) (i1 : Int) (i2 : Int) (t_size : Int) (t_numbers : Nat) (hg : Go (GoE (zA_X2_lose p l e s m args below meth c Q D κ A H0 t ) (zQ_X2_lose p l e s m args below meth c Q D κ A H0 t )) (zg_X2_lose_0  i1 i2 t_size t_numbers)) : zA_X2_lose_0 p l e s m args below meth c Q D κ A H0 t  i1 i2 t_size t_numbers := by
  intro H locs ls hP hD hS hl
  unfold zg_X2_lose_0 at hg
  refine lv_aload_n hx hb dX2_lose_0 rfl (lv_at hl 0 rfl) ?_
  refine lv_iload_n hx hb dX2_lose_1 rfl (lv_at hl 1 rfl) ?_
  obtain ⟨o1, ho1, hg⟩ := Go_b hg
  refine zc_vi (rest := []) ⟨hx, hb, hml, hown, hts⟩ (zc_X2_hasPlace l D κ t t_size t_numbers i1 o1 ho1) (cwV 1 hts gX2_lose_X2_hasPlace rfl rfl rfl hv_X2_hasPlace ⟨Nat.le_of_ble_eq_true rfl, Nat.le_of_ble_eq_true rfl⟩) (zpreV hK (hP.sub [0, 1] rfl) 2 0 rfl rfl) rfl hl.1 rfl (Nat.le_of_ble_eq_true rfl) dX2_lose_2 ⟨Nat.zero_le _, Nat.zero_le _⟩ ?_
  refine zv_ifb_eq (tgt := 16) hx hb dX2_lose_5 (by decide) (fun c8 => ?_) (fun c8 => ?_)
  · have hg := Go_t c8 hg
    refine lv_aload_n hx hb dX2_lose_16 rfl (lv_at hl 0 rfl) ?_
    refine va_get (D := D) (ci := 2) (v := .int (zi t_size)) (C := RX2) (T := TX2) (N := 2) hx hb hts zi_X2_lose_X2 hown hK hP 0 rfl rfl 1 (by decide) (hts (.fieldLink RX2 15 "DiamondRows$Endless" "size" "I") zl_X2_lose_15) (fun _ h9 => h9) rfl dX2_lose_17 ?_
    exact (Go_s hg) _ _ _ _ hP hD hS dX2_lose_20
  · have hg := Go_f c8 hg
    refine lv_aload_n hx hb dX2_lose_8 rfl (lv_at hl 0 rfl) ?_
    refine lv_iload_n hx hb dX2_lose_9 rfl (lv_at hl 1 rfl) ?_
    obtain ⟨o2, ho2, hg⟩ := Go_b hg
    refine zc_vi (rest := []) ⟨hx, hb, hml, hown, hts⟩ (zc_X2_canLose l D κ t t_size t_numbers i1 o2 ho2) (cwV 1 hts gX2_lose_X2_canLose rfl rfl rfl hv_X2_canLose ⟨Nat.le_of_ble_eq_true rfl, Nat.le_of_ble_eq_true rfl⟩) (zpreV hK (hP.sub [0, 1] rfl) 2 0 rfl rfl) rfl hl.1 rfl (Nat.le_of_ble_eq_true rfl) dX2_lose_10 ⟨Nat.zero_le _, Nat.zero_le _⟩ ?_
    refine zv_ifb_ne (tgt := 21) hx hb dX2_lose_13 (by decide) (fun c7 => ?_) (fun c7 => ?_)
    · have hg := Go_f c7 hg
      refine lv_aload_n hx hb dX2_lose_21 rfl (lv_at hl 0 rfl) ?_
      refine va_get (D := D) (ci := 2) (v := .ref (t 1)) (C := RX2) (T := TX2) (N := 2) hx hb hts zi_X2_lose_X2 hown hK hP 0 rfl rfl 0 (by decide) (hts (.fieldLink RX2 11 "DiamondRows$Endless" "numbers" "[I") zl_X2_lose_11) (fun _ h9 => h9) rfl dX2_lose_22 ?_
      refine lv_aload_n hx hb dX2_lose_25 rfl (lv_at hl 0 rfl) ?_
      refine lv_iload_n hx hb dX2_lose_26 rfl (lv_at hl 1 rfl) ?_
      refine zv_iconst hx hb dX2_lose_27 ?_
      refine zv_isub hx hb dX2_lose_28 ?_
      obtain ⟨o3, ho3, hg⟩ := Go_b hg
      refine zc_vi (rest := [.ref (t 1)]) ⟨hx, hb, hml, hown, hts⟩ (zc_X2_wrapped l D κ t t_size t_numbers (i1 - (1 : Int)) o3 ho3) (cwV 1 hts gX2_lose_X2_wrapped rfl rfl rfl hv_X2_wrapped ⟨Nat.le_of_ble_eq_true rfl, Nat.le_of_ble_eq_true rfl⟩) (zpreV hK (hP.sub [0, 1] rfl) 2 0 rfl rfl) rfl hl.1 rfl (Nat.le_of_ble_eq_true rfl) dX2_lose_29 ⟨Nat.zero_le _, Nat.zero_le _⟩ ?_
      refine lv_dup2_11 hx hb dX2_lose_32 rfl rfl ?_
      obtain ⟨n4, hg⟩ := Go_n hg
      refine zv_iald hx hb hK hP 1 1 rfl rfl (by decide) n4 dX2_lose_33 ?_
      refine zv_iconst hx hb dX2_lose_34 ?_
      refine zv_isub hx hb dX2_lose_35 ?_
      refine zv_iast hx hb hK hP hD hS 1 1 rfl rfl (by decide) n4 dX2_lose_36 (fun H locs hP hD hS => ?_)
      have hP : va_P D vwCl ([((t 0), .inr (2, [.ref (t 1), .int (zi t_size)])), ((t 1), .inl (κ 1, 10, .inl (zc (zset t_numbers (Int.toNat o3) ((zget t_numbers (Int.toNat o3)) - (1 : Int))))))]) H := hP
      have hD : va_D A ([((t 0), .inr (2, [.ref (t 1), .int (zi t_size)])), ((t 1), .inl (κ 1, 10, .inl (zc (zset t_numbers (Int.toNat o3) ((zget t_numbers (Int.toNat o3)) - (1 : Int))))))]) := hD
      refine lv_aload_n hx hb dX2_lose_37 rfl (lv_at hl 0 rfl) ?_
      refine va_get (D := D) (ci := 2) (v := .ref (t 1)) (C := RX2) (T := TX2) (N := 2) hx hb hts zi_X2_lose_X2 hown hK hP 0 rfl rfl 0 (by decide) (hts (.fieldLink RX2 11 "DiamondRows$Endless" "numbers" "[I") zl_X2_lose_11) (fun _ h9 => h9) rfl dX2_lose_38 ?_
      refine lv_aload_n hx hb dX2_lose_41 rfl (lv_at hl 0 rfl) ?_
      refine lv_iload_n hx hb dX2_lose_42 rfl (lv_at hl 1 rfl) ?_
      refine zv_iconst hx hb dX2_lose_43 ?_
      refine zv_iadd hx hb dX2_lose_44 ?_
      obtain ⟨o5, ho5, hg⟩ := Go_b hg
      refine zc_vi (rest := [.ref (t 1)]) ⟨hx, hb, hml, hown, hts⟩ (zc_X2_wrapped l D κ t t_size (zset t_numbers (Int.toNat o3) ((zget t_numbers (Int.toNat o3)) - (1 : Int))) (i1 + (1 : Int)) o5 ho5) (cwV 1 hts gX2_lose_X2_wrapped rfl rfl rfl hv_X2_wrapped ⟨Nat.le_of_ble_eq_true rfl, Nat.le_of_ble_eq_true rfl⟩) (zpreV hK (hP.sub [0, 1] rfl) 2 0 rfl rfl) rfl hl.1 rfl (Nat.le_of_ble_eq_true rfl) dX2_lose_45 ⟨Nat.zero_le _, Nat.zero_le _⟩ ?_
      refine lv_dup2_11 hx hb dX2_lose_48 rfl rfl ?_
      obtain ⟨n6, hg⟩ := Go_n hg
      refine zv_iald hx hb hK hP 1 1 rfl rfl (by decide) n6 dX2_lose_49 ?_
      refine zv_iconst hx hb dX2_lose_50 ?_
      refine zv_isub hx hb dX2_lose_51 ?_
      refine zv_iast hx hb hK hP hD hS 1 1 rfl rfl (by decide) n6 dX2_lose_52 (fun H locs hP hD hS => ?_)
      have hP : va_P D vwCl ([((t 0), .inr (2, [.ref (t 1), .int (zi t_size)])), ((t 1), .inl (κ 1, 10, .inl (zc (zset (zset t_numbers (Int.toNat o3) ((zget t_numbers (Int.toNat o3)) - (1 : Int))) (Int.toNat o5) ((zget (zset t_numbers (Int.toNat o3) ((zget t_numbers (Int.toNat o3)) - (1 : Int))) (Int.toNat o5)) - (1 : Int))))))]) H := hP
      have hD : va_D A ([((t 0), .inr (2, [.ref (t 1), .int (zi t_size)])), ((t 1), .inl (κ 1, 10, .inl (zc (zset (zset t_numbers (Int.toNat o3) ((zget t_numbers (Int.toNat o3)) - (1 : Int))) (Int.toNat o5) ((zget (zset t_numbers (Int.toNat o3) ((zget t_numbers (Int.toNat o3)) - (1 : Int))) (Int.toNat o5)) - (1 : Int))))))]) := hD
      refine lv_iload_n hx hb dX2_lose_53 rfl (lv_at hl 1 rfl) ?_
      refine lv_istore_n (lv' := [(2, .int (zi i1)), (0, .ref (t 0)), (1, .int (zi i1))]) hx hb dX2_lose_54 rfl hl (by decide) rfl (fun ls hl => ?_)
      exact (Go_s hg) H locs ls hP hD hS (lv_sub hl [1, 0] rfl)
    · have hg := Go_t c7 hg
      refine lv_aload_n hx hb dX2_lose_16 rfl (lv_at hl 0 rfl) ?_
      refine va_get (D := D) (ci := 2) (v := .int (zi t_size)) (C := RX2) (T := TX2) (N := 2) hx hb hts zi_X2_lose_X2 hown hK hP 0 rfl rfl 1 (by decide) (hts (.fieldLink RX2 15 "DiamondRows$Endless" "size" "I") zl_X2_lose_15) (fun _ h9 => h9) rfl dX2_lose_17 ?_
      exact (Go_s hg) _ _ _ _ hP hD hS dX2_lose_20
set_option maxHeartbeats 4000000 in
set_option maxRecDepth 100000 in
theorem zs_X2_lose_55 {p : Program} {l : Launch} {e : Env} {s : State} {m : MethodId} {args : Array Value} {below : List Frame} {meth : Method} {c : Code} {Q : State → Prop} {D : va_G} {κ : Nat → ClassId} {A : Nat → Prop} {H0 : Heap} (t : Nat → Nat)  (hx : p.tables.exec = Jvm.exec) (hb : c.code = cX2_lose) (hml : c.maxLocals = 3) (hown : s.vm.findClass RX2 = some m.cls) (hts : ∀ w ∈ wsX2_lose, w.before args s = true) (hK : va_K D vwCl (zTY κ) s) (hA : ∀ q : Nat, H0.size ≤ q → A q) (i1 : Int) (i2 : Int) (t_size : Int) (t_numbers : Nat) (hg : Go (GoE (zA_X2_lose p l e s m args below meth c Q D κ A H0 t ) (zQ_X2_lose p l e s m args below meth c Q D κ A H0 t )) (zg_X2_lose_55  i1 i2 t_size t_numbers)) : zA_X2_lose_55 p l e s m args below meth c Q D κ A H0 t  i1 i2 t_size t_numbers := by
  intro H locs ls hP hD hS hl
  unfold zg_X2_lose_55 at hg
  refine lv_iload_n hx hb dX2_lose_55 rfl (lv_at hl 1 rfl) ?_
  refine zv_iconst hx hb dX2_lose_56 ?_
  refine zv_iadd hx hb dX2_lose_57 ?_
  refine lv_aload_n hx hb dX2_lose_58 rfl (lv_at hl 0 rfl) ?_
  refine va_get (D := D) (ci := 2) (v := .int (zi t_size)) (C := RX2) (T := TX2) (N := 2) hx hb hts zi_X2_lose_X2 hown hK hP 0 rfl rfl 1 (by decide) (hts (.fieldLink RX2 15 "DiamondRows$Endless" "size" "I") zl_X2_lose_15) (fun _ h9 => h9) rfl dX2_lose_59 ?_
  obtain ⟨b9, hg⟩ := Go_n hg
  obtain ⟨b10, hg⟩ := Go_n hg
  refine zv_icmp_ge (tgt := 85) hx hb dX2_lose_62 (by decide) b9 b10 (fun c13 => ?_) (fun c13 => ?_)
  · have hg := Go_t c13 hg
    refine lv_aload_n hx hb dX2_lose_85 rfl (lv_at hl 0 rfl) ?_
    refine lv_dup hx hb dX2_lose_86 rfl ?_
    refine va_get (D := D) (ci := 2) (v := .int (zi t_size)) (C := RX2) (T := TX2) (N := 2) hx hb hts zi_X2_lose_X2 hown hK hP 0 rfl rfl 1 (by decide) (hts (.fieldLink RX2 15 "DiamondRows$Endless" "size" "I") zl_X2_lose_15) (fun _ h9 => h9) rfl dX2_lose_87 ?_
    refine zv_iconst hx hb dX2_lose_90 ?_
    refine zv_isub hx hb dX2_lose_91 ?_
    refine va_put (D := D) (ci := 2) (v := .int (zi (t_size - (1 : Int)))) (ty := .int) (C := RX2) (T := TX2) (N := 2) hx hb hts zi_X2_lose_X2 tyX2 tyX2_ok nmX2 hown hK hP hD hS 0 rfl rfl 1 (by decide) (hts (.fieldLink RX2 15 "DiamondRows$Endless" "size" "I") zl_X2_lose_15) (fun _ h9 => h9) rfl (by decide +kernel) rfl rfl (Nat.le_of_ble_eq_true rfl) dX2_lose_92 (fun H locs hP hD hS => ?_)
    have hP : va_P D vwCl ([((t 0), .inr (2, [.ref (t 1), .int (zi (t_size - (1 : Int)))])), ((t 1), .inl (κ 1, 10, .inl (zc t_numbers)))]) H := hP
    have hD : va_D A ([((t 0), .inr (2, [.ref (t 1), .int (zi (t_size - (1 : Int)))])), ((t 1), .inl (κ 1, 10, .inl (zc t_numbers)))]) := hD
    refine lv_aload_n hx hb dX2_lose_95 rfl (lv_at hl 0 rfl) ?_
    refine va_get (D := D) (ci := 2) (v := .int (zi (t_size - (1 : Int)))) (C := RX2) (T := TX2) (N := 2) hx hb hts zi_X2_lose_X2 hown hK hP 0 rfl rfl 1 (by decide) (hts (.fieldLink RX2 15 "DiamondRows$Endless" "size" "I") zl_X2_lose_15) (fun _ h9 => h9) rfl dX2_lose_96 ?_
    exact (Go_s hg) _ _ _ _ hP hD hS dX2_lose_99
  · have hg := Go_f c13 hg
    refine lv_aload_n hx hb dX2_lose_65 rfl (lv_at hl 0 rfl) ?_
    refine va_get (D := D) (ci := 2) (v := .ref (t 1)) (C := RX2) (T := TX2) (N := 2) hx hb hts zi_X2_lose_X2 hown hK hP 0 rfl rfl 0 (by decide) (hts (.fieldLink RX2 11 "DiamondRows$Endless" "numbers" "[I") zl_X2_lose_11) (fun _ h9 => h9) rfl dX2_lose_66 ?_
    refine lv_iload_n hx hb dX2_lose_69 rfl (lv_at hl 1 rfl) ?_
    refine lv_aload_n hx hb dX2_lose_70 rfl (lv_at hl 0 rfl) ?_
    refine va_get (D := D) (ci := 2) (v := .ref (t 1)) (C := RX2) (T := TX2) (N := 2) hx hb hts zi_X2_lose_X2 hown hK hP 0 rfl rfl 0 (by decide) (hts (.fieldLink RX2 11 "DiamondRows$Endless" "numbers" "[I") zl_X2_lose_11) (fun _ h9 => h9) rfl dX2_lose_71 ?_
    refine lv_iload_n hx hb dX2_lose_74 rfl (lv_at hl 1 rfl) ?_
    refine zv_iconst hx hb dX2_lose_75 ?_
    refine zv_iadd hx hb dX2_lose_76 ?_
    obtain ⟨n11, hg⟩ := Go_n hg
    refine zv_iald hx hb hK hP 1 1 rfl rfl (by decide) n11 dX2_lose_77 ?_
    obtain ⟨n12, hg⟩ := Go_n hg
    refine zv_iast hx hb hK hP hD hS 1 1 rfl rfl (by decide) n12 dX2_lose_78 (fun H locs hP hD hS => ?_)
    have hP : va_P D vwCl ([((t 0), .inr (2, [.ref (t 1), .int (zi t_size)])), ((t 1), .inl (κ 1, 10, .inl (zc (zset t_numbers (Int.toNat i2) (zget t_numbers (Int.toNat (i2 + (1 : Int))))))))]) H := hP
    have hD : va_D A ([((t 0), .inr (2, [.ref (t 1), .int (zi t_size)])), ((t 1), .inl (κ 1, 10, .inl (zc (zset t_numbers (Int.toNat i2) (zget t_numbers (Int.toNat (i2 + (1 : Int))))))))]) := hD
    refine lv_iinc (v := zi (i2 + (1 : Int))) (lv' := [(2, .int (zi (i2 + (1 : Int)))), (0, .ref (t 0))]) hx hb dX2_lose_79 hl (k := 1) rfl (zi_add i2 _) (by decide) rfl (fun ls hl => ?_)
    refine lv_goto (tgt := 55) hx hb dX2_lose_82 (by decide) ?_
    exact (Go_s hg) H locs ls hP hD hS (lv_sub hl [1, 0] rfl)
set_option maxHeartbeats 4000000 in
set_option maxRecDepth 100000 in
theorem zw_X2_lose {p : Program} {l : Launch} {e : Env} {s : State} {m : MethodId} {args : Array Value} {below : List Frame} {meth : Method} {c : Code} {Q : State → Prop} {D : va_G} {κ : Nat → ClassId} {A : Nat → Prop} {H0 : Heap} (t : Nat → Nat)  (t_size : Int) (t_numbers : Nat) (i1 : Int) (hx : p.tables.exec = Jvm.exec) (hb : c.code = cX2_lose) (hml : c.maxLocals = 3) (hown : s.vm.findClass RX2 = some m.cls) (hts : ∀ w ∈ wsX2_lose, w.before args s = true) (hK : va_K D vwCl (zTY κ) s) (hA : ∀ q : Nat, H0.size ≤ q → A q) (out : Int × Int × Nat) (h : zf_X2_lose t_size t_numbers i1 = some out) (hq : zQ_X2_lose p l e s m args below meth c Q D κ A H0 t  out) : zA_X2_lose_0 p l e s m args below meth c Q D κ A H0 t  i1 0 t_size t_numbers := by
  have hst : ∀ st : zS_X2_lose, Go (GoE (zA_X2_lose p l e s m args below meth c Q D κ A H0 t ) (zQ_X2_lose p l e s m args below meth c Q D κ A H0 t )) (zg_X2_lose  st) → zA_X2_lose p l e s m args below meth c Q D κ A H0 t  st := by
    intro st hg
    obtain ⟨lab, i1, i2, t_size, t_numbers⟩ := st
    by_cases h0 : lab = 0
    · subst h0
      exact zs_X2_lose_0 t  hx hb hml hown hts hK hA i1 i2 t_size t_numbers hg
    by_cases h55 : lab = 55
    · subst h55
      exact zs_X2_lose_55 t  hx hb hml hown hts hK hA i1 i2 t_size t_numbers hg
    have hz : zg_X2_lose  (lab, i1, i2, t_size, t_numbers) = none := by simp [zg_X2_lose, h0, h55]
    rw [hz] at hg
    obtain ⟨a, h1, -⟩ := hg
    cases h1
  exact jwalk (At := zA_X2_lose p l e s m args below meth c Q D κ A H0 t ) (Ret := zQ_X2_lose p l e s m args below meth c Q D κ A H0 t ) hst _ _ _ h hq
set_option maxHeartbeats 4000000 in
set_option maxRecDepth 100000 in
theorem zc_X2_lose (l : Launch) (D : va_G) (κ : Nat → ClassId) (t : Nat → Nat) (sz : Nat) (t_size : Int) (t_numbers : Nat) (i1 : Int) (out : Int × Int × Nat) (h : zf_X2_lose t_size t_numbers i1 = some out) : Met l yX2_lose wsX2_lose zr_X2_lose (va_Pc [.ref (t 0), .int (zi i1)] (zW D κ ([((t 0), .inr (2, [.ref (t 1), .int (zi t_size)])), ((t 1), .inl (κ 1, 10, .inl (zc t_numbers)))]) sz)) (va_Qi (fun r (_ : Unit) => r = zi (out.1)) (fun _ => zB D κ (va_A ([((t 0), .inr (2, [.ref (t 1), .int (zi t_size)])), ((t 1), .inl (κ 1, 10, .inl (zc t_numbers)))]) sz) ([((t 0), .inr (2, [.ref (t 1), .int (zi (out.2.1))])), ((t 1), .inl (κ 1, 10, .inl (zc (out.2.2))))])) (va_A ([((t 0), .inr (2, [.ref (t 1), .int (zi t_size)])), ((t 1), .inl (κ 1, 10, .inl (zc t_numbers)))]) sz)) 0 0 (va_A ([((t 0), .inr (2, [.ref (t 1), .int (zi t_size)])), ((t 1), .inl (κ 1, 10, .inl (zc t_numbers)))]) sz) := by
  refine Met.ofW (cc := cX2_lose) (maxL := 3) (ret := (some .int)) (by decide +kernel) rfl ?_
  intro p e s m args below meth c s₁ B hml hv
  obtain ⟨rfl, hsz, hP, hK, hD0⟩ := hv
  have hx := B.exec
  have hb := B.bytes
  have hr := B.returns
  have hts := atoms_spec (ws := wsX2_lose) B.pre
  have hown : s.vm.findClass RX2 = some m.cls := findClass_of_methodNamed B.named
  have hlocks := B.notSynchronized
  subst hsz
  have hD := hD0.self (sz := s.heap.size)
  generalize hAe : va_A ([((t 0), .inr (2, [.ref (t 1), .int (zi t_size)])), ((t 1), .inl (κ 1, 10, .inl (zc t_numbers)))]) s.heap.size = A at hD ⊢
  have hA : ∀ q : Nat, s.heap.size ≤ q → A q := fun q h => by rw [← hAe]; exact Or.inr h
  have hS : va_S A s.heap s.heap [] := va_S.rf
  have hl := lv_entry ([.ref (t 0), .int (zi i1)]) (n := 3) (Nat.le_of_ble_eq_true rfl)
  rw [lg_entry_eq]
  generalize (lg_sl ([.ref (t 0), .int (zi i1)]) ++ List.replicate (3 - (lg_sl ([.ref (t 0), .int (zi i1)])).length) Slot.unset).toArray = ls at hl ⊢
  have hl : lv_has ls 3 [(0, .ref (t 0)), (1, .int (zi i1))] := hl
  refine (zw_X2_lose t  t_size t_numbers i1 hx hb hml hown hts hK hA out h ?_) s.heap [] ls hP hD hS (lv_sub hl [0, 1] rfl)
  exact fun H locs ls pc hP hD hS hd => W.iret hx hb hr (fun t ht hW => ⟨⟨_, (), rfl, rfl, by rw [ht]; exact hP, va_K.moved hW.alike hK, hD⟩, hS.F ht⟩) hS.2.2 hd
/-! DiamondRows$Endless.firstOne()I -/
abbrev zr_X2_firstOne : Room := { frames := 0, cells := 0, slots := 0, locals := 0 }
abbrev zS_X2_firstOne : Type := Nat × Int
abbrev zO_X2_firstOne : Type := Int
noncomputable def zg_X2_firstOne_0  (t_size : Int) (t_numbers : Nat) (i1 : Int) : Option (zO_X2_firstOne ⊕ zS_X2_firstOne) :=
  some (.inr (2, (0 : Int)))
noncomputable def zg_X2_firstOne_2  (t_size : Int) (t_numbers : Nat) (i1 : Int) : Option (zO_X2_firstOne ⊕ zS_X2_firstOne) :=
  if zout i1 then none else
  if zout t_size then none else
  if t_size ≤ i1 then
  some (.inl ((-1 : Int)))
  else
  if i1 < 0 ∨ 10 ≤ i1 then none else
  if (zget t_numbers (Int.toNat i1)) = (1 : Int) then
  some (.inl (i1))
  else
  some (.inr (2, (i1 + (1 : Int))))
noncomputable def zg_X2_firstOne  (t_size : Int) (t_numbers : Nat) (st : zS_X2_firstOne) : Option (zO_X2_firstOne ⊕ zS_X2_firstOne) := match st with
  | (lab, i1) => if lab = 0 then zg_X2_firstOne_0 t_size t_numbers i1 else if lab = 2 then zg_X2_firstOne_2 t_size t_numbers i1 else none
noncomputable def zf_X2_firstOne  (t_size : Int) (t_numbers : Nat)  : Option (Int) := jrun (zg_X2_firstOne t_size t_numbers) jfuel (0, 0)
theorem zi_X2_firstOne_X2 : ∀ w ∈ u_ws RX2 TX2 2, w ∈ wsX2_firstOne := fun w h => (List.mem_cons_of_mem _ (List.mem_append_right _ h))
theorem zl_X2_firstOne_11 : Cond.fieldLink RX2 11 "DiamondRows$Endless" "numbers" "[I" ∈ wsX2_firstOne := (List.mem_cons_of_mem _ (List.mem_append_left _ (List.mem_of_getElem? (i := 1) rfl)))
theorem zl_X2_firstOne_15 : Cond.fieldLink RX2 15 "DiamondRows$Endless" "size" "I" ∈ wsX2_firstOne := (List.mem_cons_of_mem _ (List.mem_append_left _ (List.mem_of_getElem? (i := 0) rfl)))
def zQ_X2_firstOne (p : Program) (l : Launch) (e : Env) (s : State) (m : MethodId) (args : Array Value) (below : List Frame) (meth : Method) (c : Code) (Q : State → Prop) (H : Heap) (locs : List Loc)  (o : Int) : Prop := ∀ (ls : Array Slot) (pc : Nat), decode cX2_firstOne pc = .ok (.ireturn, 1) → W p l e zr_X2_firstOne s m args below meth c H locs 0 0 Q (F0 m pc ls [.int (zi o)])
def zA_X2_firstOne_0 (p : Program) (l : Launch) (e : Env) (s : State) (m : MethodId) (args : Array Value) (below : List Frame) (meth : Method) (c : Code) (Q : State → Prop) (H : Heap) (locs : List Loc) (t : Nat → Nat)  (i1 : Int) : Prop := ∀ ls : Array Slot, lv_has ls 2 [(0, .ref (t 0))] → W p l e zr_X2_firstOne s m args below meth c H locs 0 0 Q (F0 m 0 ls [])
def zA_X2_firstOne_2 (p : Program) (l : Launch) (e : Env) (s : State) (m : MethodId) (args : Array Value) (below : List Frame) (meth : Method) (c : Code) (Q : State → Prop) (H : Heap) (locs : List Loc) (t : Nat → Nat)  (i1 : Int) : Prop := ∀ ls : Array Slot, lv_has ls 2 [(0, .ref (t 0)), (1, .int (zi i1))] → W p l e zr_X2_firstOne s m args below meth c H locs 0 0 Q (F0 m 2 ls [])
def zA_X2_firstOne (p : Program) (l : Launch) (e : Env) (s : State) (m : MethodId) (args : Array Value) (below : List Frame) (meth : Method) (c : Code) (Q : State → Prop) (H : Heap) (locs : List Loc) (t : Nat → Nat)  (st : zS_X2_firstOne) : Prop := match st with
  | (lab, i1) => if lab = 0 then zA_X2_firstOne_0 p l e s m args below meth c Q H locs t  i1 else if lab = 2 then zA_X2_firstOne_2 p l e s m args below meth c Q H locs t  i1 else True
set_option maxHeartbeats 4000000 in
set_option maxRecDepth 100000 in
theorem zs_X2_firstOne_0 {p : Program} {l : Launch} {e : Env} {s : State} {m : MethodId} {args : Array Value} {below : List Frame} {meth : Method} {c : Code} {Q : State → Prop} {D : va_G} {κ : Nat → ClassId} {H : Heap} {locs : List Loc} (t : Nat → Nat) (t_size : Int) (t_numbers : Nat)  (hx : p.tables.exec = Jvm.exec) (hb : c.code = cX2_firstOne) (hml : c.maxLocals = 2) (hown : s.vm.findClass RX2 = some m.cls) (hts : ∀ w ∈ wsX2_firstOne, w.before args s = true) (hK : va_K D vwCl (zTY κ) s) (hP : va_P D vwCl ([((t 0), .inr (2, [.ref (t 1), .int (zi t_size)])), ((t 1), .inl (κ 1, 10, .inl (zc t_numbers)))]) H) (i1 : Int) (hg : Go (GoE (zA_X2_firstOne p l e s m args below meth c Q H locs t ) (zQ_X2_firstOne p l e s m args below meth c Q H locs)) (zg_X2_firstOne_0 t_size t_numbers i1)) : zA_X2_firstOne_0 p l e s m args below meth c Q H locs t  i1 := by
  intro ls hl
  unfold zg_X2_firstOne_0 at hg
  refine zv_iconst hx hb dX2_firstOne_0 ?_
  refine lv_istore_n (lv' := [(1, .int (zi (0 : Int))), (0, .ref (t 0))]) hx hb dX2_firstOne_1 rfl hl (by decide) rfl (fun ls hl => ?_)
  exact (Go_s hg) ls (lv_sub hl [1, 0] rfl)
set_option maxHeartbeats 4000000 in
set_option maxRecDepth 100000 in
theorem zs_X2_firstOne_2 {p : Program} {l : Launch} {e : Env} {s : State} {m : MethodId} {args : Array Value} {below : List Frame} {meth : Method} {c : Code} {Q : State → Prop} {D : va_G} {κ : Nat → ClassId} {H : Heap} {locs : List Loc} (t : Nat → Nat) (t_size : Int) (t_numbers : Nat)  (hx : p.tables.exec = Jvm.exec) (hb : c.code = cX2_firstOne) (hml : c.maxLocals = 2) (hown : s.vm.findClass RX2 = some m.cls) (hts : ∀ w ∈ wsX2_firstOne, w.before args s = true) (hK : va_K D vwCl (zTY κ) s) (hP : va_P D vwCl ([((t 0), .inr (2, [.ref (t 1), .int (zi t_size)])), ((t 1), .inl (κ 1, 10, .inl (zc t_numbers)))]) H) (i1 : Int) (hg : Go (GoE (zA_X2_firstOne p l e s m args below meth c Q H locs t ) (zQ_X2_firstOne p l e s m args below meth c Q H locs)) (zg_X2_firstOne_2 t_size t_numbers i1)) : zA_X2_firstOne_2 p l e s m args below meth c Q H locs t  i1 := by
  intro ls hl
  unfold zg_X2_firstOne_2 at hg
  refine lv_iload_n hx hb dX2_firstOne_2 rfl (lv_at hl 1 rfl) ?_
  refine lv_aload_n hx hb dX2_firstOne_3 rfl (lv_at hl 0 rfl) ?_
  refine va_get (D := D) (ci := 2) (v := .int (zi t_size)) (C := RX2) (T := TX2) (N := 2) hx hb hts zi_X2_firstOne_X2 hown hK hP 0 rfl rfl 1 (by decide) (hts (.fieldLink RX2 15 "DiamondRows$Endless" "size" "I") zl_X2_firstOne_15) (fun _ h9 => h9) rfl dX2_firstOne_4 ?_
  obtain ⟨b1, hg⟩ := Go_n hg
  obtain ⟨b2, hg⟩ := Go_n hg
  refine zv_icmp_ge (tgt := 28) hx hb dX2_firstOne_7 (by decide) b1 b2 (fun c5 => ?_) (fun c5 => ?_)
  · have hg := Go_t c5 hg
    refine zv_iconst hx hb dX2_firstOne_28 ?_
    exact (Go_s hg) _ _ dX2_firstOne_29
  · have hg := Go_f c5 hg
    refine lv_aload_n hx hb dX2_firstOne_10 rfl (lv_at hl 0 rfl) ?_
    refine va_get (D := D) (ci := 2) (v := .ref (t 1)) (C := RX2) (T := TX2) (N := 2) hx hb hts zi_X2_firstOne_X2 hown hK hP 0 rfl rfl 0 (by decide) (hts (.fieldLink RX2 11 "DiamondRows$Endless" "numbers" "[I") zl_X2_firstOne_11) (fun _ h9 => h9) rfl dX2_firstOne_11 ?_
    refine lv_iload_n hx hb dX2_firstOne_14 rfl (lv_at hl 1 rfl) ?_
    obtain ⟨n3, hg⟩ := Go_n hg
    refine zv_iald hx hb hK hP 1 1 rfl rfl (by decide) n3 dX2_firstOne_15 ?_
    refine zv_iconst hx hb dX2_firstOne_16 ?_
    refine zv_icmp_ne (tgt := 22) hx hb dX2_firstOne_17 (by decide) (zget_in _ _) (by decide) (fun c4 => ?_) (fun c4 => ?_)
    · have hg := Go_f c4 hg
      refine lv_iinc (v := zi (i1 + (1 : Int))) (lv' := [(1, .int (zi (i1 + (1 : Int)))), (0, .ref (t 0))]) hx hb dX2_firstOne_22 hl (k := 1) rfl (zi_add i1 _) (by decide) rfl (fun ls hl => ?_)
      refine lv_goto (tgt := 2) hx hb dX2_firstOne_25 (by decide) ?_
      exact (Go_s hg) ls (lv_sub hl [1, 0] rfl)
    · have hg := Go_t c4 hg
      refine lv_iload_n hx hb dX2_firstOne_20 rfl (lv_at hl 1 rfl) ?_
      exact (Go_s hg) _ _ dX2_firstOne_21
set_option maxHeartbeats 4000000 in
set_option maxRecDepth 100000 in
theorem zw_X2_firstOne {p : Program} {l : Launch} {e : Env} {s : State} {m : MethodId} {args : Array Value} {below : List Frame} {meth : Method} {c : Code} {Q : State → Prop} {D : va_G} {κ : Nat → ClassId} {H : Heap} {locs : List Loc} (t : Nat → Nat) (t_size : Int) (t_numbers : Nat)   (hx : p.tables.exec = Jvm.exec) (hb : c.code = cX2_firstOne) (hml : c.maxLocals = 2) (hown : s.vm.findClass RX2 = some m.cls) (hts : ∀ w ∈ wsX2_firstOne, w.before args s = true) (hK : va_K D vwCl (zTY κ) s) (hP : va_P D vwCl ([((t 0), .inr (2, [.ref (t 1), .int (zi t_size)])), ((t 1), .inl (κ 1, 10, .inl (zc t_numbers)))]) H) (out : Int) (h : zf_X2_firstOne t_size t_numbers  = some out) (hq : zQ_X2_firstOne p l e s m args below meth c Q H locs out) : zA_X2_firstOne_0 p l e s m args below meth c Q H locs t  0 := by
  have hst : ∀ st : zS_X2_firstOne, Go (GoE (zA_X2_firstOne p l e s m args below meth c Q H locs t ) (zQ_X2_firstOne p l e s m args below meth c Q H locs)) (zg_X2_firstOne t_size t_numbers st) → zA_X2_firstOne p l e s m args below meth c Q H locs t  st := by
    intro st hg
    obtain ⟨lab, i1⟩ := st
    by_cases h0 : lab = 0
    · subst h0
      exact zs_X2_firstOne_0 t t_size t_numbers  hx hb hml hown hts hK hP i1 hg
    by_cases h2 : lab = 2
    · subst h2
      exact zs_X2_firstOne_2 t t_size t_numbers  hx hb hml hown hts hK hP i1 hg
    have hz : zg_X2_firstOne t_size t_numbers (lab, i1) = none := by simp [zg_X2_firstOne, h0, h2]
    rw [hz] at hg
    obtain ⟨a, h1, -⟩ := hg
    cases h1
  exact jwalk (At := zA_X2_firstOne p l e s m args below meth c Q H locs t ) (Ret := zQ_X2_firstOne p l e s m args below meth c Q H locs) hst _ _ _ h hq
set_option maxHeartbeats 4000000 in
set_option maxRecDepth 100000 in
theorem zc_X2_firstOne (l : Launch) (D : va_G) (κ : Nat → ClassId) (t : Nat → Nat) (t_size : Int) (t_numbers : Nat)  (out : Int) (h : zf_X2_firstOne t_size t_numbers  = some out) : Met l yX2_firstOne wsX2_firstOne zr_X2_firstOne (va_Pc [.ref (t 0)] (zR D κ ([((t 0), .inr (2, [.ref (t 1), .int (zi t_size)])), ((t 1), .inl (κ 1, 10, .inl (zc t_numbers)))]))) (vp_Si (fun x => x = zi out)) 0 0 (fun _ => False) := by
  refine Met.ofW (cc := cX2_firstOne) (maxL := 2) (ret := (some .int)) (by decide +kernel) rfl ?_
  intro p e s m args below meth c s₁ B hml hv
  obtain ⟨rfl, hP, hK⟩ := hv
  have hx := B.exec
  have hb := B.bytes
  have hr := B.returns
  have hts := atoms_spec (ws := wsX2_firstOne) B.pre
  have hown : s.vm.findClass RX2 = some m.cls := findClass_of_methodNamed B.named
  have hlocks := B.notSynchronized
  have hl := lv_entry ([.ref (t 0)]) (n := 2) (Nat.le_of_ble_eq_true rfl)
  rw [lg_entry_eq]
  generalize (lg_sl ([.ref (t 0)]) ++ List.replicate (2 - (lg_sl ([.ref (t 0)])).length) Slot.unset).toArray = ls at hl ⊢
  have hl : lv_has ls 2 [(0, .ref (t 0))] := hl
  refine (zw_X2_firstOne t t_size t_numbers   hx hb hml hown hts hK hP out h ?_) ls (lv_sub hl [0] rfl)
  exact fun ls pc hd => W.iret hx hb hr (fun t ht hW => ⟨_, rfl, rfl, ht⟩) (fun _ h => by cases h) hd
/-! DiamondRows$Endless.loseAll()I -/
abbrev zr_X2_loseAll : Room := { frames := 5, cells := 0, slots := 0, locals := 107 }
abbrev zS_X2_loseAll : Type := Nat × Int × Int × Int × Nat
abbrev zO_X2_loseAll : Type := Int × Int × Nat
noncomputable def zg_X2_loseAll_0   (i1 : Int) (i2 : Int) (t_size : Int) (t_numbers : Nat) : Option (zO_X2_loseAll ⊕ zS_X2_loseAll) :=
  some (.inr (4, (0 : Int), (0 : Int), t_size, t_numbers))
noncomputable def zg_X2_loseAll_4   (i1 : Int) (i2 : Int) (t_size : Int) (t_numbers : Nat) : Option (zO_X2_loseAll ⊕ zS_X2_loseAll) :=
  if zout i2 then none else
  if (10 : Int) ≤ i2 then
  some (.inl (i1, t_size, t_numbers))
  else
  Option.bind (zf_X2_firstOne t_size t_numbers) (fun o2 =>
  if zout o2 then none else
  if o2 = (-1 : Int) then
  some (.inl (i1, t_size, t_numbers))
  else
  Option.bind (zf_X2_canLose t_size t_numbers o2) (fun o4 =>
  if o4 = false then
  some (.inl (i1, t_size, t_numbers))
  else
  Option.bind (zf_X2_lose t_size t_numbers o2) (fun o5 =>
  some (.inr (4, (i1 + (1 : Int)), (i2 + (1 : Int)), (o5.2.1), (o5.2.2))))))
noncomputable def zg_X2_loseAll   (st : zS_X2_loseAll) : Option (zO_X2_loseAll ⊕ zS_X2_loseAll) := match st with
  | (lab, i1, i2, t_size, t_numbers) => if lab = 0 then zg_X2_loseAll_0  i1 i2 t_size t_numbers else if lab = 4 then zg_X2_loseAll_4  i1 i2 t_size t_numbers else none
noncomputable def zf_X2_loseAll  (t_size : Int) (t_numbers : Nat)  : Option (Int × Int × Nat) := jrun (zg_X2_loseAll ) jfuel (0, 0, 0, t_size, t_numbers)
def zQ_X2_loseAll (p : Program) (l : Launch) (e : Env) (s : State) (m : MethodId) (args : Array Value) (below : List Frame) (meth : Method) (c : Code) (Q : State → Prop) (D : va_G) (κ : Nat → ClassId) (A : Nat → Prop) (H0 : Heap) (t : Nat → Nat)  (o : Int × Int × Nat) : Prop := ∀ (H : Heap) (locs : List Loc) (ls : Array Slot) (pc : Nat), va_P D vwCl ([((t 0), .inr (2, [.ref (t 1), .int (zi (o.2.1))])), ((t 1), .inl (κ 1, 10, .inl (zc (o.2.2))))]) H → va_D A ([((t 0), .inr (2, [.ref (t 1), .int (zi (o.2.1))])), ((t 1), .inl (κ 1, 10, .inl (zc (o.2.2))))]) → va_S A H0 H locs → decode cX2_loseAll pc = .ok (.ireturn, 1) → W p l e zr_X2_loseAll s m args below meth c H locs 0 0 Q (F0 m pc ls [.int (zi (o.1))])
def zA_X2_loseAll_0 (p : Program) (l : Launch) (e : Env) (s : State) (m : MethodId) (args : Array Value) (below : List Frame) (meth : Method) (c : Code) (Q : State → Prop) (D : va_G) (κ : Nat → ClassId) (A : Nat → Prop) (H0 : Heap) (t : Nat → Nat)  (i1 : Int) (i2 : Int) (t_size : Int) (t_numbers : Nat) : Prop := ∀ (H : Heap) (locs : List Loc) (ls : Array Slot), va_P D vwCl ([((t 0), .inr (2, [.ref (t 1), .int (zi t_size)])), ((t 1), .inl (κ 1, 10, .inl (zc t_numbers)))]) H → va_D A ([((t 0), .inr (2, [.ref (t 1), .int (zi t_size)])), ((t 1), .inl (κ 1, 10, .inl (zc t_numbers)))]) → va_S A H0 H locs → lv_has ls 4 [(0, .ref (t 0))] → W p l e zr_X2_loseAll s m args below meth c H locs 0 0 Q (F0 m 0 ls [])
def zA_X2_loseAll_4 (p : Program) (l : Launch) (e : Env) (s : State) (m : MethodId) (args : Array Value) (below : List Frame) (meth : Method) (c : Code) (Q : State → Prop) (D : va_G) (κ : Nat → ClassId) (A : Nat → Prop) (H0 : Heap) (t : Nat → Nat)  (i1 : Int) (i2 : Int) (t_size : Int) (t_numbers : Nat) : Prop := ∀ (H : Heap) (locs : List Loc) (ls : Array Slot), va_P D vwCl ([((t 0), .inr (2, [.ref (t 1), .int (zi t_size)])), ((t 1), .inl (κ 1, 10, .inl (zc t_numbers)))]) H → va_D A ([((t 0), .inr (2, [.ref (t 1), .int (zi t_size)])), ((t 1), .inl (κ 1, 10, .inl (zc t_numbers)))]) → va_S A H0 H locs → lv_has ls 4 [(0, .ref (t 0)), (1, .int (zi i1)), (2, .int (zi i2))] → W p l e zr_X2_loseAll s m args below meth c H locs 0 0 Q (F0 m 4 ls [])
def zA_X2_loseAll (p : Program) (l : Launch) (e : Env) (s : State) (m : MethodId) (args : Array Value) (below : List Frame) (meth : Method) (c : Code) (Q : State → Prop) (D : va_G) (κ : Nat → ClassId) (A : Nat → Prop) (H0 : Heap) (t : Nat → Nat)  (st : zS_X2_loseAll) : Prop := match st with
  | (lab, i1, i2, t_size, t_numbers) => if lab = 0 then zA_X2_loseAll_0 p l e s m args below meth c Q D κ A H0 t  i1 i2 t_size t_numbers else if lab = 4 then zA_X2_loseAll_4 p l e s m args below meth c Q D κ A H0 t  i1 i2 t_size t_numbers else True
set_option maxHeartbeats 4000000 in
set_option maxRecDepth 100000 in
theorem zs_X2_loseAll_0 {p : Program} {l : Launch} {e : Env} {s : State} {m : MethodId} {args : Array Value} {below : List Frame} {meth : Method} {c : Code} {Q : State → Prop} {D : va_G} {κ : Nat → ClassId} {A : Nat → Prop} {H0 : Heap} (t : Nat → Nat)  (hx : p.tables.exec = Jvm.exec) (hb : c.code = cX2_loseAll) (hml : c.maxLocals = 4) (hown : s.vm.findClass RX2 = some m.cls) (hts : ∀ w ∈ wsX2_loseAll, w.before args s = true) (hK : va_K D vwCl (zTY κ) s) (hA : ∀ q : Nat, H0.size ≤ q → A q) (i1 : Int) (i2 : Int) (t_size : Int) (t_numbers : Nat) (hg : Go (GoE (zA_X2_loseAll p l e s m args below meth c Q D κ A H0 t ) (zQ_X2_loseAll p l e s m args below meth c Q D κ A H0 t )) (zg_X2_loseAll_0  i1 i2 t_size t_numbers)) : zA_X2_loseAll_0 p l e s m args below meth c Q D κ A H0 t  i1 i2 t_size t_numbers := by
  intro H locs ls hP hD hS hl
  unfold zg_X2_loseAll_0 at hg
  refine zv_iconst hx hb dX2_loseAll_0 ?_
  refine lv_istore_n (lv' := [(1, .int (zi (0 : Int))), (0, .ref (t 0))]) hx hb dX2_loseAll_1 rfl hl (by decide) rfl (fun ls hl => ?_)
  refine zv_iconst hx hb dX2_loseAll_2 ?_
  refine lv_istore_n (lv' := [(2, .int (zi (0 : Int))), (1, .int (zi (0 : Int))), (0, .ref (t 0))]) hx hb dX2_loseAll_3 rfl hl (by decide) rfl (fun ls hl => ?_)
  exact (Go_s hg) H locs ls hP hD hS (lv_sub hl [2, 1, 0] rfl)
set_option maxHeartbeats 4000000 in
set_option maxRecDepth 100000 in
theorem zs_X2_loseAll_4 {p : Program} {l : Launch} {e : Env} {s : State} {m : MethodId} {args : Array Value} {below : List Frame} {meth : Method} {c : Code} {Q : State → Prop} {D : va_G} {κ : Nat → ClassId} {A : Nat → Prop} {H0 : Heap} (t : Nat → Nat)  (hx : p.tables.exec = Jvm.exec) (hb : c.code = cX2_loseAll) (hml : c.maxLocals = 4) (hown : s.vm.findClass RX2 = some m.cls) (hts : ∀ w ∈ wsX2_loseAll, w.before args s = true) (hK : va_K D vwCl (zTY κ) s) (hA : ∀ q : Nat, H0.size ≤ q → A q) (i1 : Int) (i2 : Int) (t_size : Int) (t_numbers : Nat) (hg : Go (GoE (zA_X2_loseAll p l e s m args below meth c Q D κ A H0 t ) (zQ_X2_loseAll p l e s m args below meth c Q D κ A H0 t )) (zg_X2_loseAll_4  i1 i2 t_size t_numbers)) : zA_X2_loseAll_4 p l e s m args below meth c Q D κ A H0 t  i1 i2 t_size t_numbers := by
  intro H locs ls hP hD hS hl
  unfold zg_X2_loseAll_4 at hg
  refine lv_iload_n hx hb dX2_loseAll_4 rfl (lv_at hl 2 rfl) ?_
  refine zv_bipush hx hb dX2_loseAll_5 (by decide) ?_
  obtain ⟨b1, hg⟩ := Go_n hg
  refine zv_icmp_ge (tgt := 46) hx hb dX2_loseAll_7 (by decide) b1 (by decide) (fun c8 => ?_) (fun c8 => ?_)
  · have hg := Go_t c8 hg
    refine lv_iload_n hx hb dX2_loseAll_46 rfl (lv_at hl 1 rfl) ?_
    exact (Go_s hg) _ _ _ _ hP hD hS dX2_loseAll_47
  · have hg := Go_f c8 hg
    refine lv_aload_n hx hb dX2_loseAll_10 rfl (lv_at hl 0 rfl) ?_
    obtain ⟨o2, ho2, hg⟩ := Go_b hg
    refine zc_vi (rest := []) ⟨hx, hb, hml, hown, hts⟩ (zc_X2_firstOne l D κ t t_size t_numbers o2 ho2) (cwV 0 hts gX2_loseAll_X2_firstOne rfl rfl rfl hv_X2_firstOne ⟨Nat.le_of_ble_eq_true rfl, Nat.le_of_ble_eq_true rfl⟩) (zpreV hK (hP.sub [0, 1] rfl) 2 0 rfl rfl) rfl hl.1 rfl (Nat.le_of_ble_eq_true rfl) dX2_loseAll_11 ⟨Nat.zero_le _, Nat.zero_le _⟩ ?_
    refine lv_istore_n (lv' := [(3, .int (zi o2)), (0, .ref (t 0)), (1, .int (zi i1)), (2, .int (zi i2))]) hx hb dX2_loseAll_14 rfl hl (by decide) rfl (fun ls hl => ?_)
    refine lv_iload_n hx hb dX2_loseAll_15 rfl (lv_at hl 0 rfl) ?_
    refine zv_iconst hx hb dX2_loseAll_16 ?_
    obtain ⟨b3, hg⟩ := Go_n hg
    refine zv_icmp_eq (tgt := 46) hx hb dX2_loseAll_17 (by decide) b3 (by decide) (fun c7 => ?_) (fun c7 => ?_)
    · have hg := Go_t c7 hg
      refine lv_iload_n hx hb dX2_loseAll_46 rfl (lv_at hl 2 rfl) ?_
      exact (Go_s hg) _ _ _ _ hP hD hS dX2_loseAll_47
    · have hg := Go_f c7 hg
      refine lv_aload_n hx hb dX2_loseAll_20 rfl (lv_at hl 1 rfl) ?_
      refine lv_iload_n hx hb dX2_loseAll_21 rfl (lv_at hl 0 rfl) ?_
      obtain ⟨o4, ho4, hg⟩ := Go_b hg
      refine zc_vi (rest := []) ⟨hx, hb, hml, hown, hts⟩ (zc_X2_canLose l D κ t t_size t_numbers o2 o4 ho4) (cwV 1 hts gX2_loseAll_X2_canLose rfl rfl rfl hv_X2_canLose ⟨Nat.le_of_ble_eq_true rfl, Nat.le_of_ble_eq_true rfl⟩) (zpreV hK (hP.sub [0, 1] rfl) 2 0 rfl rfl) rfl hl.1 rfl (Nat.le_of_ble_eq_true rfl) dX2_loseAll_22 ⟨Nat.zero_le _, Nat.zero_le _⟩ ?_
      refine zv_ifb_ne (tgt := 31) hx hb dX2_loseAll_25 (by decide) (fun c6 => ?_) (fun c6 => ?_)
      · have hg := Go_f c6 hg
        refine lv_aload_n hx hb dX2_loseAll_31 rfl (lv_at hl 1 rfl) ?_
        refine lv_iload_n hx hb dX2_loseAll_32 rfl (lv_at hl 0 rfl) ?_
        obtain ⟨o5, ho5, hg⟩ := Go_b hg
        refine zj_i (wr := []) (ws1 := [((t 0), .inr (2, [.ref (t 1), .int (zi (o5.2.1))])), ((t 1), .inl (κ 1, 10, .inl (zc (o5.2.2))))]) (va_runV (rest := []) ⟨hx, hb, hml, hown, hts⟩ (zc_X2_lose l D κ t H.size t_size t_numbers o2 o5 ho5) (cwV 1 hts gX2_loseAll_X2_lose rfl rfl rfl hv_X2_lose ⟨Nat.le_of_ble_eq_true rfl, Nat.le_of_ble_eq_true rfl⟩) (zpreWV hK (hP.sub [0, 1] rfl) (hD.sub [0, 1] (by decide) rfl) 2 0 rfl rfl) rfl rfl hl.1 rfl (lv_room (Nat.le_of_ble_eq_true rfl)) dX2_loseAll_33 ⟨Nat.zero_le _, Nat.zero_le _⟩) hP hD hS hA [0, 1] [] [0, 1] rfl rfl (by decide) (by decide) rfl rfl (by decide) (fun H locs hP hD hS => ?_)
        refine lv_pop hx hb dX2_loseAll_36 rfl ?_
        refine lv_iinc (v := zi (i1 + (1 : Int))) (lv' := [(1, .int (zi (i1 + (1 : Int)))), (3, .int (zi o2)), (0, .ref (t 0)), (2, .int (zi i2))]) hx hb dX2_loseAll_37 hl (k := 2) rfl (zi_add i1 _) (by decide) rfl (fun ls hl => ?_)
        refine lv_iinc (v := zi (i2 + (1 : Int))) (lv' := [(2, .int (zi (i2 + (1 : Int)))), (1, .int (zi (i1 + (1 : Int)))), (3, .int (zi o2)), (0, .ref (t 0))]) hx hb dX2_loseAll_40 hl (k := 3) rfl (zi_add i2 _) (by decide) rfl (fun ls hl => ?_)
        refine lv_goto (tgt := 4) hx hb dX2_loseAll_43 (by decide) ?_
        exact (Go_s hg) H locs ls hP hD hS (lv_sub hl [3, 1, 0] rfl)
      · have hg := Go_t c6 hg
        refine lv_goto (tgt := 46) hx hb dX2_loseAll_28 (by decide) ?_
        refine lv_iload_n hx hb dX2_loseAll_46 rfl (lv_at hl 2 rfl) ?_
        exact (Go_s hg) _ _ _ _ hP hD hS dX2_loseAll_47
set_option maxHeartbeats 4000000 in
set_option maxRecDepth 100000 in
theorem zw_X2_loseAll {p : Program} {l : Launch} {e : Env} {s : State} {m : MethodId} {args : Array Value} {below : List Frame} {meth : Method} {c : Code} {Q : State → Prop} {D : va_G} {κ : Nat → ClassId} {A : Nat → Prop} {H0 : Heap} (t : Nat → Nat)  (t_size : Int) (t_numbers : Nat)  (hx : p.tables.exec = Jvm.exec) (hb : c.code = cX2_loseAll) (hml : c.maxLocals = 4) (hown : s.vm.findClass RX2 = some m.cls) (hts : ∀ w ∈ wsX2_loseAll, w.before args s = true) (hK : va_K D vwCl (zTY κ) s) (hA : ∀ q : Nat, H0.size ≤ q → A q) (out : Int × Int × Nat) (h : zf_X2_loseAll t_size t_numbers  = some out) (hq : zQ_X2_loseAll p l e s m args below meth c Q D κ A H0 t  out) : zA_X2_loseAll_0 p l e s m args below meth c Q D κ A H0 t  0 0 t_size t_numbers := by
  have hst : ∀ st : zS_X2_loseAll, Go (GoE (zA_X2_loseAll p l e s m args below meth c Q D κ A H0 t ) (zQ_X2_loseAll p l e s m args below meth c Q D κ A H0 t )) (zg_X2_loseAll  st) → zA_X2_loseAll p l e s m args below meth c Q D κ A H0 t  st := by
    intro st hg
    obtain ⟨lab, i1, i2, t_size, t_numbers⟩ := st
    by_cases h0 : lab = 0
    · subst h0
      exact zs_X2_loseAll_0 t  hx hb hml hown hts hK hA i1 i2 t_size t_numbers hg
    by_cases h4 : lab = 4
    · subst h4
      exact zs_X2_loseAll_4 t  hx hb hml hown hts hK hA i1 i2 t_size t_numbers hg
    have hz : zg_X2_loseAll  (lab, i1, i2, t_size, t_numbers) = none := by simp [zg_X2_loseAll, h0, h4]
    rw [hz] at hg
    obtain ⟨a, h1, -⟩ := hg
    cases h1
  exact jwalk (At := zA_X2_loseAll p l e s m args below meth c Q D κ A H0 t ) (Ret := zQ_X2_loseAll p l e s m args below meth c Q D κ A H0 t ) hst _ _ _ h hq
set_option maxHeartbeats 4000000 in
set_option maxRecDepth 100000 in
theorem zc_X2_loseAll (l : Launch) (D : va_G) (κ : Nat → ClassId) (t : Nat → Nat) (sz : Nat) (t_size : Int) (t_numbers : Nat)  (out : Int × Int × Nat) (h : zf_X2_loseAll t_size t_numbers  = some out) : Met l yX2_loseAll wsX2_loseAll zr_X2_loseAll (va_Pc [.ref (t 0)] (zW D κ ([((t 0), .inr (2, [.ref (t 1), .int (zi t_size)])), ((t 1), .inl (κ 1, 10, .inl (zc t_numbers)))]) sz)) (va_Qi (fun r (_ : Unit) => r = zi (out.1)) (fun _ => zB D κ (va_A ([((t 0), .inr (2, [.ref (t 1), .int (zi t_size)])), ((t 1), .inl (κ 1, 10, .inl (zc t_numbers)))]) sz) ([((t 0), .inr (2, [.ref (t 1), .int (zi (out.2.1))])), ((t 1), .inl (κ 1, 10, .inl (zc (out.2.2))))])) (va_A ([((t 0), .inr (2, [.ref (t 1), .int (zi t_size)])), ((t 1), .inl (κ 1, 10, .inl (zc t_numbers)))]) sz)) 0 0 (va_A ([((t 0), .inr (2, [.ref (t 1), .int (zi t_size)])), ((t 1), .inl (κ 1, 10, .inl (zc t_numbers)))]) sz) := by
  refine Met.ofW (cc := cX2_loseAll) (maxL := 4) (ret := (some .int)) (by decide +kernel) rfl ?_
  intro p e s m args below meth c s₁ B hml hv
  obtain ⟨rfl, hsz, hP, hK, hD0⟩ := hv
  have hx := B.exec
  have hb := B.bytes
  have hr := B.returns
  have hts := atoms_spec (ws := wsX2_loseAll) B.pre
  have hown : s.vm.findClass RX2 = some m.cls := findClass_of_methodNamed B.named
  have hlocks := B.notSynchronized
  subst hsz
  have hD := hD0.self (sz := s.heap.size)
  generalize hAe : va_A ([((t 0), .inr (2, [.ref (t 1), .int (zi t_size)])), ((t 1), .inl (κ 1, 10, .inl (zc t_numbers)))]) s.heap.size = A at hD ⊢
  have hA : ∀ q : Nat, s.heap.size ≤ q → A q := fun q h => by rw [← hAe]; exact Or.inr h
  have hS : va_S A s.heap s.heap [] := va_S.rf
  have hl := lv_entry ([.ref (t 0)]) (n := 4) (Nat.le_of_ble_eq_true rfl)
  rw [lg_entry_eq]
  generalize (lg_sl ([.ref (t 0)]) ++ List.replicate (4 - (lg_sl ([.ref (t 0)])).length) Slot.unset).toArray = ls at hl ⊢
  have hl : lv_has ls 4 [(0, .ref (t 0))] := hl
  refine (zw_X2_loseAll t  t_size t_numbers  hx hb hml hown hts hK hA out h ?_) s.heap [] ls hP hD hS (lv_sub hl [0] rfl)
  exact fun H locs ls pc hP hD hS hd => W.iret hx hb hr (fun t ht hW => ⟨⟨_, (), rfl, rfl, by rw [ht]; exact hP, va_K.moved hW.alike hK, hD⟩, hS.F ht⟩) hS.2.2 hd
end

section
/-! DiamondRows$Sightings.size()I -/
abbrev zr_X7_size : Room := { frames := 0, cells := 0, slots := 0, locals := 0 }
noncomputable def zf_X7_size  (t_size : Int)  : Option (Int) :=
  some (t_size)
theorem zi_X7_size_X7 : ∀ w ∈ u_ws RX7 TX7 12, w ∈ wsX7_size := fun w h => (List.mem_cons_of_mem _ (List.mem_append_right _ h))
theorem zl_X7_size_39 : Cond.fieldLink RX7 39 "DiamondRows$Sightings" "size" "I" ∈ wsX7_size := (List.mem_cons_of_mem _ (List.mem_append_left _ (List.mem_of_getElem? (i := 0) rfl)))
def zQ_X7_size (p : Program) (l : Launch) (e : Env) (s : State) (m : MethodId) (args : Array Value) (below : List Frame) (meth : Method) (c : Code) (Q : State → Prop) (H : Heap) (locs : List Loc)  (o : Int) : Prop := ∀ (ls : Array Slot) (pc : Nat), decode cX7_size pc = .ok (.ireturn, 1) → W p l e zr_X7_size s m args below meth c H locs 0 0 Q (F0 m pc ls [.int (zi o)])
set_option maxHeartbeats 4000000 in
set_option maxRecDepth 100000 in
theorem zs_X7_size {p : Program} {l : Launch} {e : Env} {s : State} {m : MethodId} {args : Array Value} {below : List Frame} {meth : Method} {c : Code} {Q : State → Prop} {D : va_G} {κ : Nat → ClassId} {H : Heap} {locs : List Loc} (t : Nat → Nat) (t_size : Int) (t_rights : Int) (t_latest : Int) (t_seenStep : Nat) (t_seenFrom : Nat) (t_seenTo : Nat) (t_seenValue : Nat) (t_timesRight : Nat) (t_rightStep : Nat) (t_rightOf : Nat) (t_rightValue : Nat) (t_knownValue : Nat)  (hx : p.tables.exec = Jvm.exec) (hb : c.code = cX7_size) (hml : c.maxLocals = 1) (hown : s.vm.findClass RX7 = some m.cls) (hts : ∀ w ∈ wsX7_size, w.before args s = true) (hK : va_K D vwCl (zTY κ) s) (hP : va_P D vwCl ([((t 0), .inr (7, [.ref (t 1), .ref (t 2), .ref (t 3), .ref (t 4), .ref (t 5), .ref (t 6), .ref (t 7), .ref (t 8), .ref (t 9), .int (zi t_size), .int (zi t_rights), .int (zi t_latest)])), ((t 1), .inl (κ 1, 20, .inl (zc t_seenStep))), ((t 2), .inl (κ 1, 20, .inl (zc t_seenFrom))), ((t 3), .inl (κ 1, 20, .inl (zc t_seenTo))), ((t 4), .inl (κ 1, 20, .inl (zc t_seenValue))), ((t 5), .inl (κ 1, 20, .inl (zc t_timesRight))), ((t 6), .inl (κ 1, 20, .inl (zc t_rightStep))), ((t 7), .inl (κ 1, 20, .inl (zc t_rightOf))), ((t 8), .inl (κ 1, 20, .inl (zc t_rightValue))), ((t 9), .inl (κ 1, 20, .inl (zc t_knownValue)))]) H) (ls : Array Slot) (hl : lv_has ls 1 [(0, .ref (t 0))]) (hg : Go (zQ_X7_size p l e s m args below meth c Q H locs) (zf_X7_size t_size )) : W p l e zr_X7_size s m args below meth c H locs 0 0 Q (F0 m 0 ls []) := by
  unfold zf_X7_size at hg
  refine lv_aload_n hx hb dX7_size_0 rfl (lv_at hl 0 rfl) ?_
  refine va_get (D := D) (ci := 7) (v := .int (zi t_size)) (C := RX7) (T := TX7) (N := 12) hx hb hts zi_X7_size_X7 hown hK hP 0 rfl rfl 9 (by decide) (hts (.fieldLink RX7 39 "DiamondRows$Sightings" "size" "I") zl_X7_size_39) (fun _ h9 => h9) rfl dX7_size_1 ?_
  exact (Go_s hg) _ _ dX7_size_4
set_option maxHeartbeats 4000000 in
set_option maxRecDepth 100000 in
theorem zc_X7_size (l : Launch) (D : va_G) (κ : Nat → ClassId) (t : Nat → Nat) (t_size : Int) (t_rights : Int) (t_latest : Int) (t_seenStep : Nat) (t_seenFrom : Nat) (t_seenTo : Nat) (t_seenValue : Nat) (t_timesRight : Nat) (t_rightStep : Nat) (t_rightOf : Nat) (t_rightValue : Nat) (t_knownValue : Nat)  (out : Int) (h : zf_X7_size t_size  = some out) : Met l yX7_size wsX7_size zr_X7_size (va_Pc [.ref (t 0)] (zR D κ ([((t 0), .inr (7, [.ref (t 1), .ref (t 2), .ref (t 3), .ref (t 4), .ref (t 5), .ref (t 6), .ref (t 7), .ref (t 8), .ref (t 9), .int (zi t_size), .int (zi t_rights), .int (zi t_latest)])), ((t 1), .inl (κ 1, 20, .inl (zc t_seenStep))), ((t 2), .inl (κ 1, 20, .inl (zc t_seenFrom))), ((t 3), .inl (κ 1, 20, .inl (zc t_seenTo))), ((t 4), .inl (κ 1, 20, .inl (zc t_seenValue))), ((t 5), .inl (κ 1, 20, .inl (zc t_timesRight))), ((t 6), .inl (κ 1, 20, .inl (zc t_rightStep))), ((t 7), .inl (κ 1, 20, .inl (zc t_rightOf))), ((t 8), .inl (κ 1, 20, .inl (zc t_rightValue))), ((t 9), .inl (κ 1, 20, .inl (zc t_knownValue)))]))) (vp_Si (fun x => x = zi out)) 0 0 (fun _ => False) := by
  refine Met.ofW (cc := cX7_size) (maxL := 1) (ret := (some .int)) (by decide +kernel) rfl ?_
  intro p e s m args below meth c s₁ B hml hv
  obtain ⟨rfl, hP, hK⟩ := hv
  have hx := B.exec
  have hb := B.bytes
  have hr := B.returns
  have hts := atoms_spec (ws := wsX7_size) B.pre
  have hown : s.vm.findClass RX7 = some m.cls := findClass_of_methodNamed B.named
  have hlocks := B.notSynchronized
  have hl := lv_entry ([.ref (t 0)]) (n := 1) (Nat.le_of_ble_eq_true rfl)
  rw [lg_entry_eq]
  generalize (lg_sl ([.ref (t 0)]) ++ List.replicate (1 - (lg_sl ([.ref (t 0)])).length) Slot.unset).toArray = ls at hl ⊢
  have hl : lv_has ls 1 [(0, .ref (t 0))] := hl
  refine zs_X7_size t t_size t_rights t_latest t_seenStep t_seenFrom t_seenTo t_seenValue t_timesRight t_rightStep t_rightOf t_rightValue t_knownValue  hx hb hml hown hts hK hP ls hl ⟨out, h, ?_⟩
  exact fun ls pc hd => W.iret hx hb hr (fun t ht hW => ⟨_, rfl, rfl, ht⟩) (fun _ h => by cases h) hd
/-! DiamondRows$Sightings.rights()I -/
abbrev zr_X7_rights : Room := { frames := 0, cells := 0, slots := 0, locals := 0 }
noncomputable def zf_X7_rights  (t_rights : Int)  : Option (Int) :=
  some (t_rights)
theorem zi_X7_rights_X7 : ∀ w ∈ u_ws RX7 TX7 12, w ∈ wsX7_rights := fun w h => (List.mem_cons_of_mem _ (List.mem_append_right _ h))
theorem zl_X7_rights_43 : Cond.fieldLink RX7 43 "DiamondRows$Sightings" "rights" "I" ∈ wsX7_rights := (List.mem_cons_of_mem _ (List.mem_append_left _ (List.mem_of_getElem? (i := 0) rfl)))
def zQ_X7_rights (p : Program) (l : Launch) (e : Env) (s : State) (m : MethodId) (args : Array Value) (below : List Frame) (meth : Method) (c : Code) (Q : State → Prop) (H : Heap) (locs : List Loc)  (o : Int) : Prop := ∀ (ls : Array Slot) (pc : Nat), decode cX7_rights pc = .ok (.ireturn, 1) → W p l e zr_X7_rights s m args below meth c H locs 0 0 Q (F0 m pc ls [.int (zi o)])
set_option maxHeartbeats 4000000 in
set_option maxRecDepth 100000 in
theorem zs_X7_rights {p : Program} {l : Launch} {e : Env} {s : State} {m : MethodId} {args : Array Value} {below : List Frame} {meth : Method} {c : Code} {Q : State → Prop} {D : va_G} {κ : Nat → ClassId} {H : Heap} {locs : List Loc} (t : Nat → Nat) (t_size : Int) (t_rights : Int) (t_latest : Int) (t_seenStep : Nat) (t_seenFrom : Nat) (t_seenTo : Nat) (t_seenValue : Nat) (t_timesRight : Nat) (t_rightStep : Nat) (t_rightOf : Nat) (t_rightValue : Nat) (t_knownValue : Nat)  (hx : p.tables.exec = Jvm.exec) (hb : c.code = cX7_rights) (hml : c.maxLocals = 1) (hown : s.vm.findClass RX7 = some m.cls) (hts : ∀ w ∈ wsX7_rights, w.before args s = true) (hK : va_K D vwCl (zTY κ) s) (hP : va_P D vwCl ([((t 0), .inr (7, [.ref (t 1), .ref (t 2), .ref (t 3), .ref (t 4), .ref (t 5), .ref (t 6), .ref (t 7), .ref (t 8), .ref (t 9), .int (zi t_size), .int (zi t_rights), .int (zi t_latest)])), ((t 1), .inl (κ 1, 20, .inl (zc t_seenStep))), ((t 2), .inl (κ 1, 20, .inl (zc t_seenFrom))), ((t 3), .inl (κ 1, 20, .inl (zc t_seenTo))), ((t 4), .inl (κ 1, 20, .inl (zc t_seenValue))), ((t 5), .inl (κ 1, 20, .inl (zc t_timesRight))), ((t 6), .inl (κ 1, 20, .inl (zc t_rightStep))), ((t 7), .inl (κ 1, 20, .inl (zc t_rightOf))), ((t 8), .inl (κ 1, 20, .inl (zc t_rightValue))), ((t 9), .inl (κ 1, 20, .inl (zc t_knownValue)))]) H) (ls : Array Slot) (hl : lv_has ls 1 [(0, .ref (t 0))]) (hg : Go (zQ_X7_rights p l e s m args below meth c Q H locs) (zf_X7_rights t_rights )) : W p l e zr_X7_rights s m args below meth c H locs 0 0 Q (F0 m 0 ls []) := by
  unfold zf_X7_rights at hg
  refine lv_aload_n hx hb dX7_rights_0 rfl (lv_at hl 0 rfl) ?_
  refine va_get (D := D) (ci := 7) (v := .int (zi t_rights)) (C := RX7) (T := TX7) (N := 12) hx hb hts zi_X7_rights_X7 hown hK hP 0 rfl rfl 10 (by decide) (hts (.fieldLink RX7 43 "DiamondRows$Sightings" "rights" "I") zl_X7_rights_43) (fun _ h9 => h9) rfl dX7_rights_1 ?_
  exact (Go_s hg) _ _ dX7_rights_4
set_option maxHeartbeats 4000000 in
set_option maxRecDepth 100000 in
theorem zc_X7_rights (l : Launch) (D : va_G) (κ : Nat → ClassId) (t : Nat → Nat) (t_size : Int) (t_rights : Int) (t_latest : Int) (t_seenStep : Nat) (t_seenFrom : Nat) (t_seenTo : Nat) (t_seenValue : Nat) (t_timesRight : Nat) (t_rightStep : Nat) (t_rightOf : Nat) (t_rightValue : Nat) (t_knownValue : Nat)  (out : Int) (h : zf_X7_rights t_rights  = some out) : Met l yX7_rights wsX7_rights zr_X7_rights (va_Pc [.ref (t 0)] (zR D κ ([((t 0), .inr (7, [.ref (t 1), .ref (t 2), .ref (t 3), .ref (t 4), .ref (t 5), .ref (t 6), .ref (t 7), .ref (t 8), .ref (t 9), .int (zi t_size), .int (zi t_rights), .int (zi t_latest)])), ((t 1), .inl (κ 1, 20, .inl (zc t_seenStep))), ((t 2), .inl (κ 1, 20, .inl (zc t_seenFrom))), ((t 3), .inl (κ 1, 20, .inl (zc t_seenTo))), ((t 4), .inl (κ 1, 20, .inl (zc t_seenValue))), ((t 5), .inl (κ 1, 20, .inl (zc t_timesRight))), ((t 6), .inl (κ 1, 20, .inl (zc t_rightStep))), ((t 7), .inl (κ 1, 20, .inl (zc t_rightOf))), ((t 8), .inl (κ 1, 20, .inl (zc t_rightValue))), ((t 9), .inl (κ 1, 20, .inl (zc t_knownValue)))]))) (vp_Si (fun x => x = zi out)) 0 0 (fun _ => False) := by
  refine Met.ofW (cc := cX7_rights) (maxL := 1) (ret := (some .int)) (by decide +kernel) rfl ?_
  intro p e s m args below meth c s₁ B hml hv
  obtain ⟨rfl, hP, hK⟩ := hv
  have hx := B.exec
  have hb := B.bytes
  have hr := B.returns
  have hts := atoms_spec (ws := wsX7_rights) B.pre
  have hown : s.vm.findClass RX7 = some m.cls := findClass_of_methodNamed B.named
  have hlocks := B.notSynchronized
  have hl := lv_entry ([.ref (t 0)]) (n := 1) (Nat.le_of_ble_eq_true rfl)
  rw [lg_entry_eq]
  generalize (lg_sl ([.ref (t 0)]) ++ List.replicate (1 - (lg_sl ([.ref (t 0)])).length) Slot.unset).toArray = ls at hl ⊢
  have hl : lv_has ls 1 [(0, .ref (t 0))] := hl
  refine zs_X7_rights t t_size t_rights t_latest t_seenStep t_seenFrom t_seenTo t_seenValue t_timesRight t_rightStep t_rightOf t_rightValue t_knownValue  hx hb hml hown hts hK hP ls hl ⟨out, h, ?_⟩
  exact fun ls pc hd => W.iret hx hb hr (fun t ht hW => ⟨_, rfl, rfl, ht⟩) (fun _ h => by cases h) hd
/-! DiamondRows$Sightings.has(I)Z -/
abbrev zr_X7_has : Room := { frames := 0, cells := 0, slots := 0, locals := 0 }
noncomputable def zf_X7_has  (t_size : Int) (i1 : Int) : Option (Bool) :=
  if zout i1 then none else
  if i1 < 0 then
  some (false)
  else
  if zout t_size then none else
  if t_size ≤ i1 then
  some (false)
  else
  some (true)
theorem zi_X7_has_X7 : ∀ w ∈ u_ws RX7 TX7 12, w ∈ wsX7_has := fun w h => (List.mem_cons_of_mem _ (List.mem_append_right _ h))
theorem zl_X7_has_39 : Cond.fieldLink RX7 39 "DiamondRows$Sightings" "size" "I" ∈ wsX7_has := (List.mem_cons_of_mem _ (List.mem_append_left _ (List.mem_of_getElem? (i := 0) rfl)))
def zQ_X7_has (p : Program) (l : Launch) (e : Env) (s : State) (m : MethodId) (args : Array Value) (below : List Frame) (meth : Method) (c : Code) (Q : State → Prop) (H : Heap) (locs : List Loc)  (o : Bool) : Prop := ∀ (ls : Array Slot) (pc : Nat), decode cX7_has pc = .ok (.ireturn, 1) → W p l e zr_X7_has s m args below meth c H locs 0 0 Q (F0 m pc ls [.int (zi (bI o))])
set_option maxHeartbeats 4000000 in
set_option maxRecDepth 100000 in
theorem zs_X7_has {p : Program} {l : Launch} {e : Env} {s : State} {m : MethodId} {args : Array Value} {below : List Frame} {meth : Method} {c : Code} {Q : State → Prop} {D : va_G} {κ : Nat → ClassId} {H : Heap} {locs : List Loc} (t : Nat → Nat) (t_size : Int) (t_rights : Int) (t_latest : Int) (t_seenStep : Nat) (t_seenFrom : Nat) (t_seenTo : Nat) (t_seenValue : Nat) (t_timesRight : Nat) (t_rightStep : Nat) (t_rightOf : Nat) (t_rightValue : Nat) (t_knownValue : Nat) (i1 : Int) (hx : p.tables.exec = Jvm.exec) (hb : c.code = cX7_has) (hml : c.maxLocals = 2) (hown : s.vm.findClass RX7 = some m.cls) (hts : ∀ w ∈ wsX7_has, w.before args s = true) (hK : va_K D vwCl (zTY κ) s) (hP : va_P D vwCl ([((t 0), .inr (7, [.ref (t 1), .ref (t 2), .ref (t 3), .ref (t 4), .ref (t 5), .ref (t 6), .ref (t 7), .ref (t 8), .ref (t 9), .int (zi t_size), .int (zi t_rights), .int (zi t_latest)])), ((t 1), .inl (κ 1, 20, .inl (zc t_seenStep))), ((t 2), .inl (κ 1, 20, .inl (zc t_seenFrom))), ((t 3), .inl (κ 1, 20, .inl (zc t_seenTo))), ((t 4), .inl (κ 1, 20, .inl (zc t_seenValue))), ((t 5), .inl (κ 1, 20, .inl (zc t_timesRight))), ((t 6), .inl (κ 1, 20, .inl (zc t_rightStep))), ((t 7), .inl (κ 1, 20, .inl (zc t_rightOf))), ((t 8), .inl (κ 1, 20, .inl (zc t_rightValue))), ((t 9), .inl (κ 1, 20, .inl (zc t_knownValue)))]) H) (ls : Array Slot) (hl : lv_has ls 2 [(0, .ref (t 0)), (1, .int (zi i1))]) (hg : Go (zQ_X7_has p l e s m args below meth c Q H locs) (zf_X7_has t_size i1)) : W p l e zr_X7_has s m args below meth c H locs 0 0 Q (F0 m 0 ls []) := by
  unfold zf_X7_has at hg
  refine lv_iload_n hx hb dX7_has_0 rfl (lv_at hl 1 rfl) ?_
  obtain ⟨b1, hg⟩ := Go_n hg
  refine zv_if_lt (tgt := 16) hx hb dX7_has_1 (by decide) b1 (fun c4 => ?_) (fun c4 => ?_)
  · have hg := Go_t c4 hg
    refine zv_iconst hx hb dX7_has_16 ?_
    exact (Go_s hg) _ _ dX7_has_17
  · have hg := Go_f c4 hg
    refine lv_iload_n hx hb dX7_has_4 rfl (lv_at hl 1 rfl) ?_
    refine lv_aload_n hx hb dX7_has_5 rfl (lv_at hl 0 rfl) ?_
    refine va_get (D := D) (ci := 7) (v := .int (zi t_size)) (C := RX7) (T := TX7) (N := 12) hx hb hts zi_X7_has_X7 hown hK hP 0 rfl rfl 9 (by decide) (hts (.fieldLink RX7 39 "DiamondRows$Sightings" "size" "I") zl_X7_has_39) (fun _ h9 => h9) rfl dX7_has_6 ?_
    obtain ⟨b2, hg⟩ := Go_n hg
    refine zv_icmp_ge (tgt := 16) hx hb dX7_has_9 (by decide) b1 b2 (fun c3 => ?_) (fun c3 => ?_)
    · have hg := Go_t c3 hg
      refine zv_iconst hx hb dX7_has_16 ?_
      exact (Go_s hg) _ _ dX7_has_17
    · have hg := Go_f c3 hg
      refine zv_iconst hx hb dX7_has_12 ?_
      refine lv_goto (tgt := 17) hx hb dX7_has_13 (by decide) ?_
      exact (Go_s hg) _ _ dX7_has_17
set_option maxHeartbeats 4000000 in
set_option maxRecDepth 100000 in
theorem zc_X7_has (l : Launch) (D : va_G) (κ : Nat → ClassId) (t : Nat → Nat) (t_size : Int) (t_rights : Int) (t_latest : Int) (t_seenStep : Nat) (t_seenFrom : Nat) (t_seenTo : Nat) (t_seenValue : Nat) (t_timesRight : Nat) (t_rightStep : Nat) (t_rightOf : Nat) (t_rightValue : Nat) (t_knownValue : Nat) (i1 : Int) (out : Bool) (h : zf_X7_has t_size i1 = some out) : Met l yX7_has wsX7_has zr_X7_has (va_Pc [.ref (t 0), .int (zi i1)] (zR D κ ([((t 0), .inr (7, [.ref (t 1), .ref (t 2), .ref (t 3), .ref (t 4), .ref (t 5), .ref (t 6), .ref (t 7), .ref (t 8), .ref (t 9), .int (zi t_size), .int (zi t_rights), .int (zi t_latest)])), ((t 1), .inl (κ 1, 20, .inl (zc t_seenStep))), ((t 2), .inl (κ 1, 20, .inl (zc t_seenFrom))), ((t 3), .inl (κ 1, 20, .inl (zc t_seenTo))), ((t 4), .inl (κ 1, 20, .inl (zc t_seenValue))), ((t 5), .inl (κ 1, 20, .inl (zc t_timesRight))), ((t 6), .inl (κ 1, 20, .inl (zc t_rightStep))), ((t 7), .inl (κ 1, 20, .inl (zc t_rightOf))), ((t 8), .inl (κ 1, 20, .inl (zc t_rightValue))), ((t 9), .inl (κ 1, 20, .inl (zc t_knownValue)))]))) (vp_Si (fun x => x = zi (bI out))) 0 0 (fun _ => False) := by
  refine Met.ofW (cc := cX7_has) (maxL := 2) (ret := (some .boolean)) (by decide +kernel) rfl ?_
  intro p e s m args below meth c s₁ B hml hv
  obtain ⟨rfl, hP, hK⟩ := hv
  have hx := B.exec
  have hb := B.bytes
  have hr := B.returns
  have hts := atoms_spec (ws := wsX7_has) B.pre
  have hown : s.vm.findClass RX7 = some m.cls := findClass_of_methodNamed B.named
  have hlocks := B.notSynchronized
  have hl := lv_entry ([.ref (t 0), .int (zi i1)]) (n := 2) (Nat.le_of_ble_eq_true rfl)
  rw [lg_entry_eq]
  generalize (lg_sl ([.ref (t 0), .int (zi i1)]) ++ List.replicate (2 - (lg_sl ([.ref (t 0), .int (zi i1)])).length) Slot.unset).toArray = ls at hl ⊢
  have hl : lv_has ls 2 [(0, .ref (t 0)), (1, .int (zi i1))] := hl
  refine zs_X7_has t t_size t_rights t_latest t_seenStep t_seenFrom t_seenTo t_seenValue t_timesRight t_rightStep t_rightOf t_rightValue t_knownValue i1 hx hb hml hown hts hK hP ls hl ⟨out, h, ?_⟩
  exact fun ls pc hd => W.zret hx hb hr (bI_nar _) (fun t ht hW => ⟨_, rfl, rfl, ht⟩) (fun _ h => by cases h) hd
/-! DiamondRows$Sightings.wasSeenBefore(II)Z -/
abbrev zr_X7_wasSeenBefore : Room := { frames := 1, cells := 0, slots := 0, locals := 21 }
noncomputable def zf_X7_wasSeenBefore  (t_size : Int) (t_seenStep : Nat) (i1 : Int) (i2 : Int) : Option (Bool) :=
  Option.bind (zf_X7_has t_size i2) (fun o1 =>
  if o1 = false then
  some (false)
  else
  if i2 < 0 ∨ 20 ≤ i2 then none else
  if zout i1 then none else
  if i1 ≤ (zget t_seenStep (Int.toNat i2)) then
  some (false)
  else
  some (true))
theorem zi_X7_wasSeenBefore_X7 : ∀ w ∈ u_ws RX7 TX7 12, w ∈ wsX7_wasSeenBefore := fun w h => (List.mem_cons_of_mem _ (List.mem_append_right _ (List.mem_append_left _ h)))
theorem zl_X7_wasSeenBefore_11 : Cond.fieldLink RX7 11 "DiamondRows$Sightings" "seenStep" "[I" ∈ wsX7_wasSeenBefore := (List.mem_cons_of_mem _ (List.mem_append_left _ (List.mem_of_getElem? (i := 0) rfl)))
def zQ_X7_wasSeenBefore (p : Program) (l : Launch) (e : Env) (s : State) (m : MethodId) (args : Array Value) (below : List Frame) (meth : Method) (c : Code) (Q : State → Prop) (H : Heap) (locs : List Loc)  (o : Bool) : Prop := ∀ (ls : Array Slot) (pc : Nat), decode cX7_wasSeenBefore pc = .ok (.ireturn, 1) → W p l e zr_X7_wasSeenBefore s m args below meth c H locs 0 0 Q (F0 m pc ls [.int (zi (bI o))])
set_option maxHeartbeats 4000000 in
set_option maxRecDepth 100000 in
theorem zs_X7_wasSeenBefore {p : Program} {l : Launch} {e : Env} {s : State} {m : MethodId} {args : Array Value} {below : List Frame} {meth : Method} {c : Code} {Q : State → Prop} {D : va_G} {κ : Nat → ClassId} {H : Heap} {locs : List Loc} (t : Nat → Nat) (t_size : Int) (t_rights : Int) (t_latest : Int) (t_seenStep : Nat) (t_seenFrom : Nat) (t_seenTo : Nat) (t_seenValue : Nat) (t_timesRight : Nat) (t_rightStep : Nat) (t_rightOf : Nat) (t_rightValue : Nat) (t_knownValue : Nat) (i1 : Int) (i2 : Int) (hx : p.tables.exec = Jvm.exec) (hb : c.code = cX7_wasSeenBefore) (hml : c.maxLocals = 3) (hown : s.vm.findClass RX7 = some m.cls) (hts : ∀ w ∈ wsX7_wasSeenBefore, w.before args s = true) (hK : va_K D vwCl (zTY κ) s) (hP : va_P D vwCl ([((t 0), .inr (7, [.ref (t 1), .ref (t 2), .ref (t 3), .ref (t 4), .ref (t 5), .ref (t 6), .ref (t 7), .ref (t 8), .ref (t 9), .int (zi t_size), .int (zi t_rights), .int (zi t_latest)])), ((t 1), .inl (κ 1, 20, .inl (zc t_seenStep))), ((t 2), .inl (κ 1, 20, .inl (zc t_seenFrom))), ((t 3), .inl (κ 1, 20, .inl (zc t_seenTo))), ((t 4), .inl (κ 1, 20, .inl (zc t_seenValue))), ((t 5), .inl (κ 1, 20, .inl (zc t_timesRight))), ((t 6), .inl (κ 1, 20, .inl (zc t_rightStep))), ((t 7), .inl (κ 1, 20, .inl (zc t_rightOf))), ((t 8), .inl (κ 1, 20, .inl (zc t_rightValue))), ((t 9), .inl (κ 1, 20, .inl (zc t_knownValue)))]) H) (ls : Array Slot) (hl : lv_has ls 3 [(0, .ref (t 0)), (1, .int (zi i1)), (2, .int (zi i2))]) (hg : Go (zQ_X7_wasSeenBefore p l e s m args below meth c Q H locs) (zf_X7_wasSeenBefore t_size t_seenStep i1 i2)) : W p l e zr_X7_wasSeenBefore s m args below meth c H locs 0 0 Q (F0 m 0 ls []) := by
  unfold zf_X7_wasSeenBefore at hg
  refine lv_aload_n hx hb dX7_wasSeenBefore_0 rfl (lv_at hl 0 rfl) ?_
  refine lv_iload_n hx hb dX7_wasSeenBefore_1 rfl (lv_at hl 2 rfl) ?_
  obtain ⟨o1, ho1, hg⟩ := Go_b hg
  refine zc_vi (rest := []) ⟨hx, hb, hml, hown, hts⟩ (zc_X7_has l D κ t t_size t_rights t_latest t_seenStep t_seenFrom t_seenTo t_seenValue t_timesRight t_rightStep t_rightOf t_rightValue t_knownValue i2 o1 ho1) (cwV 1 hts gX7_wasSeenBefore_X7_has rfl rfl rfl hv_X7_has ⟨Nat.le_of_ble_eq_true rfl, Nat.le_of_ble_eq_true rfl⟩) (zpreV hK (hP.sub [0, 1, 2, 3, 4, 5, 6, 7, 8, 9] rfl) 7 0 rfl rfl) rfl hl.1 rfl (Nat.le_of_ble_eq_true rfl) dX7_wasSeenBefore_2 ⟨Nat.zero_le _, Nat.zero_le _⟩ ?_
  refine zv_ifb_eq (tgt := 22) hx hb dX7_wasSeenBefore_5 (by decide) (fun c5 => ?_) (fun c5 => ?_)
  · have hg := Go_t c5 hg
    refine zv_iconst hx hb dX7_wasSeenBefore_22 ?_
    exact (Go_s hg) _ _ dX7_wasSeenBefore_23
  · have hg := Go_f c5 hg
    refine lv_aload_n hx hb dX7_wasSeenBefore_8 rfl (lv_at hl 0 rfl) ?_
    refine va_get (D := D) (ci := 7) (v := .ref (t 1)) (C := RX7) (T := TX7) (N := 12) hx hb hts zi_X7_wasSeenBefore_X7 hown hK hP 0 rfl rfl 0 (by decide) (hts (.fieldLink RX7 11 "DiamondRows$Sightings" "seenStep" "[I") zl_X7_wasSeenBefore_11) (fun _ h9 => h9) rfl dX7_wasSeenBefore_9 ?_
    refine lv_iload_n hx hb dX7_wasSeenBefore_12 rfl (lv_at hl 2 rfl) ?_
    obtain ⟨n2, hg⟩ := Go_n hg
    refine zv_iald hx hb hK hP 1 1 rfl rfl (by decide) n2 dX7_wasSeenBefore_13 ?_
    refine lv_iload_n hx hb dX7_wasSeenBefore_14 rfl (lv_at hl 1 rfl) ?_
    obtain ⟨b3, hg⟩ := Go_n hg
    refine zv_icmp_ge (tgt := 22) hx hb dX7_wasSeenBefore_15 (by decide) (zget_in _ _) b3 (fun c4 => ?_) (fun c4 => ?_)
    · have hg := Go_t c4 hg
      refine zv_iconst hx hb dX7_wasSeenBefore_22 ?_
      exact (Go_s hg) _ _ dX7_wasSeenBefore_23
    · have hg := Go_f c4 hg
      refine zv_iconst hx hb dX7_wasSeenBefore_18 ?_
      refine lv_goto (tgt := 23) hx hb dX7_wasSeenBefore_19 (by decide) ?_
      exact (Go_s hg) _ _ dX7_wasSeenBefore_23
set_option maxHeartbeats 4000000 in
set_option maxRecDepth 100000 in
theorem zc_X7_wasSeenBefore (l : Launch) (D : va_G) (κ : Nat → ClassId) (t : Nat → Nat) (t_size : Int) (t_rights : Int) (t_latest : Int) (t_seenStep : Nat) (t_seenFrom : Nat) (t_seenTo : Nat) (t_seenValue : Nat) (t_timesRight : Nat) (t_rightStep : Nat) (t_rightOf : Nat) (t_rightValue : Nat) (t_knownValue : Nat) (i1 : Int) (i2 : Int) (out : Bool) (h : zf_X7_wasSeenBefore t_size t_seenStep i1 i2 = some out) : Met l yX7_wasSeenBefore wsX7_wasSeenBefore zr_X7_wasSeenBefore (va_Pc [.ref (t 0), .int (zi i1), .int (zi i2)] (zR D κ ([((t 0), .inr (7, [.ref (t 1), .ref (t 2), .ref (t 3), .ref (t 4), .ref (t 5), .ref (t 6), .ref (t 7), .ref (t 8), .ref (t 9), .int (zi t_size), .int (zi t_rights), .int (zi t_latest)])), ((t 1), .inl (κ 1, 20, .inl (zc t_seenStep))), ((t 2), .inl (κ 1, 20, .inl (zc t_seenFrom))), ((t 3), .inl (κ 1, 20, .inl (zc t_seenTo))), ((t 4), .inl (κ 1, 20, .inl (zc t_seenValue))), ((t 5), .inl (κ 1, 20, .inl (zc t_timesRight))), ((t 6), .inl (κ 1, 20, .inl (zc t_rightStep))), ((t 7), .inl (κ 1, 20, .inl (zc t_rightOf))), ((t 8), .inl (κ 1, 20, .inl (zc t_rightValue))), ((t 9), .inl (κ 1, 20, .inl (zc t_knownValue)))]))) (vp_Si (fun x => x = zi (bI out))) 0 0 (fun _ => False) := by
  refine Met.ofW (cc := cX7_wasSeenBefore) (maxL := 3) (ret := (some .boolean)) (by decide +kernel) rfl ?_
  intro p e s m args below meth c s₁ B hml hv
  obtain ⟨rfl, hP, hK⟩ := hv
  have hx := B.exec
  have hb := B.bytes
  have hr := B.returns
  have hts := atoms_spec (ws := wsX7_wasSeenBefore) B.pre
  have hown : s.vm.findClass RX7 = some m.cls := findClass_of_methodNamed B.named
  have hlocks := B.notSynchronized
  have hl := lv_entry ([.ref (t 0), .int (zi i1), .int (zi i2)]) (n := 3) (Nat.le_of_ble_eq_true rfl)
  rw [lg_entry_eq]
  generalize (lg_sl ([.ref (t 0), .int (zi i1), .int (zi i2)]) ++ List.replicate (3 - (lg_sl ([.ref (t 0), .int (zi i1), .int (zi i2)])).length) Slot.unset).toArray = ls at hl ⊢
  have hl : lv_has ls 3 [(0, .ref (t 0)), (1, .int (zi i1)), (2, .int (zi i2))] := hl
  refine zs_X7_wasSeenBefore t t_size t_rights t_latest t_seenStep t_seenFrom t_seenTo t_seenValue t_timesRight t_rightStep t_rightOf t_rightValue t_knownValue i1 i2 hx hb hml hown hts hK hP ls hl ⟨out, h, ?_⟩
  exact fun ls pc hd => W.zret hx hb hr (bI_nar _) (fun t ht hW => ⟨_, rfl, rfl, ht⟩) (fun _ h => by cases h) hd
/-! DiamondRows$Sightings.canTell(I)Z -/
abbrev zr_X7_canTell : Room := { frames := 0, cells := 0, slots := 0, locals := 0 }
noncomputable def zf_X7_canTell  (t_latest : Int) (i1 : Int) : Option (Bool) :=
  if zout i1 then none else
  if zout t_latest then none else
  if i1 < t_latest then
  some (false)
  else
  if (999 : Int) < i1 then
  some (false)
  else
  some (true)
theorem zi_X7_canTell_X7 : ∀ w ∈ u_ws RX7 TX7 12, w ∈ wsX7_canTell := fun w h => (List.mem_cons_of_mem _ (List.mem_append_right _ h))
theorem zl_X7_canTell_50 : Cond.fieldLink RX7 50 "DiamondRows$Sightings" "latest" "I" ∈ wsX7_canTell := (List.mem_cons_of_mem _ (List.mem_append_left _ (List.mem_of_getElem? (i := 0) rfl)))
def zQ_X7_canTell (p : Program) (l : Launch) (e : Env) (s : State) (m : MethodId) (args : Array Value) (below : List Frame) (meth : Method) (c : Code) (Q : State → Prop) (H : Heap) (locs : List Loc)  (o : Bool) : Prop := ∀ (ls : Array Slot) (pc : Nat), decode cX7_canTell pc = .ok (.ireturn, 1) → W p l e zr_X7_canTell s m args below meth c H locs 0 0 Q (F0 m pc ls [.int (zi (bI o))])
set_option maxHeartbeats 4000000 in
set_option maxRecDepth 100000 in
theorem zs_X7_canTell {p : Program} {l : Launch} {e : Env} {s : State} {m : MethodId} {args : Array Value} {below : List Frame} {meth : Method} {c : Code} {Q : State → Prop} {D : va_G} {κ : Nat → ClassId} {H : Heap} {locs : List Loc} (t : Nat → Nat) (t_size : Int) (t_rights : Int) (t_latest : Int) (t_seenStep : Nat) (t_seenFrom : Nat) (t_seenTo : Nat) (t_seenValue : Nat) (t_timesRight : Nat) (t_rightStep : Nat) (t_rightOf : Nat) (t_rightValue : Nat) (t_knownValue : Nat) (i1 : Int) (hx : p.tables.exec = Jvm.exec) (hb : c.code = cX7_canTell) (hml : c.maxLocals = 2) (hown : s.vm.findClass RX7 = some m.cls) (hts : ∀ w ∈ wsX7_canTell, w.before args s = true) (hK : va_K D vwCl (zTY κ) s) (hP : va_P D vwCl ([((t 0), .inr (7, [.ref (t 1), .ref (t 2), .ref (t 3), .ref (t 4), .ref (t 5), .ref (t 6), .ref (t 7), .ref (t 8), .ref (t 9), .int (zi t_size), .int (zi t_rights), .int (zi t_latest)])), ((t 1), .inl (κ 1, 20, .inl (zc t_seenStep))), ((t 2), .inl (κ 1, 20, .inl (zc t_seenFrom))), ((t 3), .inl (κ 1, 20, .inl (zc t_seenTo))), ((t 4), .inl (κ 1, 20, .inl (zc t_seenValue))), ((t 5), .inl (κ 1, 20, .inl (zc t_timesRight))), ((t 6), .inl (κ 1, 20, .inl (zc t_rightStep))), ((t 7), .inl (κ 1, 20, .inl (zc t_rightOf))), ((t 8), .inl (κ 1, 20, .inl (zc t_rightValue))), ((t 9), .inl (κ 1, 20, .inl (zc t_knownValue)))]) H) (ls : Array Slot) (hl : lv_has ls 2 [(0, .ref (t 0)), (1, .int (zi i1))]) (hg : Go (zQ_X7_canTell p l e s m args below meth c Q H locs) (zf_X7_canTell t_latest i1)) : W p l e zr_X7_canTell s m args below meth c H locs 0 0 Q (F0 m 0 ls []) := by
  unfold zf_X7_canTell at hg
  refine lv_iload_n hx hb dX7_canTell_0 rfl (lv_at hl 1 rfl) ?_
  refine lv_aload_n hx hb dX7_canTell_1 rfl (lv_at hl 0 rfl) ?_
  refine va_get (D := D) (ci := 7) (v := .int (zi t_latest)) (C := RX7) (T := TX7) (N := 12) hx hb hts zi_X7_canTell_X7 hown hK hP 0 rfl rfl 11 (by decide) (hts (.fieldLink RX7 50 "DiamondRows$Sightings" "latest" "I") zl_X7_canTell_50) (fun _ h9 => h9) rfl dX7_canTell_2 ?_
  obtain ⟨b1, hg⟩ := Go_n hg
  obtain ⟨b2, hg⟩ := Go_n hg
  refine zv_icmp_lt (tgt := 19) hx hb dX7_canTell_5 (by decide) b1 b2 (fun c4 => ?_) (fun c4 => ?_)
  · have hg := Go_t c4 hg
    refine zv_iconst hx hb dX7_canTell_19 ?_
    exact (Go_s hg) _ _ dX7_canTell_20
  · have hg := Go_f c4 hg
    refine lv_iload_n hx hb dX7_canTell_8 rfl (lv_at hl 1 rfl) ?_
    refine zv_sipush hx hb dX7_canTell_9 (by decide) ?_
    refine zv_icmp_gt (tgt := 19) hx hb dX7_canTell_12 (by decide) b1 (by decide) (fun c3 => ?_) (fun c3 => ?_)
    · have hg := Go_t c3 hg
      refine zv_iconst hx hb dX7_canTell_19 ?_
      exact (Go_s hg) _ _ dX7_canTell_20
    · have hg := Go_f c3 hg
      refine zv_iconst hx hb dX7_canTell_15 ?_
      refine lv_goto (tgt := 20) hx hb dX7_canTell_16 (by decide) ?_
      exact (Go_s hg) _ _ dX7_canTell_20
set_option maxHeartbeats 4000000 in
set_option maxRecDepth 100000 in
theorem zc_X7_canTell (l : Launch) (D : va_G) (κ : Nat → ClassId) (t : Nat → Nat) (t_size : Int) (t_rights : Int) (t_latest : Int) (t_seenStep : Nat) (t_seenFrom : Nat) (t_seenTo : Nat) (t_seenValue : Nat) (t_timesRight : Nat) (t_rightStep : Nat) (t_rightOf : Nat) (t_rightValue : Nat) (t_knownValue : Nat) (i1 : Int) (out : Bool) (h : zf_X7_canTell t_latest i1 = some out) : Met l yX7_canTell wsX7_canTell zr_X7_canTell (va_Pc [.ref (t 0), .int (zi i1)] (zR D κ ([((t 0), .inr (7, [.ref (t 1), .ref (t 2), .ref (t 3), .ref (t 4), .ref (t 5), .ref (t 6), .ref (t 7), .ref (t 8), .ref (t 9), .int (zi t_size), .int (zi t_rights), .int (zi t_latest)])), ((t 1), .inl (κ 1, 20, .inl (zc t_seenStep))), ((t 2), .inl (κ 1, 20, .inl (zc t_seenFrom))), ((t 3), .inl (κ 1, 20, .inl (zc t_seenTo))), ((t 4), .inl (κ 1, 20, .inl (zc t_seenValue))), ((t 5), .inl (κ 1, 20, .inl (zc t_timesRight))), ((t 6), .inl (κ 1, 20, .inl (zc t_rightStep))), ((t 7), .inl (κ 1, 20, .inl (zc t_rightOf))), ((t 8), .inl (κ 1, 20, .inl (zc t_rightValue))), ((t 9), .inl (κ 1, 20, .inl (zc t_knownValue)))]))) (vp_Si (fun x => x = zi (bI out))) 0 0 (fun _ => False) := by
  refine Met.ofW (cc := cX7_canTell) (maxL := 2) (ret := (some .boolean)) (by decide +kernel) rfl ?_
  intro p e s m args below meth c s₁ B hml hv
  obtain ⟨rfl, hP, hK⟩ := hv
  have hx := B.exec
  have hb := B.bytes
  have hr := B.returns
  have hts := atoms_spec (ws := wsX7_canTell) B.pre
  have hown : s.vm.findClass RX7 = some m.cls := findClass_of_methodNamed B.named
  have hlocks := B.notSynchronized
  have hl := lv_entry ([.ref (t 0), .int (zi i1)]) (n := 2) (Nat.le_of_ble_eq_true rfl)
  rw [lg_entry_eq]
  generalize (lg_sl ([.ref (t 0), .int (zi i1)]) ++ List.replicate (2 - (lg_sl ([.ref (t 0), .int (zi i1)])).length) Slot.unset).toArray = ls at hl ⊢
  have hl : lv_has ls 2 [(0, .ref (t 0)), (1, .int (zi i1))] := hl
  refine zs_X7_canTell t t_size t_rights t_latest t_seenStep t_seenFrom t_seenTo t_seenValue t_timesRight t_rightStep t_rightOf t_rightValue t_knownValue i1 hx hb hml hown hts hK hP ls hl ⟨out, h, ?_⟩
  exact fun ls pc hd => W.zret hx hb hr (bI_nar _) (fun t ht hW => ⟨_, rfl, rfl, ht⟩) (fun _ h => by cases h) hd
/-! DiamondRows$Sightings.forget()V -/
abbrev zr_X7_forget : Room := { frames := 0, cells := 0, slots := 0, locals := 0 }
noncomputable def zf_X7_forget  (t_size : Int) (t_rights : Int) (t_latest : Int)  : Option (Int × Int × Int) :=
  some ((0 : Int), (0 : Int), (0 : Int))
theorem zi_X7_forget_X7 : ∀ w ∈ u_ws RX7 TX7 12, w ∈ wsX7_forget := fun w h => (List.mem_cons_of_mem _ (List.mem_append_right _ h))
theorem zl_X7_forget_39 : Cond.fieldLink RX7 39 "DiamondRows$Sightings" "size" "I" ∈ wsX7_forget := (List.mem_cons_of_mem _ (List.mem_append_left _ (List.mem_of_getElem? (i := 0) rfl)))
theorem zl_X7_forget_43 : Cond.fieldLink RX7 43 "DiamondRows$Sightings" "rights" "I" ∈ wsX7_forget := (List.mem_cons_of_mem _ (List.mem_append_left _ (List.mem_of_getElem? (i := 1) rfl)))
theorem zl_X7_forget_50 : Cond.fieldLink RX7 50 "DiamondRows$Sightings" "latest" "I" ∈ wsX7_forget := (List.mem_cons_of_mem _ (List.mem_append_left _ (List.mem_of_getElem? (i := 2) rfl)))
def zQ_X7_forget (p : Program) (l : Launch) (e : Env) (s : State) (m : MethodId) (args : Array Value) (below : List Frame) (meth : Method) (c : Code) (Q : State → Prop) (D : va_G) (κ : Nat → ClassId) (A : Nat → Prop) (H0 : Heap) (t : Nat → Nat) (t_seenStep : Nat) (t_seenFrom : Nat) (t_seenTo : Nat) (t_seenValue : Nat) (t_timesRight : Nat) (t_rightStep : Nat) (t_rightOf : Nat) (t_rightValue : Nat) (t_knownValue : Nat) (o : Int × Int × Int) : Prop := ∀ (H : Heap) (locs : List Loc) (ls : Array Slot) (pc : Nat), va_P D vwCl ([((t 0), .inr (7, [.ref (t 1), .ref (t 2), .ref (t 3), .ref (t 4), .ref (t 5), .ref (t 6), .ref (t 7), .ref (t 8), .ref (t 9), .int (zi (o.1)), .int (zi (o.2.1)), .int (zi (o.2.2))])), ((t 1), .inl (κ 1, 20, .inl (zc t_seenStep))), ((t 2), .inl (κ 1, 20, .inl (zc t_seenFrom))), ((t 3), .inl (κ 1, 20, .inl (zc t_seenTo))), ((t 4), .inl (κ 1, 20, .inl (zc t_seenValue))), ((t 5), .inl (κ 1, 20, .inl (zc t_timesRight))), ((t 6), .inl (κ 1, 20, .inl (zc t_rightStep))), ((t 7), .inl (κ 1, 20, .inl (zc t_rightOf))), ((t 8), .inl (κ 1, 20, .inl (zc t_rightValue))), ((t 9), .inl (κ 1, 20, .inl (zc t_knownValue)))]) H → va_D A ([((t 0), .inr (7, [.ref (t 1), .ref (t 2), .ref (t 3), .ref (t 4), .ref (t 5), .ref (t 6), .ref (t 7), .ref (t 8), .ref (t 9), .int (zi (o.1)), .int (zi (o.2.1)), .int (zi (o.2.2))])), ((t 1), .inl (κ 1, 20, .inl (zc t_seenStep))), ((t 2), .inl (κ 1, 20, .inl (zc t_seenFrom))), ((t 3), .inl (κ 1, 20, .inl (zc t_seenTo))), ((t 4), .inl (κ 1, 20, .inl (zc t_seenValue))), ((t 5), .inl (κ 1, 20, .inl (zc t_timesRight))), ((t 6), .inl (κ 1, 20, .inl (zc t_rightStep))), ((t 7), .inl (κ 1, 20, .inl (zc t_rightOf))), ((t 8), .inl (κ 1, 20, .inl (zc t_rightValue))), ((t 9), .inl (κ 1, 20, .inl (zc t_knownValue)))]) → va_S A H0 H locs → decode cX7_forget pc = .ok (.return_, 1) → W p l e zr_X7_forget s m args below meth c H locs 0 0 Q (F0 m pc ls [])
set_option maxHeartbeats 4000000 in
set_option maxRecDepth 100000 in
theorem zs_X7_forget {p : Program} {l : Launch} {e : Env} {s : State} {m : MethodId} {args : Array Value} {below : List Frame} {meth : Method} {c : Code} {Q : State → Prop} {D : va_G} {κ : Nat → ClassId} {A : Nat → Prop} {H0 : Heap} (t : Nat → Nat) (t_size : Int) (t_rights : Int) (t_latest : Int) (t_seenStep : Nat) (t_seenFrom : Nat) (t_seenTo : Nat) (t_seenValue : Nat) (t_timesRight : Nat) (t_rightStep : Nat) (t_rightOf : Nat) (t_rightValue : Nat) (t_knownValue : Nat)  (hx : p.tables.exec = Jvm.exec) (hb : c.code = cX7_forget) (hml : c.maxLocals = 1) (hown : s.vm.findClass RX7 = some m.cls) (hts : ∀ w ∈ wsX7_forget, w.before args s = true) (hK : va_K D vwCl (zTY κ) s) (hA : ∀ q : Nat, H0.size ≤ q → A q) (H : Heap) (locs : List Loc) (ls : Array Slot) (hP : va_P D vwCl ([((t 0), .inr (7, [.ref (t 1), .ref (t 2), .ref (t 3), .ref (t 4), .ref (t 5), .ref (t 6), .ref (t 7), .ref (t 8), .ref (t 9), .int (zi t_size), .int (zi t_rights), .int (zi t_latest)])), ((t 1), .inl (κ 1, 20, .inl (zc t_seenStep))), ((t 2), .inl (κ 1, 20, .inl (zc t_seenFrom))), ((t 3), .inl (κ 1, 20, .inl (zc t_seenTo))), ((t 4), .inl (κ 1, 20, .inl (zc t_seenValue))), ((t 5), .inl (κ 1, 20, .inl (zc t_timesRight))), ((t 6), .inl (κ 1, 20, .inl (zc t_rightStep))), ((t 7), .inl (κ 1, 20, .inl (zc t_rightOf))), ((t 8), .inl (κ 1, 20, .inl (zc t_rightValue))), ((t 9), .inl (κ 1, 20, .inl (zc t_knownValue)))]) H) (hD : va_D A ([((t 0), .inr (7, [.ref (t 1), .ref (t 2), .ref (t 3), .ref (t 4), .ref (t 5), .ref (t 6), .ref (t 7), .ref (t 8), .ref (t 9), .int (zi t_size), .int (zi t_rights), .int (zi t_latest)])), ((t 1), .inl (κ 1, 20, .inl (zc t_seenStep))), ((t 2), .inl (κ 1, 20, .inl (zc t_seenFrom))), ((t 3), .inl (κ 1, 20, .inl (zc t_seenTo))), ((t 4), .inl (κ 1, 20, .inl (zc t_seenValue))), ((t 5), .inl (κ 1, 20, .inl (zc t_timesRight))), ((t 6), .inl (κ 1, 20, .inl (zc t_rightStep))), ((t 7), .inl (κ 1, 20, .inl (zc t_rightOf))), ((t 8), .inl (κ 1, 20, .inl (zc t_rightValue))), ((t 9), .inl (κ 1, 20, .inl (zc t_knownValue)))])) (hS : va_S A H0 H locs) (hl : lv_has ls 1 [(0, .ref (t 0))]) (hg : Go (zQ_X7_forget p l e s m args below meth c Q D κ A H0 t t_seenStep t_seenFrom t_seenTo t_seenValue t_timesRight t_rightStep t_rightOf t_rightValue t_knownValue) (zf_X7_forget t_size t_rights t_latest )) : W p l e zr_X7_forget s m args below meth c H locs 0 0 Q (F0 m 0 ls []) := by
  unfold zf_X7_forget at hg
  refine lv_aload_n hx hb dX7_forget_0 rfl (lv_at hl 0 rfl) ?_
  refine zv_iconst hx hb dX7_forget_1 ?_
  refine va_put (D := D) (ci := 7) (v := .int (zi (0 : Int))) (ty := .int) (C := RX7) (T := TX7) (N := 12) hx hb hts zi_X7_forget_X7 tyX7 tyX7_ok nmX7 hown hK hP hD hS 0 rfl rfl 9 (by decide) (hts (.fieldLink RX7 39 "DiamondRows$Sightings" "size" "I") zl_X7_forget_39) (fun _ h9 => h9) rfl (by decide +kernel) rfl rfl (Nat.le_of_ble_eq_true rfl) dX7_forget_2 (fun H locs hP hD hS => ?_)
  have hP : va_P D vwCl ([((t 0), .inr (7, [.ref (t 1), .ref (t 2), .ref (t 3), .ref (t 4), .ref (t 5), .ref (t 6), .ref (t 7), .ref (t 8), .ref (t 9), .int (zi (0 : Int)), .int (zi t_rights), .int (zi t_latest)])), ((t 1), .inl (κ 1, 20, .inl (zc t_seenStep))), ((t 2), .inl (κ 1, 20, .inl (zc t_seenFrom))), ((t 3), .inl (κ 1, 20, .inl (zc t_seenTo))), ((t 4), .inl (κ 1, 20, .inl (zc t_seenValue))), ((t 5), .inl (κ 1, 20, .inl (zc t_timesRight))), ((t 6), .inl (κ 1, 20, .inl (zc t_rightStep))), ((t 7), .inl (κ 1, 20, .inl (zc t_rightOf))), ((t 8), .inl (κ 1, 20, .inl (zc t_rightValue))), ((t 9), .inl (κ 1, 20, .inl (zc t_knownValue)))]) H := hP
  have hD : va_D A ([((t 0), .inr (7, [.ref (t 1), .ref (t 2), .ref (t 3), .ref (t 4), .ref (t 5), .ref (t 6), .ref (t 7), .ref (t 8), .ref (t 9), .int (zi (0 : Int)), .int (zi t_rights), .int (zi t_latest)])), ((t 1), .inl (κ 1, 20, .inl (zc t_seenStep))), ((t 2), .inl (κ 1, 20, .inl (zc t_seenFrom))), ((t 3), .inl (κ 1, 20, .inl (zc t_seenTo))), ((t 4), .inl (κ 1, 20, .inl (zc t_seenValue))), ((t 5), .inl (κ 1, 20, .inl (zc t_timesRight))), ((t 6), .inl (κ 1, 20, .inl (zc t_rightStep))), ((t 7), .inl (κ 1, 20, .inl (zc t_rightOf))), ((t 8), .inl (κ 1, 20, .inl (zc t_rightValue))), ((t 9), .inl (κ 1, 20, .inl (zc t_knownValue)))]) := hD
  refine lv_aload_n hx hb dX7_forget_5 rfl (lv_at hl 0 rfl) ?_
  refine zv_iconst hx hb dX7_forget_6 ?_
  refine va_put (D := D) (ci := 7) (v := .int (zi (0 : Int))) (ty := .int) (C := RX7) (T := TX7) (N := 12) hx hb hts zi_X7_forget_X7 tyX7 tyX7_ok nmX7 hown hK hP hD hS 0 rfl rfl 10 (by decide) (hts (.fieldLink RX7 43 "DiamondRows$Sightings" "rights" "I") zl_X7_forget_43) (fun _ h9 => h9) rfl (by decide +kernel) rfl rfl (Nat.le_of_ble_eq_true rfl) dX7_forget_7 (fun H locs hP hD hS => ?_)
  have hP : va_P D vwCl ([((t 0), .inr (7, [.ref (t 1), .ref (t 2), .ref (t 3), .ref (t 4), .ref (t 5), .ref (t 6), .ref (t 7), .ref (t 8), .ref (t 9), .int (zi (0 : Int)), .int (zi (0 : Int)), .int (zi t_latest)])), ((t 1), .inl (κ 1, 20, .inl (zc t_seenStep))), ((t 2), .inl (κ 1, 20, .inl (zc t_seenFrom))), ((t 3), .inl (κ 1, 20, .inl (zc t_seenTo))), ((t 4), .inl (κ 1, 20, .inl (zc t_seenValue))), ((t 5), .inl (κ 1, 20, .inl (zc t_timesRight))), ((t 6), .inl (κ 1, 20, .inl (zc t_rightStep))), ((t 7), .inl (κ 1, 20, .inl (zc t_rightOf))), ((t 8), .inl (κ 1, 20, .inl (zc t_rightValue))), ((t 9), .inl (κ 1, 20, .inl (zc t_knownValue)))]) H := hP
  have hD : va_D A ([((t 0), .inr (7, [.ref (t 1), .ref (t 2), .ref (t 3), .ref (t 4), .ref (t 5), .ref (t 6), .ref (t 7), .ref (t 8), .ref (t 9), .int (zi (0 : Int)), .int (zi (0 : Int)), .int (zi t_latest)])), ((t 1), .inl (κ 1, 20, .inl (zc t_seenStep))), ((t 2), .inl (κ 1, 20, .inl (zc t_seenFrom))), ((t 3), .inl (κ 1, 20, .inl (zc t_seenTo))), ((t 4), .inl (κ 1, 20, .inl (zc t_seenValue))), ((t 5), .inl (κ 1, 20, .inl (zc t_timesRight))), ((t 6), .inl (κ 1, 20, .inl (zc t_rightStep))), ((t 7), .inl (κ 1, 20, .inl (zc t_rightOf))), ((t 8), .inl (κ 1, 20, .inl (zc t_rightValue))), ((t 9), .inl (κ 1, 20, .inl (zc t_knownValue)))]) := hD
  refine lv_aload_n hx hb dX7_forget_10 rfl (lv_at hl 0 rfl) ?_
  refine zv_iconst hx hb dX7_forget_11 ?_
  refine va_put (D := D) (ci := 7) (v := .int (zi (0 : Int))) (ty := .int) (C := RX7) (T := TX7) (N := 12) hx hb hts zi_X7_forget_X7 tyX7 tyX7_ok nmX7 hown hK hP hD hS 0 rfl rfl 11 (by decide) (hts (.fieldLink RX7 50 "DiamondRows$Sightings" "latest" "I") zl_X7_forget_50) (fun _ h9 => h9) rfl (by decide +kernel) rfl rfl (Nat.le_of_ble_eq_true rfl) dX7_forget_12 (fun H locs hP hD hS => ?_)
  have hP : va_P D vwCl ([((t 0), .inr (7, [.ref (t 1), .ref (t 2), .ref (t 3), .ref (t 4), .ref (t 5), .ref (t 6), .ref (t 7), .ref (t 8), .ref (t 9), .int (zi (0 : Int)), .int (zi (0 : Int)), .int (zi (0 : Int))])), ((t 1), .inl (κ 1, 20, .inl (zc t_seenStep))), ((t 2), .inl (κ 1, 20, .inl (zc t_seenFrom))), ((t 3), .inl (κ 1, 20, .inl (zc t_seenTo))), ((t 4), .inl (κ 1, 20, .inl (zc t_seenValue))), ((t 5), .inl (κ 1, 20, .inl (zc t_timesRight))), ((t 6), .inl (κ 1, 20, .inl (zc t_rightStep))), ((t 7), .inl (κ 1, 20, .inl (zc t_rightOf))), ((t 8), .inl (κ 1, 20, .inl (zc t_rightValue))), ((t 9), .inl (κ 1, 20, .inl (zc t_knownValue)))]) H := hP
  have hD : va_D A ([((t 0), .inr (7, [.ref (t 1), .ref (t 2), .ref (t 3), .ref (t 4), .ref (t 5), .ref (t 6), .ref (t 7), .ref (t 8), .ref (t 9), .int (zi (0 : Int)), .int (zi (0 : Int)), .int (zi (0 : Int))])), ((t 1), .inl (κ 1, 20, .inl (zc t_seenStep))), ((t 2), .inl (κ 1, 20, .inl (zc t_seenFrom))), ((t 3), .inl (κ 1, 20, .inl (zc t_seenTo))), ((t 4), .inl (κ 1, 20, .inl (zc t_seenValue))), ((t 5), .inl (κ 1, 20, .inl (zc t_timesRight))), ((t 6), .inl (κ 1, 20, .inl (zc t_rightStep))), ((t 7), .inl (κ 1, 20, .inl (zc t_rightOf))), ((t 8), .inl (κ 1, 20, .inl (zc t_rightValue))), ((t 9), .inl (κ 1, 20, .inl (zc t_knownValue)))]) := hD
  exact (Go_s hg) _ _ _ _ hP hD hS dX7_forget_15
set_option maxHeartbeats 4000000 in
set_option maxRecDepth 100000 in
theorem zc_X7_forget (l : Launch) (D : va_G) (κ : Nat → ClassId) (t : Nat → Nat) (sz : Nat) (t_size : Int) (t_rights : Int) (t_latest : Int) (t_seenStep : Nat) (t_seenFrom : Nat) (t_seenTo : Nat) (t_seenValue : Nat) (t_timesRight : Nat) (t_rightStep : Nat) (t_rightOf : Nat) (t_rightValue : Nat) (t_knownValue : Nat)  (out : Int × Int × Int) (h : zf_X7_forget t_size t_rights t_latest  = some out) : Met l yX7_forget wsX7_forget zr_X7_forget (va_Pc [.ref (t 0)] (zW D κ ([((t 0), .inr (7, [.ref (t 1), .ref (t 2), .ref (t 3), .ref (t 4), .ref (t 5), .ref (t 6), .ref (t 7), .ref (t 8), .ref (t 9), .int (zi t_size), .int (zi t_rights), .int (zi t_latest)])), ((t 1), .inl (κ 1, 20, .inl (zc t_seenStep))), ((t 2), .inl (κ 1, 20, .inl (zc t_seenFrom))), ((t 3), .inl (κ 1, 20, .inl (zc t_seenTo))), ((t 4), .inl (κ 1, 20, .inl (zc t_seenValue))), ((t 5), .inl (κ 1, 20, .inl (zc t_timesRight))), ((t 6), .inl (κ 1, 20, .inl (zc t_rightStep))), ((t 7), .inl (κ 1, 20, .inl (zc t_rightOf))), ((t 8), .inl (κ 1, 20, .inl (zc t_rightValue))), ((t 9), .inl (κ 1, 20, .inl (zc t_knownValue)))]) sz)) (va_Qv (fun (_ : Unit) => True) (fun _ => zB D κ (va_A ([((t 0), .inr (7, [.ref (t 1), .ref (t 2), .ref (t 3), .ref (t 4), .ref (t 5), .ref (t 6), .ref (t 7), .ref (t 8), .ref (t 9), .int (zi t_size), .int (zi t_rights), .int (zi t_latest)])), ((t 1), .inl (κ 1, 20, .inl (zc t_seenStep))), ((t 2), .inl (κ 1, 20, .inl (zc t_seenFrom))), ((t 3), .inl (κ 1, 20, .inl (zc t_seenTo))), ((t 4), .inl (κ 1, 20, .inl (zc t_seenValue))), ((t 5), .inl (κ 1, 20, .inl (zc t_timesRight))), ((t 6), .inl (κ 1, 20, .inl (zc t_rightStep))), ((t 7), .inl (κ 1, 20, .inl (zc t_rightOf))), ((t 8), .inl (κ 1, 20, .inl (zc t_rightValue))), ((t 9), .inl (κ 1, 20, .inl (zc t_knownValue)))]) sz) ([((t 0), .inr (7, [.ref (t 1), .ref (t 2), .ref (t 3), .ref (t 4), .ref (t 5), .ref (t 6), .ref (t 7), .ref (t 8), .ref (t 9), .int (zi (out.1)), .int (zi (out.2.1)), .int (zi (out.2.2))])), ((t 1), .inl (κ 1, 20, .inl (zc t_seenStep))), ((t 2), .inl (κ 1, 20, .inl (zc t_seenFrom))), ((t 3), .inl (κ 1, 20, .inl (zc t_seenTo))), ((t 4), .inl (κ 1, 20, .inl (zc t_seenValue))), ((t 5), .inl (κ 1, 20, .inl (zc t_timesRight))), ((t 6), .inl (κ 1, 20, .inl (zc t_rightStep))), ((t 7), .inl (κ 1, 20, .inl (zc t_rightOf))), ((t 8), .inl (κ 1, 20, .inl (zc t_rightValue))), ((t 9), .inl (κ 1, 20, .inl (zc t_knownValue)))])) (va_A ([((t 0), .inr (7, [.ref (t 1), .ref (t 2), .ref (t 3), .ref (t 4), .ref (t 5), .ref (t 6), .ref (t 7), .ref (t 8), .ref (t 9), .int (zi t_size), .int (zi t_rights), .int (zi t_latest)])), ((t 1), .inl (κ 1, 20, .inl (zc t_seenStep))), ((t 2), .inl (κ 1, 20, .inl (zc t_seenFrom))), ((t 3), .inl (κ 1, 20, .inl (zc t_seenTo))), ((t 4), .inl (κ 1, 20, .inl (zc t_seenValue))), ((t 5), .inl (κ 1, 20, .inl (zc t_timesRight))), ((t 6), .inl (κ 1, 20, .inl (zc t_rightStep))), ((t 7), .inl (κ 1, 20, .inl (zc t_rightOf))), ((t 8), .inl (κ 1, 20, .inl (zc t_rightValue))), ((t 9), .inl (κ 1, 20, .inl (zc t_knownValue)))]) sz)) 0 0 (va_A ([((t 0), .inr (7, [.ref (t 1), .ref (t 2), .ref (t 3), .ref (t 4), .ref (t 5), .ref (t 6), .ref (t 7), .ref (t 8), .ref (t 9), .int (zi t_size), .int (zi t_rights), .int (zi t_latest)])), ((t 1), .inl (κ 1, 20, .inl (zc t_seenStep))), ((t 2), .inl (κ 1, 20, .inl (zc t_seenFrom))), ((t 3), .inl (κ 1, 20, .inl (zc t_seenTo))), ((t 4), .inl (κ 1, 20, .inl (zc t_seenValue))), ((t 5), .inl (κ 1, 20, .inl (zc t_timesRight))), ((t 6), .inl (κ 1, 20, .inl (zc t_rightStep))), ((t 7), .inl (κ 1, 20, .inl (zc t_rightOf))), ((t 8), .inl (κ 1, 20, .inl (zc t_rightValue))), ((t 9), .inl (κ 1, 20, .inl (zc t_knownValue)))]) sz) := by
  refine Met.ofW (cc := cX7_forget) (maxL := 1) (ret := none) (by decide +kernel) rfl ?_
  intro p e s m args below meth c s₁ B hml hv
  obtain ⟨rfl, hsz, hP, hK, hD0⟩ := hv
  have hx := B.exec
  have hb := B.bytes
  have hr := B.returns
  have hts := atoms_spec (ws := wsX7_forget) B.pre
  have hown : s.vm.findClass RX7 = some m.cls := findClass_of_methodNamed B.named
  have hlocks := B.notSynchronized
  subst hsz
  have hD := hD0.self (sz := s.heap.size)
  generalize hAe : va_A ([((t 0), .inr (7, [.ref (t 1), .ref (t 2), .ref (t 3), .ref (t 4), .ref (t 5), .ref (t 6), .ref (t 7), .ref (t 8), .ref (t 9), .int (zi t_size), .int (zi t_rights), .int (zi t_latest)])), ((t 1), .inl (κ 1, 20, .inl (zc t_seenStep))), ((t 2), .inl (κ 1, 20, .inl (zc t_seenFrom))), ((t 3), .inl (κ 1, 20, .inl (zc t_seenTo))), ((t 4), .inl (κ 1, 20, .inl (zc t_seenValue))), ((t 5), .inl (κ 1, 20, .inl (zc t_timesRight))), ((t 6), .inl (κ 1, 20, .inl (zc t_rightStep))), ((t 7), .inl (κ 1, 20, .inl (zc t_rightOf))), ((t 8), .inl (κ 1, 20, .inl (zc t_rightValue))), ((t 9), .inl (κ 1, 20, .inl (zc t_knownValue)))]) s.heap.size = A at hD ⊢
  have hA : ∀ q : Nat, s.heap.size ≤ q → A q := fun q h => by rw [← hAe]; exact Or.inr h
  have hS : va_S A s.heap s.heap [] := va_S.rf
  have hl := lv_entry ([.ref (t 0)]) (n := 1) (Nat.le_of_ble_eq_true rfl)
  rw [lg_entry_eq]
  generalize (lg_sl ([.ref (t 0)]) ++ List.replicate (1 - (lg_sl ([.ref (t 0)])).length) Slot.unset).toArray = ls at hl ⊢
  have hl : lv_has ls 1 [(0, .ref (t 0))] := hl
  refine zs_X7_forget t t_size t_rights t_latest t_seenStep t_seenFrom t_seenTo t_seenValue t_timesRight t_rightStep t_rightOf t_rightValue t_knownValue  hx hb hml hown hts hK hA s.heap [] ls hP hD hS hl ⟨out, h, ?_⟩
  exact fun H locs ls pc hP hD hS hd => W.vret hx hb hr (fun t ht hW => ⟨⟨(), rfl, trivial, by rw [ht]; exact hP, va_K.moved hW.alike hK, hD⟩, hS.F ht⟩) hS.2.2 hd
/-! DiamondRows$Sightings.add(IIII)I -/
abbrev zr_X7_add : Room := { frames := 0, cells := 0, slots := 0, locals := 0 }
noncomputable def zf_X7_add  (t_size : Int) (t_latest : Int) (t_seenStep : Nat) (t_seenFrom : Nat) (t_seenTo : Nat) (t_seenValue : Nat) (t_timesRight : Nat) (i1 : Int) (i2 : Int) (i3 : Int) (i4 : Int) : Option (Int × Int × Int × Nat × Nat × Nat × Nat × Nat) :=
  if zout t_size then none else
  if t_size < (20 : Int) then
  if t_size < 0 ∨ 20 ≤ t_size then none else
  some (((t_size + (1 : Int)) - (1 : Int)), (t_size + (1 : Int)), i1, (zset t_seenStep (Int.toNat t_size) i1), (zset t_seenFrom (Int.toNat t_size) i2), (zset t_seenTo (Int.toNat t_size) i3), (zset t_seenValue (Int.toNat t_size) i4), (zset t_timesRight (Int.toNat t_size) (0 : Int)))
  else
  some ((-3 : Int), t_size, t_latest, t_seenStep, t_seenFrom, t_seenTo, t_seenValue, t_timesRight)
theorem zi_X7_add_X7 : ∀ w ∈ u_ws RX7 TX7 12, w ∈ wsX7_add := fun w h => (List.mem_cons_of_mem _ (List.mem_append_right _ h))
theorem zl_X7_add_11 : Cond.fieldLink RX7 11 "DiamondRows$Sightings" "seenStep" "[I" ∈ wsX7_add := (List.mem_cons_of_mem _ (List.mem_append_left _ (List.mem_of_getElem? (i := 1) rfl)))
theorem zl_X7_add_15 : Cond.fieldLink RX7 15 "DiamondRows$Sightings" "seenFrom" "[I" ∈ wsX7_add := (List.mem_cons_of_mem _ (List.mem_append_left _ (List.mem_of_getElem? (i := 2) rfl)))
theorem zl_X7_add_18 : Cond.fieldLink RX7 18 "DiamondRows$Sightings" "seenTo" "[I" ∈ wsX7_add := (List.mem_cons_of_mem _ (List.mem_append_left _ (List.mem_of_getElem? (i := 3) rfl)))
theorem zl_X7_add_21 : Cond.fieldLink RX7 21 "DiamondRows$Sightings" "seenValue" "[I" ∈ wsX7_add := (List.mem_cons_of_mem _ (List.mem_append_left _ (List.mem_of_getElem? (i := 4) rfl)))
theorem zl_X7_add_24 : Cond.fieldLink RX7 24 "DiamondRows$Sightings" "timesRight" "[I" ∈ wsX7_add := (List.mem_cons_of_mem _ (List.mem_append_left _ (List.mem_of_getElem? (i := 5) rfl)))
theorem zl_X7_add_39 : Cond.fieldLink RX7 39 "DiamondRows$Sightings" "size" "I" ∈ wsX7_add := (List.mem_cons_of_mem _ (List.mem_append_left _ (List.mem_of_getElem? (i := 0) rfl)))
theorem zl_X7_add_50 : Cond.fieldLink RX7 50 "DiamondRows$Sightings" "latest" "I" ∈ wsX7_add := (List.mem_cons_of_mem _ (List.mem_append_left _ (List.mem_of_getElem? (i := 6) rfl)))
def zQ_X7_add (p : Program) (l : Launch) (e : Env) (s : State) (m : MethodId) (args : Array Value) (below : List Frame) (meth : Method) (c : Code) (Q : State → Prop) (D : va_G) (κ : Nat → ClassId) (A : Nat → Prop) (H0 : Heap) (t : Nat → Nat) (t_rights : Int) (t_rightStep : Nat) (t_rightOf : Nat) (t_rightValue : Nat) (t_knownValue : Nat) (o : Int × Int × Int × Nat × Nat × Nat × Nat × Nat) : Prop := ∀ (H : Heap) (locs : List Loc) (ls : Array Slot) (pc : Nat), va_P D vwCl ([((t 0), .inr (7, [.ref (t 1), .ref (t 2), .ref (t 3), .ref (t 4), .ref (t 5), .ref (t 6), .ref (t 7), .ref (t 8), .ref (t 9), .int (zi (o.2.1)), .int (zi t_rights), .int (zi (o.2.2.1))])), ((t 1), .inl (κ 1, 20, .inl (zc (o.2.2.2.1)))), ((t 2), .inl (κ 1, 20, .inl (zc (o.2.2.2.2.1)))), ((t 3), .inl (κ 1, 20, .inl (zc (o.2.2.2.2.2.1)))), ((t 4), .inl (κ 1, 20, .inl (zc (o.2.2.2.2.2.2.1)))), ((t 5), .inl (κ 1, 20, .inl (zc (o.2.2.2.2.2.2.2)))), ((t 6), .inl (κ 1, 20, .inl (zc t_rightStep))), ((t 7), .inl (κ 1, 20, .inl (zc t_rightOf))), ((t 8), .inl (κ 1, 20, .inl (zc t_rightValue))), ((t 9), .inl (κ 1, 20, .inl (zc t_knownValue)))]) H → va_D A ([((t 0), .inr (7, [.ref (t 1), .ref (t 2), .ref (t 3), .ref (t 4), .ref (t 5), .ref (t 6), .ref (t 7), .ref (t 8), .ref (t 9), .int (zi (o.2.1)), .int (zi t_rights), .int (zi (o.2.2.1))])), ((t 1), .inl (κ 1, 20, .inl (zc (o.2.2.2.1)))), ((t 2), .inl (κ 1, 20, .inl (zc (o.2.2.2.2.1)))), ((t 3), .inl (κ 1, 20, .inl (zc (o.2.2.2.2.2.1)))), ((t 4), .inl (κ 1, 20, .inl (zc (o.2.2.2.2.2.2.1)))), ((t 5), .inl (κ 1, 20, .inl (zc (o.2.2.2.2.2.2.2)))), ((t 6), .inl (κ 1, 20, .inl (zc t_rightStep))), ((t 7), .inl (κ 1, 20, .inl (zc t_rightOf))), ((t 8), .inl (κ 1, 20, .inl (zc t_rightValue))), ((t 9), .inl (κ 1, 20, .inl (zc t_knownValue)))]) → va_S A H0 H locs → decode cX7_add pc = .ok (.ireturn, 1) → W p l e zr_X7_add s m args below meth c H locs 0 0 Q (F0 m pc ls [.int (zi (o.1))])
set_option maxHeartbeats 4000000 in
set_option maxRecDepth 100000 in
theorem zs_X7_add {p : Program} {l : Launch} {e : Env} {s : State} {m : MethodId} {args : Array Value} {below : List Frame} {meth : Method} {c : Code} {Q : State → Prop} {D : va_G} {κ : Nat → ClassId} {A : Nat → Prop} {H0 : Heap} (t : Nat → Nat) (t_size : Int) (t_rights : Int) (t_latest : Int) (t_seenStep : Nat) (t_seenFrom : Nat) (t_seenTo : Nat) (t_seenValue : Nat) (t_timesRight : Nat) (t_rightStep : Nat) (t_rightOf : Nat) (t_rightValue : Nat) (t_knownValue : Nat) (i1 : Int) (i2 : Int) (i3 : Int) (i4 : Int) (hx : p.tables.exec = Jvm.exec) (hb : c.code = cX7_add) (hml : c.maxLocals = 5) (hown : s.vm.findClass RX7 = some m.cls) (hts : ∀ w ∈ wsX7_add, w.before args s = true) (hK : va_K D vwCl (zTY κ) s) (hA : ∀ q : Nat, H0.size ≤ q → A q) (H : Heap) (locs : List Loc) (ls : Array Slot) (hP : va_P D vwCl ([((t 0), .inr (7, [.ref (t 1), .ref (t 2), .ref (t 3), .ref (t 4), .ref (t 5), .ref (t 6), .ref (t 7), .ref (t 8), .ref (t 9), .int (zi t_size), .int (zi t_rights), .int (zi t_latest)])), ((t 1), .inl (κ 1, 20, .inl (zc t_seenStep))), ((t 2), .inl (κ 1, 20, .inl (zc t_seenFrom))), ((t 3), .inl (κ 1, 20, .inl (zc t_seenTo))), ((t 4), .inl (κ 1, 20, .inl (zc t_seenValue))), ((t 5), .inl (κ 1, 20, .inl (zc t_timesRight))), ((t 6), .inl (κ 1, 20, .inl (zc t_rightStep))), ((t 7), .inl (κ 1, 20, .inl (zc t_rightOf))), ((t 8), .inl (κ 1, 20, .inl (zc t_rightValue))), ((t 9), .inl (κ 1, 20, .inl (zc t_knownValue)))]) H) (hD : va_D A ([((t 0), .inr (7, [.ref (t 1), .ref (t 2), .ref (t 3), .ref (t 4), .ref (t 5), .ref (t 6), .ref (t 7), .ref (t 8), .ref (t 9), .int (zi t_size), .int (zi t_rights), .int (zi t_latest)])), ((t 1), .inl (κ 1, 20, .inl (zc t_seenStep))), ((t 2), .inl (κ 1, 20, .inl (zc t_seenFrom))), ((t 3), .inl (κ 1, 20, .inl (zc t_seenTo))), ((t 4), .inl (κ 1, 20, .inl (zc t_seenValue))), ((t 5), .inl (κ 1, 20, .inl (zc t_timesRight))), ((t 6), .inl (κ 1, 20, .inl (zc t_rightStep))), ((t 7), .inl (κ 1, 20, .inl (zc t_rightOf))), ((t 8), .inl (κ 1, 20, .inl (zc t_rightValue))), ((t 9), .inl (κ 1, 20, .inl (zc t_knownValue)))])) (hS : va_S A H0 H locs) (hl : lv_has ls 5 [(0, .ref (t 0)), (1, .int (zi i1)), (2, .int (zi i2)), (3, .int (zi i3)), (4, .int (zi i4))]) (hg : Go (zQ_X7_add p l e s m args below meth c Q D κ A H0 t t_rights t_rightStep t_rightOf t_rightValue t_knownValue) (zf_X7_add t_size t_latest t_seenStep t_seenFrom t_seenTo t_seenValue t_timesRight i1 i2 i3 i4)) : W p l e zr_X7_add s m args below meth c H locs 0 0 Q (F0 m 0 ls []) := by
  unfold zf_X7_add at hg
  refine lv_aload_n hx hb dX7_add_0 rfl (lv_at hl 0 rfl) ?_
  refine va_get (D := D) (ci := 7) (v := .int (zi t_size)) (C := RX7) (T := TX7) (N := 12) hx hb hts zi_X7_add_X7 hown hK hP 0 rfl rfl 9 (by decide) (hts (.fieldLink RX7 39 "DiamondRows$Sightings" "size" "I") zl_X7_add_39) (fun _ h9 => h9) rfl dX7_add_1 ?_
  refine zv_bipush hx hb dX7_add_4 (by decide) ?_
  obtain ⟨b1, hg⟩ := Go_n hg
  refine zv_icmp_lt (tgt := 12) hx hb dX7_add_6 (by decide) b1 (by decide) (fun c3 => ?_) (fun c3 => ?_)
  · have hg := Go_t c3 hg
    refine lv_aload_n hx hb dX7_add_12 rfl (lv_at hl 0 rfl) ?_
    refine va_get (D := D) (ci := 7) (v := .ref (t 1)) (C := RX7) (T := TX7) (N := 12) hx hb hts zi_X7_add_X7 hown hK hP 0 rfl rfl 0 (by decide) (hts (.fieldLink RX7 11 "DiamondRows$Sightings" "seenStep" "[I") zl_X7_add_11) (fun _ h9 => h9) rfl dX7_add_13 ?_
    refine lv_aload_n hx hb dX7_add_16 rfl (lv_at hl 0 rfl) ?_
    refine va_get (D := D) (ci := 7) (v := .int (zi t_size)) (C := RX7) (T := TX7) (N := 12) hx hb hts zi_X7_add_X7 hown hK hP 0 rfl rfl 9 (by decide) (hts (.fieldLink RX7 39 "DiamondRows$Sightings" "size" "I") zl_X7_add_39) (fun _ h9 => h9) rfl dX7_add_17 ?_
    refine lv_iload_n hx hb dX7_add_20 rfl (lv_at hl 1 rfl) ?_
    obtain ⟨n2, hg⟩ := Go_n hg
    refine zv_iast hx hb hK hP hD hS 1 1 rfl rfl (by decide) n2 dX7_add_21 (fun H locs hP hD hS => ?_)
    have hP : va_P D vwCl ([((t 0), .inr (7, [.ref (t 1), .ref (t 2), .ref (t 3), .ref (t 4), .ref (t 5), .ref (t 6), .ref (t 7), .ref (t 8), .ref (t 9), .int (zi t_size), .int (zi t_rights), .int (zi t_latest)])), ((t 1), .inl (κ 1, 20, .inl (zc (zset t_seenStep (Int.toNat t_size) i1)))), ((t 2), .inl (κ 1, 20, .inl (zc t_seenFrom))), ((t 3), .inl (κ 1, 20, .inl (zc t_seenTo))), ((t 4), .inl (κ 1, 20, .inl (zc t_seenValue))), ((t 5), .inl (κ 1, 20, .inl (zc t_timesRight))), ((t 6), .inl (κ 1, 20, .inl (zc t_rightStep))), ((t 7), .inl (κ 1, 20, .inl (zc t_rightOf))), ((t 8), .inl (κ 1, 20, .inl (zc t_rightValue))), ((t 9), .inl (κ 1, 20, .inl (zc t_knownValue)))]) H := hP
    have hD : va_D A ([((t 0), .inr (7, [.ref (t 1), .ref (t 2), .ref (t 3), .ref (t 4), .ref (t 5), .ref (t 6), .ref (t 7), .ref (t 8), .ref (t 9), .int (zi t_size), .int (zi t_rights), .int (zi t_latest)])), ((t 1), .inl (κ 1, 20, .inl (zc (zset t_seenStep (Int.toNat t_size) i1)))), ((t 2), .inl (κ 1, 20, .inl (zc t_seenFrom))), ((t 3), .inl (κ 1, 20, .inl (zc t_seenTo))), ((t 4), .inl (κ 1, 20, .inl (zc t_seenValue))), ((t 5), .inl (κ 1, 20, .inl (zc t_timesRight))), ((t 6), .inl (κ 1, 20, .inl (zc t_rightStep))), ((t 7), .inl (κ 1, 20, .inl (zc t_rightOf))), ((t 8), .inl (κ 1, 20, .inl (zc t_rightValue))), ((t 9), .inl (κ 1, 20, .inl (zc t_knownValue)))]) := hD
    refine lv_aload_n hx hb dX7_add_22 rfl (lv_at hl 0 rfl) ?_
    refine va_get (D := D) (ci := 7) (v := .ref (t 2)) (C := RX7) (T := TX7) (N := 12) hx hb hts zi_X7_add_X7 hown hK hP 0 rfl rfl 1 (by decide) (hts (.fieldLink RX7 15 "DiamondRows$Sightings" "seenFrom" "[I") zl_X7_add_15) (fun _ h9 => h9) rfl dX7_add_23 ?_
    refine lv_aload_n hx hb dX7_add_26 rfl (lv_at hl 0 rfl) ?_
    refine va_get (D := D) (ci := 7) (v := .int (zi t_size)) (C := RX7) (T := TX7) (N := 12) hx hb hts zi_X7_add_X7 hown hK hP 0 rfl rfl 9 (by decide) (hts (.fieldLink RX7 39 "DiamondRows$Sightings" "size" "I") zl_X7_add_39) (fun _ h9 => h9) rfl dX7_add_27 ?_
    refine lv_iload_n hx hb dX7_add_30 rfl (lv_at hl 2 rfl) ?_
    refine zv_iast hx hb hK hP hD hS 2 1 rfl rfl (by decide) n2 dX7_add_31 (fun H locs hP hD hS => ?_)
    have hP : va_P D vwCl ([((t 0), .inr (7, [.ref (t 1), .ref (t 2), .ref (t 3), .ref (t 4), .ref (t 5), .ref (t 6), .ref (t 7), .ref (t 8), .ref (t 9), .int (zi t_size), .int (zi t_rights), .int (zi t_latest)])), ((t 1), .inl (κ 1, 20, .inl (zc (zset t_seenStep (Int.toNat t_size) i1)))), ((t 2), .inl (κ 1, 20, .inl (zc (zset t_seenFrom (Int.toNat t_size) i2)))), ((t 3), .inl (κ 1, 20, .inl (zc t_seenTo))), ((t 4), .inl (κ 1, 20, .inl (zc t_seenValue))), ((t 5), .inl (κ 1, 20, .inl (zc t_timesRight))), ((t 6), .inl (κ 1, 20, .inl (zc t_rightStep))), ((t 7), .inl (κ 1, 20, .inl (zc t_rightOf))), ((t 8), .inl (κ 1, 20, .inl (zc t_rightValue))), ((t 9), .inl (κ 1, 20, .inl (zc t_knownValue)))]) H := hP
    have hD : va_D A ([((t 0), .inr (7, [.ref (t 1), .ref (t 2), .ref (t 3), .ref (t 4), .ref (t 5), .ref (t 6), .ref (t 7), .ref (t 8), .ref (t 9), .int (zi t_size), .int (zi t_rights), .int (zi t_latest)])), ((t 1), .inl (κ 1, 20, .inl (zc (zset t_seenStep (Int.toNat t_size) i1)))), ((t 2), .inl (κ 1, 20, .inl (zc (zset t_seenFrom (Int.toNat t_size) i2)))), ((t 3), .inl (κ 1, 20, .inl (zc t_seenTo))), ((t 4), .inl (κ 1, 20, .inl (zc t_seenValue))), ((t 5), .inl (κ 1, 20, .inl (zc t_timesRight))), ((t 6), .inl (κ 1, 20, .inl (zc t_rightStep))), ((t 7), .inl (κ 1, 20, .inl (zc t_rightOf))), ((t 8), .inl (κ 1, 20, .inl (zc t_rightValue))), ((t 9), .inl (κ 1, 20, .inl (zc t_knownValue)))]) := hD
    refine lv_aload_n hx hb dX7_add_32 rfl (lv_at hl 0 rfl) ?_
    refine va_get (D := D) (ci := 7) (v := .ref (t 3)) (C := RX7) (T := TX7) (N := 12) hx hb hts zi_X7_add_X7 hown hK hP 0 rfl rfl 2 (by decide) (hts (.fieldLink RX7 18 "DiamondRows$Sightings" "seenTo" "[I") zl_X7_add_18) (fun _ h9 => h9) rfl dX7_add_33 ?_
    refine lv_aload_n hx hb dX7_add_36 rfl (lv_at hl 0 rfl) ?_
    refine va_get (D := D) (ci := 7) (v := .int (zi t_size)) (C := RX7) (T := TX7) (N := 12) hx hb hts zi_X7_add_X7 hown hK hP 0 rfl rfl 9 (by decide) (hts (.fieldLink RX7 39 "DiamondRows$Sightings" "size" "I") zl_X7_add_39) (fun _ h9 => h9) rfl dX7_add_37 ?_
    refine lv_iload_n hx hb dX7_add_40 rfl (lv_at hl 3 rfl) ?_
    refine zv_iast hx hb hK hP hD hS 3 1 rfl rfl (by decide) n2 dX7_add_41 (fun H locs hP hD hS => ?_)
    have hP : va_P D vwCl ([((t 0), .inr (7, [.ref (t 1), .ref (t 2), .ref (t 3), .ref (t 4), .ref (t 5), .ref (t 6), .ref (t 7), .ref (t 8), .ref (t 9), .int (zi t_size), .int (zi t_rights), .int (zi t_latest)])), ((t 1), .inl (κ 1, 20, .inl (zc (zset t_seenStep (Int.toNat t_size) i1)))), ((t 2), .inl (κ 1, 20, .inl (zc (zset t_seenFrom (Int.toNat t_size) i2)))), ((t 3), .inl (κ 1, 20, .inl (zc (zset t_seenTo (Int.toNat t_size) i3)))), ((t 4), .inl (κ 1, 20, .inl (zc t_seenValue))), ((t 5), .inl (κ 1, 20, .inl (zc t_timesRight))), ((t 6), .inl (κ 1, 20, .inl (zc t_rightStep))), ((t 7), .inl (κ 1, 20, .inl (zc t_rightOf))), ((t 8), .inl (κ 1, 20, .inl (zc t_rightValue))), ((t 9), .inl (κ 1, 20, .inl (zc t_knownValue)))]) H := hP
    have hD : va_D A ([((t 0), .inr (7, [.ref (t 1), .ref (t 2), .ref (t 3), .ref (t 4), .ref (t 5), .ref (t 6), .ref (t 7), .ref (t 8), .ref (t 9), .int (zi t_size), .int (zi t_rights), .int (zi t_latest)])), ((t 1), .inl (κ 1, 20, .inl (zc (zset t_seenStep (Int.toNat t_size) i1)))), ((t 2), .inl (κ 1, 20, .inl (zc (zset t_seenFrom (Int.toNat t_size) i2)))), ((t 3), .inl (κ 1, 20, .inl (zc (zset t_seenTo (Int.toNat t_size) i3)))), ((t 4), .inl (κ 1, 20, .inl (zc t_seenValue))), ((t 5), .inl (κ 1, 20, .inl (zc t_timesRight))), ((t 6), .inl (κ 1, 20, .inl (zc t_rightStep))), ((t 7), .inl (κ 1, 20, .inl (zc t_rightOf))), ((t 8), .inl (κ 1, 20, .inl (zc t_rightValue))), ((t 9), .inl (κ 1, 20, .inl (zc t_knownValue)))]) := hD
    refine lv_aload_n hx hb dX7_add_42 rfl (lv_at hl 0 rfl) ?_
    refine va_get (D := D) (ci := 7) (v := .ref (t 4)) (C := RX7) (T := TX7) (N := 12) hx hb hts zi_X7_add_X7 hown hK hP 0 rfl rfl 3 (by decide) (hts (.fieldLink RX7 21 "DiamondRows$Sightings" "seenValue" "[I") zl_X7_add_21) (fun _ h9 => h9) rfl dX7_add_43 ?_
    refine lv_aload_n hx hb dX7_add_46 rfl (lv_at hl 0 rfl) ?_
    refine va_get (D := D) (ci := 7) (v := .int (zi t_size)) (C := RX7) (T := TX7) (N := 12) hx hb hts zi_X7_add_X7 hown hK hP 0 rfl rfl 9 (by decide) (hts (.fieldLink RX7 39 "DiamondRows$Sightings" "size" "I") zl_X7_add_39) (fun _ h9 => h9) rfl dX7_add_47 ?_
    refine lv_iload hx hb dX7_add_50 (lv_at hl 4 rfl) ?_
    refine zv_iast hx hb hK hP hD hS 4 1 rfl rfl (by decide) n2 dX7_add_52 (fun H locs hP hD hS => ?_)
    have hP : va_P D vwCl ([((t 0), .inr (7, [.ref (t 1), .ref (t 2), .ref (t 3), .ref (t 4), .ref (t 5), .ref (t 6), .ref (t 7), .ref (t 8), .ref (t 9), .int (zi t_size), .int (zi t_rights), .int (zi t_latest)])), ((t 1), .inl (κ 1, 20, .inl (zc (zset t_seenStep (Int.toNat t_size) i1)))), ((t 2), .inl (κ 1, 20, .inl (zc (zset t_seenFrom (Int.toNat t_size) i2)))), ((t 3), .inl (κ 1, 20, .inl (zc (zset t_seenTo (Int.toNat t_size) i3)))), ((t 4), .inl (κ 1, 20, .inl (zc (zset t_seenValue (Int.toNat t_size) i4)))), ((t 5), .inl (κ 1, 20, .inl (zc t_timesRight))), ((t 6), .inl (κ 1, 20, .inl (zc t_rightStep))), ((t 7), .inl (κ 1, 20, .inl (zc t_rightOf))), ((t 8), .inl (κ 1, 20, .inl (zc t_rightValue))), ((t 9), .inl (κ 1, 20, .inl (zc t_knownValue)))]) H := hP
    have hD : va_D A ([((t 0), .inr (7, [.ref (t 1), .ref (t 2), .ref (t 3), .ref (t 4), .ref (t 5), .ref (t 6), .ref (t 7), .ref (t 8), .ref (t 9), .int (zi t_size), .int (zi t_rights), .int (zi t_latest)])), ((t 1), .inl (κ 1, 20, .inl (zc (zset t_seenStep (Int.toNat t_size) i1)))), ((t 2), .inl (κ 1, 20, .inl (zc (zset t_seenFrom (Int.toNat t_size) i2)))), ((t 3), .inl (κ 1, 20, .inl (zc (zset t_seenTo (Int.toNat t_size) i3)))), ((t 4), .inl (κ 1, 20, .inl (zc (zset t_seenValue (Int.toNat t_size) i4)))), ((t 5), .inl (κ 1, 20, .inl (zc t_timesRight))), ((t 6), .inl (κ 1, 20, .inl (zc t_rightStep))), ((t 7), .inl (κ 1, 20, .inl (zc t_rightOf))), ((t 8), .inl (κ 1, 20, .inl (zc t_rightValue))), ((t 9), .inl (κ 1, 20, .inl (zc t_knownValue)))]) := hD
    refine lv_aload_n hx hb dX7_add_53 rfl (lv_at hl 0 rfl) ?_
    refine va_get (D := D) (ci := 7) (v := .ref (t 5)) (C := RX7) (T := TX7) (N := 12) hx hb hts zi_X7_add_X7 hown hK hP 0 rfl rfl 4 (by decide) (hts (.fieldLink RX7 24 "DiamondRows$Sightings" "timesRight" "[I") zl_X7_add_24) (fun _ h9 => h9) rfl dX7_add_54 ?_
    refine lv_aload_n hx hb dX7_add_57 rfl (lv_at hl 0 rfl) ?_
    refine va_get (D := D) (ci := 7) (v := .int (zi t_size)) (C := RX7) (T := TX7) (N := 12) hx hb hts zi_X7_add_X7 hown hK hP 0 rfl rfl 9 (by decide) (hts (.fieldLink RX7 39 "DiamondRows$Sightings" "size" "I") zl_X7_add_39) (fun _ h9 => h9) rfl dX7_add_58 ?_
    refine zv_iconst hx hb dX7_add_61 ?_
    refine zv_iast hx hb hK hP hD hS 5 1 rfl rfl (by decide) n2 dX7_add_62 (fun H locs hP hD hS => ?_)
    have hP : va_P D vwCl ([((t 0), .inr (7, [.ref (t 1), .ref (t 2), .ref (t 3), .ref (t 4), .ref (t 5), .ref (t 6), .ref (t 7), .ref (t 8), .ref (t 9), .int (zi t_size), .int (zi t_rights), .int (zi t_latest)])), ((t 1), .inl (κ 1, 20, .inl (zc (zset t_seenStep (Int.toNat t_size) i1)))), ((t 2), .inl (κ 1, 20, .inl (zc (zset t_seenFrom (Int.toNat t_size) i2)))), ((t 3), .inl (κ 1, 20, .inl (zc (zset t_seenTo (Int.toNat t_size) i3)))), ((t 4), .inl (κ 1, 20, .inl (zc (zset t_seenValue (Int.toNat t_size) i4)))), ((t 5), .inl (κ 1, 20, .inl (zc (zset t_timesRight (Int.toNat t_size) (0 : Int))))), ((t 6), .inl (κ 1, 20, .inl (zc t_rightStep))), ((t 7), .inl (κ 1, 20, .inl (zc t_rightOf))), ((t 8), .inl (κ 1, 20, .inl (zc t_rightValue))), ((t 9), .inl (κ 1, 20, .inl (zc t_knownValue)))]) H := hP
    have hD : va_D A ([((t 0), .inr (7, [.ref (t 1), .ref (t 2), .ref (t 3), .ref (t 4), .ref (t 5), .ref (t 6), .ref (t 7), .ref (t 8), .ref (t 9), .int (zi t_size), .int (zi t_rights), .int (zi t_latest)])), ((t 1), .inl (κ 1, 20, .inl (zc (zset t_seenStep (Int.toNat t_size) i1)))), ((t 2), .inl (κ 1, 20, .inl (zc (zset t_seenFrom (Int.toNat t_size) i2)))), ((t 3), .inl (κ 1, 20, .inl (zc (zset t_seenTo (Int.toNat t_size) i3)))), ((t 4), .inl (κ 1, 20, .inl (zc (zset t_seenValue (Int.toNat t_size) i4)))), ((t 5), .inl (κ 1, 20, .inl (zc (zset t_timesRight (Int.toNat t_size) (0 : Int))))), ((t 6), .inl (κ 1, 20, .inl (zc t_rightStep))), ((t 7), .inl (κ 1, 20, .inl (zc t_rightOf))), ((t 8), .inl (κ 1, 20, .inl (zc t_rightValue))), ((t 9), .inl (κ 1, 20, .inl (zc t_knownValue)))]) := hD
    refine lv_aload_n hx hb dX7_add_63 rfl (lv_at hl 0 rfl) ?_
    refine lv_iload_n hx hb dX7_add_64 rfl (lv_at hl 1 rfl) ?_
    refine va_put (D := D) (ci := 7) (v := .int (zi i1)) (ty := .int) (C := RX7) (T := TX7) (N := 12) hx hb hts zi_X7_add_X7 tyX7 tyX7_ok nmX7 hown hK hP hD hS 0 rfl rfl 11 (by decide) (hts (.fieldLink RX7 50 "DiamondRows$Sightings" "latest" "I") zl_X7_add_50) (fun _ h9 => h9) rfl (by decide +kernel) rfl rfl (Nat.le_of_ble_eq_true rfl) dX7_add_65 (fun H locs hP hD hS => ?_)
    have hP : va_P D vwCl ([((t 0), .inr (7, [.ref (t 1), .ref (t 2), .ref (t 3), .ref (t 4), .ref (t 5), .ref (t 6), .ref (t 7), .ref (t 8), .ref (t 9), .int (zi t_size), .int (zi t_rights), .int (zi i1)])), ((t 1), .inl (κ 1, 20, .inl (zc (zset t_seenStep (Int.toNat t_size) i1)))), ((t 2), .inl (κ 1, 20, .inl (zc (zset t_seenFrom (Int.toNat t_size) i2)))), ((t 3), .inl (κ 1, 20, .inl (zc (zset t_seenTo (Int.toNat t_size) i3)))), ((t 4), .inl (κ 1, 20, .inl (zc (zset t_seenValue (Int.toNat t_size) i4)))), ((t 5), .inl (κ 1, 20, .inl (zc (zset t_timesRight (Int.toNat t_size) (0 : Int))))), ((t 6), .inl (κ 1, 20, .inl (zc t_rightStep))), ((t 7), .inl (κ 1, 20, .inl (zc t_rightOf))), ((t 8), .inl (κ 1, 20, .inl (zc t_rightValue))), ((t 9), .inl (κ 1, 20, .inl (zc t_knownValue)))]) H := hP
    have hD : va_D A ([((t 0), .inr (7, [.ref (t 1), .ref (t 2), .ref (t 3), .ref (t 4), .ref (t 5), .ref (t 6), .ref (t 7), .ref (t 8), .ref (t 9), .int (zi t_size), .int (zi t_rights), .int (zi i1)])), ((t 1), .inl (κ 1, 20, .inl (zc (zset t_seenStep (Int.toNat t_size) i1)))), ((t 2), .inl (κ 1, 20, .inl (zc (zset t_seenFrom (Int.toNat t_size) i2)))), ((t 3), .inl (κ 1, 20, .inl (zc (zset t_seenTo (Int.toNat t_size) i3)))), ((t 4), .inl (κ 1, 20, .inl (zc (zset t_seenValue (Int.toNat t_size) i4)))), ((t 5), .inl (κ 1, 20, .inl (zc (zset t_timesRight (Int.toNat t_size) (0 : Int))))), ((t 6), .inl (κ 1, 20, .inl (zc t_rightStep))), ((t 7), .inl (κ 1, 20, .inl (zc t_rightOf))), ((t 8), .inl (κ 1, 20, .inl (zc t_rightValue))), ((t 9), .inl (κ 1, 20, .inl (zc t_knownValue)))]) := hD
    refine lv_aload_n hx hb dX7_add_68 rfl (lv_at hl 0 rfl) ?_
    refine lv_dup hx hb dX7_add_69 rfl ?_
    refine va_get (D := D) (ci := 7) (v := .int (zi t_size)) (C := RX7) (T := TX7) (N := 12) hx hb hts zi_X7_add_X7 hown hK hP 0 rfl rfl 9 (by decide) (hts (.fieldLink RX7 39 "DiamondRows$Sightings" "size" "I") zl_X7_add_39) (fun _ h9 => h9) rfl dX7_add_70 ?_
    refine zv_iconst hx hb dX7_add_73 ?_
    refine zv_iadd hx hb dX7_add_74 ?_
    refine va_put (D := D) (ci := 7) (v := .int (zi (t_size + (1 : Int)))) (ty := .int) (C := RX7) (T := TX7) (N := 12) hx hb hts zi_X7_add_X7 tyX7 tyX7_ok nmX7 hown hK hP hD hS 0 rfl rfl 9 (by decide) (hts (.fieldLink RX7 39 "DiamondRows$Sightings" "size" "I") zl_X7_add_39) (fun _ h9 => h9) rfl (by decide +kernel) rfl rfl (Nat.le_of_ble_eq_true rfl) dX7_add_75 (fun H locs hP hD hS => ?_)
    have hP : va_P D vwCl ([((t 0), .inr (7, [.ref (t 1), .ref (t 2), .ref (t 3), .ref (t 4), .ref (t 5), .ref (t 6), .ref (t 7), .ref (t 8), .ref (t 9), .int (zi (t_size + (1 : Int))), .int (zi t_rights), .int (zi i1)])), ((t 1), .inl (κ 1, 20, .inl (zc (zset t_seenStep (Int.toNat t_size) i1)))), ((t 2), .inl (κ 1, 20, .inl (zc (zset t_seenFrom (Int.toNat t_size) i2)))), ((t 3), .inl (κ 1, 20, .inl (zc (zset t_seenTo (Int.toNat t_size) i3)))), ((t 4), .inl (κ 1, 20, .inl (zc (zset t_seenValue (Int.toNat t_size) i4)))), ((t 5), .inl (κ 1, 20, .inl (zc (zset t_timesRight (Int.toNat t_size) (0 : Int))))), ((t 6), .inl (κ 1, 20, .inl (zc t_rightStep))), ((t 7), .inl (κ 1, 20, .inl (zc t_rightOf))), ((t 8), .inl (κ 1, 20, .inl (zc t_rightValue))), ((t 9), .inl (κ 1, 20, .inl (zc t_knownValue)))]) H := hP
    have hD : va_D A ([((t 0), .inr (7, [.ref (t 1), .ref (t 2), .ref (t 3), .ref (t 4), .ref (t 5), .ref (t 6), .ref (t 7), .ref (t 8), .ref (t 9), .int (zi (t_size + (1 : Int))), .int (zi t_rights), .int (zi i1)])), ((t 1), .inl (κ 1, 20, .inl (zc (zset t_seenStep (Int.toNat t_size) i1)))), ((t 2), .inl (κ 1, 20, .inl (zc (zset t_seenFrom (Int.toNat t_size) i2)))), ((t 3), .inl (κ 1, 20, .inl (zc (zset t_seenTo (Int.toNat t_size) i3)))), ((t 4), .inl (κ 1, 20, .inl (zc (zset t_seenValue (Int.toNat t_size) i4)))), ((t 5), .inl (κ 1, 20, .inl (zc (zset t_timesRight (Int.toNat t_size) (0 : Int))))), ((t 6), .inl (κ 1, 20, .inl (zc t_rightStep))), ((t 7), .inl (κ 1, 20, .inl (zc t_rightOf))), ((t 8), .inl (κ 1, 20, .inl (zc t_rightValue))), ((t 9), .inl (κ 1, 20, .inl (zc t_knownValue)))]) := hD
    refine lv_aload_n hx hb dX7_add_78 rfl (lv_at hl 0 rfl) ?_
    refine va_get (D := D) (ci := 7) (v := .int (zi (t_size + (1 : Int)))) (C := RX7) (T := TX7) (N := 12) hx hb hts zi_X7_add_X7 hown hK hP 0 rfl rfl 9 (by decide) (hts (.fieldLink RX7 39 "DiamondRows$Sightings" "size" "I") zl_X7_add_39) (fun _ h9 => h9) rfl dX7_add_79 ?_
    refine zv_iconst hx hb dX7_add_82 ?_
    refine zv_isub hx hb dX7_add_83 ?_
    exact (Go_s hg) _ _ _ _ hP hD hS dX7_add_84
  · have hg := Go_f c3 hg
    refine zv_bipush hx hb dX7_add_9 (by decide) ?_
    exact (Go_s hg) _ _ _ _ hP hD hS dX7_add_11
set_option maxHeartbeats 4000000 in
set_option maxRecDepth 100000 in
theorem zc_X7_add (l : Launch) (D : va_G) (κ : Nat → ClassId) (t : Nat → Nat) (sz : Nat) (t_size : Int) (t_rights : Int) (t_latest : Int) (t_seenStep : Nat) (t_seenFrom : Nat) (t_seenTo : Nat) (t_seenValue : Nat) (t_timesRight : Nat) (t_rightStep : Nat) (t_rightOf : Nat) (t_rightValue : Nat) (t_knownValue : Nat) (i1 : Int) (i2 : Int) (i3 : Int) (i4 : Int) (out : Int × Int × Int × Nat × Nat × Nat × Nat × Nat) (h : zf_X7_add t_size t_latest t_seenStep t_seenFrom t_seenTo t_seenValue t_timesRight i1 i2 i3 i4 = some out) : Met l yX7_add wsX7_add zr_X7_add (va_Pc [.ref (t 0), .int (zi i1), .int (zi i2), .int (zi i3), .int (zi i4)] (zW D κ ([((t 0), .inr (7, [.ref (t 1), .ref (t 2), .ref (t 3), .ref (t 4), .ref (t 5), .ref (t 6), .ref (t 7), .ref (t 8), .ref (t 9), .int (zi t_size), .int (zi t_rights), .int (zi t_latest)])), ((t 1), .inl (κ 1, 20, .inl (zc t_seenStep))), ((t 2), .inl (κ 1, 20, .inl (zc t_seenFrom))), ((t 3), .inl (κ 1, 20, .inl (zc t_seenTo))), ((t 4), .inl (κ 1, 20, .inl (zc t_seenValue))), ((t 5), .inl (κ 1, 20, .inl (zc t_timesRight))), ((t 6), .inl (κ 1, 20, .inl (zc t_rightStep))), ((t 7), .inl (κ 1, 20, .inl (zc t_rightOf))), ((t 8), .inl (κ 1, 20, .inl (zc t_rightValue))), ((t 9), .inl (κ 1, 20, .inl (zc t_knownValue)))]) sz)) (va_Qi (fun r (_ : Unit) => r = zi (out.1)) (fun _ => zB D κ (va_A ([((t 0), .inr (7, [.ref (t 1), .ref (t 2), .ref (t 3), .ref (t 4), .ref (t 5), .ref (t 6), .ref (t 7), .ref (t 8), .ref (t 9), .int (zi t_size), .int (zi t_rights), .int (zi t_latest)])), ((t 1), .inl (κ 1, 20, .inl (zc t_seenStep))), ((t 2), .inl (κ 1, 20, .inl (zc t_seenFrom))), ((t 3), .inl (κ 1, 20, .inl (zc t_seenTo))), ((t 4), .inl (κ 1, 20, .inl (zc t_seenValue))), ((t 5), .inl (κ 1, 20, .inl (zc t_timesRight))), ((t 6), .inl (κ 1, 20, .inl (zc t_rightStep))), ((t 7), .inl (κ 1, 20, .inl (zc t_rightOf))), ((t 8), .inl (κ 1, 20, .inl (zc t_rightValue))), ((t 9), .inl (κ 1, 20, .inl (zc t_knownValue)))]) sz) ([((t 0), .inr (7, [.ref (t 1), .ref (t 2), .ref (t 3), .ref (t 4), .ref (t 5), .ref (t 6), .ref (t 7), .ref (t 8), .ref (t 9), .int (zi (out.2.1)), .int (zi t_rights), .int (zi (out.2.2.1))])), ((t 1), .inl (κ 1, 20, .inl (zc (out.2.2.2.1)))), ((t 2), .inl (κ 1, 20, .inl (zc (out.2.2.2.2.1)))), ((t 3), .inl (κ 1, 20, .inl (zc (out.2.2.2.2.2.1)))), ((t 4), .inl (κ 1, 20, .inl (zc (out.2.2.2.2.2.2.1)))), ((t 5), .inl (κ 1, 20, .inl (zc (out.2.2.2.2.2.2.2)))), ((t 6), .inl (κ 1, 20, .inl (zc t_rightStep))), ((t 7), .inl (κ 1, 20, .inl (zc t_rightOf))), ((t 8), .inl (κ 1, 20, .inl (zc t_rightValue))), ((t 9), .inl (κ 1, 20, .inl (zc t_knownValue)))])) (va_A ([((t 0), .inr (7, [.ref (t 1), .ref (t 2), .ref (t 3), .ref (t 4), .ref (t 5), .ref (t 6), .ref (t 7), .ref (t 8), .ref (t 9), .int (zi t_size), .int (zi t_rights), .int (zi t_latest)])), ((t 1), .inl (κ 1, 20, .inl (zc t_seenStep))), ((t 2), .inl (κ 1, 20, .inl (zc t_seenFrom))), ((t 3), .inl (κ 1, 20, .inl (zc t_seenTo))), ((t 4), .inl (κ 1, 20, .inl (zc t_seenValue))), ((t 5), .inl (κ 1, 20, .inl (zc t_timesRight))), ((t 6), .inl (κ 1, 20, .inl (zc t_rightStep))), ((t 7), .inl (κ 1, 20, .inl (zc t_rightOf))), ((t 8), .inl (κ 1, 20, .inl (zc t_rightValue))), ((t 9), .inl (κ 1, 20, .inl (zc t_knownValue)))]) sz)) 0 0 (va_A ([((t 0), .inr (7, [.ref (t 1), .ref (t 2), .ref (t 3), .ref (t 4), .ref (t 5), .ref (t 6), .ref (t 7), .ref (t 8), .ref (t 9), .int (zi t_size), .int (zi t_rights), .int (zi t_latest)])), ((t 1), .inl (κ 1, 20, .inl (zc t_seenStep))), ((t 2), .inl (κ 1, 20, .inl (zc t_seenFrom))), ((t 3), .inl (κ 1, 20, .inl (zc t_seenTo))), ((t 4), .inl (κ 1, 20, .inl (zc t_seenValue))), ((t 5), .inl (κ 1, 20, .inl (zc t_timesRight))), ((t 6), .inl (κ 1, 20, .inl (zc t_rightStep))), ((t 7), .inl (κ 1, 20, .inl (zc t_rightOf))), ((t 8), .inl (κ 1, 20, .inl (zc t_rightValue))), ((t 9), .inl (κ 1, 20, .inl (zc t_knownValue)))]) sz) := by
  refine Met.ofW (cc := cX7_add) (maxL := 5) (ret := (some .int)) (by decide +kernel) rfl ?_
  intro p e s m args below meth c s₁ B hml hv
  obtain ⟨rfl, hsz, hP, hK, hD0⟩ := hv
  have hx := B.exec
  have hb := B.bytes
  have hr := B.returns
  have hts := atoms_spec (ws := wsX7_add) B.pre
  have hown : s.vm.findClass RX7 = some m.cls := findClass_of_methodNamed B.named
  have hlocks := B.notSynchronized
  subst hsz
  have hD := hD0.self (sz := s.heap.size)
  generalize hAe : va_A ([((t 0), .inr (7, [.ref (t 1), .ref (t 2), .ref (t 3), .ref (t 4), .ref (t 5), .ref (t 6), .ref (t 7), .ref (t 8), .ref (t 9), .int (zi t_size), .int (zi t_rights), .int (zi t_latest)])), ((t 1), .inl (κ 1, 20, .inl (zc t_seenStep))), ((t 2), .inl (κ 1, 20, .inl (zc t_seenFrom))), ((t 3), .inl (κ 1, 20, .inl (zc t_seenTo))), ((t 4), .inl (κ 1, 20, .inl (zc t_seenValue))), ((t 5), .inl (κ 1, 20, .inl (zc t_timesRight))), ((t 6), .inl (κ 1, 20, .inl (zc t_rightStep))), ((t 7), .inl (κ 1, 20, .inl (zc t_rightOf))), ((t 8), .inl (κ 1, 20, .inl (zc t_rightValue))), ((t 9), .inl (κ 1, 20, .inl (zc t_knownValue)))]) s.heap.size = A at hD ⊢
  have hA : ∀ q : Nat, s.heap.size ≤ q → A q := fun q h => by rw [← hAe]; exact Or.inr h
  have hS : va_S A s.heap s.heap [] := va_S.rf
  have hl := lv_entry ([.ref (t 0), .int (zi i1), .int (zi i2), .int (zi i3), .int (zi i4)]) (n := 5) (Nat.le_of_ble_eq_true rfl)
  rw [lg_entry_eq]
  generalize (lg_sl ([.ref (t 0), .int (zi i1), .int (zi i2), .int (zi i3), .int (zi i4)]) ++ List.replicate (5 - (lg_sl ([.ref (t 0), .int (zi i1), .int (zi i2), .int (zi i3), .int (zi i4)])).length) Slot.unset).toArray = ls at hl ⊢
  have hl : lv_has ls 5 [(0, .ref (t 0)), (1, .int (zi i1)), (2, .int (zi i2)), (3, .int (zi i3)), (4, .int (zi i4))] := hl
  refine zs_X7_add t t_size t_rights t_latest t_seenStep t_seenFrom t_seenTo t_seenValue t_timesRight t_rightStep t_rightOf t_rightValue t_knownValue i1 i2 i3 i4 hx hb hml hown hts hK hA s.heap [] ls hP hD hS hl ⟨out, h, ?_⟩
  exact fun H locs ls pc hP hD hS hd => W.iret hx hb hr (fun t ht hW => ⟨⟨_, (), rfl, rfl, by rw [ht]; exact hP, va_K.moved hW.alike hK, hD⟩, hS.F ht⟩) hS.2.2 hd
/-! DiamondRows$Sightings.putRight(III)I -/
abbrev zr_X7_putRight : Room := { frames := 1, cells := 0, slots := 0, locals := 21 }
noncomputable def zf_X7_putRight  (t_size : Int) (t_rights : Int) (t_latest : Int) (t_timesRight : Nat) (t_rightStep : Nat) (t_rightOf : Nat) (t_rightValue : Nat) (i1 : Int) (i2 : Int) (i3 : Int) : Option (Int × Int × Int × Nat × Nat × Nat × Nat) :=
  if zout t_rights then none else
  if (20 : Int) ≤ t_rights then
  some ((-3 : Int), t_rights, t_latest, t_timesRight, t_rightStep, t_rightOf, t_rightValue)
  else
  Option.bind (zf_X7_has t_size i2) (fun o2 =>
  if o2 = false then
  some ((-3 : Int), t_rights, t_latest, t_timesRight, t_rightStep, t_rightOf, t_rightValue)
  else
  if t_rights < 0 ∨ 20 ≤ t_rights then none else
  if i2 < 0 ∨ 20 ≤ i2 then none else
  some ((zget (zset t_timesRight (Int.toNat i2) ((zget t_timesRight (Int.toNat i2)) + (1 : Int))) (Int.toNat i2)), (t_rights + (1 : Int)), i1, (zset t_timesRight (Int.toNat i2) ((zget t_timesRight (Int.toNat i2)) + (1 : Int))), (zset t_rightStep (Int.toNat t_rights) i1), (zset t_rightOf (Int.toNat t_rights) i2), (zset t_rightValue (Int.toNat t_rights) i3)))
theorem zi_X7_putRight_X7 : ∀ w ∈ u_ws RX7 TX7 12, w ∈ wsX7_putRight := fun w h => (List.mem_cons_of_mem _ (List.mem_append_right _ (List.mem_append_left _ h)))
theorem zl_X7_putRight_24 : Cond.fieldLink RX7 24 "DiamondRows$Sightings" "timesRight" "[I" ∈ wsX7_putRight := (List.mem_cons_of_mem _ (List.mem_append_left _ (List.mem_of_getElem? (i := 5) rfl)))
theorem zl_X7_putRight_27 : Cond.fieldLink RX7 27 "DiamondRows$Sightings" "rightStep" "[I" ∈ wsX7_putRight := (List.mem_cons_of_mem _ (List.mem_append_left _ (List.mem_of_getElem? (i := 1) rfl)))
theorem zl_X7_putRight_30 : Cond.fieldLink RX7 30 "DiamondRows$Sightings" "rightOf" "[I" ∈ wsX7_putRight := (List.mem_cons_of_mem _ (List.mem_append_left _ (List.mem_of_getElem? (i := 2) rfl)))
theorem zl_X7_putRight_33 : Cond.fieldLink RX7 33 "DiamondRows$Sightings" "rightValue" "[I" ∈ wsX7_putRight := (List.mem_cons_of_mem _ (List.mem_append_left _ (List.mem_of_getElem? (i := 3) rfl)))
theorem zl_X7_putRight_43 : Cond.fieldLink RX7 43 "DiamondRows$Sightings" "rights" "I" ∈ wsX7_putRight := (List.mem_cons_of_mem _ (List.mem_append_left _ (List.mem_of_getElem? (i := 0) rfl)))
theorem zl_X7_putRight_50 : Cond.fieldLink RX7 50 "DiamondRows$Sightings" "latest" "I" ∈ wsX7_putRight := (List.mem_cons_of_mem _ (List.mem_append_left _ (List.mem_of_getElem? (i := 4) rfl)))
def zQ_X7_putRight (p : Program) (l : Launch) (e : Env) (s : State) (m : MethodId) (args : Array Value) (below : List Frame) (meth : Method) (c : Code) (Q : State → Prop) (D : va_G) (κ : Nat → ClassId) (A : Nat → Prop) (H0 : Heap) (t : Nat → Nat) (t_size : Int) (t_seenStep : Nat) (t_seenFrom : Nat) (t_seenTo : Nat) (t_seenValue : Nat) (t_knownValue : Nat) (o : Int × Int × Int × Nat × Nat × Nat × Nat) : Prop := ∀ (H : Heap) (locs : List Loc) (ls : Array Slot) (pc : Nat), va_P D vwCl ([((t 0), .inr (7, [.ref (t 1), .ref (t 2), .ref (t 3), .ref (t 4), .ref (t 5), .ref (t 6), .ref (t 7), .ref (t 8), .ref (t 9), .int (zi t_size), .int (zi (o.2.1)), .int (zi (o.2.2.1))])), ((t 1), .inl (κ 1, 20, .inl (zc t_seenStep))), ((t 2), .inl (κ 1, 20, .inl (zc t_seenFrom))), ((t 3), .inl (κ 1, 20, .inl (zc t_seenTo))), ((t 4), .inl (κ 1, 20, .inl (zc t_seenValue))), ((t 5), .inl (κ 1, 20, .inl (zc (o.2.2.2.1)))), ((t 6), .inl (κ 1, 20, .inl (zc (o.2.2.2.2.1)))), ((t 7), .inl (κ 1, 20, .inl (zc (o.2.2.2.2.2.1)))), ((t 8), .inl (κ 1, 20, .inl (zc (o.2.2.2.2.2.2)))), ((t 9), .inl (κ 1, 20, .inl (zc t_knownValue)))]) H → va_D A ([((t 0), .inr (7, [.ref (t 1), .ref (t 2), .ref (t 3), .ref (t 4), .ref (t 5), .ref (t 6), .ref (t 7), .ref (t 8), .ref (t 9), .int (zi t_size), .int (zi (o.2.1)), .int (zi (o.2.2.1))])), ((t 1), .inl (κ 1, 20, .inl (zc t_seenStep))), ((t 2), .inl (κ 1, 20, .inl (zc t_seenFrom))), ((t 3), .inl (κ 1, 20, .inl (zc t_seenTo))), ((t 4), .inl (κ 1, 20, .inl (zc t_seenValue))), ((t 5), .inl (κ 1, 20, .inl (zc (o.2.2.2.1)))), ((t 6), .inl (κ 1, 20, .inl (zc (o.2.2.2.2.1)))), ((t 7), .inl (κ 1, 20, .inl (zc (o.2.2.2.2.2.1)))), ((t 8), .inl (κ 1, 20, .inl (zc (o.2.2.2.2.2.2)))), ((t 9), .inl (κ 1, 20, .inl (zc t_knownValue)))]) → va_S A H0 H locs → decode cX7_putRight pc = .ok (.ireturn, 1) → W p l e zr_X7_putRight s m args below meth c H locs 0 0 Q (F0 m pc ls [.int (zi (o.1))])
set_option maxHeartbeats 4000000 in
set_option maxRecDepth 100000 in
theorem zs_X7_putRight {p : Program} {l : Launch} {e : Env} {s : State} {m : MethodId} {args : Array Value} {below : List Frame} {meth : Method} {c : Code} {Q : State → Prop} {D : va_G} {κ : Nat → ClassId} {A : Nat → Prop} {H0 : Heap} (t : Nat → Nat) (t_size : Int) (t_rights : Int) (t_latest : Int) (t_seenStep : Nat) (t_seenFrom : Nat) (t_seenTo : Nat) (t_seenValue : Nat) (t_timesRight : Nat) (t_rightStep : Nat) (t_rightOf : Nat) (t_rightValue : Nat) (t_knownValue : Nat) (i1 : Int) (i2 : Int) (i3 : Int) (hx : p.tables.exec = Jvm.exec) (hb : c.code = cX7_putRight) (hml : c.maxLocals = 4) (hown : s.vm.findClass RX7 = some m.cls) (hts : ∀ w ∈ wsX7_putRight, w.before args s = true) (hK : va_K D vwCl (zTY κ) s) (hA : ∀ q : Nat, H0.size ≤ q → A q) (H : Heap) (locs : List Loc) (ls : Array Slot) (hP : va_P D vwCl ([((t 0), .inr (7, [.ref (t 1), .ref (t 2), .ref (t 3), .ref (t 4), .ref (t 5), .ref (t 6), .ref (t 7), .ref (t 8), .ref (t 9), .int (zi t_size), .int (zi t_rights), .int (zi t_latest)])), ((t 1), .inl (κ 1, 20, .inl (zc t_seenStep))), ((t 2), .inl (κ 1, 20, .inl (zc t_seenFrom))), ((t 3), .inl (κ 1, 20, .inl (zc t_seenTo))), ((t 4), .inl (κ 1, 20, .inl (zc t_seenValue))), ((t 5), .inl (κ 1, 20, .inl (zc t_timesRight))), ((t 6), .inl (κ 1, 20, .inl (zc t_rightStep))), ((t 7), .inl (κ 1, 20, .inl (zc t_rightOf))), ((t 8), .inl (κ 1, 20, .inl (zc t_rightValue))), ((t 9), .inl (κ 1, 20, .inl (zc t_knownValue)))]) H) (hD : va_D A ([((t 0), .inr (7, [.ref (t 1), .ref (t 2), .ref (t 3), .ref (t 4), .ref (t 5), .ref (t 6), .ref (t 7), .ref (t 8), .ref (t 9), .int (zi t_size), .int (zi t_rights), .int (zi t_latest)])), ((t 1), .inl (κ 1, 20, .inl (zc t_seenStep))), ((t 2), .inl (κ 1, 20, .inl (zc t_seenFrom))), ((t 3), .inl (κ 1, 20, .inl (zc t_seenTo))), ((t 4), .inl (κ 1, 20, .inl (zc t_seenValue))), ((t 5), .inl (κ 1, 20, .inl (zc t_timesRight))), ((t 6), .inl (κ 1, 20, .inl (zc t_rightStep))), ((t 7), .inl (κ 1, 20, .inl (zc t_rightOf))), ((t 8), .inl (κ 1, 20, .inl (zc t_rightValue))), ((t 9), .inl (κ 1, 20, .inl (zc t_knownValue)))])) (hS : va_S A H0 H locs) (hl : lv_has ls 4 [(0, .ref (t 0)), (1, .int (zi i1)), (2, .int (zi i2)), (3, .int (zi i3))]) (hg : Go (zQ_X7_putRight p l e s m args below meth c Q D κ A H0 t t_size t_seenStep t_seenFrom t_seenTo t_seenValue t_knownValue) (zf_X7_putRight t_size t_rights t_latest t_timesRight t_rightStep t_rightOf t_rightValue i1 i2 i3)) : W p l e zr_X7_putRight s m args below meth c H locs 0 0 Q (F0 m 0 ls []) := by
  unfold zf_X7_putRight at hg
  refine lv_aload_n hx hb dX7_putRight_0 rfl (lv_at hl 0 rfl) ?_
  refine va_get (D := D) (ci := 7) (v := .int (zi t_rights)) (C := RX7) (T := TX7) (N := 12) hx hb hts zi_X7_putRight_X7 hown hK hP 0 rfl rfl 10 (by decide) (hts (.fieldLink RX7 43 "DiamondRows$Sightings" "rights" "I") zl_X7_putRight_43) (fun _ h9 => h9) rfl dX7_putRight_1 ?_
  refine zv_bipush hx hb dX7_putRight_4 (by decide) ?_
  obtain ⟨b1, hg⟩ := Go_n hg
  refine zv_icmp_ge (tgt := 17) hx hb dX7_putRight_6 (by decide) b1 (by decide) (fun c6 => ?_) (fun c6 => ?_)
  · have hg := Go_t c6 hg
    refine zv_bipush hx hb dX7_putRight_17 (by decide) ?_
    exact (Go_s hg) _ _ _ _ hP hD hS dX7_putRight_19
  · have hg := Go_f c6 hg
    refine lv_aload_n hx hb dX7_putRight_9 rfl (lv_at hl 0 rfl) ?_
    refine lv_iload_n hx hb dX7_putRight_10 rfl (lv_at hl 2 rfl) ?_
    obtain ⟨o2, ho2, hg⟩ := Go_b hg
    refine zc_vi (rest := []) ⟨hx, hb, hml, hown, hts⟩ (zc_X7_has l D κ t t_size t_rights t_latest t_seenStep t_seenFrom t_seenTo t_seenValue t_timesRight t_rightStep t_rightOf t_rightValue t_knownValue i2 o2 ho2) (cwV 1 hts gX7_putRight_X7_has rfl rfl rfl hv_X7_has ⟨Nat.le_of_ble_eq_true rfl, Nat.le_of_ble_eq_true rfl⟩) (zpreV hK (hP.sub [0, 1, 2, 3, 4, 5, 6, 7, 8, 9] rfl) 7 0 rfl rfl) rfl hl.1 rfl (Nat.le_of_ble_eq_true rfl) dX7_putRight_11 ⟨Nat.zero_le _, Nat.zero_le _⟩ ?_
    refine zv_ifb_ne (tgt := 20) hx hb dX7_putRight_14 (by decide) (fun c5 => ?_) (fun c5 => ?_)
    · have hg := Go_f c5 hg
      refine lv_aload_n hx hb dX7_putRight_20 rfl (lv_at hl 0 rfl) ?_
      refine va_get (D := D) (ci := 7) (v := .ref (t 6)) (C := RX7) (T := TX7) (N := 12) hx hb hts zi_X7_putRight_X7 hown hK hP 0 rfl rfl 5 (by decide) (hts (.fieldLink RX7 27 "DiamondRows$Sightings" "rightStep" "[I") zl_X7_putRight_27) (fun _ h9 => h9) rfl dX7_putRight_21 ?_
      refine lv_aload_n hx hb dX7_putRight_24 rfl (lv_at hl 0 rfl) ?_
      refine va_get (D := D) (ci := 7) (v := .int (zi t_rights)) (C := RX7) (T := TX7) (N := 12) hx hb hts zi_X7_putRight_X7 hown hK hP 0 rfl rfl 10 (by decide) (hts (.fieldLink RX7 43 "DiamondRows$Sightings" "rights" "I") zl_X7_putRight_43) (fun _ h9 => h9) rfl dX7_putRight_25 ?_
      refine lv_iload_n hx hb dX7_putRight_28 rfl (lv_at hl 1 rfl) ?_
      obtain ⟨n3, hg⟩ := Go_n hg
      refine zv_iast hx hb hK hP hD hS 6 1 rfl rfl (by decide) n3 dX7_putRight_29 (fun H locs hP hD hS => ?_)
      have hP : va_P D vwCl ([((t 0), .inr (7, [.ref (t 1), .ref (t 2), .ref (t 3), .ref (t 4), .ref (t 5), .ref (t 6), .ref (t 7), .ref (t 8), .ref (t 9), .int (zi t_size), .int (zi t_rights), .int (zi t_latest)])), ((t 1), .inl (κ 1, 20, .inl (zc t_seenStep))), ((t 2), .inl (κ 1, 20, .inl (zc t_seenFrom))), ((t 3), .inl (κ 1, 20, .inl (zc t_seenTo))), ((t 4), .inl (κ 1, 20, .inl (zc t_seenValue))), ((t 5), .inl (κ 1, 20, .inl (zc t_timesRight))), ((t 6), .inl (κ 1, 20, .inl (zc (zset t_rightStep (Int.toNat t_rights) i1)))), ((t 7), .inl (κ 1, 20, .inl (zc t_rightOf))), ((t 8), .inl (κ 1, 20, .inl (zc t_rightValue))), ((t 9), .inl (κ 1, 20, .inl (zc t_knownValue)))]) H := hP
      have hD : va_D A ([((t 0), .inr (7, [.ref (t 1), .ref (t 2), .ref (t 3), .ref (t 4), .ref (t 5), .ref (t 6), .ref (t 7), .ref (t 8), .ref (t 9), .int (zi t_size), .int (zi t_rights), .int (zi t_latest)])), ((t 1), .inl (κ 1, 20, .inl (zc t_seenStep))), ((t 2), .inl (κ 1, 20, .inl (zc t_seenFrom))), ((t 3), .inl (κ 1, 20, .inl (zc t_seenTo))), ((t 4), .inl (κ 1, 20, .inl (zc t_seenValue))), ((t 5), .inl (κ 1, 20, .inl (zc t_timesRight))), ((t 6), .inl (κ 1, 20, .inl (zc (zset t_rightStep (Int.toNat t_rights) i1)))), ((t 7), .inl (κ 1, 20, .inl (zc t_rightOf))), ((t 8), .inl (κ 1, 20, .inl (zc t_rightValue))), ((t 9), .inl (κ 1, 20, .inl (zc t_knownValue)))]) := hD
      refine lv_aload_n hx hb dX7_putRight_30 rfl (lv_at hl 0 rfl) ?_
      refine va_get (D := D) (ci := 7) (v := .ref (t 7)) (C := RX7) (T := TX7) (N := 12) hx hb hts zi_X7_putRight_X7 hown hK hP 0 rfl rfl 6 (by decide) (hts (.fieldLink RX7 30 "DiamondRows$Sightings" "rightOf" "[I") zl_X7_putRight_30) (fun _ h9 => h9) rfl dX7_putRight_31 ?_
      refine lv_aload_n hx hb dX7_putRight_34 rfl (lv_at hl 0 rfl) ?_
      refine va_get (D := D) (ci := 7) (v := .int (zi t_rights)) (C := RX7) (T := TX7) (N := 12) hx hb hts zi_X7_putRight_X7 hown hK hP 0 rfl rfl 10 (by decide) (hts (.fieldLink RX7 43 "DiamondRows$Sightings" "rights" "I") zl_X7_putRight_43) (fun _ h9 => h9) rfl dX7_putRight_35 ?_
      refine lv_iload_n hx hb dX7_putRight_38 rfl (lv_at hl 2 rfl) ?_
      refine zv_iast hx hb hK hP hD hS 7 1 rfl rfl (by decide) n3 dX7_putRight_39 (fun H locs hP hD hS => ?_)
      have hP : va_P D vwCl ([((t 0), .inr (7, [.ref (t 1), .ref (t 2), .ref (t 3), .ref (t 4), .ref (t 5), .ref (t 6), .ref (t 7), .ref (t 8), .ref (t 9), .int (zi t_size), .int (zi t_rights), .int (zi t_latest)])), ((t 1), .inl (κ 1, 20, .inl (zc t_seenStep))), ((t 2), .inl (κ 1, 20, .inl (zc t_seenFrom))), ((t 3), .inl (κ 1, 20, .inl (zc t_seenTo))), ((t 4), .inl (κ 1, 20, .inl (zc t_seenValue))), ((t 5), .inl (κ 1, 20, .inl (zc t_timesRight))), ((t 6), .inl (κ 1, 20, .inl (zc (zset t_rightStep (Int.toNat t_rights) i1)))), ((t 7), .inl (κ 1, 20, .inl (zc (zset t_rightOf (Int.toNat t_rights) i2)))), ((t 8), .inl (κ 1, 20, .inl (zc t_rightValue))), ((t 9), .inl (κ 1, 20, .inl (zc t_knownValue)))]) H := hP
      have hD : va_D A ([((t 0), .inr (7, [.ref (t 1), .ref (t 2), .ref (t 3), .ref (t 4), .ref (t 5), .ref (t 6), .ref (t 7), .ref (t 8), .ref (t 9), .int (zi t_size), .int (zi t_rights), .int (zi t_latest)])), ((t 1), .inl (κ 1, 20, .inl (zc t_seenStep))), ((t 2), .inl (κ 1, 20, .inl (zc t_seenFrom))), ((t 3), .inl (κ 1, 20, .inl (zc t_seenTo))), ((t 4), .inl (κ 1, 20, .inl (zc t_seenValue))), ((t 5), .inl (κ 1, 20, .inl (zc t_timesRight))), ((t 6), .inl (κ 1, 20, .inl (zc (zset t_rightStep (Int.toNat t_rights) i1)))), ((t 7), .inl (κ 1, 20, .inl (zc (zset t_rightOf (Int.toNat t_rights) i2)))), ((t 8), .inl (κ 1, 20, .inl (zc t_rightValue))), ((t 9), .inl (κ 1, 20, .inl (zc t_knownValue)))]) := hD
      refine lv_aload_n hx hb dX7_putRight_40 rfl (lv_at hl 0 rfl) ?_
      refine va_get (D := D) (ci := 7) (v := .ref (t 8)) (C := RX7) (T := TX7) (N := 12) hx hb hts zi_X7_putRight_X7 hown hK hP 0 rfl rfl 7 (by decide) (hts (.fieldLink RX7 33 "DiamondRows$Sightings" "rightValue" "[I") zl_X7_putRight_33) (fun _ h9 => h9) rfl dX7_putRight_41 ?_
      refine lv_aload_n hx hb dX7_putRight_44 rfl (lv_at hl 0 rfl) ?_
      refine va_get (D := D) (ci := 7) (v := .int (zi t_rights)) (C := RX7) (T := TX7) (N := 12) hx hb hts zi_X7_putRight_X7 hown hK hP 0 rfl rfl 10 (by decide) (hts (.fieldLink RX7 43 "DiamondRows$Sightings" "rights" "I") zl_X7_putRight_43) (fun _ h9 => h9) rfl dX7_putRight_45 ?_
      refine lv_iload_n hx hb dX7_putRight_48 rfl (lv_at hl 3 rfl) ?_
      refine zv_iast hx hb hK hP hD hS 8 1 rfl rfl (by decide) n3 dX7_putRight_49 (fun H locs hP hD hS => ?_)
      have hP : va_P D vwCl ([((t 0), .inr (7, [.ref (t 1), .ref (t 2), .ref (t 3), .ref (t 4), .ref (t 5), .ref (t 6), .ref (t 7), .ref (t 8), .ref (t 9), .int (zi t_size), .int (zi t_rights), .int (zi t_latest)])), ((t 1), .inl (κ 1, 20, .inl (zc t_seenStep))), ((t 2), .inl (κ 1, 20, .inl (zc t_seenFrom))), ((t 3), .inl (κ 1, 20, .inl (zc t_seenTo))), ((t 4), .inl (κ 1, 20, .inl (zc t_seenValue))), ((t 5), .inl (κ 1, 20, .inl (zc t_timesRight))), ((t 6), .inl (κ 1, 20, .inl (zc (zset t_rightStep (Int.toNat t_rights) i1)))), ((t 7), .inl (κ 1, 20, .inl (zc (zset t_rightOf (Int.toNat t_rights) i2)))), ((t 8), .inl (κ 1, 20, .inl (zc (zset t_rightValue (Int.toNat t_rights) i3)))), ((t 9), .inl (κ 1, 20, .inl (zc t_knownValue)))]) H := hP
      have hD : va_D A ([((t 0), .inr (7, [.ref (t 1), .ref (t 2), .ref (t 3), .ref (t 4), .ref (t 5), .ref (t 6), .ref (t 7), .ref (t 8), .ref (t 9), .int (zi t_size), .int (zi t_rights), .int (zi t_latest)])), ((t 1), .inl (κ 1, 20, .inl (zc t_seenStep))), ((t 2), .inl (κ 1, 20, .inl (zc t_seenFrom))), ((t 3), .inl (κ 1, 20, .inl (zc t_seenTo))), ((t 4), .inl (κ 1, 20, .inl (zc t_seenValue))), ((t 5), .inl (κ 1, 20, .inl (zc t_timesRight))), ((t 6), .inl (κ 1, 20, .inl (zc (zset t_rightStep (Int.toNat t_rights) i1)))), ((t 7), .inl (κ 1, 20, .inl (zc (zset t_rightOf (Int.toNat t_rights) i2)))), ((t 8), .inl (κ 1, 20, .inl (zc (zset t_rightValue (Int.toNat t_rights) i3)))), ((t 9), .inl (κ 1, 20, .inl (zc t_knownValue)))]) := hD
      refine lv_aload_n hx hb dX7_putRight_50 rfl (lv_at hl 0 rfl) ?_
      refine lv_iload_n hx hb dX7_putRight_51 rfl (lv_at hl 1 rfl) ?_
      refine va_put (D := D) (ci := 7) (v := .int (zi i1)) (ty := .int) (C := RX7) (T := TX7) (N := 12) hx hb hts zi_X7_putRight_X7 tyX7 tyX7_ok nmX7 hown hK hP hD hS 0 rfl rfl 11 (by decide) (hts (.fieldLink RX7 50 "DiamondRows$Sightings" "latest" "I") zl_X7_putRight_50) (fun _ h9 => h9) rfl (by decide +kernel) rfl rfl (Nat.le_of_ble_eq_true rfl) dX7_putRight_52 (fun H locs hP hD hS => ?_)
      have hP : va_P D vwCl ([((t 0), .inr (7, [.ref (t 1), .ref (t 2), .ref (t 3), .ref (t 4), .ref (t 5), .ref (t 6), .ref (t 7), .ref (t 8), .ref (t 9), .int (zi t_size), .int (zi t_rights), .int (zi i1)])), ((t 1), .inl (κ 1, 20, .inl (zc t_seenStep))), ((t 2), .inl (κ 1, 20, .inl (zc t_seenFrom))), ((t 3), .inl (κ 1, 20, .inl (zc t_seenTo))), ((t 4), .inl (κ 1, 20, .inl (zc t_seenValue))), ((t 5), .inl (κ 1, 20, .inl (zc t_timesRight))), ((t 6), .inl (κ 1, 20, .inl (zc (zset t_rightStep (Int.toNat t_rights) i1)))), ((t 7), .inl (κ 1, 20, .inl (zc (zset t_rightOf (Int.toNat t_rights) i2)))), ((t 8), .inl (κ 1, 20, .inl (zc (zset t_rightValue (Int.toNat t_rights) i3)))), ((t 9), .inl (κ 1, 20, .inl (zc t_knownValue)))]) H := hP
      have hD : va_D A ([((t 0), .inr (7, [.ref (t 1), .ref (t 2), .ref (t 3), .ref (t 4), .ref (t 5), .ref (t 6), .ref (t 7), .ref (t 8), .ref (t 9), .int (zi t_size), .int (zi t_rights), .int (zi i1)])), ((t 1), .inl (κ 1, 20, .inl (zc t_seenStep))), ((t 2), .inl (κ 1, 20, .inl (zc t_seenFrom))), ((t 3), .inl (κ 1, 20, .inl (zc t_seenTo))), ((t 4), .inl (κ 1, 20, .inl (zc t_seenValue))), ((t 5), .inl (κ 1, 20, .inl (zc t_timesRight))), ((t 6), .inl (κ 1, 20, .inl (zc (zset t_rightStep (Int.toNat t_rights) i1)))), ((t 7), .inl (κ 1, 20, .inl (zc (zset t_rightOf (Int.toNat t_rights) i2)))), ((t 8), .inl (κ 1, 20, .inl (zc (zset t_rightValue (Int.toNat t_rights) i3)))), ((t 9), .inl (κ 1, 20, .inl (zc t_knownValue)))]) := hD
      refine lv_aload_n hx hb dX7_putRight_55 rfl (lv_at hl 0 rfl) ?_
      refine lv_dup hx hb dX7_putRight_56 rfl ?_
      refine va_get (D := D) (ci := 7) (v := .int (zi t_rights)) (C := RX7) (T := TX7) (N := 12) hx hb hts zi_X7_putRight_X7 hown hK hP 0 rfl rfl 10 (by decide) (hts (.fieldLink RX7 43 "DiamondRows$Sightings" "rights" "I") zl_X7_putRight_43) (fun _ h9 => h9) rfl dX7_putRight_57 ?_
      refine zv_iconst hx hb dX7_putRight_60 ?_
      refine zv_iadd hx hb dX7_putRight_61 ?_
      refine va_put (D := D) (ci := 7) (v := .int (zi (t_rights + (1 : Int)))) (ty := .int) (C := RX7) (T := TX7) (N := 12) hx hb hts zi_X7_putRight_X7 tyX7 tyX7_ok nmX7 hown hK hP hD hS 0 rfl rfl 10 (by decide) (hts (.fieldLink RX7 43 "DiamondRows$Sightings" "rights" "I") zl_X7_putRight_43) (fun _ h9 => h9) rfl (by decide +kernel) rfl rfl (Nat.le_of_ble_eq_true rfl) dX7_putRight_62 (fun H locs hP hD hS => ?_)
      have hP : va_P D vwCl ([((t 0), .inr (7, [.ref (t 1), .ref (t 2), .ref (t 3), .ref (t 4), .ref (t 5), .ref (t 6), .ref (t 7), .ref (t 8), .ref (t 9), .int (zi t_size), .int (zi (t_rights + (1 : Int))), .int (zi i1)])), ((t 1), .inl (κ 1, 20, .inl (zc t_seenStep))), ((t 2), .inl (κ 1, 20, .inl (zc t_seenFrom))), ((t 3), .inl (κ 1, 20, .inl (zc t_seenTo))), ((t 4), .inl (κ 1, 20, .inl (zc t_seenValue))), ((t 5), .inl (κ 1, 20, .inl (zc t_timesRight))), ((t 6), .inl (κ 1, 20, .inl (zc (zset t_rightStep (Int.toNat t_rights) i1)))), ((t 7), .inl (κ 1, 20, .inl (zc (zset t_rightOf (Int.toNat t_rights) i2)))), ((t 8), .inl (κ 1, 20, .inl (zc (zset t_rightValue (Int.toNat t_rights) i3)))), ((t 9), .inl (κ 1, 20, .inl (zc t_knownValue)))]) H := hP
      have hD : va_D A ([((t 0), .inr (7, [.ref (t 1), .ref (t 2), .ref (t 3), .ref (t 4), .ref (t 5), .ref (t 6), .ref (t 7), .ref (t 8), .ref (t 9), .int (zi t_size), .int (zi (t_rights + (1 : Int))), .int (zi i1)])), ((t 1), .inl (κ 1, 20, .inl (zc t_seenStep))), ((t 2), .inl (κ 1, 20, .inl (zc t_seenFrom))), ((t 3), .inl (κ 1, 20, .inl (zc t_seenTo))), ((t 4), .inl (κ 1, 20, .inl (zc t_seenValue))), ((t 5), .inl (κ 1, 20, .inl (zc t_timesRight))), ((t 6), .inl (κ 1, 20, .inl (zc (zset t_rightStep (Int.toNat t_rights) i1)))), ((t 7), .inl (κ 1, 20, .inl (zc (zset t_rightOf (Int.toNat t_rights) i2)))), ((t 8), .inl (κ 1, 20, .inl (zc (zset t_rightValue (Int.toNat t_rights) i3)))), ((t 9), .inl (κ 1, 20, .inl (zc t_knownValue)))]) := hD
      refine lv_aload_n hx hb dX7_putRight_65 rfl (lv_at hl 0 rfl) ?_
      refine va_get (D := D) (ci := 7) (v := .ref (t 5)) (C := RX7) (T := TX7) (N := 12) hx hb hts zi_X7_putRight_X7 hown hK hP 0 rfl rfl 4 (by decide) (hts (.fieldLink RX7 24 "DiamondRows$Sightings" "timesRight" "[I") zl_X7_putRight_24) (fun _ h9 => h9) rfl dX7_putRight_66 ?_
      refine lv_iload_n hx hb dX7_putRight_69 rfl (lv_at hl 2 rfl) ?_
      refine lv_dup2_11 hx hb dX7_putRight_70 rfl rfl ?_
      obtain ⟨n4, hg⟩ := Go_n hg
      refine zv_iald hx hb hK hP 5 1 rfl rfl (by decide) n4 dX7_putRight_71 ?_
      refine zv_iconst hx hb dX7_putRight_72 ?_
      refine zv_iadd hx hb dX7_putRight_73 ?_
      refine zv_iast hx hb hK hP hD hS 5 1 rfl rfl (by decide) n4 dX7_putRight_74 (fun H locs hP hD hS => ?_)
      have hP : va_P D vwCl ([((t 0), .inr (7, [.ref (t 1), .ref (t 2), .ref (t 3), .ref (t 4), .ref (t 5), .ref (t 6), .ref (t 7), .ref (t 8), .ref (t 9), .int (zi t_size), .int (zi (t_rights + (1 : Int))), .int (zi i1)])), ((t 1), .inl (κ 1, 20, .inl (zc t_seenStep))), ((t 2), .inl (κ 1, 20, .inl (zc t_seenFrom))), ((t 3), .inl (κ 1, 20, .inl (zc t_seenTo))), ((t 4), .inl (κ 1, 20, .inl (zc t_seenValue))), ((t 5), .inl (κ 1, 20, .inl (zc (zset t_timesRight (Int.toNat i2) ((zget t_timesRight (Int.toNat i2)) + (1 : Int)))))), ((t 6), .inl (κ 1, 20, .inl (zc (zset t_rightStep (Int.toNat t_rights) i1)))), ((t 7), .inl (κ 1, 20, .inl (zc (zset t_rightOf (Int.toNat t_rights) i2)))), ((t 8), .inl (κ 1, 20, .inl (zc (zset t_rightValue (Int.toNat t_rights) i3)))), ((t 9), .inl (κ 1, 20, .inl (zc t_knownValue)))]) H := hP
      have hD : va_D A ([((t 0), .inr (7, [.ref (t 1), .ref (t 2), .ref (t 3), .ref (t 4), .ref (t 5), .ref (t 6), .ref (t 7), .ref (t 8), .ref (t 9), .int (zi t_size), .int (zi (t_rights + (1 : Int))), .int (zi i1)])), ((t 1), .inl (κ 1, 20, .inl (zc t_seenStep))), ((t 2), .inl (κ 1, 20, .inl (zc t_seenFrom))), ((t 3), .inl (κ 1, 20, .inl (zc t_seenTo))), ((t 4), .inl (κ 1, 20, .inl (zc t_seenValue))), ((t 5), .inl (κ 1, 20, .inl (zc (zset t_timesRight (Int.toNat i2) ((zget t_timesRight (Int.toNat i2)) + (1 : Int)))))), ((t 6), .inl (κ 1, 20, .inl (zc (zset t_rightStep (Int.toNat t_rights) i1)))), ((t 7), .inl (κ 1, 20, .inl (zc (zset t_rightOf (Int.toNat t_rights) i2)))), ((t 8), .inl (κ 1, 20, .inl (zc (zset t_rightValue (Int.toNat t_rights) i3)))), ((t 9), .inl (κ 1, 20, .inl (zc t_knownValue)))]) := hD
      refine lv_aload_n hx hb dX7_putRight_75 rfl (lv_at hl 0 rfl) ?_
      refine va_get (D := D) (ci := 7) (v := .ref (t 5)) (C := RX7) (T := TX7) (N := 12) hx hb hts zi_X7_putRight_X7 hown hK hP 0 rfl rfl 4 (by decide) (hts (.fieldLink RX7 24 "DiamondRows$Sightings" "timesRight" "[I") zl_X7_putRight_24) (fun _ h9 => h9) rfl dX7_putRight_76 ?_
      refine lv_iload_n hx hb dX7_putRight_79 rfl (lv_at hl 2 rfl) ?_
      refine zv_iald hx hb hK hP 5 1 rfl rfl (by decide) n4 dX7_putRight_80 ?_
      exact (Go_s hg) _ _ _ _ hP hD hS dX7_putRight_81
    · have hg := Go_t c5 hg
      refine zv_bipush hx hb dX7_putRight_17 (by decide) ?_
      exact (Go_s hg) _ _ _ _ hP hD hS dX7_putRight_19
set_option maxHeartbeats 4000000 in
set_option maxRecDepth 100000 in
theorem zc_X7_putRight (l : Launch) (D : va_G) (κ : Nat → ClassId) (t : Nat → Nat) (sz : Nat) (t_size : Int) (t_rights : Int) (t_latest : Int) (t_seenStep : Nat) (t_seenFrom : Nat) (t_seenTo : Nat) (t_seenValue : Nat) (t_timesRight : Nat) (t_rightStep : Nat) (t_rightOf : Nat) (t_rightValue : Nat) (t_knownValue : Nat) (i1 : Int) (i2 : Int) (i3 : Int) (out : Int × Int × Int × Nat × Nat × Nat × Nat) (h : zf_X7_putRight t_size t_rights t_latest t_timesRight t_rightStep t_rightOf t_rightValue i1 i2 i3 = some out) : Met l yX7_putRight wsX7_putRight zr_X7_putRight (va_Pc [.ref (t 0), .int (zi i1), .int (zi i2), .int (zi i3)] (zW D κ ([((t 0), .inr (7, [.ref (t 1), .ref (t 2), .ref (t 3), .ref (t 4), .ref (t 5), .ref (t 6), .ref (t 7), .ref (t 8), .ref (t 9), .int (zi t_size), .int (zi t_rights), .int (zi t_latest)])), ((t 1), .inl (κ 1, 20, .inl (zc t_seenStep))), ((t 2), .inl (κ 1, 20, .inl (zc t_seenFrom))), ((t 3), .inl (κ 1, 20, .inl (zc t_seenTo))), ((t 4), .inl (κ 1, 20, .inl (zc t_seenValue))), ((t 5), .inl (κ 1, 20, .inl (zc t_timesRight))), ((t 6), .inl (κ 1, 20, .inl (zc t_rightStep))), ((t 7), .inl (κ 1, 20, .inl (zc t_rightOf))), ((t 8), .inl (κ 1, 20, .inl (zc t_rightValue))), ((t 9), .inl (κ 1, 20, .inl (zc t_knownValue)))]) sz)) (va_Qi (fun r (_ : Unit) => r = zi (out.1)) (fun _ => zB D κ (va_A ([((t 0), .inr (7, [.ref (t 1), .ref (t 2), .ref (t 3), .ref (t 4), .ref (t 5), .ref (t 6), .ref (t 7), .ref (t 8), .ref (t 9), .int (zi t_size), .int (zi t_rights), .int (zi t_latest)])), ((t 1), .inl (κ 1, 20, .inl (zc t_seenStep))), ((t 2), .inl (κ 1, 20, .inl (zc t_seenFrom))), ((t 3), .inl (κ 1, 20, .inl (zc t_seenTo))), ((t 4), .inl (κ 1, 20, .inl (zc t_seenValue))), ((t 5), .inl (κ 1, 20, .inl (zc t_timesRight))), ((t 6), .inl (κ 1, 20, .inl (zc t_rightStep))), ((t 7), .inl (κ 1, 20, .inl (zc t_rightOf))), ((t 8), .inl (κ 1, 20, .inl (zc t_rightValue))), ((t 9), .inl (κ 1, 20, .inl (zc t_knownValue)))]) sz) ([((t 0), .inr (7, [.ref (t 1), .ref (t 2), .ref (t 3), .ref (t 4), .ref (t 5), .ref (t 6), .ref (t 7), .ref (t 8), .ref (t 9), .int (zi t_size), .int (zi (out.2.1)), .int (zi (out.2.2.1))])), ((t 1), .inl (κ 1, 20, .inl (zc t_seenStep))), ((t 2), .inl (κ 1, 20, .inl (zc t_seenFrom))), ((t 3), .inl (κ 1, 20, .inl (zc t_seenTo))), ((t 4), .inl (κ 1, 20, .inl (zc t_seenValue))), ((t 5), .inl (κ 1, 20, .inl (zc (out.2.2.2.1)))), ((t 6), .inl (κ 1, 20, .inl (zc (out.2.2.2.2.1)))), ((t 7), .inl (κ 1, 20, .inl (zc (out.2.2.2.2.2.1)))), ((t 8), .inl (κ 1, 20, .inl (zc (out.2.2.2.2.2.2)))), ((t 9), .inl (κ 1, 20, .inl (zc t_knownValue)))])) (va_A ([((t 0), .inr (7, [.ref (t 1), .ref (t 2), .ref (t 3), .ref (t 4), .ref (t 5), .ref (t 6), .ref (t 7), .ref (t 8), .ref (t 9), .int (zi t_size), .int (zi t_rights), .int (zi t_latest)])), ((t 1), .inl (κ 1, 20, .inl (zc t_seenStep))), ((t 2), .inl (κ 1, 20, .inl (zc t_seenFrom))), ((t 3), .inl (κ 1, 20, .inl (zc t_seenTo))), ((t 4), .inl (κ 1, 20, .inl (zc t_seenValue))), ((t 5), .inl (κ 1, 20, .inl (zc t_timesRight))), ((t 6), .inl (κ 1, 20, .inl (zc t_rightStep))), ((t 7), .inl (κ 1, 20, .inl (zc t_rightOf))), ((t 8), .inl (κ 1, 20, .inl (zc t_rightValue))), ((t 9), .inl (κ 1, 20, .inl (zc t_knownValue)))]) sz)) 0 0 (va_A ([((t 0), .inr (7, [.ref (t 1), .ref (t 2), .ref (t 3), .ref (t 4), .ref (t 5), .ref (t 6), .ref (t 7), .ref (t 8), .ref (t 9), .int (zi t_size), .int (zi t_rights), .int (zi t_latest)])), ((t 1), .inl (κ 1, 20, .inl (zc t_seenStep))), ((t 2), .inl (κ 1, 20, .inl (zc t_seenFrom))), ((t 3), .inl (κ 1, 20, .inl (zc t_seenTo))), ((t 4), .inl (κ 1, 20, .inl (zc t_seenValue))), ((t 5), .inl (κ 1, 20, .inl (zc t_timesRight))), ((t 6), .inl (κ 1, 20, .inl (zc t_rightStep))), ((t 7), .inl (κ 1, 20, .inl (zc t_rightOf))), ((t 8), .inl (κ 1, 20, .inl (zc t_rightValue))), ((t 9), .inl (κ 1, 20, .inl (zc t_knownValue)))]) sz) := by
  refine Met.ofW (cc := cX7_putRight) (maxL := 4) (ret := (some .int)) (by decide +kernel) rfl ?_
  intro p e s m args below meth c s₁ B hml hv
  obtain ⟨rfl, hsz, hP, hK, hD0⟩ := hv
  have hx := B.exec
  have hb := B.bytes
  have hr := B.returns
  have hts := atoms_spec (ws := wsX7_putRight) B.pre
  have hown : s.vm.findClass RX7 = some m.cls := findClass_of_methodNamed B.named
  have hlocks := B.notSynchronized
  subst hsz
  have hD := hD0.self (sz := s.heap.size)
  generalize hAe : va_A ([((t 0), .inr (7, [.ref (t 1), .ref (t 2), .ref (t 3), .ref (t 4), .ref (t 5), .ref (t 6), .ref (t 7), .ref (t 8), .ref (t 9), .int (zi t_size), .int (zi t_rights), .int (zi t_latest)])), ((t 1), .inl (κ 1, 20, .inl (zc t_seenStep))), ((t 2), .inl (κ 1, 20, .inl (zc t_seenFrom))), ((t 3), .inl (κ 1, 20, .inl (zc t_seenTo))), ((t 4), .inl (κ 1, 20, .inl (zc t_seenValue))), ((t 5), .inl (κ 1, 20, .inl (zc t_timesRight))), ((t 6), .inl (κ 1, 20, .inl (zc t_rightStep))), ((t 7), .inl (κ 1, 20, .inl (zc t_rightOf))), ((t 8), .inl (κ 1, 20, .inl (zc t_rightValue))), ((t 9), .inl (κ 1, 20, .inl (zc t_knownValue)))]) s.heap.size = A at hD ⊢
  have hA : ∀ q : Nat, s.heap.size ≤ q → A q := fun q h => by rw [← hAe]; exact Or.inr h
  have hS : va_S A s.heap s.heap [] := va_S.rf
  have hl := lv_entry ([.ref (t 0), .int (zi i1), .int (zi i2), .int (zi i3)]) (n := 4) (Nat.le_of_ble_eq_true rfl)
  rw [lg_entry_eq]
  generalize (lg_sl ([.ref (t 0), .int (zi i1), .int (zi i2), .int (zi i3)]) ++ List.replicate (4 - (lg_sl ([.ref (t 0), .int (zi i1), .int (zi i2), .int (zi i3)])).length) Slot.unset).toArray = ls at hl ⊢
  have hl : lv_has ls 4 [(0, .ref (t 0)), (1, .int (zi i1)), (2, .int (zi i2)), (3, .int (zi i3))] := hl
  refine zs_X7_putRight t t_size t_rights t_latest t_seenStep t_seenFrom t_seenTo t_seenValue t_timesRight t_rightStep t_rightOf t_rightValue t_knownValue i1 i2 i3 hx hb hml hown hts hK hA s.heap [] ls hP hD hS hl ⟨out, h, ?_⟩
  exact fun H locs ls pc hP hD hS hd => W.iret hx hb hr (fun t ht hW => ⟨⟨_, (), rfl, rfl, by rw [ht]; exact hP, va_K.moved hW.alike hK, hD⟩, hS.F ht⟩) hS.2.2 hd
/-! DiamondRows$Sightings.recall(I)V -/
abbrev zr_X7_recall : Room := { frames := 1, cells := 0, slots := 0, locals := 21 }
abbrev zS_X7_recall : Type := Nat × Int × Int × Nat
abbrev zO_X7_recall : Type := Nat
noncomputable def zg_X7_recall_0  (t_size : Int) (t_rights : Int) (t_seenStep : Nat) (t_seenValue : Nat) (t_rightStep : Nat) (t_rightOf : Nat) (t_rightValue : Nat) (i1 : Int) (i2 : Int) (t_knownValue : Nat) : Option (zO_X7_recall ⊕ zS_X7_recall) :=
  some (.inr (2, i1, (0 : Int), t_knownValue))
noncomputable def zg_X7_recall_2  (t_size : Int) (t_rights : Int) (t_seenStep : Nat) (t_seenValue : Nat) (t_rightStep : Nat) (t_rightOf : Nat) (t_rightValue : Nat) (i1 : Int) (i2 : Int) (t_knownValue : Nat) : Option (zO_X7_recall ⊕ zS_X7_recall) :=
  if zout i2 then none else
  if zout t_size then none else
  if t_size ≤ i2 then
  some (.inr (44, i1, (0 : Int), t_knownValue))
  else
  if i2 < 0 ∨ 20 ≤ i2 then none else
  if zout i1 then none else
  if i1 < (zget t_seenStep (Int.toNat i2)) then
  some (.inr (2, i1, (i2 + (1 : Int)), (zset t_knownValue (Int.toNat i2) (-1 : Int))))
  else
  some (.inr (2, i1, (i2 + (1 : Int)), (zset t_knownValue (Int.toNat i2) (zget t_seenValue (Int.toNat i2)))))
noncomputable def zg_X7_recall_44  (t_size : Int) (t_rights : Int) (t_seenStep : Nat) (t_seenValue : Nat) (t_rightStep : Nat) (t_rightOf : Nat) (t_rightValue : Nat) (i1 : Int) (i2 : Int) (t_knownValue : Nat) : Option (zO_X7_recall ⊕ zS_X7_recall) :=
  if zout i2 then none else
  if zout t_rights then none else
  if t_rights ≤ i2 then
  some (.inl (t_knownValue))
  else
  if i2 < 0 ∨ 20 ≤ i2 then none else
  if zout i1 then none else
  if i1 < (zget t_rightStep (Int.toNat i2)) then
  some (.inr (44, i1, (i2 + (1 : Int)), t_knownValue))
  else
  Option.bind (zf_X7_has t_size (zget t_rightOf (Int.toNat i2))) (fun o11 =>
  if o11 = false then
  some (.inr (44, i1, (i2 + (1 : Int)), t_knownValue))
  else
  if (zget t_rightOf (Int.toNat i2)) < 0 ∨ 20 ≤ (zget t_rightOf (Int.toNat i2)) then none else
  some (.inr (44, i1, (i2 + (1 : Int)), (zset t_knownValue (Int.toNat (zget t_rightOf (Int.toNat i2))) (zget t_rightValue (Int.toNat i2))))))
noncomputable def zg_X7_recall  (t_size : Int) (t_rights : Int) (t_seenStep : Nat) (t_seenValue : Nat) (t_rightStep : Nat) (t_rightOf : Nat) (t_rightValue : Nat) (st : zS_X7_recall) : Option (zO_X7_recall ⊕ zS_X7_recall) := match st with
  | (lab, i1, i2, t_knownValue) => if lab = 0 then zg_X7_recall_0 t_size t_rights t_seenStep t_seenValue t_rightStep t_rightOf t_rightValue i1 i2 t_knownValue else if lab = 2 then zg_X7_recall_2 t_size t_rights t_seenStep t_seenValue t_rightStep t_rightOf t_rightValue i1 i2 t_knownValue else if lab = 44 then zg_X7_recall_44 t_size t_rights t_seenStep t_seenValue t_rightStep t_rightOf t_rightValue i1 i2 t_knownValue else none
noncomputable def zf_X7_recall  (t_size : Int) (t_rights : Int) (t_seenStep : Nat) (t_seenValue : Nat) (t_rightStep : Nat) (t_rightOf : Nat) (t_rightValue : Nat) (t_knownValue : Nat) (i1 : Int) : Option (Nat) := jrun (zg_X7_recall t_size t_rights t_seenStep t_seenValue t_rightStep t_rightOf t_rightValue) jfuel (0, i1, 0, t_knownValue)
theorem zi_X7_recall_X7 : ∀ w ∈ u_ws RX7 TX7 12, w ∈ wsX7_recall := fun w h => (List.mem_cons_of_mem _ (List.mem_append_right _ (List.mem_append_left _ h)))
theorem zl_X7_recall_11 : Cond.fieldLink RX7 11 "DiamondRows$Sightings" "seenStep" "[I" ∈ wsX7_recall := (List.mem_cons_of_mem _ (List.mem_append_left _ (List.mem_of_getElem? (i := 2) rfl)))
theorem zl_X7_recall_21 : Cond.fieldLink RX7 21 "DiamondRows$Sightings" "seenValue" "[I" ∈ wsX7_recall := (List.mem_cons_of_mem _ (List.mem_append_left _ (List.mem_of_getElem? (i := 3) rfl)))
theorem zl_X7_recall_27 : Cond.fieldLink RX7 27 "DiamondRows$Sightings" "rightStep" "[I" ∈ wsX7_recall := (List.mem_cons_of_mem _ (List.mem_append_left _ (List.mem_of_getElem? (i := 5) rfl)))
theorem zl_X7_recall_30 : Cond.fieldLink RX7 30 "DiamondRows$Sightings" "rightOf" "[I" ∈ wsX7_recall := (List.mem_cons_of_mem _ (List.mem_append_left _ (List.mem_of_getElem? (i := 6) rfl)))
theorem zl_X7_recall_33 : Cond.fieldLink RX7 33 "DiamondRows$Sightings" "rightValue" "[I" ∈ wsX7_recall := (List.mem_cons_of_mem _ (List.mem_append_left _ (List.mem_of_getElem? (i := 7) rfl)))
theorem zl_X7_recall_36 : Cond.fieldLink RX7 36 "DiamondRows$Sightings" "knownValue" "[I" ∈ wsX7_recall := (List.mem_cons_of_mem _ (List.mem_append_left _ (List.mem_of_getElem? (i := 1) rfl)))
theorem zl_X7_recall_39 : Cond.fieldLink RX7 39 "DiamondRows$Sightings" "size" "I" ∈ wsX7_recall := (List.mem_cons_of_mem _ (List.mem_append_left _ (List.mem_of_getElem? (i := 0) rfl)))
theorem zl_X7_recall_43 : Cond.fieldLink RX7 43 "DiamondRows$Sightings" "rights" "I" ∈ wsX7_recall := (List.mem_cons_of_mem _ (List.mem_append_left _ (List.mem_of_getElem? (i := 4) rfl)))
def zQ_X7_recall (p : Program) (l : Launch) (e : Env) (s : State) (m : MethodId) (args : Array Value) (below : List Frame) (meth : Method) (c : Code) (Q : State → Prop) (D : va_G) (κ : Nat → ClassId) (A : Nat → Prop) (H0 : Heap) (t : Nat → Nat) (t_size : Int) (t_rights : Int) (t_latest : Int) (t_seenStep : Nat) (t_seenFrom : Nat) (t_seenTo : Nat) (t_seenValue : Nat) (t_timesRight : Nat) (t_rightStep : Nat) (t_rightOf : Nat) (t_rightValue : Nat) (o : Nat) : Prop := ∀ (H : Heap) (locs : List Loc) (ls : Array Slot) (pc : Nat), va_P D vwCl ([((t 0), .inr (7, [.ref (t 1), .ref (t 2), .ref (t 3), .ref (t 4), .ref (t 5), .ref (t 6), .ref (t 7), .ref (t 8), .ref (t 9), .int (zi t_size), .int (zi t_rights), .int (zi t_latest)])), ((t 1), .inl (κ 1, 20, .inl (zc t_seenStep))), ((t 2), .inl (κ 1, 20, .inl (zc t_seenFrom))), ((t 3), .inl (κ 1, 20, .inl (zc t_seenTo))), ((t 4), .inl (κ 1, 20, .inl (zc t_seenValue))), ((t 5), .inl (κ 1, 20, .inl (zc t_timesRight))), ((t 6), .inl (κ 1, 20, .inl (zc t_rightStep))), ((t 7), .inl (κ 1, 20, .inl (zc t_rightOf))), ((t 8), .inl (κ 1, 20, .inl (zc t_rightValue))), ((t 9), .inl (κ 1, 20, .inl (zc o)))]) H → va_D A ([((t 0), .inr (7, [.ref (t 1), .ref (t 2), .ref (t 3), .ref (t 4), .ref (t 5), .ref (t 6), .ref (t 7), .ref (t 8), .ref (t 9), .int (zi t_size), .int (zi t_rights), .int (zi t_latest)])), ((t 1), .inl (κ 1, 20, .inl (zc t_seenStep))), ((t 2), .inl (κ 1, 20, .inl (zc t_seenFrom))), ((t 3), .inl (κ 1, 20, .inl (zc t_seenTo))), ((t 4), .inl (κ 1, 20, .inl (zc t_seenValue))), ((t 5), .inl (κ 1, 20, .inl (zc t_timesRight))), ((t 6), .inl (κ 1, 20, .inl (zc t_rightStep))), ((t 7), .inl (κ 1, 20, .inl (zc t_rightOf))), ((t 8), .inl (κ 1, 20, .inl (zc t_rightValue))), ((t 9), .inl (κ 1, 20, .inl (zc o)))]) → va_S A H0 H locs → decode cX7_recall pc = .ok (.return_, 1) → W p l e zr_X7_recall s m args below meth c H locs 0 0 Q (F0 m pc ls [])
def zA_X7_recall_0 (p : Program) (l : Launch) (e : Env) (s : State) (m : MethodId) (args : Array Value) (below : List Frame) (meth : Method) (c : Code) (Q : State → Prop) (D : va_G) (κ : Nat → ClassId) (A : Nat → Prop) (H0 : Heap) (t : Nat → Nat) (t_size : Int) (t_rights : Int) (t_latest : Int) (t_seenStep : Nat) (t_seenFrom : Nat) (t_seenTo : Nat) (t_seenValue : Nat) (t_timesRight : Nat) (t_rightStep : Nat) (t_rightOf : Nat) (t_rightValue : Nat) (i1 : Int) (i2 : Int) (t_knownValue : Nat) : Prop := ∀ (H : Heap) (locs : List Loc) (ls : Array Slot), va_P D vwCl ([((t 0), .inr (7, [.ref (t 1), .ref (t 2), .ref (t 3), .ref (t 4), .ref (t 5), .ref (t 6), .ref (t 7), .ref (t 8), .ref (t 9), .int (zi t_size), .int (zi t_rights), .int (zi t_latest)])), ((t 1), .inl (κ 1, 20, .inl (zc t_seenStep))), ((t 2), .inl (κ 1, 20, .inl (zc t_seenFrom))), ((t 3), .inl (κ 1, 20, .inl (zc t_seenTo))), ((t 4), .inl (κ 1, 20, .inl (zc t_seenValue))), ((t 5), .inl (κ 1, 20, .inl (zc t_timesRight))), ((t 6), .inl (κ 1, 20, .inl (zc t_rightStep))), ((t 7), .inl (κ 1, 20, .inl (zc t_rightOf))), ((t 8), .inl (κ 1, 20, .inl (zc t_rightValue))), ((t 9), .inl (κ 1, 20, .inl (zc t_knownValue)))]) H → va_D A ([((t 0), .inr (7, [.ref (t 1), .ref (t 2), .ref (t 3), .ref (t 4), .ref (t 5), .ref (t 6), .ref (t 7), .ref (t 8), .ref (t 9), .int (zi t_size), .int (zi t_rights), .int (zi t_latest)])), ((t 1), .inl (κ 1, 20, .inl (zc t_seenStep))), ((t 2), .inl (κ 1, 20, .inl (zc t_seenFrom))), ((t 3), .inl (κ 1, 20, .inl (zc t_seenTo))), ((t 4), .inl (κ 1, 20, .inl (zc t_seenValue))), ((t 5), .inl (κ 1, 20, .inl (zc t_timesRight))), ((t 6), .inl (κ 1, 20, .inl (zc t_rightStep))), ((t 7), .inl (κ 1, 20, .inl (zc t_rightOf))), ((t 8), .inl (κ 1, 20, .inl (zc t_rightValue))), ((t 9), .inl (κ 1, 20, .inl (zc t_knownValue)))]) → va_S A H0 H locs → lv_has ls 3 [(0, .ref (t 0)), (1, .int (zi i1))] → W p l e zr_X7_recall s m args below meth c H locs 0 0 Q (F0 m 0 ls [])
def zA_X7_recall_2 (p : Program) (l : Launch) (e : Env) (s : State) (m : MethodId) (args : Array Value) (below : List Frame) (meth : Method) (c : Code) (Q : State → Prop) (D : va_G) (κ : Nat → ClassId) (A : Nat → Prop) (H0 : Heap) (t : Nat → Nat) (t_size : Int) (t_rights : Int) (t_latest : Int) (t_seenStep : Nat) (t_seenFrom : Nat) (t_seenTo : Nat) (t_seenValue : Nat) (t_timesRight : Nat) (t_rightStep : Nat) (t_rightOf : Nat) (t_rightValue : Nat) (i1 : Int) (i2 : Int) (t_knownValue : Nat) : Prop := ∀ (H : Heap) (locs : List Loc) (ls : Array Slot), va_P D vwCl ([((t 0), .inr (7, [.ref (t 1), .ref (t 2), .ref (t 3), .ref (t 4), .ref (t 5), .ref (t 6), .ref (t 7), .ref (t 8), .ref (t 9), .int (zi t_size), .int (zi t_rights), .int (zi t_latest)])), ((t 1), .inl (κ 1, 20, .inl (zc t_seenStep))), ((t 2), .inl (κ 1, 20, .inl (zc t_seenFrom))), ((t 3), .inl (κ 1, 20, .inl (zc t_seenTo))), ((t 4), .inl (κ 1, 20, .inl (zc t_seenValue))), ((t 5), .inl (κ 1, 20, .inl (zc t_timesRight))), ((t 6), .inl (κ 1, 20, .inl (zc t_rightStep))), ((t 7), .inl (κ 1, 20, .inl (zc t_rightOf))), ((t 8), .inl (κ 1, 20, .inl (zc t_rightValue))), ((t 9), .inl (κ 1, 20, .inl (zc t_knownValue)))]) H → va_D A ([((t 0), .inr (7, [.ref (t 1), .ref (t 2), .ref (t 3), .ref (t 4), .ref (t 5), .ref (t 6), .ref (t 7), .ref (t 8), .ref (t 9), .int (zi t_size), .int (zi t_rights), .int (zi t_latest)])), ((t 1), .inl (κ 1, 20, .inl (zc t_seenStep))), ((t 2), .inl (κ 1, 20, .inl (zc t_seenFrom))), ((t 3), .inl (κ 1, 20, .inl (zc t_seenTo))), ((t 4), .inl (κ 1, 20, .inl (zc t_seenValue))), ((t 5), .inl (κ 1, 20, .inl (zc t_timesRight))), ((t 6), .inl (κ 1, 20, .inl (zc t_rightStep))), ((t 7), .inl (κ 1, 20, .inl (zc t_rightOf))), ((t 8), .inl (κ 1, 20, .inl (zc t_rightValue))), ((t 9), .inl (κ 1, 20, .inl (zc t_knownValue)))]) → va_S A H0 H locs → lv_has ls 3 [(0, .ref (t 0)), (1, .int (zi i1)), (2, .int (zi i2))] → W p l e zr_X7_recall s m args below meth c H locs 0 0 Q (F0 m 2 ls [])
def zA_X7_recall_44 (p : Program) (l : Launch) (e : Env) (s : State) (m : MethodId) (args : Array Value) (below : List Frame) (meth : Method) (c : Code) (Q : State → Prop) (D : va_G) (κ : Nat → ClassId) (A : Nat → Prop) (H0 : Heap) (t : Nat → Nat) (t_size : Int) (t_rights : Int) (t_latest : Int) (t_seenStep : Nat) (t_seenFrom : Nat) (t_seenTo : Nat) (t_seenValue : Nat) (t_timesRight : Nat) (t_rightStep : Nat) (t_rightOf : Nat) (t_rightValue : Nat) (i1 : Int) (i2 : Int) (t_knownValue : Nat) : Prop := ∀ (H : Heap) (locs : List Loc) (ls : Array Slot), va_P D vwCl ([((t 0), .inr (7, [.ref (t 1), .ref (t 2), .ref (t 3), .ref (t 4), .ref (t 5), .ref (t 6), .ref (t 7), .ref (t 8), .ref (t 9), .int (zi t_size), .int (zi t_rights), .int (zi t_latest)])), ((t 1), .inl (κ 1, 20, .inl (zc t_seenStep))), ((t 2), .inl (κ 1, 20, .inl (zc t_seenFrom))), ((t 3), .inl (κ 1, 20, .inl (zc t_seenTo))), ((t 4), .inl (κ 1, 20, .inl (zc t_seenValue))), ((t 5), .inl (κ 1, 20, .inl (zc t_timesRight))), ((t 6), .inl (κ 1, 20, .inl (zc t_rightStep))), ((t 7), .inl (κ 1, 20, .inl (zc t_rightOf))), ((t 8), .inl (κ 1, 20, .inl (zc t_rightValue))), ((t 9), .inl (κ 1, 20, .inl (zc t_knownValue)))]) H → va_D A ([((t 0), .inr (7, [.ref (t 1), .ref (t 2), .ref (t 3), .ref (t 4), .ref (t 5), .ref (t 6), .ref (t 7), .ref (t 8), .ref (t 9), .int (zi t_size), .int (zi t_rights), .int (zi t_latest)])), ((t 1), .inl (κ 1, 20, .inl (zc t_seenStep))), ((t 2), .inl (κ 1, 20, .inl (zc t_seenFrom))), ((t 3), .inl (κ 1, 20, .inl (zc t_seenTo))), ((t 4), .inl (κ 1, 20, .inl (zc t_seenValue))), ((t 5), .inl (κ 1, 20, .inl (zc t_timesRight))), ((t 6), .inl (κ 1, 20, .inl (zc t_rightStep))), ((t 7), .inl (κ 1, 20, .inl (zc t_rightOf))), ((t 8), .inl (κ 1, 20, .inl (zc t_rightValue))), ((t 9), .inl (κ 1, 20, .inl (zc t_knownValue)))]) → va_S A H0 H locs → lv_has ls 3 [(0, .ref (t 0)), (1, .int (zi i1)), (2, .int (zi i2))] → W p l e zr_X7_recall s m args below meth c H locs 0 0 Q (F0 m 44 ls [])
def zA_X7_recall (p : Program) (l : Launch) (e : Env) (s : State) (m : MethodId) (args : Array Value) (below : List Frame) (meth : Method) (c : Code) (Q : State → Prop) (D : va_G) (κ : Nat → ClassId) (A : Nat → Prop) (H0 : Heap) (t : Nat → Nat) (t_size : Int) (t_rights : Int) (t_latest : Int) (t_seenStep : Nat) (t_seenFrom : Nat) (t_seenTo : Nat) (t_seenValue : Nat) (t_timesRight : Nat) (t_rightStep : Nat) (t_rightOf : Nat) (t_rightValue : Nat) (st : zS_X7_recall) : Prop := match st with
  | (lab, i1, i2, t_knownValue) => if lab = 0 then zA_X7_recall_0 p l e s m args below meth c Q D κ A H0 t t_size t_rights t_latest t_seenStep t_seenFrom t_seenTo t_seenValue t_timesRight t_rightStep t_rightOf t_rightValue i1 i2 t_knownValue else if lab = 2 then zA_X7_recall_2 p l e s m args below meth c Q D κ A H0 t t_size t_rights t_latest t_seenStep t_seenFrom t_seenTo t_seenValue t_timesRight t_rightStep t_rightOf t_rightValue i1 i2 t_knownValue else if lab = 44 then zA_X7_recall_44 p l e s m args below meth c Q D κ A H0 t t_size t_rights t_latest t_seenStep t_seenFrom t_seenTo t_seenValue t_timesRight t_rightStep t_rightOf t_rightValue i1 i2 t_knownValue else True
set_option maxHeartbeats 4000000 in
set_option maxRecDepth 100000 in
theorem zs_X7_recall_0 {p : Program} {l : Launch} {e : Env} {s : State} {m : MethodId} {args : Array Value} {below : List Frame} {meth : Method} {c : Code} {Q : State → Prop} {D : va_G} {κ : Nat → ClassId} {A : Nat → Prop} {H0 : Heap} (t : Nat → Nat) (t_size : Int) (t_rights : Int) (t_latest : Int) (t_seenStep : Nat) (t_seenFrom : Nat) (t_seenTo : Nat) (t_seenValue : Nat) (t_timesRight : Nat) (t_rightStep : Nat) (t_rightOf : Nat) (t_rightValue : Nat) (hx : p.tables.exec = Jvm.exec) (hb : c.code = cX7_recall) (hml : c.maxLocals = 3) (hown : s.vm.findClass RX7 = some m.cls) (hts : ∀ w ∈ wsX7_recall, w.before args s = true) (hK : va_K D vwCl (zTY κ) s) (hA : ∀ q : Nat, H0.size ≤ q → A q) (i1 : Int) (i2 : Int) (t_knownValue : Nat) (hg : Go (GoE (zA_X7_recall p l e s m args below meth c Q D κ A H0 t t_size t_rights t_latest t_seenStep t_seenFrom t_seenTo t_seenValue t_timesRight t_rightStep t_rightOf t_rightValue) (zQ_X7_recall p l e s m args below meth c Q D κ A H0 t t_size t_rights t_latest t_seenStep t_seenFrom t_seenTo t_seenValue t_timesRight t_rightStep t_rightOf t_rightValue)) (zg_X7_recall_0 t_size t_rights t_seenStep t_seenValue t_rightStep t_rightOf t_rightValue i1 i2 t_knownValue)) : zA_X7_recall_0 p l e s m args below meth c Q D κ A H0 t t_size t_rights t_latest t_seenStep t_seenFrom t_seenTo t_seenValue t_timesRight t_rightStep t_rightOf t_rightValue i1 i2 t_knownValue := by
  intro H locs ls hP hD hS hl
  unfold zg_X7_recall_0 at hg
  refine zv_iconst hx hb dX7_recall_0 ?_
  refine lv_istore_n (lv' := [(2, .int (zi (0 : Int))), (0, .ref (t 0)), (1, .int (zi i1))]) hx hb dX7_recall_1 rfl hl (by decide) rfl (fun ls hl => ?_)
  exact (Go_s hg) H locs ls hP hD hS (lv_sub hl [1, 2, 0] rfl)
set_option maxHeartbeats 4000000 in
set_option maxRecDepth 100000 in
theorem zs_X7_recall_2 {p : Program} {l : Launch} {e : Env} {s : State} {m : MethodId} {args : Array Value} {below : List Frame} {meth : Method} {c : Code} {Q : State → Prop} {D : va_G} {κ : Nat → ClassId} {A : Nat → Prop} {H0 : Heap} (t : Nat → Nat) (t_size : Int) (t_rights : Int) (t_latest : Int) (t_seenStep : Nat) (t_seenFrom : Nat) (t_seenTo : Nat) (t_seenValue : Nat) (t_timesRight : Nat) (t_rightStep : Nat) (t_rightOf : Nat) (t_rightValue : Nat) (hx : p.tables.exec = Jvm.exec) (hb : c.code = cX7_recall) (hml : c.maxLocals = 3) (hown : s.vm.findClass RX7 = some m.cls) (hts : ∀ w ∈ wsX7_recall, w.before args s = true) (hK : va_K D vwCl (zTY κ) s) (hA : ∀ q : Nat, H0.size ≤ q → A q) (i1 : Int) (i2 : Int) (t_knownValue : Nat) (hg : Go (GoE (zA_X7_recall p l e s m args below meth c Q D κ A H0 t t_size t_rights t_latest t_seenStep t_seenFrom t_seenTo t_seenValue t_timesRight t_rightStep t_rightOf t_rightValue) (zQ_X7_recall p l e s m args below meth c Q D κ A H0 t t_size t_rights t_latest t_seenStep t_seenFrom t_seenTo t_seenValue t_timesRight t_rightStep t_rightOf t_rightValue)) (zg_X7_recall_2 t_size t_rights t_seenStep t_seenValue t_rightStep t_rightOf t_rightValue i1 i2 t_knownValue)) : zA_X7_recall_2 p l e s m args below meth c Q D κ A H0 t t_size t_rights t_latest t_seenStep t_seenFrom t_seenTo t_seenValue t_timesRight t_rightStep t_rightOf t_rightValue i1 i2 t_knownValue := by
  intro H locs ls hP hD hS hl
  unfold zg_X7_recall_2 at hg
  refine lv_iload_n hx hb dX7_recall_2 rfl (lv_at hl 2 rfl) ?_
  refine lv_aload_n hx hb dX7_recall_3 rfl (lv_at hl 0 rfl) ?_
  refine va_get (D := D) (ci := 7) (v := .int (zi t_size)) (C := RX7) (T := TX7) (N := 12) hx hb hts zi_X7_recall_X7 hown hK hP 0 rfl rfl 9 (by decide) (hts (.fieldLink RX7 39 "DiamondRows$Sightings" "size" "I") zl_X7_recall_39) (fun _ h9 => h9) rfl dX7_recall_4 ?_
  obtain ⟨b1, hg⟩ := Go_n hg
  obtain ⟨b2, hg⟩ := Go_n hg
  refine zv_icmp_ge (tgt := 42) hx hb dX7_recall_7 (by decide) b1 b2 (fun c6 => ?_) (fun c6 => ?_)
  · have hg := Go_t c6 hg
    refine zv_iconst hx hb dX7_recall_42 ?_
    refine lv_istore_n (lv' := [(2, .int (zi (0 : Int))), (0, .ref (t 0)), (1, .int (zi i1))]) hx hb dX7_recall_43 rfl hl (by decide) rfl (fun ls hl => ?_)
    exact (Go_s hg) H locs ls hP hD hS (lv_sub hl [1, 2, 0] rfl)
  · have hg := Go_f c6 hg
    refine lv_aload_n hx hb dX7_recall_10 rfl (lv_at hl 0 rfl) ?_
    refine va_get (D := D) (ci := 7) (v := .ref (t 9)) (C := RX7) (T := TX7) (N := 12) hx hb hts zi_X7_recall_X7 hown hK hP 0 rfl rfl 8 (by decide) (hts (.fieldLink RX7 36 "DiamondRows$Sightings" "knownValue" "[I") zl_X7_recall_36) (fun _ h9 => h9) rfl dX7_recall_11 ?_
    refine lv_iload_n hx hb dX7_recall_14 rfl (lv_at hl 2 rfl) ?_
    refine lv_aload_n hx hb dX7_recall_15 rfl (lv_at hl 0 rfl) ?_
    refine va_get (D := D) (ci := 7) (v := .ref (t 1)) (C := RX7) (T := TX7) (N := 12) hx hb hts zi_X7_recall_X7 hown hK hP 0 rfl rfl 0 (by decide) (hts (.fieldLink RX7 11 "DiamondRows$Sightings" "seenStep" "[I") zl_X7_recall_11) (fun _ h9 => h9) rfl dX7_recall_16 ?_
    refine lv_iload_n hx hb dX7_recall_19 rfl (lv_at hl 2 rfl) ?_
    obtain ⟨n3, hg⟩ := Go_n hg
    refine zv_iald hx hb hK hP 1 1 rfl rfl (by decide) n3 dX7_recall_20 ?_
    refine lv_iload_n hx hb dX7_recall_21 rfl (lv_at hl 1 rfl) ?_
    obtain ⟨b4, hg⟩ := Go_n hg
    refine zv_icmp_gt (tgt := 34) hx hb dX7_recall_22 (by decide) (zget_in _ _) b4 (fun c5 => ?_) (fun c5 => ?_)
    · have hg := Go_t c5 hg
      refine zv_iconst hx hb dX7_recall_34 ?_
      refine zv_iast hx hb hK hP hD hS 9 1 rfl rfl (by decide) n3 dX7_recall_35 (fun H locs hP hD hS => ?_)
      have hP : va_P D vwCl ([((t 0), .inr (7, [.ref (t 1), .ref (t 2), .ref (t 3), .ref (t 4), .ref (t 5), .ref (t 6), .ref (t 7), .ref (t 8), .ref (t 9), .int (zi t_size), .int (zi t_rights), .int (zi t_latest)])), ((t 1), .inl (κ 1, 20, .inl (zc t_seenStep))), ((t 2), .inl (κ 1, 20, .inl (zc t_seenFrom))), ((t 3), .inl (κ 1, 20, .inl (zc t_seenTo))), ((t 4), .inl (κ 1, 20, .inl (zc t_seenValue))), ((t 5), .inl (κ 1, 20, .inl (zc t_timesRight))), ((t 6), .inl (κ 1, 20, .inl (zc t_rightStep))), ((t 7), .inl (κ 1, 20, .inl (zc t_rightOf))), ((t 8), .inl (κ 1, 20, .inl (zc t_rightValue))), ((t 9), .inl (κ 1, 20, .inl (zc (zset t_knownValue (Int.toNat i2) (-1 : Int)))))]) H := hP
      have hD : va_D A ([((t 0), .inr (7, [.ref (t 1), .ref (t 2), .ref (t 3), .ref (t 4), .ref (t 5), .ref (t 6), .ref (t 7), .ref (t 8), .ref (t 9), .int (zi t_size), .int (zi t_rights), .int (zi t_latest)])), ((t 1), .inl (κ 1, 20, .inl (zc t_seenStep))), ((t 2), .inl (κ 1, 20, .inl (zc t_seenFrom))), ((t 3), .inl (κ 1, 20, .inl (zc t_seenTo))), ((t 4), .inl (κ 1, 20, .inl (zc t_seenValue))), ((t 5), .inl (κ 1, 20, .inl (zc t_timesRight))), ((t 6), .inl (κ 1, 20, .inl (zc t_rightStep))), ((t 7), .inl (κ 1, 20, .inl (zc t_rightOf))), ((t 8), .inl (κ 1, 20, .inl (zc t_rightValue))), ((t 9), .inl (κ 1, 20, .inl (zc (zset t_knownValue (Int.toNat i2) (-1 : Int)))))]) := hD
      refine lv_iinc (v := zi (i2 + (1 : Int))) (lv' := [(2, .int (zi (i2 + (1 : Int)))), (0, .ref (t 0)), (1, .int (zi i1))]) hx hb dX7_recall_36 hl (k := 2) rfl (zi_add i2 _) (by decide) rfl (fun ls hl => ?_)
      refine lv_goto (tgt := 2) hx hb dX7_recall_39 (by decide) ?_
      exact (Go_s hg) H locs ls hP hD hS (lv_sub hl [1, 2, 0] rfl)
    · have hg := Go_f c5 hg
      refine lv_aload_n hx hb dX7_recall_25 rfl (lv_at hl 0 rfl) ?_
      refine va_get (D := D) (ci := 7) (v := .ref (t 4)) (C := RX7) (T := TX7) (N := 12) hx hb hts zi_X7_recall_X7 hown hK hP 0 rfl rfl 3 (by decide) (hts (.fieldLink RX7 21 "DiamondRows$Sightings" "seenValue" "[I") zl_X7_recall_21) (fun _ h9 => h9) rfl dX7_recall_26 ?_
      refine lv_iload_n hx hb dX7_recall_29 rfl (lv_at hl 2 rfl) ?_
      refine zv_iald hx hb hK hP 4 1 rfl rfl (by decide) n3 dX7_recall_30 ?_
      refine lv_goto (tgt := 35) hx hb dX7_recall_31 (by decide) ?_
      refine zv_iast hx hb hK hP hD hS 9 1 rfl rfl (by decide) n3 dX7_recall_35 (fun H locs hP hD hS => ?_)
      have hP : va_P D vwCl ([((t 0), .inr (7, [.ref (t 1), .ref (t 2), .ref (t 3), .ref (t 4), .ref (t 5), .ref (t 6), .ref (t 7), .ref (t 8), .ref (t 9), .int (zi t_size), .int (zi t_rights), .int (zi t_latest)])), ((t 1), .inl (κ 1, 20, .inl (zc t_seenStep))), ((t 2), .inl (κ 1, 20, .inl (zc t_seenFrom))), ((t 3), .inl (κ 1, 20, .inl (zc t_seenTo))), ((t 4), .inl (κ 1, 20, .inl (zc t_seenValue))), ((t 5), .inl (κ 1, 20, .inl (zc t_timesRight))), ((t 6), .inl (κ 1, 20, .inl (zc t_rightStep))), ((t 7), .inl (κ 1, 20, .inl (zc t_rightOf))), ((t 8), .inl (κ 1, 20, .inl (zc t_rightValue))), ((t 9), .inl (κ 1, 20, .inl (zc (zset t_knownValue (Int.toNat i2) (zget t_seenValue (Int.toNat i2))))))]) H := hP
      have hD : va_D A ([((t 0), .inr (7, [.ref (t 1), .ref (t 2), .ref (t 3), .ref (t 4), .ref (t 5), .ref (t 6), .ref (t 7), .ref (t 8), .ref (t 9), .int (zi t_size), .int (zi t_rights), .int (zi t_latest)])), ((t 1), .inl (κ 1, 20, .inl (zc t_seenStep))), ((t 2), .inl (κ 1, 20, .inl (zc t_seenFrom))), ((t 3), .inl (κ 1, 20, .inl (zc t_seenTo))), ((t 4), .inl (κ 1, 20, .inl (zc t_seenValue))), ((t 5), .inl (κ 1, 20, .inl (zc t_timesRight))), ((t 6), .inl (κ 1, 20, .inl (zc t_rightStep))), ((t 7), .inl (κ 1, 20, .inl (zc t_rightOf))), ((t 8), .inl (κ 1, 20, .inl (zc t_rightValue))), ((t 9), .inl (κ 1, 20, .inl (zc (zset t_knownValue (Int.toNat i2) (zget t_seenValue (Int.toNat i2))))))]) := hD
      refine lv_iinc (v := zi (i2 + (1 : Int))) (lv' := [(2, .int (zi (i2 + (1 : Int)))), (0, .ref (t 0)), (1, .int (zi i1))]) hx hb dX7_recall_36 hl (k := 2) rfl (zi_add i2 _) (by decide) rfl (fun ls hl => ?_)
      refine lv_goto (tgt := 2) hx hb dX7_recall_39 (by decide) ?_
      exact (Go_s hg) H locs ls hP hD hS (lv_sub hl [1, 2, 0] rfl)
set_option maxHeartbeats 4000000 in
set_option maxRecDepth 100000 in
theorem zs_X7_recall_44 {p : Program} {l : Launch} {e : Env} {s : State} {m : MethodId} {args : Array Value} {below : List Frame} {meth : Method} {c : Code} {Q : State → Prop} {D : va_G} {κ : Nat → ClassId} {A : Nat → Prop} {H0 : Heap} (t : Nat → Nat) (t_size : Int) (t_rights : Int) (t_latest : Int) (t_seenStep : Nat) (t_seenFrom : Nat) (t_seenTo : Nat) (t_seenValue : Nat) (t_timesRight : Nat) (t_rightStep : Nat) (t_rightOf : Nat) (t_rightValue : Nat) (hx : p.tables.exec = Jvm.exec) (hb : c.code = cX7_recall) (hml : c.maxLocals = 3) (hown : s.vm.findClass RX7 = some m.cls) (hts : ∀ w ∈ wsX7_recall, w.before args s = true) (hK : va_K D vwCl (zTY κ) s) (hA : ∀ q : Nat, H0.size ≤ q → A q) (i1 : Int) (i2 : Int) (t_knownValue : Nat) (hg : Go (GoE (zA_X7_recall p l e s m args below meth c Q D κ A H0 t t_size t_rights t_latest t_seenStep t_seenFrom t_seenTo t_seenValue t_timesRight t_rightStep t_rightOf t_rightValue) (zQ_X7_recall p l e s m args below meth c Q D κ A H0 t t_size t_rights t_latest t_seenStep t_seenFrom t_seenTo t_seenValue t_timesRight t_rightStep t_rightOf t_rightValue)) (zg_X7_recall_44 t_size t_rights t_seenStep t_seenValue t_rightStep t_rightOf t_rightValue i1 i2 t_knownValue)) : zA_X7_recall_44 p l e s m args below meth c Q D κ A H0 t t_size t_rights t_latest t_seenStep t_seenFrom t_seenTo t_seenValue t_timesRight t_rightStep t_rightOf t_rightValue i1 i2 t_knownValue := by
  intro H locs ls hP hD hS hl
  unfold zg_X7_recall_44 at hg
  refine lv_iload_n hx hb dX7_recall_44 rfl (lv_at hl 2 rfl) ?_
  refine lv_aload_n hx hb dX7_recall_45 rfl (lv_at hl 0 rfl) ?_
  refine va_get (D := D) (ci := 7) (v := .int (zi t_rights)) (C := RX7) (T := TX7) (N := 12) hx hb hts zi_X7_recall_X7 hown hK hP 0 rfl rfl 10 (by decide) (hts (.fieldLink RX7 43 "DiamondRows$Sightings" "rights" "I") zl_X7_recall_43) (fun _ h9 => h9) rfl dX7_recall_46 ?_
  obtain ⟨b7, hg⟩ := Go_n hg
  obtain ⟨b8, hg⟩ := Go_n hg
  refine zv_icmp_ge (tgt := 98) hx hb dX7_recall_49 (by decide) b7 b8 (fun c15 => ?_) (fun c15 => ?_)
  · have hg := Go_t c15 hg
    exact (Go_s hg) _ _ _ _ hP hD hS dX7_recall_98
  · have hg := Go_f c15 hg
    refine lv_aload_n hx hb dX7_recall_52 rfl (lv_at hl 0 rfl) ?_
    refine va_get (D := D) (ci := 7) (v := .ref (t 6)) (C := RX7) (T := TX7) (N := 12) hx hb hts zi_X7_recall_X7 hown hK hP 0 rfl rfl 5 (by decide) (hts (.fieldLink RX7 27 "DiamondRows$Sightings" "rightStep" "[I") zl_X7_recall_27) (fun _ h9 => h9) rfl dX7_recall_53 ?_
    refine lv_iload_n hx hb dX7_recall_56 rfl (lv_at hl 2 rfl) ?_
    obtain ⟨n9, hg⟩ := Go_n hg
    refine zv_iald hx hb hK hP 6 1 rfl rfl (by decide) n9 dX7_recall_57 ?_
    refine lv_iload_n hx hb dX7_recall_58 rfl (lv_at hl 1 rfl) ?_
    obtain ⟨b10, hg⟩ := Go_n hg
    refine zv_icmp_gt (tgt := 92) hx hb dX7_recall_59 (by decide) (zget_in _ _) b10 (fun c14 => ?_) (fun c14 => ?_)
    · have hg := Go_t c14 hg
      refine lv_iinc (v := zi (i2 + (1 : Int))) (lv' := [(2, .int (zi (i2 + (1 : Int)))), (0, .ref (t 0)), (1, .int (zi i1))]) hx hb dX7_recall_92 hl (k := 2) rfl (zi_add i2 _) (by decide) rfl (fun ls hl => ?_)
      refine lv_goto (tgt := 44) hx hb dX7_recall_95 (by decide) ?_
      exact (Go_s hg) H locs ls hP hD hS (lv_sub hl [1, 2, 0] rfl)
    · have hg := Go_f c14 hg
      refine lv_aload_n hx hb dX7_recall_62 rfl (lv_at hl 0 rfl) ?_
      refine lv_aload_n hx hb dX7_recall_63 rfl (lv_at hl 0 rfl) ?_
      refine va_get (D := D) (ci := 7) (v := .ref (t 7)) (C := RX7) (T := TX7) (N := 12) hx hb hts zi_X7_recall_X7 hown hK hP 0 rfl rfl 6 (by decide) (hts (.fieldLink RX7 30 "DiamondRows$Sightings" "rightOf" "[I") zl_X7_recall_30) (fun _ h9 => h9) rfl dX7_recall_64 ?_
      refine lv_iload_n hx hb dX7_recall_67 rfl (lv_at hl 2 rfl) ?_
      refine zv_iald hx hb hK hP 7 1 rfl rfl (by decide) n9 dX7_recall_68 ?_
      obtain ⟨o11, ho11, hg⟩ := Go_b hg
      refine zc_vi (rest := []) ⟨hx, hb, hml, hown, hts⟩ (zc_X7_has l D κ t t_size t_rights t_latest t_seenStep t_seenFrom t_seenTo t_seenValue t_timesRight t_rightStep t_rightOf t_rightValue t_knownValue (zget t_rightOf (Int.toNat i2)) o11 ho11) (cwV 1 hts gX7_recall_X7_has rfl rfl rfl hv_X7_has ⟨Nat.le_of_ble_eq_true rfl, Nat.le_of_ble_eq_true rfl⟩) (zpreV hK (hP.sub [0, 1, 2, 3, 4, 5, 6, 7, 8, 9] rfl) 7 0 rfl rfl) rfl hl.1 rfl (Nat.le_of_ble_eq_true rfl) dX7_recall_69 ⟨Nat.zero_le _, Nat.zero_le _⟩ ?_
      refine zv_ifb_eq (tgt := 92) hx hb dX7_recall_72 (by decide) (fun c13 => ?_) (fun c13 => ?_)
      · have hg := Go_t c13 hg
        refine lv_iinc (v := zi (i2 + (1 : Int))) (lv' := [(2, .int (zi (i2 + (1 : Int)))), (0, .ref (t 0)), (1, .int (zi i1))]) hx hb dX7_recall_92 hl (k := 2) rfl (zi_add i2 _) (by decide) rfl (fun ls hl => ?_)
        refine lv_goto (tgt := 44) hx hb dX7_recall_95 (by decide) ?_
        exact (Go_s hg) H locs ls hP hD hS (lv_sub hl [1, 2, 0] rfl)
      · have hg := Go_f c13 hg
        refine lv_aload_n hx hb dX7_recall_75 rfl (lv_at hl 0 rfl) ?_
        refine va_get (D := D) (ci := 7) (v := .ref (t 9)) (C := RX7) (T := TX7) (N := 12) hx hb hts zi_X7_recall_X7 hown hK hP 0 rfl rfl 8 (by decide) (hts (.fieldLink RX7 36 "DiamondRows$Sightings" "knownValue" "[I") zl_X7_recall_36) (fun _ h9 => h9) rfl dX7_recall_76 ?_
        refine lv_aload_n hx hb dX7_recall_79 rfl (lv_at hl 0 rfl) ?_
        refine va_get (D := D) (ci := 7) (v := .ref (t 7)) (C := RX7) (T := TX7) (N := 12) hx hb hts zi_X7_recall_X7 hown hK hP 0 rfl rfl 6 (by decide) (hts (.fieldLink RX7 30 "DiamondRows$Sightings" "rightOf" "[I") zl_X7_recall_30) (fun _ h9 => h9) rfl dX7_recall_80 ?_
        refine lv_iload_n hx hb dX7_recall_83 rfl (lv_at hl 2 rfl) ?_
        refine zv_iald hx hb hK hP 7 1 rfl rfl (by decide) n9 dX7_recall_84 ?_
        refine lv_aload_n hx hb dX7_recall_85 rfl (lv_at hl 0 rfl) ?_
        refine va_get (D := D) (ci := 7) (v := .ref (t 8)) (C := RX7) (T := TX7) (N := 12) hx hb hts zi_X7_recall_X7 hown hK hP 0 rfl rfl 7 (by decide) (hts (.fieldLink RX7 33 "DiamondRows$Sightings" "rightValue" "[I") zl_X7_recall_33) (fun _ h9 => h9) rfl dX7_recall_86 ?_
        refine lv_iload_n hx hb dX7_recall_89 rfl (lv_at hl 2 rfl) ?_
        refine zv_iald hx hb hK hP 8 1 rfl rfl (by decide) n9 dX7_recall_90 ?_
        obtain ⟨n12, hg⟩ := Go_n hg
        refine zv_iast hx hb hK hP hD hS 9 1 rfl rfl (by decide) n12 dX7_recall_91 (fun H locs hP hD hS => ?_)
        have hP : va_P D vwCl ([((t 0), .inr (7, [.ref (t 1), .ref (t 2), .ref (t 3), .ref (t 4), .ref (t 5), .ref (t 6), .ref (t 7), .ref (t 8), .ref (t 9), .int (zi t_size), .int (zi t_rights), .int (zi t_latest)])), ((t 1), .inl (κ 1, 20, .inl (zc t_seenStep))), ((t 2), .inl (κ 1, 20, .inl (zc t_seenFrom))), ((t 3), .inl (κ 1, 20, .inl (zc t_seenTo))), ((t 4), .inl (κ 1, 20, .inl (zc t_seenValue))), ((t 5), .inl (κ 1, 20, .inl (zc t_timesRight))), ((t 6), .inl (κ 1, 20, .inl (zc t_rightStep))), ((t 7), .inl (κ 1, 20, .inl (zc t_rightOf))), ((t 8), .inl (κ 1, 20, .inl (zc t_rightValue))), ((t 9), .inl (κ 1, 20, .inl (zc (zset t_knownValue (Int.toNat (zget t_rightOf (Int.toNat i2))) (zget t_rightValue (Int.toNat i2))))))]) H := hP
        have hD : va_D A ([((t 0), .inr (7, [.ref (t 1), .ref (t 2), .ref (t 3), .ref (t 4), .ref (t 5), .ref (t 6), .ref (t 7), .ref (t 8), .ref (t 9), .int (zi t_size), .int (zi t_rights), .int (zi t_latest)])), ((t 1), .inl (κ 1, 20, .inl (zc t_seenStep))), ((t 2), .inl (κ 1, 20, .inl (zc t_seenFrom))), ((t 3), .inl (κ 1, 20, .inl (zc t_seenTo))), ((t 4), .inl (κ 1, 20, .inl (zc t_seenValue))), ((t 5), .inl (κ 1, 20, .inl (zc t_timesRight))), ((t 6), .inl (κ 1, 20, .inl (zc t_rightStep))), ((t 7), .inl (κ 1, 20, .inl (zc t_rightOf))), ((t 8), .inl (κ 1, 20, .inl (zc t_rightValue))), ((t 9), .inl (κ 1, 20, .inl (zc (zset t_knownValue (Int.toNat (zget t_rightOf (Int.toNat i2))) (zget t_rightValue (Int.toNat i2))))))]) := hD
        refine lv_iinc (v := zi (i2 + (1 : Int))) (lv' := [(2, .int (zi (i2 + (1 : Int)))), (0, .ref (t 0)), (1, .int (zi i1))]) hx hb dX7_recall_92 hl (k := 2) rfl (zi_add i2 _) (by decide) rfl (fun ls hl => ?_)
        refine lv_goto (tgt := 44) hx hb dX7_recall_95 (by decide) ?_
        exact (Go_s hg) H locs ls hP hD hS (lv_sub hl [1, 2, 0] rfl)
set_option maxHeartbeats 4000000 in
set_option maxRecDepth 100000 in
theorem zw_X7_recall {p : Program} {l : Launch} {e : Env} {s : State} {m : MethodId} {args : Array Value} {below : List Frame} {meth : Method} {c : Code} {Q : State → Prop} {D : va_G} {κ : Nat → ClassId} {A : Nat → Prop} {H0 : Heap} (t : Nat → Nat) (t_size : Int) (t_rights : Int) (t_latest : Int) (t_seenStep : Nat) (t_seenFrom : Nat) (t_seenTo : Nat) (t_seenValue : Nat) (t_timesRight : Nat) (t_rightStep : Nat) (t_rightOf : Nat) (t_rightValue : Nat) (t_knownValue : Nat) (i1 : Int) (hx : p.tables.exec = Jvm.exec) (hb : c.code = cX7_recall) (hml : c.maxLocals = 3) (hown : s.vm.findClass RX7 = some m.cls) (hts : ∀ w ∈ wsX7_recall, w.before args s = true) (hK : va_K D vwCl (zTY κ) s) (hA : ∀ q : Nat, H0.size ≤ q → A q) (out : Nat) (h : zf_X7_recall t_size t_rights t_seenStep t_seenValue t_rightStep t_rightOf t_rightValue t_knownValue i1 = some out) (hq : zQ_X7_recall p l e s m args below meth c Q D κ A H0 t t_size t_rights t_latest t_seenStep t_seenFrom t_seenTo t_seenValue t_timesRight t_rightStep t_rightOf t_rightValue out) : zA_X7_recall_0 p l e s m args below meth c Q D κ A H0 t t_size t_rights t_latest t_seenStep t_seenFrom t_seenTo t_seenValue t_timesRight t_rightStep t_rightOf t_rightValue i1 0 t_knownValue := by
  have hst : ∀ st : zS_X7_recall, Go (GoE (zA_X7_recall p l e s m args below meth c Q D κ A H0 t t_size t_rights t_latest t_seenStep t_seenFrom t_seenTo t_seenValue t_timesRight t_rightStep t_rightOf t_rightValue) (zQ_X7_recall p l e s m args below meth c Q D κ A H0 t t_size t_rights t_latest t_seenStep t_seenFrom t_seenTo t_seenValue t_timesRight t_rightStep t_rightOf t_rightValue)) (zg_X7_recall t_size t_rights t_seenStep t_seenValue t_rightStep t_rightOf t_rightValue st) → zA_X7_recall p l e s m args below meth c Q D κ A H0 t t_size t_rights t_latest t_seenStep t_seenFrom t_seenTo t_seenValue t_timesRight t_rightStep t_rightOf t_rightValue st := by
    intro st hg
    obtain ⟨lab, i1, i2, t_knownValue⟩ := st
    by_cases h0 : lab = 0
    · subst h0
      exact zs_X7_recall_0 t t_size t_rights t_latest t_seenStep t_seenFrom t_seenTo t_seenValue t_timesRight t_rightStep t_rightOf t_rightValue hx hb hml hown hts hK hA i1 i2 t_knownValue hg
    by_cases h2 : lab = 2
    · subst h2
      exact zs_X7_recall_2 t t_size t_rights t_latest t_seenStep t_seenFrom t_seenTo t_seenValue t_timesRight t_rightStep t_rightOf t_rightValue hx hb hml hown hts hK hA i1 i2 t_knownValue hg
    by_cases h44 : lab = 44
    · subst h44
      exact zs_X7_recall_44 t t_size t_rights t_latest t_seenStep t_seenFrom t_seenTo t_seenValue t_timesRight t_rightStep t_rightOf t_rightValue hx hb hml hown hts hK hA i1 i2 t_knownValue hg
    have hz : zg_X7_recall t_size t_rights t_seenStep t_seenValue t_rightStep t_rightOf t_rightValue (lab, i1, i2, t_knownValue) = none := by simp [zg_X7_recall, h0, h2, h44]
    rw [hz] at hg
    obtain ⟨a, h1, -⟩ := hg
    cases h1
  exact jwalk (At := zA_X7_recall p l e s m args below meth c Q D κ A H0 t t_size t_rights t_latest t_seenStep t_seenFrom t_seenTo t_seenValue t_timesRight t_rightStep t_rightOf t_rightValue) (Ret := zQ_X7_recall p l e s m args below meth c Q D κ A H0 t t_size t_rights t_latest t_seenStep t_seenFrom t_seenTo t_seenValue t_timesRight t_rightStep t_rightOf t_rightValue) hst _ _ _ h hq
set_option maxHeartbeats 4000000 in
set_option maxRecDepth 100000 in
theorem zc_X7_recall (l : Launch) (D : va_G) (κ : Nat → ClassId) (t : Nat → Nat) (sz : Nat) (t_size : Int) (t_rights : Int) (t_latest : Int) (t_seenStep : Nat) (t_seenFrom : Nat) (t_seenTo : Nat) (t_seenValue : Nat) (t_timesRight : Nat) (t_rightStep : Nat) (t_rightOf : Nat) (t_rightValue : Nat) (t_knownValue : Nat) (i1 : Int) (out : Nat) (h : zf_X7_recall t_size t_rights t_seenStep t_seenValue t_rightStep t_rightOf t_rightValue t_knownValue i1 = some out) : Met l yX7_recall wsX7_recall zr_X7_recall (va_Pc [.ref (t 0), .int (zi i1)] (zW D κ ([((t 0), .inr (7, [.ref (t 1), .ref (t 2), .ref (t 3), .ref (t 4), .ref (t 5), .ref (t 6), .ref (t 7), .ref (t 8), .ref (t 9), .int (zi t_size), .int (zi t_rights), .int (zi t_latest)])), ((t 1), .inl (κ 1, 20, .inl (zc t_seenStep))), ((t 2), .inl (κ 1, 20, .inl (zc t_seenFrom))), ((t 3), .inl (κ 1, 20, .inl (zc t_seenTo))), ((t 4), .inl (κ 1, 20, .inl (zc t_seenValue))), ((t 5), .inl (κ 1, 20, .inl (zc t_timesRight))), ((t 6), .inl (κ 1, 20, .inl (zc t_rightStep))), ((t 7), .inl (κ 1, 20, .inl (zc t_rightOf))), ((t 8), .inl (κ 1, 20, .inl (zc t_rightValue))), ((t 9), .inl (κ 1, 20, .inl (zc t_knownValue)))]) sz)) (va_Qv (fun (_ : Unit) => True) (fun _ => zB D κ (va_A ([((t 0), .inr (7, [.ref (t 1), .ref (t 2), .ref (t 3), .ref (t 4), .ref (t 5), .ref (t 6), .ref (t 7), .ref (t 8), .ref (t 9), .int (zi t_size), .int (zi t_rights), .int (zi t_latest)])), ((t 1), .inl (κ 1, 20, .inl (zc t_seenStep))), ((t 2), .inl (κ 1, 20, .inl (zc t_seenFrom))), ((t 3), .inl (κ 1, 20, .inl (zc t_seenTo))), ((t 4), .inl (κ 1, 20, .inl (zc t_seenValue))), ((t 5), .inl (κ 1, 20, .inl (zc t_timesRight))), ((t 6), .inl (κ 1, 20, .inl (zc t_rightStep))), ((t 7), .inl (κ 1, 20, .inl (zc t_rightOf))), ((t 8), .inl (κ 1, 20, .inl (zc t_rightValue))), ((t 9), .inl (κ 1, 20, .inl (zc t_knownValue)))]) sz) ([((t 0), .inr (7, [.ref (t 1), .ref (t 2), .ref (t 3), .ref (t 4), .ref (t 5), .ref (t 6), .ref (t 7), .ref (t 8), .ref (t 9), .int (zi t_size), .int (zi t_rights), .int (zi t_latest)])), ((t 1), .inl (κ 1, 20, .inl (zc t_seenStep))), ((t 2), .inl (κ 1, 20, .inl (zc t_seenFrom))), ((t 3), .inl (κ 1, 20, .inl (zc t_seenTo))), ((t 4), .inl (κ 1, 20, .inl (zc t_seenValue))), ((t 5), .inl (κ 1, 20, .inl (zc t_timesRight))), ((t 6), .inl (κ 1, 20, .inl (zc t_rightStep))), ((t 7), .inl (κ 1, 20, .inl (zc t_rightOf))), ((t 8), .inl (κ 1, 20, .inl (zc t_rightValue))), ((t 9), .inl (κ 1, 20, .inl (zc out)))])) (va_A ([((t 0), .inr (7, [.ref (t 1), .ref (t 2), .ref (t 3), .ref (t 4), .ref (t 5), .ref (t 6), .ref (t 7), .ref (t 8), .ref (t 9), .int (zi t_size), .int (zi t_rights), .int (zi t_latest)])), ((t 1), .inl (κ 1, 20, .inl (zc t_seenStep))), ((t 2), .inl (κ 1, 20, .inl (zc t_seenFrom))), ((t 3), .inl (κ 1, 20, .inl (zc t_seenTo))), ((t 4), .inl (κ 1, 20, .inl (zc t_seenValue))), ((t 5), .inl (κ 1, 20, .inl (zc t_timesRight))), ((t 6), .inl (κ 1, 20, .inl (zc t_rightStep))), ((t 7), .inl (κ 1, 20, .inl (zc t_rightOf))), ((t 8), .inl (κ 1, 20, .inl (zc t_rightValue))), ((t 9), .inl (κ 1, 20, .inl (zc t_knownValue)))]) sz)) 0 0 (va_A ([((t 0), .inr (7, [.ref (t 1), .ref (t 2), .ref (t 3), .ref (t 4), .ref (t 5), .ref (t 6), .ref (t 7), .ref (t 8), .ref (t 9), .int (zi t_size), .int (zi t_rights), .int (zi t_latest)])), ((t 1), .inl (κ 1, 20, .inl (zc t_seenStep))), ((t 2), .inl (κ 1, 20, .inl (zc t_seenFrom))), ((t 3), .inl (κ 1, 20, .inl (zc t_seenTo))), ((t 4), .inl (κ 1, 20, .inl (zc t_seenValue))), ((t 5), .inl (κ 1, 20, .inl (zc t_timesRight))), ((t 6), .inl (κ 1, 20, .inl (zc t_rightStep))), ((t 7), .inl (κ 1, 20, .inl (zc t_rightOf))), ((t 8), .inl (κ 1, 20, .inl (zc t_rightValue))), ((t 9), .inl (κ 1, 20, .inl (zc t_knownValue)))]) sz) := by
  refine Met.ofW (cc := cX7_recall) (maxL := 3) (ret := none) (by decide +kernel) rfl ?_
  intro p e s m args below meth c s₁ B hml hv
  obtain ⟨rfl, hsz, hP, hK, hD0⟩ := hv
  have hx := B.exec
  have hb := B.bytes
  have hr := B.returns
  have hts := atoms_spec (ws := wsX7_recall) B.pre
  have hown : s.vm.findClass RX7 = some m.cls := findClass_of_methodNamed B.named
  have hlocks := B.notSynchronized
  subst hsz
  have hD := hD0.self (sz := s.heap.size)
  generalize hAe : va_A ([((t 0), .inr (7, [.ref (t 1), .ref (t 2), .ref (t 3), .ref (t 4), .ref (t 5), .ref (t 6), .ref (t 7), .ref (t 8), .ref (t 9), .int (zi t_size), .int (zi t_rights), .int (zi t_latest)])), ((t 1), .inl (κ 1, 20, .inl (zc t_seenStep))), ((t 2), .inl (κ 1, 20, .inl (zc t_seenFrom))), ((t 3), .inl (κ 1, 20, .inl (zc t_seenTo))), ((t 4), .inl (κ 1, 20, .inl (zc t_seenValue))), ((t 5), .inl (κ 1, 20, .inl (zc t_timesRight))), ((t 6), .inl (κ 1, 20, .inl (zc t_rightStep))), ((t 7), .inl (κ 1, 20, .inl (zc t_rightOf))), ((t 8), .inl (κ 1, 20, .inl (zc t_rightValue))), ((t 9), .inl (κ 1, 20, .inl (zc t_knownValue)))]) s.heap.size = A at hD ⊢
  have hA : ∀ q : Nat, s.heap.size ≤ q → A q := fun q h => by rw [← hAe]; exact Or.inr h
  have hS : va_S A s.heap s.heap [] := va_S.rf
  have hl := lv_entry ([.ref (t 0), .int (zi i1)]) (n := 3) (Nat.le_of_ble_eq_true rfl)
  rw [lg_entry_eq]
  generalize (lg_sl ([.ref (t 0), .int (zi i1)]) ++ List.replicate (3 - (lg_sl ([.ref (t 0), .int (zi i1)])).length) Slot.unset).toArray = ls at hl ⊢
  have hl : lv_has ls 3 [(0, .ref (t 0)), (1, .int (zi i1))] := hl
  refine (zw_X7_recall t t_size t_rights t_latest t_seenStep t_seenFrom t_seenTo t_seenValue t_timesRight t_rightStep t_rightOf t_rightValue t_knownValue i1 hx hb hml hown hts hK hA out h ?_) s.heap [] ls hP hD hS (lv_sub hl [0, 1] rfl)
  exact fun H locs ls pc hP hD hS hd => W.vret hx hb hr (fun t ht hW => ⟨⟨(), rfl, trivial, by rw [ht]; exact hP, va_K.moved hW.alike hK, hD⟩, hS.F ht⟩) hS.2.2 hd
/-! DiamondRows$Sightings.agreeWith(LDiamondRows$Polygon;I)Z -/
abbrev zr_X7_agreeWith : Room := { frames := 3, cells := 0, slots := 0, locals := 70 }
abbrev zS_X7_agreeWith : Type := Nat × Int × Int
abbrev zO_X7_agreeWith : Type := Bool
noncomputable def zg_X7_agreeWith_0 (mk : Nat) (t_size : Int) (t_seenFrom : Nat) (t_seenTo : Nat) (t_knownValue : Nat) (n1 : Nat) (i2 : Int) (i3 : Int) : Option (zO_X7_agreeWith ⊕ zS_X7_agreeWith) :=
  some (.inr (2, i2, (0 : Int)))
noncomputable def zg_X7_agreeWith_2 (mk : Nat) (t_size : Int) (t_seenFrom : Nat) (t_seenTo : Nat) (t_knownValue : Nat) (n1 : Nat) (i2 : Int) (i3 : Int) : Option (zO_X7_agreeWith ⊕ zS_X7_agreeWith) :=
  if zout i3 then none else
  if zout t_size then none else
  if t_size ≤ i3 then
  some (.inl (true))
  else
  if i3 < 0 ∨ 20 ≤ i3 then none else
  if (zget t_knownValue (Int.toNat i3)) = (-1 : Int) then
  if (0 : Int) = 0 then
  some (.inr (2, i2, (i3 + (1 : Int))))
  else
  if zno mk n1 then none else
  Option.bind (zf_X5_entryOf n1 i2 (zget t_seenFrom (Int.toNat i3)) (zget t_seenTo (Int.toNat i3))) (fun o5 =>
  if zout o5 then none else
  if o5 = (zget t_knownValue (Int.toNat i3)) then
  some (.inr (2, i2, (i3 + (1 : Int))))
  else
  some (.inl (false)))
  else
  if (1 : Int) = 0 then
  some (.inr (2, i2, (i3 + (1 : Int))))
  else
  if zno mk n1 then none else
  Option.bind (zf_X5_entryOf n1 i2 (zget t_seenFrom (Int.toNat i3)) (zget t_seenTo (Int.toNat i3))) (fun o10 =>
  if zout o10 then none else
  if o10 = (zget t_knownValue (Int.toNat i3)) then
  some (.inr (2, i2, (i3 + (1 : Int))))
  else
  some (.inl (false)))
noncomputable def zg_X7_agreeWith (mk : Nat) (t_size : Int) (t_seenFrom : Nat) (t_seenTo : Nat) (t_knownValue : Nat) (n1 : Nat) (st : zS_X7_agreeWith) : Option (zO_X7_agreeWith ⊕ zS_X7_agreeWith) := match st with
  | (lab, i2, i3) => if lab = 0 then zg_X7_agreeWith_0 mk t_size t_seenFrom t_seenTo t_knownValue n1 i2 i3 else if lab = 2 then zg_X7_agreeWith_2 mk t_size t_seenFrom t_seenTo t_knownValue n1 i2 i3 else none
noncomputable def zf_X7_agreeWith (mk : Nat) (t_size : Int) (t_seenFrom : Nat) (t_seenTo : Nat) (t_knownValue : Nat) (n1 : Nat) (i2 : Int) : Option (Bool) := jrun (zg_X7_agreeWith mk t_size t_seenFrom t_seenTo t_knownValue n1) jfuel (0, i2, 0)
theorem zi_X7_agreeWith_X7 : ∀ w ∈ u_ws RX7 TX7 12, w ∈ wsX7_agreeWith := fun w h => (List.mem_cons_of_mem _ (List.mem_append_right _ (List.mem_append_left _ h)))
theorem zl_X7_agreeWith_15 : Cond.fieldLink RX7 15 "DiamondRows$Sightings" "seenFrom" "[I" ∈ wsX7_agreeWith := (List.mem_cons_of_mem _ (List.mem_append_left _ (List.mem_of_getElem? (i := 2) rfl)))
theorem zl_X7_agreeWith_18 : Cond.fieldLink RX7 18 "DiamondRows$Sightings" "seenTo" "[I" ∈ wsX7_agreeWith := (List.mem_cons_of_mem _ (List.mem_append_left _ (List.mem_of_getElem? (i := 3) rfl)))
theorem zl_X7_agreeWith_36 : Cond.fieldLink RX7 36 "DiamondRows$Sightings" "knownValue" "[I" ∈ wsX7_agreeWith := (List.mem_cons_of_mem _ (List.mem_append_left _ (List.mem_of_getElem? (i := 1) rfl)))
theorem zl_X7_agreeWith_39 : Cond.fieldLink RX7 39 "DiamondRows$Sightings" "size" "I" ∈ wsX7_agreeWith := (List.mem_cons_of_mem _ (List.mem_append_left _ (List.mem_of_getElem? (i := 0) rfl)))
def zQ_X7_agreeWith (p : Program) (l : Launch) (e : Env) (s : State) (m : MethodId) (args : Array Value) (below : List Frame) (meth : Method) (c : Code) (Q : State → Prop) (H : Heap) (locs : List Loc)  (o : Bool) : Prop := ∀ (ls : Array Slot) (pc : Nat), decode cX7_agreeWith pc = .ok (.ireturn, 1) → W p l e zr_X7_agreeWith s m args below meth c H locs 0 0 Q (F0 m pc ls [.int (zi (bI o))])
def zA_X7_agreeWith_0 (p : Program) (l : Launch) (e : Env) (s : State) (m : MethodId) (args : Array Value) (below : List Frame) (meth : Method) (c : Code) (Q : State → Prop) (H : Heap) (locs : List Loc) (t : Nat → Nat) (mk : Nat) (ad : Nat → Nat → Nat) (n1 : Nat) (i2 : Int) (i3 : Int) : Prop := ∀ ls : Array Slot, lv_has ls 5 [(0, .ref (t 0)), (1, .ref (ad n1 0)), (2, .int (zi i2))] → W p l e zr_X7_agreeWith s m args below meth c H locs 0 0 Q (F0 m 0 ls [])
def zA_X7_agreeWith_2 (p : Program) (l : Launch) (e : Env) (s : State) (m : MethodId) (args : Array Value) (below : List Frame) (meth : Method) (c : Code) (Q : State → Prop) (H : Heap) (locs : List Loc) (t : Nat → Nat) (mk : Nat) (ad : Nat → Nat → Nat) (n1 : Nat) (i2 : Int) (i3 : Int) : Prop := ∀ ls : Array Slot, lv_has ls 5 [(0, .ref (t 0)), (1, .ref (ad n1 0)), (2, .int (zi i2)), (3, .int (zi i3))] → W p l e zr_X7_agreeWith s m args below meth c H locs 0 0 Q (F0 m 2 ls [])
def zA_X7_agreeWith (p : Program) (l : Launch) (e : Env) (s : State) (m : MethodId) (args : Array Value) (below : List Frame) (meth : Method) (c : Code) (Q : State → Prop) (H : Heap) (locs : List Loc) (t : Nat → Nat) (mk : Nat) (ad : Nat → Nat → Nat) (n1 : Nat) (st : zS_X7_agreeWith) : Prop := match st with
  | (lab, i2, i3) => if lab = 0 then zA_X7_agreeWith_0 p l e s m args below meth c Q H locs t mk ad n1 i2 i3 else if lab = 2 then zA_X7_agreeWith_2 p l e s m args below meth c Q H locs t mk ad n1 i2 i3 else True
set_option maxHeartbeats 4000000 in
set_option maxRecDepth 100000 in
theorem zs_X7_agreeWith_0 {p : Program} {l : Launch} {e : Env} {s : State} {m : MethodId} {args : Array Value} {below : List Frame} {meth : Method} {c : Code} {Q : State → Prop} {D : va_G} {κ : Nat → ClassId} {H : Heap} {locs : List Loc} (t : Nat → Nat) (mk : Nat) (ad : Nat → Nat → Nat) (t_size : Int) (t_rights : Int) (t_latest : Int) (t_seenStep : Nat) (t_seenFrom : Nat) (t_seenTo : Nat) (t_seenValue : Nat) (t_timesRight : Nat) (t_rightStep : Nat) (t_rightOf : Nat) (t_rightValue : Nat) (t_knownValue : Nat) (n1 : Nat) (hx : p.tables.exec = Jvm.exec) (hb : c.code = cX7_agreeWith) (hml : c.maxLocals = 5) (hown : s.vm.findClass RX7 = some m.cls) (hts : ∀ w ∈ wsX7_agreeWith, w.before args s = true) (hK : va_K D vwCl (zTY κ) s) (hP : va_P D vwCl ([((t 0), .inr (7, [.ref (t 1), .ref (t 2), .ref (t 3), .ref (t 4), .ref (t 5), .ref (t 6), .ref (t 7), .ref (t 8), .ref (t 9), .int (zi t_size), .int (zi t_rights), .int (zi t_latest)])), ((t 1), .inl (κ 1, 20, .inl (zc t_seenStep))), ((t 2), .inl (κ 1, 20, .inl (zc t_seenFrom))), ((t 3), .inl (κ 1, 20, .inl (zc t_seenTo))), ((t 4), .inl (κ 1, 20, .inl (zc t_seenValue))), ((t 5), .inl (κ 1, 20, .inl (zc t_timesRight))), ((t 6), .inl (κ 1, 20, .inl (zc t_rightStep))), ((t 7), .inl (κ 1, 20, .inl (zc t_rightOf))), ((t 8), .inl (κ 1, 20, .inl (zc t_rightValue))), ((t 9), .inl (κ 1, 20, .inl (zc t_knownValue)))]) H) (hB : zAmb D κ mk ad H) (i2 : Int) (i3 : Int) (hg : Go (GoE (zA_X7_agreeWith p l e s m args below meth c Q H locs t mk ad n1) (zQ_X7_agreeWith p l e s m args below meth c Q H locs)) (zg_X7_agreeWith_0 mk t_size t_seenFrom t_seenTo t_knownValue n1 i2 i3)) : zA_X7_agreeWith_0 p l e s m args below meth c Q H locs t mk ad n1 i2 i3 := by
  intro ls hl
  unfold zg_X7_agreeWith_0 at hg
  refine zv_iconst hx hb dX7_agreeWith_0 ?_
  refine lv_istore_n (lv' := [(3, .int (zi (0 : Int))), (0, .ref (t 0)), (1, .ref (ad n1 0)), (2, .int (zi i2))]) hx hb dX7_agreeWith_1 rfl hl (by decide) rfl (fun ls hl => ?_)
  exact (Go_s hg) ls (lv_sub hl [1, 2, 3, 0] rfl)
set_option maxHeartbeats 4000000 in
set_option maxRecDepth 100000 in
theorem zs_X7_agreeWith_2 {p : Program} {l : Launch} {e : Env} {s : State} {m : MethodId} {args : Array Value} {below : List Frame} {meth : Method} {c : Code} {Q : State → Prop} {D : va_G} {κ : Nat → ClassId} {H : Heap} {locs : List Loc} (t : Nat → Nat) (mk : Nat) (ad : Nat → Nat → Nat) (t_size : Int) (t_rights : Int) (t_latest : Int) (t_seenStep : Nat) (t_seenFrom : Nat) (t_seenTo : Nat) (t_seenValue : Nat) (t_timesRight : Nat) (t_rightStep : Nat) (t_rightOf : Nat) (t_rightValue : Nat) (t_knownValue : Nat) (n1 : Nat) (hx : p.tables.exec = Jvm.exec) (hb : c.code = cX7_agreeWith) (hml : c.maxLocals = 5) (hown : s.vm.findClass RX7 = some m.cls) (hts : ∀ w ∈ wsX7_agreeWith, w.before args s = true) (hK : va_K D vwCl (zTY κ) s) (hP : va_P D vwCl ([((t 0), .inr (7, [.ref (t 1), .ref (t 2), .ref (t 3), .ref (t 4), .ref (t 5), .ref (t 6), .ref (t 7), .ref (t 8), .ref (t 9), .int (zi t_size), .int (zi t_rights), .int (zi t_latest)])), ((t 1), .inl (κ 1, 20, .inl (zc t_seenStep))), ((t 2), .inl (κ 1, 20, .inl (zc t_seenFrom))), ((t 3), .inl (κ 1, 20, .inl (zc t_seenTo))), ((t 4), .inl (κ 1, 20, .inl (zc t_seenValue))), ((t 5), .inl (κ 1, 20, .inl (zc t_timesRight))), ((t 6), .inl (κ 1, 20, .inl (zc t_rightStep))), ((t 7), .inl (κ 1, 20, .inl (zc t_rightOf))), ((t 8), .inl (κ 1, 20, .inl (zc t_rightValue))), ((t 9), .inl (κ 1, 20, .inl (zc t_knownValue)))]) H) (hB : zAmb D κ mk ad H) (i2 : Int) (i3 : Int) (hg : Go (GoE (zA_X7_agreeWith p l e s m args below meth c Q H locs t mk ad n1) (zQ_X7_agreeWith p l e s m args below meth c Q H locs)) (zg_X7_agreeWith_2 mk t_size t_seenFrom t_seenTo t_knownValue n1 i2 i3)) : zA_X7_agreeWith_2 p l e s m args below meth c Q H locs t mk ad n1 i2 i3 := by
  intro ls hl
  unfold zg_X7_agreeWith_2 at hg
  refine lv_iload_n hx hb dX7_agreeWith_2 rfl (lv_at hl 3 rfl) ?_
  refine lv_aload_n hx hb dX7_agreeWith_3 rfl (lv_at hl 0 rfl) ?_
  refine va_get (D := D) (ci := 7) (v := .int (zi t_size)) (C := RX7) (T := TX7) (N := 12) hx hb hts zi_X7_agreeWith_X7 hown hK hP 0 rfl rfl 9 (by decide) (hts (.fieldLink RX7 39 "DiamondRows$Sightings" "size" "I") zl_X7_agreeWith_39) (fun _ h9 => h9) rfl dX7_agreeWith_4 ?_
  obtain ⟨b1, hg⟩ := Go_n hg
  obtain ⟨b2, hg⟩ := Go_n hg
  refine zv_icmp_ge (tgt := 66) hx hb dX7_agreeWith_7 (by decide) b1 b2 (fun c15 => ?_) (fun c15 => ?_)
  · have hg := Go_t c15 hg
    refine zv_iconst hx hb dX7_agreeWith_66 ?_
    exact (Go_s hg) _ _ dX7_agreeWith_67
  · have hg := Go_f c15 hg
    refine lv_aload_n hx hb dX7_agreeWith_10 rfl (lv_at hl 0 rfl) ?_
    refine va_get (D := D) (ci := 7) (v := .ref (t 9)) (C := RX7) (T := TX7) (N := 12) hx hb hts zi_X7_agreeWith_X7 hown hK hP 0 rfl rfl 8 (by decide) (hts (.fieldLink RX7 36 "DiamondRows$Sightings" "knownValue" "[I") zl_X7_agreeWith_36) (fun _ h9 => h9) rfl dX7_agreeWith_11 ?_
    refine lv_iload_n hx hb dX7_agreeWith_14 rfl (lv_at hl 3 rfl) ?_
    obtain ⟨n3, hg⟩ := Go_n hg
    refine zv_iald hx hb hK hP 9 1 rfl rfl (by decide) n3 dX7_agreeWith_15 ?_
    refine zv_iconst hx hb dX7_agreeWith_16 ?_
    refine zv_icmp_eq (tgt := 24) hx hb dX7_agreeWith_17 (by decide) (zget_in _ _) (by decide) (fun c14 => ?_) (fun c14 => ?_)
    · have hg := Go_t c14 hg
      refine zv_iconst hx hb dX7_agreeWith_24 ?_
      refine lv_istore (lv' := [(4, .int (zi (0 : Int))), (0, .ref (t 0)), (1, .ref (ad n1 0)), (2, .int (zi i2)), (3, .int (zi i3))]) hx hb dX7_agreeWith_25 hl (by decide) rfl (fun ls hl => ?_)
      refine lv_iload hx hb dX7_agreeWith_27 (lv_at hl 0 rfl) ?_
      refine zv_if_eq (tgt := 60) hx hb dX7_agreeWith_29 (by decide) (by decide) (fun c8 => ?_) (fun c8 => ?_)
      · have hg := Go_t c8 hg
        refine lv_iinc (v := zi (i3 + (1 : Int))) (lv' := [(3, .int (zi (i3 + (1 : Int)))), (4, .int (zi (0 : Int))), (0, .ref (t 0)), (1, .ref (ad n1 0)), (2, .int (zi i2))]) hx hb dX7_agreeWith_60 hl (k := 4) rfl (zi_add i3 _) (by decide) rfl (fun ls hl => ?_)
        refine lv_goto (tgt := 2) hx hb dX7_agreeWith_63 (by decide) ?_
        exact (Go_s hg) ls (lv_sub hl [2, 3, 4, 0] rfl)
      · have hg := Go_f c8 hg
        refine lv_aload_n hx hb dX7_agreeWith_32 rfl (lv_at hl 2 rfl) ?_
        refine lv_iload_n hx hb dX7_agreeWith_33 rfl (lv_at hl 3 rfl) ?_
        refine lv_aload_n hx hb dX7_agreeWith_34 rfl (lv_at hl 1 rfl) ?_
        refine va_get (D := D) (ci := 7) (v := .ref (t 2)) (C := RX7) (T := TX7) (N := 12) hx hb hts zi_X7_agreeWith_X7 hown hK hP 0 rfl rfl 1 (by decide) (hts (.fieldLink RX7 15 "DiamondRows$Sightings" "seenFrom" "[I") zl_X7_agreeWith_15) (fun _ h9 => h9) rfl dX7_agreeWith_35 ?_
        refine lv_iload_n hx hb dX7_agreeWith_38 rfl (lv_at hl 4 rfl) ?_
        refine zv_iald hx hb hK hP 2 1 rfl rfl (by decide) n3 dX7_agreeWith_39 ?_
        refine lv_aload_n hx hb dX7_agreeWith_40 rfl (lv_at hl 1 rfl) ?_
        refine va_get (D := D) (ci := 7) (v := .ref (t 3)) (C := RX7) (T := TX7) (N := 12) hx hb hts zi_X7_agreeWith_X7 hown hK hP 0 rfl rfl 2 (by decide) (hts (.fieldLink RX7 18 "DiamondRows$Sightings" "seenTo" "[I") zl_X7_agreeWith_18) (fun _ h9 => h9) rfl dX7_agreeWith_41 ?_
        refine lv_iload_n hx hb dX7_agreeWith_44 rfl (lv_at hl 4 rfl) ?_
        refine zv_iald hx hb hK hP 3 1 rfl rfl (by decide) n3 dX7_agreeWith_45 ?_
        obtain ⟨m4, hg⟩ := Go_n hg
        obtain ⟨o5, ho5, hg⟩ := Go_b hg
        refine zc_vi (rest := []) ⟨hx, hb, hml, hown, hts⟩ (zc_X5_entryOf l D κ (ad n1) n1 i2 (zget t_seenFrom (Int.toNat i3)) (zget t_seenTo (Int.toNat i3)) o5 ho5) (cwV 3 hts gX7_agreeWith_X5_entryOf rfl rfl rfl hv_X5_entryOf ⟨Nat.le_of_ble_eq_true rfl, Nat.le_of_ble_eq_true rfl⟩) (zpreV hK (hB n1 m4) 5 0 rfl rfl) rfl hl.1 rfl (Nat.le_of_ble_eq_true rfl) dX7_agreeWith_46 ⟨Nat.zero_le _, Nat.zero_le _⟩ ?_
        refine lv_aload_n hx hb dX7_agreeWith_49 rfl (lv_at hl 1 rfl) ?_
        refine va_get (D := D) (ci := 7) (v := .ref (t 9)) (C := RX7) (T := TX7) (N := 12) hx hb hts zi_X7_agreeWith_X7 hown hK hP 0 rfl rfl 8 (by decide) (hts (.fieldLink RX7 36 "DiamondRows$Sightings" "knownValue" "[I") zl_X7_agreeWith_36) (fun _ h9 => h9) rfl dX7_agreeWith_50 ?_
        refine lv_iload_n hx hb dX7_agreeWith_53 rfl (lv_at hl 4 rfl) ?_
        refine zv_iald hx hb hK hP 9 1 rfl rfl (by decide) n3 dX7_agreeWith_54 ?_
        obtain ⟨b6, hg⟩ := Go_n hg
        refine zv_icmp_eq (tgt := 60) hx hb dX7_agreeWith_55 (by decide) b6 (zget_in _ _) (fun c7 => ?_) (fun c7 => ?_)
        · have hg := Go_t c7 hg
          refine lv_iinc (v := zi (i3 + (1 : Int))) (lv' := [(3, .int (zi (i3 + (1 : Int)))), (4, .int (zi (0 : Int))), (0, .ref (t 0)), (1, .ref (ad n1 0)), (2, .int (zi i2))]) hx hb dX7_agreeWith_60 hl (k := 4) rfl (zi_add i3 _) (by decide) rfl (fun ls hl => ?_)
          refine lv_goto (tgt := 2) hx hb dX7_agreeWith_63 (by decide) ?_
          exact (Go_s hg) ls (lv_sub hl [2, 3, 4, 0] rfl)
        · have hg := Go_f c7 hg
          refine zv_iconst hx hb dX7_agreeWith_58 ?_
          exact (Go_s hg) _ _ dX7_agreeWith_59
    · have hg := Go_f c14 hg
      refine zv_iconst hx hb dX7_agreeWith_20 ?_
      refine lv_goto (tgt := 25) hx hb dX7_agreeWith_21 (by decide) ?_
      refine lv_istore (lv' := [(4, .int (zi (1 : Int))), (0, .ref (t 0)), (1, .ref (ad n1 0)), (2, .int (zi i2)), (3, .int (zi i3))]) hx hb dX7_agreeWith_25 hl (by decide) rfl (fun ls hl => ?_)
      refine lv_iload hx hb dX7_agreeWith_27 (lv_at hl 0 rfl) ?_
      refine zv_if_eq (tgt := 60) hx hb dX7_agreeWith_29 (by decide) (by decide) (fun c13 => ?_) (fun c13 => ?_)
      · have hg := Go_t c13 hg
        refine lv_iinc (v := zi (i3 + (1 : Int))) (lv' := [(3, .int (zi (i3 + (1 : Int)))), (4, .int (zi (1 : Int))), (0, .ref (t 0)), (1, .ref (ad n1 0)), (2, .int (zi i2))]) hx hb dX7_agreeWith_60 hl (k := 4) rfl (zi_add i3 _) (by decide) rfl (fun ls hl => ?_)
        refine lv_goto (tgt := 2) hx hb dX7_agreeWith_63 (by decide) ?_
        exact (Go_s hg) ls (lv_sub hl [2, 3, 4, 0] rfl)
      · have hg := Go_f c13 hg
        refine lv_aload_n hx hb dX7_agreeWith_32 rfl (lv_at hl 2 rfl) ?_
        refine lv_iload_n hx hb dX7_agreeWith_33 rfl (lv_at hl 3 rfl) ?_
        refine lv_aload_n hx hb dX7_agreeWith_34 rfl (lv_at hl 1 rfl) ?_
        refine va_get (D := D) (ci := 7) (v := .ref (t 2)) (C := RX7) (T := TX7) (N := 12) hx hb hts zi_X7_agreeWith_X7 hown hK hP 0 rfl rfl 1 (by decide) (hts (.fieldLink RX7 15 "DiamondRows$Sightings" "seenFrom" "[I") zl_X7_agreeWith_15) (fun _ h9 => h9) rfl dX7_agreeWith_35 ?_
        refine lv_iload_n hx hb dX7_agreeWith_38 rfl (lv_at hl 4 rfl) ?_
        refine zv_iald hx hb hK hP 2 1 rfl rfl (by decide) n3 dX7_agreeWith_39 ?_
        refine lv_aload_n hx hb dX7_agreeWith_40 rfl (lv_at hl 1 rfl) ?_
        refine va_get (D := D) (ci := 7) (v := .ref (t 3)) (C := RX7) (T := TX7) (N := 12) hx hb hts zi_X7_agreeWith_X7 hown hK hP 0 rfl rfl 2 (by decide) (hts (.fieldLink RX7 18 "DiamondRows$Sightings" "seenTo" "[I") zl_X7_agreeWith_18) (fun _ h9 => h9) rfl dX7_agreeWith_41 ?_
        refine lv_iload_n hx hb dX7_agreeWith_44 rfl (lv_at hl 4 rfl) ?_
        refine zv_iald hx hb hK hP 3 1 rfl rfl (by decide) n3 dX7_agreeWith_45 ?_
        obtain ⟨m9, hg⟩ := Go_n hg
        obtain ⟨o10, ho10, hg⟩ := Go_b hg
        refine zc_vi (rest := []) ⟨hx, hb, hml, hown, hts⟩ (zc_X5_entryOf l D κ (ad n1) n1 i2 (zget t_seenFrom (Int.toNat i3)) (zget t_seenTo (Int.toNat i3)) o10 ho10) (cwV 3 hts gX7_agreeWith_X5_entryOf rfl rfl rfl hv_X5_entryOf ⟨Nat.le_of_ble_eq_true rfl, Nat.le_of_ble_eq_true rfl⟩) (zpreV hK (hB n1 m9) 5 0 rfl rfl) rfl hl.1 rfl (Nat.le_of_ble_eq_true rfl) dX7_agreeWith_46 ⟨Nat.zero_le _, Nat.zero_le _⟩ ?_
        refine lv_aload_n hx hb dX7_agreeWith_49 rfl (lv_at hl 1 rfl) ?_
        refine va_get (D := D) (ci := 7) (v := .ref (t 9)) (C := RX7) (T := TX7) (N := 12) hx hb hts zi_X7_agreeWith_X7 hown hK hP 0 rfl rfl 8 (by decide) (hts (.fieldLink RX7 36 "DiamondRows$Sightings" "knownValue" "[I") zl_X7_agreeWith_36) (fun _ h9 => h9) rfl dX7_agreeWith_50 ?_
        refine lv_iload_n hx hb dX7_agreeWith_53 rfl (lv_at hl 4 rfl) ?_
        refine zv_iald hx hb hK hP 9 1 rfl rfl (by decide) n3 dX7_agreeWith_54 ?_
        obtain ⟨b11, hg⟩ := Go_n hg
        refine zv_icmp_eq (tgt := 60) hx hb dX7_agreeWith_55 (by decide) b11 (zget_in _ _) (fun c12 => ?_) (fun c12 => ?_)
        · have hg := Go_t c12 hg
          refine lv_iinc (v := zi (i3 + (1 : Int))) (lv' := [(3, .int (zi (i3 + (1 : Int)))), (4, .int (zi (1 : Int))), (0, .ref (t 0)), (1, .ref (ad n1 0)), (2, .int (zi i2))]) hx hb dX7_agreeWith_60 hl (k := 4) rfl (zi_add i3 _) (by decide) rfl (fun ls hl => ?_)
          refine lv_goto (tgt := 2) hx hb dX7_agreeWith_63 (by decide) ?_
          exact (Go_s hg) ls (lv_sub hl [2, 3, 4, 0] rfl)
        · have hg := Go_f c12 hg
          refine zv_iconst hx hb dX7_agreeWith_58 ?_
          exact (Go_s hg) _ _ dX7_agreeWith_59
set_option maxHeartbeats 4000000 in
set_option maxRecDepth 100000 in
theorem zw_X7_agreeWith {p : Program} {l : Launch} {e : Env} {s : State} {m : MethodId} {args : Array Value} {below : List Frame} {meth : Method} {c : Code} {Q : State → Prop} {D : va_G} {κ : Nat → ClassId} {H : Heap} {locs : List Loc} (t : Nat → Nat) (mk : Nat) (ad : Nat → Nat → Nat) (t_size : Int) (t_rights : Int) (t_latest : Int) (t_seenStep : Nat) (t_seenFrom : Nat) (t_seenTo : Nat) (t_seenValue : Nat) (t_timesRight : Nat) (t_rightStep : Nat) (t_rightOf : Nat) (t_rightValue : Nat) (t_knownValue : Nat) (n1 : Nat) (i2 : Int) (hx : p.tables.exec = Jvm.exec) (hb : c.code = cX7_agreeWith) (hml : c.maxLocals = 5) (hown : s.vm.findClass RX7 = some m.cls) (hts : ∀ w ∈ wsX7_agreeWith, w.before args s = true) (hK : va_K D vwCl (zTY κ) s) (hP : va_P D vwCl ([((t 0), .inr (7, [.ref (t 1), .ref (t 2), .ref (t 3), .ref (t 4), .ref (t 5), .ref (t 6), .ref (t 7), .ref (t 8), .ref (t 9), .int (zi t_size), .int (zi t_rights), .int (zi t_latest)])), ((t 1), .inl (κ 1, 20, .inl (zc t_seenStep))), ((t 2), .inl (κ 1, 20, .inl (zc t_seenFrom))), ((t 3), .inl (κ 1, 20, .inl (zc t_seenTo))), ((t 4), .inl (κ 1, 20, .inl (zc t_seenValue))), ((t 5), .inl (κ 1, 20, .inl (zc t_timesRight))), ((t 6), .inl (κ 1, 20, .inl (zc t_rightStep))), ((t 7), .inl (κ 1, 20, .inl (zc t_rightOf))), ((t 8), .inl (κ 1, 20, .inl (zc t_rightValue))), ((t 9), .inl (κ 1, 20, .inl (zc t_knownValue)))]) H) (hB : zAmb D κ mk ad H) (out : Bool) (h : zf_X7_agreeWith mk t_size t_seenFrom t_seenTo t_knownValue n1 i2 = some out) (hq : zQ_X7_agreeWith p l e s m args below meth c Q H locs out) : zA_X7_agreeWith_0 p l e s m args below meth c Q H locs t mk ad n1 i2 0 := by
  have hst : ∀ st : zS_X7_agreeWith, Go (GoE (zA_X7_agreeWith p l e s m args below meth c Q H locs t mk ad n1) (zQ_X7_agreeWith p l e s m args below meth c Q H locs)) (zg_X7_agreeWith mk t_size t_seenFrom t_seenTo t_knownValue n1 st) → zA_X7_agreeWith p l e s m args below meth c Q H locs t mk ad n1 st := by
    intro st hg
    obtain ⟨lab, i2, i3⟩ := st
    by_cases h0 : lab = 0
    · subst h0
      exact zs_X7_agreeWith_0 t mk ad t_size t_rights t_latest t_seenStep t_seenFrom t_seenTo t_seenValue t_timesRight t_rightStep t_rightOf t_rightValue t_knownValue n1 hx hb hml hown hts hK hP hB i2 i3 hg
    by_cases h2 : lab = 2
    · subst h2
      exact zs_X7_agreeWith_2 t mk ad t_size t_rights t_latest t_seenStep t_seenFrom t_seenTo t_seenValue t_timesRight t_rightStep t_rightOf t_rightValue t_knownValue n1 hx hb hml hown hts hK hP hB i2 i3 hg
    have hz : zg_X7_agreeWith mk t_size t_seenFrom t_seenTo t_knownValue n1 (lab, i2, i3) = none := by simp [zg_X7_agreeWith, h0, h2]
    rw [hz] at hg
    obtain ⟨a, h1, -⟩ := hg
    cases h1
  exact jwalk (At := zA_X7_agreeWith p l e s m args below meth c Q H locs t mk ad n1) (Ret := zQ_X7_agreeWith p l e s m args below meth c Q H locs) hst _ _ _ h hq
set_option maxHeartbeats 4000000 in
set_option maxRecDepth 100000 in
theorem zc_X7_agreeWith (l : Launch) (D : va_G) (κ : Nat → ClassId) (t : Nat → Nat) (mk : Nat) (ad : Nat → Nat → Nat) (t_size : Int) (t_rights : Int) (t_latest : Int) (t_seenStep : Nat) (t_seenFrom : Nat) (t_seenTo : Nat) (t_seenValue : Nat) (t_timesRight : Nat) (t_rightStep : Nat) (t_rightOf : Nat) (t_rightValue : Nat) (t_knownValue : Nat) (n1 : Nat) (i2 : Int) (out : Bool) (h : zf_X7_agreeWith mk t_size t_seenFrom t_seenTo t_knownValue n1 i2 = some out) : Met l yX7_agreeWith wsX7_agreeWith zr_X7_agreeWith (va_Pc [.ref (t 0), .ref (ad n1 0), .int (zi i2)] (zRa D κ mk ad ([((t 0), .inr (7, [.ref (t 1), .ref (t 2), .ref (t 3), .ref (t 4), .ref (t 5), .ref (t 6), .ref (t 7), .ref (t 8), .ref (t 9), .int (zi t_size), .int (zi t_rights), .int (zi t_latest)])), ((t 1), .inl (κ 1, 20, .inl (zc t_seenStep))), ((t 2), .inl (κ 1, 20, .inl (zc t_seenFrom))), ((t 3), .inl (κ 1, 20, .inl (zc t_seenTo))), ((t 4), .inl (κ 1, 20, .inl (zc t_seenValue))), ((t 5), .inl (κ 1, 20, .inl (zc t_timesRight))), ((t 6), .inl (κ 1, 20, .inl (zc t_rightStep))), ((t 7), .inl (κ 1, 20, .inl (zc t_rightOf))), ((t 8), .inl (κ 1, 20, .inl (zc t_rightValue))), ((t 9), .inl (κ 1, 20, .inl (zc t_knownValue)))]))) (vp_Si (fun x => x = zi (bI out))) 0 0 (fun _ => False) := by
  refine Met.ofW (cc := cX7_agreeWith) (maxL := 5) (ret := (some .boolean)) (by decide +kernel) rfl ?_
  intro p e s m args below meth c s₁ B hml hv
  obtain ⟨rfl, hP, hK, hB⟩ := hv
  have hx := B.exec
  have hb := B.bytes
  have hr := B.returns
  have hts := atoms_spec (ws := wsX7_agreeWith) B.pre
  have hown : s.vm.findClass RX7 = some m.cls := findClass_of_methodNamed B.named
  have hlocks := B.notSynchronized
  have hl := lv_entry ([.ref (t 0), .ref (ad n1 0), .int (zi i2)]) (n := 5) (Nat.le_of_ble_eq_true rfl)
  rw [lg_entry_eq]
  generalize (lg_sl ([.ref (t 0), .ref (ad n1 0), .int (zi i2)]) ++ List.replicate (5 - (lg_sl ([.ref (t 0), .ref (ad n1 0), .int (zi i2)])).length) Slot.unset).toArray = ls at hl ⊢
  have hl : lv_has ls 5 [(0, .ref (t 0)), (1, .ref (ad n1 0)), (2, .int (zi i2))] := hl
  refine (zw_X7_agreeWith t mk ad t_size t_rights t_latest t_seenStep t_seenFrom t_seenTo t_seenValue t_timesRight t_rightStep t_rightOf t_rightValue t_knownValue n1 i2 hx hb hml hown hts hK hP hB out h ?_) ls (lv_sub hl [0, 1, 2] rfl)
  exact fun ls pc hd => W.zret hx hb hr (bI_nar _) (fun t ht hW => ⟨_, rfl, rfl, ht⟩) (fun _ h => by cases h) hd
end

section
/-! DiamondRows$CrossedLines.size()I -/
abbrev zr_X0_size : Room := { frames := 0, cells := 0, slots := 0, locals := 0 }
noncomputable def zf_X0_size  (t_size : Int)  : Option (Int) :=
  some (t_size)
theorem zi_X0_size_X0 : ∀ w ∈ u_ws RX0 TX0 2, w ∈ wsX0_size := fun w h => (List.mem_cons_of_mem _ (List.mem_append_right _ h))
theorem zl_X0_size_15 : Cond.fieldLink RX0 15 "DiamondRows$CrossedLines" "size" "I" ∈ wsX0_size := (List.mem_cons_of_mem _ (List.mem_append_left _ (List.mem_of_getElem? (i := 0) rfl)))
def zQ_X0_size (p : Program) (l : Launch) (e : Env) (s : State) (m : MethodId) (args : Array Value) (below : List Frame) (meth : Method) (c : Code) (Q : State → Prop) (H : Heap) (locs : List Loc)  (o : Int) : Prop := ∀ (ls : Array Slot) (pc : Nat), decode cX0_size pc = .ok (.ireturn, 1) → W p l e zr_X0_size s m args below meth c H locs 0 0 Q (F0 m pc ls [.int (zi o)])
set_option maxHeartbeats 4000000 in
set_option maxRecDepth 100000 in
theorem zs_X0_size {p : Program} {l : Launch} {e : Env} {s : State} {m : MethodId} {args : Array Value} {below : List Frame} {meth : Method} {c : Code} {Q : State → Prop} {D : va_G} {κ : Nat → ClassId} {H : Heap} {locs : List Loc} (t : Nat → Nat) (t_size : Int) (t_lines : Nat)  (hx : p.tables.exec = Jvm.exec) (hb : c.code = cX0_size) (hml : c.maxLocals = 1) (hown : s.vm.findClass RX0 = some m.cls) (hts : ∀ w ∈ wsX0_size, w.before args s = true) (hK : va_K D vwCl (zTY κ) s) (hP : va_P D vwCl ([((t 0), .inr (0, [.ref (t 1), .int (zi t_size)])), ((t 1), .inl (κ 1, 27, .inl (zc t_lines)))]) H) (ls : Array Slot) (hl : lv_has ls 1 [(0, .ref (t 0))]) (hg : Go (zQ_X0_size p l e s m args below meth c Q H locs) (zf_X0_size t_size )) : W p l e zr_X0_size s m args below meth c H locs 0 0 Q (F0 m 0 ls []) := by
  unfold zf_X0_size at hg
  refine lv_aload_n hx hb dX0_size_0 rfl (lv_at hl 0 rfl) ?_
  refine va_get (D := D) (ci := 0) (v := .int (zi t_size)) (C := RX0) (T := TX0) (N := 2) hx hb hts zi_X0_size_X0 hown hK hP 0 rfl rfl 1 (by decide) (hts (.fieldLink RX0 15 "DiamondRows$CrossedLines" "size" "I") zl_X0_size_15) (fun _ h9 => h9) rfl dX0_size_1 ?_
  exact (Go_s hg) _ _ dX0_size_4
set_option maxHeartbeats 4000000 in
set_option maxRecDepth 100000 in
theorem zc_X0_size (l : Launch) (D : va_G) (κ : Nat → ClassId) (t : Nat → Nat) (t_size : Int) (t_lines : Nat)  (out : Int) (h : zf_X0_size t_size  = some out) : Met l yX0_size wsX0_size zr_X0_size (va_Pc [.ref (t 0)] (zR D κ ([((t 0), .inr (0, [.ref (t 1), .int (zi t_size)])), ((t 1), .inl (κ 1, 27, .inl (zc t_lines)))]))) (vp_Si (fun x => x = zi out)) 0 0 (fun _ => False) := by
  refine Met.ofW (cc := cX0_size) (maxL := 1) (ret := (some .int)) (by decide +kernel) rfl ?_
  intro p e s m args below meth c s₁ B hml hv
  obtain ⟨rfl, hP, hK⟩ := hv
  have hx := B.exec
  have hb := B.bytes
  have hr := B.returns
  have hts := atoms_spec (ws := wsX0_size) B.pre
  have hown : s.vm.findClass RX0 = some m.cls := findClass_of_methodNamed B.named
  have hlocks := B.notSynchronized
  have hl := lv_entry ([.ref (t 0)]) (n := 1) (Nat.le_of_ble_eq_true rfl)
  rw [lg_entry_eq]
  generalize (lg_sl ([.ref (t 0)]) ++ List.replicate (1 - (lg_sl ([.ref (t 0)])).length) Slot.unset).toArray = ls at hl ⊢
  have hl : lv_has ls 1 [(0, .ref (t 0))] := hl
  refine zs_X0_size t t_size t_lines  hx hb hml hown hts hK hP ls hl ⟨out, h, ?_⟩
  exact fun ls pc hd => W.iret hx hb hr (fun t ht hW => ⟨_, rfl, rfl, ht⟩) (fun _ h => by cases h) hd
/-! DiamondRows$CrossedLines.spanFrom(LDiamondRows$Polygon;II)I -/
abbrev zr_X0_spanFrom : Room := { frames := 2, cells := 0, slots := 0, locals := 42 }
noncomputable def zf_X0_spanFrom (mk : Nat)  (n0 : Nat) (i1 : Int) (i2 : Int) : Option (Int) :=
  if zno mk n0 then none else
  Option.bind (zf_X5_lesserOf n0 i2) (fun o2 =>
  Option.bind (zf_X5_ahead n0 i1 o2) (fun o3 =>
  Option.bind (zf_X5_greaterOf n0 i2) (fun o4 =>
  Option.bind (zf_X5_ahead n0 i1 o4) (fun o5 =>
  if zout (o3 - o5) then none else
  some ((zabs (o3 - o5)))))))
def zQ_X0_spanFrom (p : Program) (l : Launch) (e : Env) (s : State) (m : MethodId) (args : Array Value) (below : List Frame) (meth : Method) (c : Code) (Q : State → Prop) (H : Heap) (locs : List Loc)  (o : Int) : Prop := ∀ (ls : Array Slot) (pc : Nat), decode cX0_spanFrom pc = .ok (.ireturn, 1) → W p l e zr_X0_spanFrom s m args below meth c H locs 0 0 Q (F0 m pc ls [.int (zi o)])
set_option maxHeartbeats 4000000 in
set_option maxRecDepth 100000 in
theorem zs_X0_spanFrom {p : Program} {l : Launch} {e : Env} {s : State} {m : MethodId} {args : Array Value} {below : List Frame} {meth : Method} {c : Code} {Q : State → Prop} {D : va_G} {κ : Nat → ClassId} {H : Heap} {locs : List Loc} (mk : Nat) (ad : Nat → Nat → Nat)  (n0 : Nat) (i1 : Int) (i2 : Int) (hx : p.tables.exec = Jvm.exec) (hb : c.code = cX0_spanFrom) (hml : c.maxLocals = 5) (hown : s.vm.findClass RX0 = some m.cls) (hts : ∀ w ∈ wsX0_spanFrom, w.before args s = true) (hK : va_K D vwCl (zTY κ) s) (hP : va_P D vwCl ([]) H) (hB : zAmb D κ mk ad H) (ls : Array Slot) (hl : lv_has ls 5 [(0, .ref (ad n0 0)), (1, .int (zi i1)), (2, .int (zi i2))]) (hg : Go (zQ_X0_spanFrom p l e s m args below meth c Q H locs) (zf_X0_spanFrom mk n0 i1 i2)) : W p l e zr_X0_spanFrom s m args below meth c H locs 0 0 Q (F0 m 0 ls []) := by
  unfold zf_X0_spanFrom at hg
  refine lv_aload_n hx hb dX0_spanFrom_0 rfl (lv_at hl 0 rfl) ?_
  refine lv_iload_n hx hb dX0_spanFrom_1 rfl (lv_at hl 1 rfl) ?_
  refine lv_aload_n hx hb dX0_spanFrom_2 rfl (lv_at hl 0 rfl) ?_
  refine lv_iload_n hx hb dX0_spanFrom_3 rfl (lv_at hl 2 rfl) ?_
  obtain ⟨m1, hg⟩ := Go_n hg
  obtain ⟨o2, ho2, hg⟩ := Go_b hg
  refine zc_vi (rest := [.int (zi i1), .ref (ad n0 0)]) ⟨hx, hb, hml, hown, hts⟩ (zc_X5_lesserOf l D κ (ad n0) n0 i2 o2 ho2) (cwV 1 hts gX0_spanFrom_X5_lesserOf rfl rfl rfl hv_X5_lesserOf ⟨Nat.le_of_ble_eq_true rfl, Nat.le_of_ble_eq_true rfl⟩) (zpreV hK (hB n0 m1) 5 0 rfl rfl) rfl hl.1 rfl (Nat.le_of_ble_eq_true rfl) dX0_spanFrom_4 ⟨Nat.zero_le _, Nat.zero_le _⟩ ?_
  obtain ⟨o3, ho3, hg⟩ := Go_b hg
  refine zc_vi (rest := []) ⟨hx, hb, hml, hown, hts⟩ (zc_X5_ahead l D κ (ad n0) n0 i1 o2 o3 ho3) (cwV 2 hts gX0_spanFrom_X5_ahead rfl rfl rfl hv_X5_ahead ⟨Nat.le_of_ble_eq_true rfl, Nat.le_of_ble_eq_true rfl⟩) (zpreV hK (hB n0 m1) 5 0 rfl rfl) rfl hl.1 rfl (Nat.le_of_ble_eq_true rfl) dX0_spanFrom_7 ⟨Nat.zero_le _, Nat.zero_le _⟩ ?_
  refine lv_istore_n (lv' := [(3, .int (zi o3)), (0, .ref (ad n0 0)), (1, .int (zi i1)), (2, .int (zi i2))]) hx hb dX0_spanFrom_10 rfl hl (by decide) rfl (fun ls hl => ?_)
  refine lv_aload_n hx hb dX0_spanFrom_11 rfl (lv_at hl 1 rfl) ?_
  refine lv_iload_n hx hb dX0_spanFrom_12 rfl (lv_at hl 2 rfl) ?_
  refine lv_aload_n hx hb dX0_spanFrom_13 rfl (lv_at hl 1 rfl) ?_
  refine lv_iload_n hx hb dX0_spanFrom_14 rfl (lv_at hl 3 rfl) ?_
  obtain ⟨o4, ho4, hg⟩ := Go_b hg
  refine zc_vi (rest := [.int (zi i1), .ref (ad n0 0)]) ⟨hx, hb, hml, hown, hts⟩ (zc_X5_greaterOf l D κ (ad n0) n0 i2 o4 ho4) (cwV 1 hts gX0_spanFrom_X5_greaterOf rfl rfl rfl hv_X5_greaterOf ⟨Nat.le_of_ble_eq_true rfl, Nat.le_of_ble_eq_true rfl⟩) (zpreV hK (hB n0 m1) 5 0 rfl rfl) rfl hl.1 rfl (Nat.le_of_ble_eq_true rfl) dX0_spanFrom_15 ⟨Nat.zero_le _, Nat.zero_le _⟩ ?_
  obtain ⟨o5, ho5, hg⟩ := Go_b hg
  refine zc_vi (rest := []) ⟨hx, hb, hml, hown, hts⟩ (zc_X5_ahead l D κ (ad n0) n0 i1 o4 o5 ho5) (cwV 2 hts gX0_spanFrom_X5_ahead rfl rfl rfl hv_X5_ahead ⟨Nat.le_of_ble_eq_true rfl, Nat.le_of_ble_eq_true rfl⟩) (zpreV hK (hB n0 m1) 5 0 rfl rfl) rfl hl.1 rfl (Nat.le_of_ble_eq_true rfl) dX0_spanFrom_18 ⟨Nat.zero_le _, Nat.zero_le _⟩ ?_
  refine lv_istore (lv' := [(4, .int (zi o5)), (3, .int (zi o3)), (0, .ref (ad n0 0)), (1, .int (zi i1)), (2, .int (zi i2))]) hx hb dX0_spanFrom_21 hl (by decide) rfl (fun ls hl => ?_)
  refine lv_iload_n hx hb dX0_spanFrom_23 rfl (lv_at hl 1 rfl) ?_
  refine lv_iload hx hb dX0_spanFrom_24 (lv_at hl 0 rfl) ?_
  refine zv_isub hx hb dX0_spanFrom_26 ?_
  obtain ⟨b6, hg⟩ := Go_n hg
  refine va_mabs hx hb (by rw [hml]; exact hl.1.symm) hown (hts (.methodLink RX0 53 Lib.Math.abs.name) (List.mem_cons_of_mem _ (List.mem_append_left _ (List.mem_of_getElem? (i := 0) rfl)))) (hts (.static Lib.Math.abs.name) (List.mem_cons_of_mem _ (List.mem_append_left _ (List.mem_of_getElem? (i := 1) rfl)))) (hts (.initialized "java/lang/Math") (List.mem_cons_of_mem _ (List.mem_append_left _ (List.mem_of_getElem? (i := 2) rfl)))) (hts (.code Lib.Math.abs.name Lib.Math.abs.code 1 (some .int)) (List.mem_cons_of_mem _ (List.mem_append_left _ (List.mem_of_getElem? (i := 3) rfl)))) (Nat.le_of_ble_eq_true rfl) (Nat.le_of_ble_eq_true rfl) (Nat.zero_le _) (Nat.zero_le _) dX0_spanFrom_27 ?_
  rw [zi_abs b6]
  exact (Go_s hg) _ _ dX0_spanFrom_30
set_option maxHeartbeats 4000000 in
set_option maxRecDepth 100000 in
theorem zc_X0_spanFrom (l : Launch) (D : va_G) (κ : Nat → ClassId) (mk : Nat) (ad : Nat → Nat → Nat)  (n0 : Nat) (i1 : Int) (i2 : Int) (out : Int) (h : zf_X0_spanFrom mk n0 i1 i2 = some out) : Met l yX0_spanFrom wsX0_spanFrom zr_X0_spanFrom (va_Pc [.ref (ad n0 0), .int (zi i1), .int (zi i2)] (zRa D κ mk ad ([]))) (vp_Si (fun x => x = zi out)) 0 0 (fun _ => False) := by
  refine Met.ofW (cc := cX0_spanFrom) (maxL := 5) (ret := (some .int)) (by decide +kernel) rfl ?_
  intro p e s m args below meth c s₁ B hml hv
  obtain ⟨rfl, hP, hK, hB⟩ := hv
  have hx := B.exec
  have hb := B.bytes
  have hr := B.returns
  have hts := atoms_spec (ws := wsX0_spanFrom) B.pre
  have hown : s.vm.findClass RX0 = some m.cls := findClass_of_methodNamed B.named
  have hlocks := B.notSynchronized
  have hl := lv_entry ([.ref (ad n0 0), .int (zi i1), .int (zi i2)]) (n := 5) (Nat.le_of_ble_eq_true rfl)
  rw [lg_entry_eq]
  generalize (lg_sl ([.ref (ad n0 0), .int (zi i1), .int (zi i2)]) ++ List.replicate (5 - (lg_sl ([.ref (ad n0 0), .int (zi i1), .int (zi i2)])).length) Slot.unset).toArray = ls at hl ⊢
  have hl : lv_has ls 5 [(0, .ref (ad n0 0)), (1, .int (zi i1)), (2, .int (zi i2))] := hl
  refine zs_X0_spanFrom mk ad  n0 i1 i2 hx hb hml hown hts hK hP hB ls hl ⟨out, h, ?_⟩
  exact fun ls pc hd => W.iret hx hb hr (fun t ht hW => ⟨_, rfl, rfl, ht⟩) (fun _ h => by cases h) hd
/-! DiamondRows$CrossedLines.gather(LDiamondRows$Polygon;III)V -/
abbrev zr_X0_gather : Room := { frames := 3, cells := 0, slots := 0, locals := 66 }
abbrev zS_X0_gather : Type := Nat × Int × Int × Int × Int × Int × Int × Int × Nat
abbrev zO_X0_gather : Type := Int × Nat
noncomputable def zg_X0_gather_0 (mk : Nat) (n1 : Nat) (i2 : Int) (i3 : Int) (i4 : Int) (i5 : Int) (i6 : Int) (i7 : Int) (t_size : Int) (t_lines : Nat) : Option (zO_X0_gather ⊕ zS_X0_gather) :=
  if zno mk n1 then none else
  Option.bind (zf_X5_lineOf n1 i3 i4) (fun o2 =>
  Option.bind (zf_X5_crossersOf n1 o2) (fun o3 =>
  Option.bind (zf_X5_corners n1) (fun o4 =>
  some (.inr (28, i2, i3, i4, (zand o3 i2), (o4 - (1 : Int)), 0, (0 : Int), t_lines)))))
noncomputable def zg_X0_gather_28 (mk : Nat) (n1 : Nat) (i2 : Int) (i3 : Int) (i4 : Int) (i5 : Int) (i6 : Int) (i7 : Int) (t_size : Int) (t_lines : Nat) : Option (zO_X0_gather ⊕ zS_X0_gather) :=
  if zout i6 then none else
  if i6 ≤ 0 then
  some (.inl (t_size, t_lines))
  else
  some (.inr (36, 0, i3, 0, i5, i6, (0 : Int), t_size, t_lines))
noncomputable def zg_X0_gather_36 (mk : Nat) (n1 : Nat) (i2 : Int) (i3 : Int) (i4 : Int) (i5 : Int) (i6 : Int) (i7 : Int) (t_size : Int) (t_lines : Nat) : Option (zO_X0_gather ⊕ zS_X0_gather) :=
  if zno mk n1 then none else
  Option.bind (zf_X5_lineCount n1) (fun o8 =>
  if zout i7 then none else
  if zout o8 then none else
  if o8 ≤ i7 then
  some (.inr (28, 0, i3, 0, i5, (i6 + (-1 : Int)), i7, t_size, t_lines))
  else
  Option.bind (zf_X5_has n1 i5 i7) (fun o11 =>
  if o11 = false then
  some (.inr (36, 0, i3, 0, i5, i6, (i7 + (1 : Int)), t_size, t_lines))
  else
  Option.bind (zf_X0_spanFrom mk n1 i3 i7) (fun o12 =>
  if zout o12 then none else
  if zout i6 then none else
  if o12 = i6 then
  if zout t_size then none else
  if (27 : Int) ≤ t_size then
  some (.inr (36, 0, i3, 0, i5, i6, (i7 + (1 : Int)), t_size, t_lines))
  else
  if t_size < 0 ∨ 27 ≤ t_size then none else
  some (.inr (36, 0, i3, 0, i5, i6, (i7 + (1 : Int)), (t_size + (1 : Int)), (zset t_lines (Int.toNat t_size) i7)))
  else
  some (.inr (36, 0, i3, 0, i5, i6, (i7 + (1 : Int)), t_size, t_lines)))))
noncomputable def zg_X0_gather (mk : Nat) (n1 : Nat) (st : zS_X0_gather) : Option (zO_X0_gather ⊕ zS_X0_gather) := match st with
  | (lab, i2, i3, i4, i5, i6, i7, t_size, t_lines) => if lab = 0 then zg_X0_gather_0 mk n1 i2 i3 i4 i5 i6 i7 t_size t_lines else if lab = 28 then zg_X0_gather_28 mk n1 i2 i3 i4 i5 i6 i7 t_size t_lines else if lab = 36 then zg_X0_gather_36 mk n1 i2 i3 i4 i5 i6 i7 t_size t_lines else none
noncomputable def zf_X0_gather (mk : Nat) (t_size : Int) (t_lines : Nat) (n1 : Nat) (i2 : Int) (i3 : Int) (i4 : Int) : Option (Int × Nat) := jrun (zg_X0_gather mk n1) jfuel (0, i2, i3, i4, 0, 0, 0, t_size, t_lines)
theorem zi_X0_gather_X0 : ∀ w ∈ u_ws RX0 TX0 2, w ∈ wsX0_gather := fun w h => (List.mem_cons_of_mem _ (List.mem_append_right _ (List.mem_append_left _ h)))
theorem zl_X0_gather_9 : Cond.fieldLink RX0 9 "DiamondRows$CrossedLines" "lines" "[I" ∈ wsX0_gather := (List.mem_cons_of_mem _ (List.mem_append_left _ (List.mem_of_getElem? (i := 1) rfl)))
theorem zl_X0_gather_15 : Cond.fieldLink RX0 15 "DiamondRows$CrossedLines" "size" "I" ∈ wsX0_gather := (List.mem_cons_of_mem _ (List.mem_append_left _ (List.mem_of_getElem? (i := 0) rfl)))
def zQ_X0_gather (p : Program) (l : Launch) (e : Env) (s : State) (m : MethodId) (args : Array Value) (below : List Frame) (meth : Method) (c : Code) (Q : State → Prop) (D : va_G) (κ : Nat → ClassId) (A : Nat → Prop) (H0 : Heap) (t : Nat → Nat) (mk : Nat) (ad : Nat → Nat → Nat) (n1 : Nat) (o : Int × Nat) : Prop := ∀ (H : Heap) (locs : List Loc) (ls : Array Slot) (pc : Nat), va_P D vwCl ([((t 0), .inr (0, [.ref (t 1), .int (zi (o.1))])), ((t 1), .inl (κ 1, 27, .inl (zc (o.2))))]) H → va_D A ([((t 0), .inr (0, [.ref (t 1), .int (zi (o.1))])), ((t 1), .inl (κ 1, 27, .inl (zc (o.2))))]) → va_S A H0 H locs → decode cX0_gather pc = .ok (.return_, 1) → W p l e zr_X0_gather s m args below meth c H locs 0 0 Q (F0 m pc ls [])
def zA_X0_gather_0 (p : Program) (l : Launch) (e : Env) (s : State) (m : MethodId) (args : Array Value) (below : List Frame) (meth : Method) (c : Code) (Q : State → Prop) (D : va_G) (κ : Nat → ClassId) (A : Nat → Prop) (H0 : Heap) (t : Nat → Nat) (mk : Nat) (ad : Nat → Nat → Nat) (n1 : Nat) (i2 : Int) (i3 : Int) (i4 : Int) (i5 : Int) (i6 : Int) (i7 : Int) (t_size : Int) (t_lines : Nat) : Prop := ∀ (H : Heap) (locs : List Loc) (ls : Array Slot), va_P D vwCl ([((t 0), .inr (0, [.ref (t 1), .int (zi t_size)])), ((t 1), .inl (κ 1, 27, .inl (zc t_lines)))]) H → va_D A ([((t 0), .inr (0, [.ref (t 1), .int (zi t_size)])), ((t 1), .inl (κ 1, 27, .inl (zc t_lines)))]) → va_S A H0 H locs → lv_has ls 8 [(0, .ref (t 0)), (1, .ref (ad n1 0)), (2, .int (zi i2)), (3, .int (zi i3)), (4, .int (zi i4))] → W p l e zr_X0_gather s m args below meth c H locs 0 0 Q (F0 m 0 ls [])
def zA_X0_gather_28 (p : Program) (l : Launch) (e : Env) (s : State) (m : MethodId) (args : Array Value) (below : List Frame) (meth : Method) (c : Code) (Q : State → Prop) (D : va_G) (κ : Nat → ClassId) (A : Nat → Prop) (H0 : Heap) (t : Nat → Nat) (mk : Nat) (ad : Nat → Nat → Nat) (n1 : Nat) (i2 : Int) (i3 : Int) (i4 : Int) (i5 : Int) (i6 : Int) (i7 : Int) (t_size : Int) (t_lines : Nat) : Prop := ∀ (H : Heap) (locs : List Loc) (ls : Array Slot), va_P D vwCl ([((t 0), .inr (0, [.ref (t 1), .int (zi t_size)])), ((t 1), .inl (κ 1, 27, .inl (zc t_lines)))]) H → va_D A ([((t 0), .inr (0, [.ref (t 1), .int (zi t_size)])), ((t 1), .inl (κ 1, 27, .inl (zc t_lines)))]) → va_S A H0 H locs → lv_has ls 8 [(0, .ref (t 0)), (1, .ref (ad n1 0)), (3, .int (zi i3)), (5, .int (zi i5)), (6, .int (zi i6))] → W p l e zr_X0_gather s m args below meth c H locs 0 0 Q (F0 m 28 ls [])
def zA_X0_gather_36 (p : Program) (l : Launch) (e : Env) (s : State) (m : MethodId) (args : Array Value) (below : List Frame) (meth : Method) (c : Code) (Q : State → Prop) (D : va_G) (κ : Nat → ClassId) (A : Nat → Prop) (H0 : Heap) (t : Nat → Nat) (mk : Nat) (ad : Nat → Nat → Nat) (n1 : Nat) (i2 : Int) (i3 : Int) (i4 : Int) (i5 : Int) (i6 : Int) (i7 : Int) (t_size : Int) (t_lines : Nat) : Prop := ∀ (H : Heap) (locs : List Loc) (ls : Array Slot), va_P D vwCl ([((t 0), .inr (0, [.ref (t 1), .int (zi t_size)])), ((t 1), .inl (κ 1, 27, .inl (zc t_lines)))]) H → va_D A ([((t 0), .inr (0, [.ref (t 1), .int (zi t_size)])), ((t 1), .inl (κ 1, 27, .inl (zc t_lines)))]) → va_S A H0 H locs → lv_has ls 8 [(0, .ref (t 0)), (1, .ref (ad n1 0)), (3, .int (zi i3)), (5, .int (zi i5)), (6, .int (zi i6)), (7, .int (zi i7))] → W p l e zr_X0_gather s m args below meth c H locs 0 0 Q (F0 m 36 ls [])
def zA_X0_gather (p : Program) (l : Launch) (e : Env) (s : State) (m : MethodId) (args : Array Value) (below : List Frame) (meth : Method) (c : Code) (Q : State → Prop) (D : va_G) (κ : Nat → ClassId) (A : Nat → Prop) (H0 : Heap) (t : Nat → Nat) (mk : Nat) (ad : Nat → Nat → Nat) (n1 : Nat) (st : zS_X0_gather) : Prop := match st with
  | (lab, i2, i3, i4, i5, i6, i7, t_size, t_lines) => if lab = 0 then zA_X0_gather_0 p l e s m args below meth c Q D κ A H0 t mk ad n1 i2 i3 i4 i5 i6 i7 t_size t_lines else if lab = 28 then zA_X0_gather_28 p l e s m args below meth c Q D κ A H0 t mk ad n1 i2 i3 i4 i5 i6 i7 t_size t_lines else if lab = 36 then zA_X0_gather_36 p l e s m args below meth c Q D κ A H0 t mk ad n1 i2 i3 i4 i5 i6 i7 t_size t_lines else True
set_option maxHeartbeats 4000000 in
set_option maxRecDepth 100000 in
theorem zs_X0_gather_0 {p : Program} {l : Launch} {e : Env} {s : State} {m : MethodId} {args : Array Value} {below : List Frame} {meth : Method} {c : Code} {Q : State → Prop} {D : va_G} {κ : Nat → ClassId} {A : Nat → Prop} {H0 : Heap} (t : Nat → Nat) (mk : Nat) (ad : Nat → Nat → Nat) (n1 : Nat) (hx : p.tables.exec = Jvm.exec) (hb : c.code = cX0_gather) (hml : c.maxLocals = 8) (hown : s.vm.findClass RX0 = some m.cls) (hts : ∀ w ∈ wsX0_gather, w.before args s = true) (hK : va_K D vwCl (zTY κ) s) (hA : ∀ q : Nat, H0.size ≤ q → A q) (hB : zAmb D κ mk ad H0) (hBA : zApt mk ad A H0.size) (i2 : Int) (i3 : Int) (i4 : Int) (i5 : Int) (i6 : Int) (i7 : Int) (t_size : Int) (t_lines : Nat) (hg : Go (GoE (zA_X0_gather p l e s m args below meth c Q D κ A H0 t mk ad n1) (zQ_X0_gather p l e s m args below meth c Q D κ A H0 t mk ad n1)) (zg_X0_gather_0 mk n1 i2 i3 i4 i5 i6 i7 t_size t_lines)) : zA_X0_gather_0 p l e s m args below meth c Q D κ A H0 t mk ad n1 i2 i3 i4 i5 i6 i7 t_size t_lines := by
  intro H locs ls hP hD hS hl
  unfold zg_X0_gather_0 at hg
  refine lv_aload_n hx hb dX0_gather_0 rfl (lv_at hl 1 rfl) ?_
  refine lv_aload_n hx hb dX0_gather_1 rfl (lv_at hl 1 rfl) ?_
  refine lv_iload_n hx hb dX0_gather_2 rfl (lv_at hl 3 rfl) ?_
  refine lv_iload hx hb dX0_gather_3 (lv_at hl 4 rfl) ?_
  obtain ⟨m1, hg⟩ := Go_n hg
  obtain ⟨o2, ho2, hg⟩ := Go_b hg
  refine zc_vi (rest := [.ref (ad n1 0)]) ⟨hx, hb, hml, hown, hts⟩ (zc_X5_lineOf l D κ (ad n1) n1 i3 i4 o2 ho2) (cwV 2 hts gX0_gather_X5_lineOf rfl rfl rfl hv_X5_lineOf ⟨Nat.le_of_ble_eq_true rfl, Nat.le_of_ble_eq_true rfl⟩) (zpreV hK ((zamb hB hBA hS) n1 m1) 5 0 rfl rfl) rfl hl.1 rfl (Nat.le_of_ble_eq_true rfl) dX0_gather_5 ⟨Nat.zero_le _, Nat.zero_le _⟩ ?_
  obtain ⟨o3, ho3, hg⟩ := Go_b hg
  refine zc_vi (rest := []) ⟨hx, hb, hml, hown, hts⟩ (zc_X5_crossersOf l D κ (ad n1) n1 o2 o3 ho3) (cwV 1 hts gX0_gather_X5_crossersOf rfl rfl rfl hv_X5_crossersOf ⟨Nat.le_of_ble_eq_true rfl, Nat.le_of_ble_eq_true rfl⟩) (zpreV hK ((zamb hB hBA hS) n1 m1) 5 0 rfl rfl) rfl hl.1 rfl (Nat.le_of_ble_eq_true rfl) dX0_gather_8 ⟨Nat.zero_le _, Nat.zero_le _⟩ ?_
  refine lv_iload_n hx hb dX0_gather_11 rfl (lv_at hl 2 rfl) ?_
  refine zv_iand hx hb dX0_gather_12 ?_
  refine lv_istore (lv' := [(5, .int (zi (zand o3 i2))), (0, .ref (t 0)), (1, .ref (ad n1 0)), (2, .int (zi i2)), (3, .int (zi i3)), (4, .int (zi i4))]) hx hb dX0_gather_13 hl (by decide) rfl (fun ls hl => ?_)
  refine lv_aload_n hx hb dX0_gather_15 rfl (lv_at hl 1 rfl) ?_
  refine zv_iconst hx hb dX0_gather_16 ?_
  refine va_put (D := D) (ci := 0) (v := .int (zi (0 : Int))) (ty := .int) (C := RX0) (T := TX0) (N := 2) hx hb hts zi_X0_gather_X0 tyX0 tyX0_ok nmX0 hown hK hP hD hS 0 rfl rfl 1 (by decide) (hts (.fieldLink RX0 15 "DiamondRows$CrossedLines" "size" "I") zl_X0_gather_15) (fun _ h9 => h9) rfl (by decide +kernel) rfl rfl (Nat.le_of_ble_eq_true rfl) dX0_gather_17 (fun H locs hP hD hS => ?_)
  have hP : va_P D vwCl ([((t 0), .inr (0, [.ref (t 1), .int (zi (0 : Int))])), ((t 1), .inl (κ 1, 27, .inl (zc t_lines)))]) H := hP
  have hD : va_D A ([((t 0), .inr (0, [.ref (t 1), .int (zi (0 : Int))])), ((t 1), .inl (κ 1, 27, .inl (zc t_lines)))]) := hD
  refine lv_aload_n hx hb dX0_gather_20 rfl (lv_at hl 2 rfl) ?_
  obtain ⟨o4, ho4, hg⟩ := Go_b hg
  refine zc_vi (rest := []) ⟨hx, hb, hml, hown, hts⟩ (zc_X5_corners l D κ (ad n1) n1  o4 ho4) (cwV 0 hts gX0_gather_X5_corners rfl rfl rfl hv_X5_corners ⟨Nat.le_of_ble_eq_true rfl, Nat.le_of_ble_eq_true rfl⟩) (zpreV hK ((zamb hB hBA hS) n1 m1) 5 0 rfl rfl) rfl hl.1 rfl (Nat.le_of_ble_eq_true rfl) dX0_gather_21 ⟨Nat.zero_le _, Nat.zero_le _⟩ ?_
  refine zv_iconst hx hb dX0_gather_24 ?_
  refine zv_isub hx hb dX0_gather_25 ?_
  refine lv_istore (lv' := [(6, .int (zi (o4 - (1 : Int)))), (5, .int (zi (zand o3 i2))), (0, .ref (t 0)), (1, .ref (ad n1 0)), (2, .int (zi i2)), (3, .int (zi i3)), (4, .int (zi i4))]) hx hb dX0_gather_26 hl (by decide) rfl (fun ls hl => ?_)
  exact (Go_s hg) H locs ls hP hD hS (lv_sub hl [2, 3, 5, 1, 0] rfl)
set_option maxHeartbeats 4000000 in
set_option maxRecDepth 100000 in
theorem zs_X0_gather_28 {p : Program} {l : Launch} {e : Env} {s : State} {m : MethodId} {args : Array Value} {below : List Frame} {meth : Method} {c : Code} {Q : State → Prop} {D : va_G} {κ : Nat → ClassId} {A : Nat → Prop} {H0 : Heap} (t : Nat → Nat) (mk : Nat) (ad : Nat → Nat → Nat) (n1 : Nat) (hx : p.tables.exec = Jvm.exec) (hb : c.code = cX0_gather) (hml : c.maxLocals = 8) (hown : s.vm.findClass RX0 = some m.cls) (hts : ∀ w ∈ wsX0_gather, w.before args s = true) (hK : va_K D vwCl (zTY κ) s) (hA : ∀ q : Nat, H0.size ≤ q → A q) (hB : zAmb D κ mk ad H0) (hBA : zApt mk ad A H0.size) (i2 : Int) (i3 : Int) (i4 : Int) (i5 : Int) (i6 : Int) (i7 : Int) (t_size : Int) (t_lines : Nat) (hg : Go (GoE (zA_X0_gather p l e s m args below meth c Q D κ A H0 t mk ad n1) (zQ_X0_gather p l e s m args below meth c Q D κ A H0 t mk ad n1)) (zg_X0_gather_28 mk n1 i2 i3 i4 i5 i6 i7 t_size t_lines)) : zA_X0_gather_28 p l e s m args below meth c Q D κ A H0 t mk ad n1 i2 i3 i4 i5 i6 i7 t_size t_lines := by
  intro H locs ls hP hD hS hl
  unfold zg_X0_gather_28 at hg
  refine lv_iload hx hb dX0_gather_28 (lv_at hl 4 rfl) ?_
  obtain ⟨b5, hg⟩ := Go_n hg
  refine zv_if_le (tgt := 110) hx hb dX0_gather_30 (by decide) b5 (fun c6 => ?_) (fun c6 => ?_)
  · have hg := Go_t c6 hg
    exact (Go_s hg) _ _ _ _ hP hD hS dX0_gather_110
  · have hg := Go_f c6 hg
    refine zv_iconst hx hb dX0_gather_33 ?_
    refine lv_istore (lv' := [(7, .int (zi (0 : Int))), (0, .ref (t 0)), (1, .ref (ad n1 0)), (3, .int (zi i3)), (5, .int (zi i5)), (6, .int (zi i6))]) hx hb dX0_gather_34 hl (by decide) rfl (fun ls hl => ?_)
    exact (Go_s hg) H locs ls hP hD hS (lv_sub hl [1, 2, 3, 4, 5, 0] rfl)
set_option maxHeartbeats 4000000 in
set_option maxRecDepth 100000 in
theorem zs_X0_gather_36 {p : Program} {l : Launch} {e : Env} {s : State} {m : MethodId} {args : Array Value} {below : List Frame} {meth : Method} {c : Code} {Q : State → Prop} {D : va_G} {κ : Nat → ClassId} {A : Nat → Prop} {H0 : Heap} (t : Nat → Nat) (mk : Nat) (ad : Nat → Nat → Nat) (n1 : Nat) (hx : p.tables.exec = Jvm.exec) (hb : c.code = cX0_gather) (hml : c.maxLocals = 8) (hown : s.vm.findClass RX0 = some m.cls) (hts : ∀ w ∈ wsX0_gather, w.before args s = true) (hK : va_K D vwCl (zTY κ) s) (hA : ∀ q : Nat, H0.size ≤ q → A q) (hB : zAmb D κ mk ad H0) (hBA : zApt mk ad A H0.size) (i2 : Int) (i3 : Int) (i4 : Int) (i5 : Int) (i6 : Int) (i7 : Int) (t_size : Int) (t_lines : Nat) (hg : Go (GoE (zA_X0_gather p l e s m args below meth c Q D κ A H0 t mk ad n1) (zQ_X0_gather p l e s m args below meth c Q D κ A H0 t mk ad n1)) (zg_X0_gather_36 mk n1 i2 i3 i4 i5 i6 i7 t_size t_lines)) : zA_X0_gather_36 p l e s m args below meth c Q D κ A H0 t mk ad n1 i2 i3 i4 i5 i6 i7 t_size t_lines := by
  intro H locs ls hP hD hS hl
  unfold zg_X0_gather_36 at hg
  refine lv_iload hx hb dX0_gather_36 (lv_at hl 5 rfl) ?_
  refine lv_aload_n hx hb dX0_gather_38 rfl (lv_at hl 1 rfl) ?_
  obtain ⟨m7, hg⟩ := Go_n hg
  obtain ⟨o8, ho8, hg⟩ := Go_b hg
  refine zc_vi (rest := [.int (zi i7)]) ⟨hx, hb, hml, hown, hts⟩ (zc_X5_lineCount l D κ (ad n1) n1  o8 ho8) (cwV 0 hts gX0_gather_X5_lineCount rfl rfl rfl hv_X5_lineCount ⟨Nat.le_of_ble_eq_true rfl, Nat.le_of_ble_eq_true rfl⟩) (zpreV hK ((zamb hB hBA hS) n1 m7) 5 0 rfl rfl) rfl hl.1 rfl (Nat.le_of_ble_eq_true rfl) dX0_gather_39 ⟨Nat.zero_le _, Nat.zero_le _⟩ ?_
  obtain ⟨b9, hg⟩ := Go_n hg
  obtain ⟨b10, hg⟩ := Go_n hg
  refine zv_icmp_ge (tgt := 104) hx hb dX0_gather_42 (by decide) b9 b10 (fun c20 => ?_) (fun c20 => ?_)
  · have hg := Go_t c20 hg
    refine lv_iinc (v := zi (i6 + (-1 : Int))) (lv' := [(6, .int (zi (i6 + (-1 : Int)))), (0, .ref (t 0)), (1, .ref (ad n1 0)), (3, .int (zi i3)), (5, .int (zi i5)), (7, .int (zi i7))]) hx hb dX0_gather_104 hl (k := 4) rfl (zi_add i6 _) (by decide) rfl (fun ls hl => ?_)
    refine lv_goto (tgt := 28) hx hb dX0_gather_107 (by decide) ?_
    exact (Go_s hg) H locs ls hP hD hS (lv_sub hl [1, 2, 3, 4, 0] rfl)
  · have hg := Go_f c20 hg
    refine lv_aload_n hx hb dX0_gather_45 rfl (lv_at hl 1 rfl) ?_
    refine lv_iload hx hb dX0_gather_46 (lv_at hl 3 rfl) ?_
    refine lv_iload hx hb dX0_gather_48 (lv_at hl 5 rfl) ?_
    obtain ⟨o11, ho11, hg⟩ := Go_b hg
    refine zc_vi (rest := []) ⟨hx, hb, hml, hown, hts⟩ (zc_X5_has l D κ (ad n1) n1 i5 i7 o11 ho11) (cwV 2 hts gX0_gather_X5_has rfl rfl rfl hv_X5_has ⟨Nat.le_of_ble_eq_true rfl, Nat.le_of_ble_eq_true rfl⟩) (zpreV hK ((zamb hB hBA hS) n1 m7) 5 0 rfl rfl) rfl hl.1 rfl (Nat.le_of_ble_eq_true rfl) dX0_gather_50 ⟨Nat.zero_le _, Nat.zero_le _⟩ ?_
    refine zv_ifb_eq (tgt := 98) hx hb dX0_gather_53 (by decide) (fun c19 => ?_) (fun c19 => ?_)
    · have hg := Go_t c19 hg
      refine lv_iinc (v := zi (i7 + (1 : Int))) (lv' := [(7, .int (zi (i7 + (1 : Int)))), (0, .ref (t 0)), (1, .ref (ad n1 0)), (3, .int (zi i3)), (5, .int (zi i5)), (6, .int (zi i6))]) hx hb dX0_gather_98 hl (k := 5) rfl (zi_add i7 _) (by decide) rfl (fun ls hl => ?_)
      refine lv_goto (tgt := 36) hx hb dX0_gather_101 (by decide) ?_
      exact (Go_s hg) H locs ls hP hD hS (lv_sub hl [1, 2, 3, 4, 5, 0] rfl)
    · have hg := Go_f c19 hg
      refine lv_aload_n hx hb dX0_gather_56 rfl (lv_at hl 1 rfl) ?_
      refine lv_iload_n hx hb dX0_gather_57 rfl (lv_at hl 2 rfl) ?_
      refine lv_iload hx hb dX0_gather_58 (lv_at hl 5 rfl) ?_
      obtain ⟨o12, ho12, hg⟩ := Go_b hg
      refine zc_si (rest := []) ⟨hx, hb, hml, hown, hts⟩ (zc_X0_spanFrom l D κ mk ad n1 i3 i7 o12 ho12) (va_cwS 3 hts gX0_gather_X0_spanFrom rfl rfl rfl hs_X0_spanFrom ⟨Nat.le_of_ble_eq_true rfl, Nat.le_of_ble_eq_true rfl⟩) (zpreSa hK (hP.sub [] rfl) (zamb hB hBA hS)) rfl hl.1 rfl (Nat.le_of_ble_eq_true rfl) dX0_gather_60 ⟨Nat.zero_le _, Nat.zero_le _⟩ ?_
      refine lv_iload hx hb dX0_gather_63 (lv_at hl 4 rfl) ?_
      obtain ⟨b13, hg⟩ := Go_n hg
      obtain ⟨b14, hg⟩ := Go_n hg
      refine zv_icmp_ne (tgt := 98) hx hb dX0_gather_65 (by decide) b13 b14 (fun c18 => ?_) (fun c18 => ?_)
      · have hg := Go_f c18 hg
        refine lv_iinc (v := zi (i7 + (1 : Int))) (lv' := [(7, .int (zi (i7 + (1 : Int)))), (0, .ref (t 0)), (1, .ref (ad n1 0)), (3, .int (zi i3)), (5, .int (zi i5)), (6, .int (zi i6))]) hx hb dX0_gather_98 hl (k := 5) rfl (zi_add i7 _) (by decide) rfl (fun ls hl => ?_)
        refine lv_goto (tgt := 36) hx hb dX0_gather_101 (by decide) ?_
        exact (Go_s hg) H locs ls hP hD hS (lv_sub hl [1, 2, 3, 4, 5, 0] rfl)
      · have hg := Go_t c18 hg
        refine lv_aload_n hx hb dX0_gather_68 rfl (lv_at hl 0 rfl) ?_
        refine va_get (D := D) (ci := 0) (v := .int (zi t_size)) (C := RX0) (T := TX0) (N := 2) hx hb hts zi_X0_gather_X0 hown hK hP 0 rfl rfl 1 (by decide) (hts (.fieldLink RX0 15 "DiamondRows$CrossedLines" "size" "I") zl_X0_gather_15) (fun _ h9 => h9) rfl dX0_gather_69 ?_
        refine zv_bipush hx hb dX0_gather_72 (by decide) ?_
        obtain ⟨b15, hg⟩ := Go_n hg
        refine zv_icmp_ge (tgt := 98) hx hb dX0_gather_74 (by decide) b15 (by decide) (fun c17 => ?_) (fun c17 => ?_)
        · have hg := Go_t c17 hg
          refine lv_iinc (v := zi (i7 + (1 : Int))) (lv' := [(7, .int (zi (i7 + (1 : Int)))), (0, .ref (t 0)), (1, .ref (ad n1 0)), (3, .int (zi i3)), (5, .int (zi i5)), (6, .int (zi i6))]) hx hb dX0_gather_98 hl (k := 5) rfl (zi_add i7 _) (by decide) rfl (fun ls hl => ?_)
          refine lv_goto (tgt := 36) hx hb dX0_gather_101 (by decide) ?_
          exact (Go_s hg) H locs ls hP hD hS (lv_sub hl [1, 2, 3, 4, 5, 0] rfl)
        · have hg := Go_f c17 hg
          refine lv_aload_n hx hb dX0_gather_77 rfl (lv_at hl 0 rfl) ?_
          refine va_get (D := D) (ci := 0) (v := .ref (t 1)) (C := RX0) (T := TX0) (N := 2) hx hb hts zi_X0_gather_X0 hown hK hP 0 rfl rfl 0 (by decide) (hts (.fieldLink RX0 9 "DiamondRows$CrossedLines" "lines" "[I") zl_X0_gather_9) (fun _ h9 => h9) rfl dX0_gather_78 ?_
          refine lv_aload_n hx hb dX0_gather_81 rfl (lv_at hl 0 rfl) ?_
          refine va_get (D := D) (ci := 0) (v := .int (zi t_size)) (C := RX0) (T := TX0) (N := 2) hx hb hts zi_X0_gather_X0 hown hK hP 0 rfl rfl 1 (by decide) (hts (.fieldLink RX0 15 "DiamondRows$CrossedLines" "size" "I") zl_X0_gather_15) (fun _ h9 => h9) rfl dX0_gather_82 ?_
          refine lv_iload hx hb dX0_gather_85 (lv_at hl 5 rfl) ?_
          obtain ⟨n16, hg⟩ := Go_n hg
          refine zv_iast hx hb hK hP hD hS 1 1 rfl rfl (by decide) n16 dX0_gather_87 (fun H locs hP hD hS => ?_)
          have hP : va_P D vwCl ([((t 0), .inr (0, [.ref (t 1), .int (zi t_size)])), ((t 1), .inl (κ 1, 27, .inl (zc (zset t_lines (Int.toNat t_size) i7))))]) H := hP
          have hD : va_D A ([((t 0), .inr (0, [.ref (t 1), .int (zi t_size)])), ((t 1), .inl (κ 1, 27, .inl (zc (zset t_lines (Int.toNat t_size) i7))))]) := hD
          refine lv_aload_n hx hb dX0_gather_88 rfl (lv_at hl 0 rfl) ?_
          refine lv_dup hx hb dX0_gather_89 rfl ?_
          refine va_get (D := D) (ci := 0) (v := .int (zi t_size)) (C := RX0) (T := TX0) (N := 2) hx hb hts zi_X0_gather_X0 hown hK hP 0 rfl rfl 1 (by decide) (hts (.fieldLink RX0 15 "DiamondRows$CrossedLines" "size" "I") zl_X0_gather_15) (fun _ h9 => h9) rfl dX0_gather_90 ?_
          refine zv_iconst hx hb dX0_gather_93 ?_
          refine zv_iadd hx hb dX0_gather_94 ?_
          refine va_put (D := D) (ci := 0) (v := .int (zi (t_size + (1 : Int)))) (ty := .int) (C := RX0) (T := TX0) (N := 2) hx hb hts zi_X0_gather_X0 tyX0 tyX0_ok nmX0 hown hK hP hD hS 0 rfl rfl 1 (by decide) (hts (.fieldLink RX0 15 "DiamondRows$CrossedLines" "size" "I") zl_X0_gather_15) (fun _ h9 => h9) rfl (by decide +kernel) rfl rfl (Nat.le_of_ble_eq_true rfl) dX0_gather_95 (fun H locs hP hD hS => ?_)
          have hP : va_P D vwCl ([((t 0), .inr (0, [.ref (t 1), .int (zi (t_size + (1 : Int)))])), ((t 1), .inl (κ 1, 27, .inl (zc (zset t_lines (Int.toNat t_size) i7))))]) H := hP
          have hD : va_D A ([((t 0), .inr (0, [.ref (t 1), .int (zi (t_size + (1 : Int)))])), ((t 1), .inl (κ 1, 27, .inl (zc (zset t_lines (Int.toNat t_size) i7))))]) := hD
          refine lv_iinc (v := zi (i7 + (1 : Int))) (lv' := [(7, .int (zi (i7 + (1 : Int)))), (0, .ref (t 0)), (1, .ref (ad n1 0)), (3, .int (zi i3)), (5, .int (zi i5)), (6, .int (zi i6))]) hx hb dX0_gather_98 hl (k := 5) rfl (zi_add i7 _) (by decide) rfl (fun ls hl => ?_)
          refine lv_goto (tgt := 36) hx hb dX0_gather_101 (by decide) ?_
          exact (Go_s hg) H locs ls hP hD hS (lv_sub hl [1, 2, 3, 4, 5, 0] rfl)
set_option maxHeartbeats 4000000 in
set_option maxRecDepth 100000 in
theorem zw_X0_gather {p : Program} {l : Launch} {e : Env} {s : State} {m : MethodId} {args : Array Value} {below : List Frame} {meth : Method} {c : Code} {Q : State → Prop} {D : va_G} {κ : Nat → ClassId} {A : Nat → Prop} {H0 : Heap} (t : Nat → Nat) (mk : Nat) (ad : Nat → Nat → Nat) (n1 : Nat) (t_size : Int) (t_lines : Nat) (i2 : Int) (i3 : Int) (i4 : Int) (hx : p.tables.exec = Jvm.exec) (hb : c.code = cX0_gather) (hml : c.maxLocals = 8) (hown : s.vm.findClass RX0 = some m.cls) (hts : ∀ w ∈ wsX0_gather, w.before args s = true) (hK : va_K D vwCl (zTY κ) s) (hA : ∀ q : Nat, H0.size ≤ q → A q) (hB : zAmb D κ mk ad H0) (hBA : zApt mk ad A H0.size) (out : Int × Nat) (h : zf_X0_gather mk t_size t_lines n1 i2 i3 i4 = some out) (hq : zQ_X0_gather p l e s m args below meth c Q D κ A H0 t mk ad n1 out) : zA_X0_gather_0 p l e s m args below meth c Q D κ A H0 t mk ad n1 i2 i3 i4 0 0 0 t_size t_lines := by
  have hst : ∀ st : zS_X0_gather, Go (GoE (zA_X0_gather p l e s m args below meth c Q D κ A H0 t mk ad n1) (zQ_X0_gather p l e s m args below meth c Q D κ A H0 t mk ad n1)) (zg_X0_gather mk n1 st) → zA_X0_gather p l e s m args below meth c Q D κ A H0 t mk ad n1 st := by
    intro st hg
    obtain ⟨lab, i2, i3, i4, i5, i6, i7, t_size, t_lines⟩ := st
    by_cases h0 : lab = 0
    · subst h0
      exact zs_X0_gather_0 t mk ad n1 hx hb hml hown hts hK hA hB hBA i2 i3 i4 i5 i6 i7 t_size t_lines hg
    by_cases h28 : lab = 28
    · subst h28
      exact zs_X0_gather_28 t mk ad n1 hx hb hml hown hts hK hA hB hBA i2 i3 i4 i5 i6 i7 t_size t_lines hg
    by_cases h36 : lab = 36
    · subst h36
      exact zs_X0_gather_36 t mk ad n1 hx hb hml hown hts hK hA hB hBA i2 i3 i4 i5 i6 i7 t_size t_lines hg
    have hz : zg_X0_gather mk n1 (lab, i2, i3, i4, i5, i6, i7, t_size, t_lines) = none := by simp [zg_X0_gather, h0, h28, h36]
    rw [hz] at hg
    obtain ⟨a, h1, -⟩ := hg
    cases h1
  exact jwalk (At := zA_X0_gather p l e s m args below meth c Q D κ A H0 t mk ad n1) (Ret := zQ_X0_gather p l e s m args below meth c Q D κ A H0 t mk ad n1) hst _ _ _ h hq
set_option maxHeartbeats 4000000 in
set_option maxRecDepth 100000 in
theorem zc_X0_gather (l : Launch) (D : va_G) (κ : Nat → ClassId) (t : Nat → Nat) (mk : Nat) (ad : Nat → Nat → Nat) (sz : Nat) (t_size : Int) (t_lines : Nat) (n1 : Nat) (i2 : Int) (i3 : Int) (i4 : Int) (out : Int × Nat) (h : zf_X0_gather mk t_size t_lines n1 i2 i3 i4 = some out) : Met l yX0_gather wsX0_gather zr_X0_gather (va_Pc [.ref (t 0), .ref (ad n1 0), .int (zi i2), .int (zi i3), .int (zi i4)] (zWa D κ mk ad ([((t 0), .inr (0, [.ref (t 1), .int (zi t_size)])), ((t 1), .inl (κ 1, 27, .inl (zc t_lines)))]) sz)) (va_Qv (fun (_ : Unit) => True) (fun _ => zB D κ (va_A ([((t 0), .inr (0, [.ref (t 1), .int (zi t_size)])), ((t 1), .inl (κ 1, 27, .inl (zc t_lines)))]) sz) ([((t 0), .inr (0, [.ref (t 1), .int (zi (out.1))])), ((t 1), .inl (κ 1, 27, .inl (zc (out.2))))])) (va_A ([((t 0), .inr (0, [.ref (t 1), .int (zi t_size)])), ((t 1), .inl (κ 1, 27, .inl (zc t_lines)))]) sz)) 0 0 (va_A ([((t 0), .inr (0, [.ref (t 1), .int (zi t_size)])), ((t 1), .inl (κ 1, 27, .inl (zc t_lines)))]) sz) := by
  refine Met.ofW (cc := cX0_gather) (maxL := 8) (ret := none) (by decide +kernel) rfl ?_
  intro p e s m args below meth c s₁ B hml hv
  obtain ⟨rfl, hsz, hP, hK, hD0, hB, hBA⟩ := hv
  have hx := B.exec
  have hb := B.bytes
  have hr := B.returns
  have hts := atoms_spec (ws := wsX0_gather) B.pre
  have hown : s.vm.findClass RX0 = some m.cls := findClass_of_methodNamed B.named
  have hlocks := B.notSynchronized
  subst hsz
  have hD := hD0.self (sz := s.heap.size)
  generalize hAe : va_A ([((t 0), .inr (0, [.ref (t 1), .int (zi t_size)])), ((t 1), .inl (κ 1, 27, .inl (zc t_lines)))]) s.heap.size = A at hD hBA ⊢
  have hA : ∀ q : Nat, s.heap.size ≤ q → A q := fun q h => by rw [← hAe]; exact Or.inr h
  have hS : va_S A s.heap s.heap [] := va_S.rf
  have hl := lv_entry ([.ref (t 0), .ref (ad n1 0), .int (zi i2), .int (zi i3), .int (zi i4)]) (n := 8) (Nat.le_of_ble_eq_true rfl)
  rw [lg_entry_eq]
  generalize (lg_sl ([.ref (t 0), .ref (ad n1 0), .int (zi i2), .int (zi i3), .int (zi i4)]) ++ List.replicate (8 - (lg_sl ([.ref (t 0), .ref (ad n1 0), .int (zi i2), .int (zi i3), .int (zi i4)])).length) Slot.unset).toArray = ls at hl ⊢
  have hl : lv_has ls 8 [(0, .ref (t 0)), (1, .ref (ad n1 0)), (2, .int (zi i2)), (3, .int (zi i3)), (4, .int (zi i4))] := hl
  refine (zw_X0_gather t mk ad n1 t_size t_lines i2 i3 i4 hx hb hml hown hts hK hA hB hBA out h ?_) s.heap [] ls hP hD hS (lv_sub hl [0, 1, 2, 3, 4] rfl)
  exact fun H locs ls pc hP hD hS hd => W.vret hx hb hr (fun t ht hW => ⟨⟨(), rfl, trivial, by rw [ht]; exact hP, va_K.moved hW.alike hK, hD⟩, hS.F ht⟩) hS.2.2 hd
/-! DiamondRows$CrossedLines.pairAt(LDiamondRows$Polygon;I)I -/
abbrev zr_X0_pairAt : Room := { frames := 2, cells := 0, slots := 0, locals := 42 }
noncomputable def zf_X0_pairAt (mk : Nat) (t_size : Int) (t_lines : Nat) (n1 : Nat) (i2 : Int) : Option (Int) :=
  if zout i2 then none else
  if i2 < 0 then
  some ((-1 : Int))
  else
  if zout t_size then none else
  if i2 < t_size then
  if i2 < 0 ∨ 27 ≤ i2 then none else
  if zno mk n1 then none else
  Option.bind (zf_X5_pairOf n1 (zget t_lines (Int.toNat i2))) (fun o5 =>
  some (o5))
  else
  some ((-1 : Int))
theorem zi_X0_pairAt_X0 : ∀ w ∈ u_ws RX0 TX0 2, w ∈ wsX0_pairAt := fun w h => (List.mem_cons_of_mem _ (List.mem_append_right _ (List.mem_append_left _ h)))
theorem zl_X0_pairAt_9 : Cond.fieldLink RX0 9 "DiamondRows$CrossedLines" "lines" "[I" ∈ wsX0_pairAt := (List.mem_cons_of_mem _ (List.mem_append_left _ (List.mem_of_getElem? (i := 1) rfl)))
theorem zl_X0_pairAt_15 : Cond.fieldLink RX0 15 "DiamondRows$CrossedLines" "size" "I" ∈ wsX0_pairAt := (List.mem_cons_of_mem _ (List.mem_append_left _ (List.mem_of_getElem? (i := 0) rfl)))
def zQ_X0_pairAt (p : Program) (l : Launch) (e : Env) (s : State) (m : MethodId) (args : Array Value) (below : List Frame) (meth : Method) (c : Code) (Q : State → Prop) (H : Heap) (locs : List Loc)  (o : Int) : Prop := ∀ (ls : Array Slot) (pc : Nat), decode cX0_pairAt pc = .ok (.ireturn, 1) → W p l e zr_X0_pairAt s m args below meth c H locs 0 0 Q (F0 m pc ls [.int (zi o)])
set_option maxHeartbeats 4000000 in
set_option maxRecDepth 100000 in
theorem zs_X0_pairAt {p : Program} {l : Launch} {e : Env} {s : State} {m : MethodId} {args : Array Value} {below : List Frame} {meth : Method} {c : Code} {Q : State → Prop} {D : va_G} {κ : Nat → ClassId} {H : Heap} {locs : List Loc} (t : Nat → Nat) (mk : Nat) (ad : Nat → Nat → Nat) (t_size : Int) (t_lines : Nat) (n1 : Nat) (i2 : Int) (hx : p.tables.exec = Jvm.exec) (hb : c.code = cX0_pairAt) (hml : c.maxLocals = 3) (hown : s.vm.findClass RX0 = some m.cls) (hts : ∀ w ∈ wsX0_pairAt, w.before args s = true) (hK : va_K D vwCl (zTY κ) s) (hP : va_P D vwCl ([((t 0), .inr (0, [.ref (t 1), .int (zi t_size)])), ((t 1), .inl (κ 1, 27, .inl (zc t_lines)))]) H) (hB : zAmb D κ mk ad H) (ls : Array Slot) (hl : lv_has ls 3 [(0, .ref (t 0)), (1, .ref (ad n1 0)), (2, .int (zi i2))]) (hg : Go (zQ_X0_pairAt p l e s m args below meth c Q H locs) (zf_X0_pairAt mk t_size t_lines n1 i2)) : W p l e zr_X0_pairAt s m args below meth c H locs 0 0 Q (F0 m 0 ls []) := by
  unfold zf_X0_pairAt at hg
  refine lv_iload_n hx hb dX0_pairAt_0 rfl (lv_at hl 2 rfl) ?_
  obtain ⟨b1, hg⟩ := Go_n hg
  refine zv_if_lt (tgt := 12) hx hb dX0_pairAt_1 (by decide) b1 (fun c7 => ?_) (fun c7 => ?_)
  · have hg := Go_t c7 hg
    refine zv_iconst hx hb dX0_pairAt_12 ?_
    refine lv_goto (tgt := 26) hx hb dX0_pairAt_13 (by decide) ?_
    exact (Go_s hg) _ _ dX0_pairAt_26
  · have hg := Go_f c7 hg
    refine lv_iload_n hx hb dX0_pairAt_4 rfl (lv_at hl 2 rfl) ?_
    refine lv_aload_n hx hb dX0_pairAt_5 rfl (lv_at hl 0 rfl) ?_
    refine va_get (D := D) (ci := 0) (v := .int (zi t_size)) (C := RX0) (T := TX0) (N := 2) hx hb hts zi_X0_pairAt_X0 hown hK hP 0 rfl rfl 1 (by decide) (hts (.fieldLink RX0 15 "DiamondRows$CrossedLines" "size" "I") zl_X0_pairAt_15) (fun _ h9 => h9) rfl dX0_pairAt_6 ?_
    obtain ⟨b2, hg⟩ := Go_n hg
    refine zv_icmp_lt (tgt := 16) hx hb dX0_pairAt_9 (by decide) b1 b2 (fun c6 => ?_) (fun c6 => ?_)
    · have hg := Go_t c6 hg
      refine lv_aload_n hx hb dX0_pairAt_16 rfl (lv_at hl 1 rfl) ?_
      refine lv_aload_n hx hb dX0_pairAt_17 rfl (lv_at hl 0 rfl) ?_
      refine va_get (D := D) (ci := 0) (v := .ref (t 1)) (C := RX0) (T := TX0) (N := 2) hx hb hts zi_X0_pairAt_X0 hown hK hP 0 rfl rfl 0 (by decide) (hts (.fieldLink RX0 9 "DiamondRows$CrossedLines" "lines" "[I") zl_X0_pairAt_9) (fun _ h9 => h9) rfl dX0_pairAt_18 ?_
      refine lv_iload_n hx hb dX0_pairAt_21 rfl (lv_at hl 2 rfl) ?_
      obtain ⟨n3, hg⟩ := Go_n hg
      refine zv_iald hx hb hK hP 1 1 rfl rfl (by decide) n3 dX0_pairAt_22 ?_
      obtain ⟨m4, hg⟩ := Go_n hg
      obtain ⟨o5, ho5, hg⟩ := Go_b hg
      refine zc_vi (rest := []) ⟨hx, hb, hml, hown, hts⟩ (zc_X5_pairOf l D κ (ad n1) n1 (zget t_lines (Int.toNat i2)) o5 ho5) (cwV 1 hts gX0_pairAt_X5_pairOf rfl rfl rfl hv_X5_pairOf ⟨Nat.le_of_ble_eq_true rfl, Nat.le_of_ble_eq_true rfl⟩) (zpreV hK (hB n1 m4) 5 0 rfl rfl) rfl hl.1 rfl (Nat.le_of_ble_eq_true rfl) dX0_pairAt_23 ⟨Nat.zero_le _, Nat.zero_le _⟩ ?_
      exact (Go_s hg) _ _ dX0_pairAt_26
    · have hg := Go_f c6 hg
      refine zv_iconst hx hb dX0_pairAt_12 ?_
      refine lv_goto (tgt := 26) hx hb dX0_pairAt_13 (by decide) ?_
      exact (Go_s hg) _ _ dX0_pairAt_26
set_option maxHeartbeats 4000000 in
set_option maxRecDepth 100000 in
theorem zc_X0_pairAt (l : Launch) (D : va_G) (κ : Nat → ClassId) (t : Nat → Nat) (mk : Nat) (ad : Nat → Nat → Nat) (t_size : Int) (t_lines : Nat) (n1 : Nat) (i2 : Int) (out : Int) (h : zf_X0_pairAt mk t_size t_lines n1 i2 = some out) : Met l yX0_pairAt wsX0_pairAt zr_X0_pairAt (va_Pc [.ref (t 0), .ref (ad n1 0), .int (zi i2)] (zRa D κ mk ad ([((t 0), .inr (0, [.ref (t 1), .int (zi t_size)])), ((t 1), .inl (κ 1, 27, .inl (zc t_lines)))]))) (vp_Si (fun x => x = zi out)) 0 0 (fun _ => False) := by
  refine Met.ofW (cc := cX0_pairAt) (maxL := 3) (ret := (some .int)) (by decide +kernel) rfl ?_
  intro p e s m args below meth c s₁ B hml hv
  obtain ⟨rfl, hP, hK, hB⟩ := hv
  have hx := B.exec
  have hb := B.bytes
  have hr := B.returns
  have hts := atoms_spec (ws := wsX0_pairAt) B.pre
  have hown : s.vm.findClass RX0 = some m.cls := findClass_of_methodNamed B.named
  have hlocks := B.notSynchronized
  have hl := lv_entry ([.ref (t 0), .ref (ad n1 0), .int (zi i2)]) (n := 3) (Nat.le_of_ble_eq_true rfl)
  rw [lg_entry_eq]
  generalize (lg_sl ([.ref (t 0), .ref (ad n1 0), .int (zi i2)]) ++ List.replicate (3 - (lg_sl ([.ref (t 0), .ref (ad n1 0), .int (zi i2)])).length) Slot.unset).toArray = ls at hl ⊢
  have hl : lv_has ls 3 [(0, .ref (t 0)), (1, .ref (ad n1 0)), (2, .int (zi i2))] := hl
  refine zs_X0_pairAt t mk ad t_size t_lines n1 i2 hx hb hml hown hts hK hP hB ls hl ⟨out, h, ?_⟩
  exact fun ls pc hd => W.iret hx hb hr (fun t ht hW => ⟨_, rfl, rfl, ht⟩) (fun _ h => by cases h) hd
/-! DiamondRows$CrossedLines.sharedWithNext(LDiamondRows$Polygon;I)I -/
abbrev zr_X0_sharedWithNext : Room := { frames := 2, cells := 0, slots := 0, locals := 42 }
noncomputable def zf_X0_sharedWithNext (mk : Nat) (t_size : Int) (t_lines : Nat) (n1 : Nat) (i2 : Int) : Option (Int) :=
  if zout i2 then none else
  if i2 < 0 then
  some ((-1 : Int))
  else
  if zout (t_size - (1 : Int)) then none else
  if i2 < (t_size - (1 : Int)) then
  if i2 < 0 ∨ 27 ≤ i2 then none else
  if zno mk n1 then none else
  Option.bind (zf_X5_lesserOf n1 (zget t_lines (Int.toNat i2))) (fun o5 =>
  if (i2 + (1 : Int)) < 0 ∨ 27 ≤ (i2 + (1 : Int)) then none else
  Option.bind (zf_X5_lesserOf n1 (zget t_lines (Int.toNat (i2 + (1 : Int))))) (fun o7 =>
  Option.bind (zf_X5_greaterOf n1 (zget t_lines (Int.toNat (i2 + (1 : Int))))) (fun o8 =>
  if zout o5 then none else
  if zout o7 then none else
  if o5 = o7 then
  some (o5)
  else
  if zout o8 then none else
  if o5 = o8 then
  some (o5)
  else
  Option.bind (zf_X5_greaterOf n1 (zget t_lines (Int.toNat i2))) (fun o12 =>
  some (o12)))))
  else
  some ((-1 : Int))
theorem zi_X0_sharedWithNext_X0 : ∀ w ∈ u_ws RX0 TX0 2, w ∈ wsX0_sharedWithNext := fun w h => (List.mem_cons_of_mem _ (List.mem_append_right _ (List.mem_append_left _ h)))
theorem zl_X0_sharedWithNext_9 : Cond.fieldLink RX0 9 "DiamondRows$CrossedLines" "lines" "[I" ∈ wsX0_sharedWithNext := (List.mem_cons_of_mem _ (List.mem_append_left _ (List.mem_of_getElem? (i := 1) rfl)))
theorem zl_X0_sharedWithNext_15 : Cond.fieldLink RX0 15 "DiamondRows$CrossedLines" "size" "I" ∈ wsX0_sharedWithNext := (List.mem_cons_of_mem _ (List.mem_append_left _ (List.mem_of_getElem? (i := 0) rfl)))
def zQ_X0_sharedWithNext (p : Program) (l : Launch) (e : Env) (s : State) (m : MethodId) (args : Array Value) (below : List Frame) (meth : Method) (c : Code) (Q : State → Prop) (H : Heap) (locs : List Loc)  (o : Int) : Prop := ∀ (ls : Array Slot) (pc : Nat), decode cX0_sharedWithNext pc = .ok (.ireturn, 1) → W p l e zr_X0_sharedWithNext s m args below meth c H locs 0 0 Q (F0 m pc ls [.int (zi o)])
set_option maxHeartbeats 4000000 in
set_option maxRecDepth 100000 in
theorem zs_X0_sharedWithNext {p : Program} {l : Launch} {e : Env} {s : State} {m : MethodId} {args : Array Value} {below : List Frame} {meth : Method} {c : Code} {Q : State → Prop} {D : va_G} {κ : Nat → ClassId} {H : Heap} {locs : List Loc} (t : Nat → Nat) (mk : Nat) (ad : Nat → Nat → Nat) (t_size : Int) (t_lines : Nat) (n1 : Nat) (i2 : Int) (hx : p.tables.exec = Jvm.exec) (hb : c.code = cX0_sharedWithNext) (hml : c.maxLocals = 6) (hown : s.vm.findClass RX0 = some m.cls) (hts : ∀ w ∈ wsX0_sharedWithNext, w.before args s = true) (hK : va_K D vwCl (zTY κ) s) (hP : va_P D vwCl ([((t 0), .inr (0, [.ref (t 1), .int (zi t_size)])), ((t 1), .inl (κ 1, 27, .inl (zc t_lines)))]) H) (hB : zAmb D κ mk ad H) (ls : Array Slot) (hl : lv_has ls 6 [(0, .ref (t 0)), (1, .ref (ad n1 0)), (2, .int (zi i2))]) (hg : Go (zQ_X0_sharedWithNext p l e s m args below meth c Q H locs) (zf_X0_sharedWithNext mk t_size t_lines n1 i2)) : W p l e zr_X0_sharedWithNext s m args below meth c H locs 0 0 Q (F0 m 0 ls []) := by
  unfold zf_X0_sharedWithNext at hg
  refine lv_iload_n hx hb dX0_sharedWithNext_0 rfl (lv_at hl 2 rfl) ?_
  obtain ⟨b1, hg⟩ := Go_n hg
  refine zv_if_lt (tgt := 14) hx hb dX0_sharedWithNext_1 (by decide) b1 (fun c16 => ?_) (fun c16 => ?_)
  · have hg := Go_t c16 hg
    refine zv_iconst hx hb dX0_sharedWithNext_14 ?_
    exact (Go_s hg) _ _ dX0_sharedWithNext_15
  · have hg := Go_f c16 hg
    refine lv_iload_n hx hb dX0_sharedWithNext_4 rfl (lv_at hl 2 rfl) ?_
    refine lv_aload_n hx hb dX0_sharedWithNext_5 rfl (lv_at hl 0 rfl) ?_
    refine va_get (D := D) (ci := 0) (v := .int (zi t_size)) (C := RX0) (T := TX0) (N := 2) hx hb hts zi_X0_sharedWithNext_X0 hown hK hP 0 rfl rfl 1 (by decide) (hts (.fieldLink RX0 15 "DiamondRows$CrossedLines" "size" "I") zl_X0_sharedWithNext_15) (fun _ h9 => h9) rfl dX0_sharedWithNext_6 ?_
    refine zv_iconst hx hb dX0_sharedWithNext_9 ?_
    refine zv_isub hx hb dX0_sharedWithNext_10 ?_
    obtain ⟨b2, hg⟩ := Go_n hg
    refine zv_icmp_lt (tgt := 16) hx hb dX0_sharedWithNext_11 (by decide) b1 b2 (fun c15 => ?_) (fun c15 => ?_)
    · have hg := Go_t c15 hg
      refine lv_aload_n hx hb dX0_sharedWithNext_16 rfl (lv_at hl 1 rfl) ?_
      refine lv_aload_n hx hb dX0_sharedWithNext_17 rfl (lv_at hl 0 rfl) ?_
      refine va_get (D := D) (ci := 0) (v := .ref (t 1)) (C := RX0) (T := TX0) (N := 2) hx hb hts zi_X0_sharedWithNext_X0 hown hK hP 0 rfl rfl 0 (by decide) (hts (.fieldLink RX0 9 "DiamondRows$CrossedLines" "lines" "[I") zl_X0_sharedWithNext_9) (fun _ h9 => h9) rfl dX0_sharedWithNext_18 ?_
      refine lv_iload_n hx hb dX0_sharedWithNext_21 rfl (lv_at hl 2 rfl) ?_
      obtain ⟨n3, hg⟩ := Go_n hg
      refine zv_iald hx hb hK hP 1 1 rfl rfl (by decide) n3 dX0_sharedWithNext_22 ?_
      obtain ⟨m4, hg⟩ := Go_n hg
      obtain ⟨o5, ho5, hg⟩ := Go_b hg
      refine zc_vi (rest := []) ⟨hx, hb, hml, hown, hts⟩ (zc_X5_lesserOf l D κ (ad n1) n1 (zget t_lines (Int.toNat i2)) o5 ho5) (cwV 1 hts gX0_sharedWithNext_X5_lesserOf rfl rfl rfl hv_X5_lesserOf ⟨Nat.le_of_ble_eq_true rfl, Nat.le_of_ble_eq_true rfl⟩) (zpreV hK (hB n1 m4) 5 0 rfl rfl) rfl hl.1 rfl (Nat.le_of_ble_eq_true rfl) dX0_sharedWithNext_23 ⟨Nat.zero_le _, Nat.zero_le _⟩ ?_
      refine lv_istore_n (lv' := [(3, .int (zi o5)), (0, .ref (t 0)), (1, .ref (ad n1 0)), (2, .int (zi i2))]) hx hb dX0_sharedWithNext_26 rfl hl (by decide) rfl (fun ls hl => ?_)
      refine lv_aload_n hx hb dX0_sharedWithNext_27 rfl (lv_at hl 2 rfl) ?_
      refine lv_aload_n hx hb dX0_sharedWithNext_28 rfl (lv_at hl 1 rfl) ?_
      refine va_get (D := D) (ci := 0) (v := .ref (t 1)) (C := RX0) (T := TX0) (N := 2) hx hb hts zi_X0_sharedWithNext_X0 hown hK hP 0 rfl rfl 0 (by decide) (hts (.fieldLink RX0 9 "DiamondRows$CrossedLines" "lines" "[I") zl_X0_sharedWithNext_9) (fun _ h9 => h9) rfl dX0_sharedWithNext_29 ?_
      refine lv_iload_n hx hb dX0_sharedWithNext_32 rfl (lv_at hl 3 rfl) ?_
      refine zv_iconst hx hb dX0_sharedWithNext_33 ?_
      refine zv_iadd hx hb dX0_sharedWithNext_34 ?_
      obtain ⟨n6, hg⟩ := Go_n hg
      refine zv_iald hx hb hK hP 1 1 rfl rfl (by decide) n6 dX0_sharedWithNext_35 ?_
      obtain ⟨o7, ho7, hg⟩ := Go_b hg
      refine zc_vi (rest := []) ⟨hx, hb, hml, hown, hts⟩ (zc_X5_lesserOf l D κ (ad n1) n1 (zget t_lines (Int.toNat (i2 + (1 : Int)))) o7 ho7) (cwV 1 hts gX0_sharedWithNext_X5_lesserOf rfl rfl rfl hv_X5_lesserOf ⟨Nat.le_of_ble_eq_true rfl, Nat.le_of_ble_eq_true rfl⟩) (zpreV hK (hB n1 m4) 5 0 rfl rfl) rfl hl.1 rfl (Nat.le_of_ble_eq_true rfl) dX0_sharedWithNext_36 ⟨Nat.zero_le _, Nat.zero_le _⟩ ?_
      refine lv_istore (lv' := [(4, .int (zi o7)), (3, .int (zi o5)), (0, .ref (t 0)), (1, .ref (ad n1 0)), (2, .int (zi i2))]) hx hb dX0_sharedWithNext_39 hl (by decide) rfl (fun ls hl => ?_)
      refine lv_aload_n hx hb dX0_sharedWithNext_41 rfl (lv_at hl 3 rfl) ?_
      refine lv_aload_n hx hb dX0_sharedWithNext_42 rfl (lv_at hl 2 rfl) ?_
      refine va_get (D := D) (ci := 0) (v := .ref (t 1)) (C := RX0) (T := TX0) (N := 2) hx hb hts zi_X0_sharedWithNext_X0 hown hK hP 0 rfl rfl 0 (by decide) (hts (.fieldLink RX0 9 "DiamondRows$CrossedLines" "lines" "[I") zl_X0_sharedWithNext_9) (fun _ h9 => h9) rfl dX0_sharedWithNext_43 ?_
      refine lv_iload_n hx hb dX0_sharedWithNext_46 rfl (lv_at hl 4 rfl) ?_
      refine zv_iconst hx hb dX0_sharedWithNext_47 ?_
      refine zv_iadd hx hb dX0_sharedWithNext_48 ?_
      refine zv_iald hx hb hK hP 1 1 rfl rfl (by decide) n6 dX0_sharedWithNext_49 ?_
      obtain ⟨o8, ho8, hg⟩ := Go_b hg
      refine zc_vi (rest := []) ⟨hx, hb, hml, hown, hts⟩ (zc_X5_greaterOf l D κ (ad n1) n1 (zget t_lines (Int.toNat (i2 + (1 : Int)))) o8 ho8) (cwV 1 hts gX0_sharedWithNext_X5_greaterOf rfl rfl rfl hv_X5_greaterOf ⟨Nat.le_of_ble_eq_true rfl, Nat.le_of_ble_eq_true rfl⟩) (zpreV hK (hB n1 m4) 5 0 rfl rfl) rfl hl.1 rfl (Nat.le_of_ble_eq_true rfl) dX0_sharedWithNext_50 ⟨Nat.zero_le _, Nat.zero_le _⟩ ?_
      refine lv_istore (lv' := [(5, .int (zi o8)), (4, .int (zi o7)), (3, .int (zi o5)), (0, .ref (t 0)), (1, .ref (ad n1 0)), (2, .int (zi i2))]) hx hb dX0_sharedWithNext_53 hl (by decide) rfl (fun ls hl => ?_)
      refine lv_iload_n hx hb dX0_sharedWithNext_55 rfl (lv_at hl 2 rfl) ?_
      refine lv_iload hx hb dX0_sharedWithNext_56 (lv_at hl 1 rfl) ?_
      obtain ⟨b9, hg⟩ := Go_n hg
      obtain ⟨b10, hg⟩ := Go_n hg
      refine zv_icmp_eq (tgt := 67) hx hb dX0_sharedWithNext_58 (by decide) b9 b10 (fun c14 => ?_) (fun c14 => ?_)
      · have hg := Go_t c14 hg
        refine lv_iload_n hx hb dX0_sharedWithNext_67 rfl (lv_at hl 2 rfl) ?_
        refine lv_goto (tgt := 81) hx hb dX0_sharedWithNext_68 (by decide) ?_
        exact (Go_s hg) _ _ dX0_sharedWithNext_81
      · have hg := Go_f c14 hg
        refine lv_iload_n hx hb dX0_sharedWithNext_61 rfl (lv_at hl 2 rfl) ?_
        refine lv_iload hx hb dX0_sharedWithNext_62 (lv_at hl 0 rfl) ?_
        obtain ⟨b11, hg⟩ := Go_n hg
        refine zv_icmp_ne (tgt := 71) hx hb dX0_sharedWithNext_64 (by decide) b9 b11 (fun c13 => ?_) (fun c13 => ?_)
        · have hg := Go_f c13 hg
          refine lv_aload_n hx hb dX0_sharedWithNext_71 rfl (lv_at hl 4 rfl) ?_
          refine lv_aload_n hx hb dX0_sharedWithNext_72 rfl (lv_at hl 3 rfl) ?_
          refine va_get (D := D) (ci := 0) (v := .ref (t 1)) (C := RX0) (T := TX0) (N := 2) hx hb hts zi_X0_sharedWithNext_X0 hown hK hP 0 rfl rfl 0 (by decide) (hts (.fieldLink RX0 9 "DiamondRows$CrossedLines" "lines" "[I") zl_X0_sharedWithNext_9) (fun _ h9 => h9) rfl dX0_sharedWithNext_73 ?_
          refine lv_iload_n hx hb dX0_sharedWithNext_76 rfl (lv_at hl 5 rfl) ?_
          refine zv_iald hx hb hK hP 1 1 rfl rfl (by decide) n3 dX0_sharedWithNext_77 ?_
          obtain ⟨o12, ho12, hg⟩ := Go_b hg
          refine zc_vi (rest := []) ⟨hx, hb, hml, hown, hts⟩ (zc_X5_greaterOf l D κ (ad n1) n1 (zget t_lines (Int.toNat i2)) o12 ho12) (cwV 1 hts gX0_sharedWithNext_X5_greaterOf rfl rfl rfl hv_X5_greaterOf ⟨Nat.le_of_ble_eq_true rfl, Nat.le_of_ble_eq_true rfl⟩) (zpreV hK (hB n1 m4) 5 0 rfl rfl) rfl hl.1 rfl (Nat.le_of_ble_eq_true rfl) dX0_sharedWithNext_78 ⟨Nat.zero_le _, Nat.zero_le _⟩ ?_
          exact (Go_s hg) _ _ dX0_sharedWithNext_81
        · have hg := Go_t c13 hg
          refine lv_iload_n hx hb dX0_sharedWithNext_67 rfl (lv_at hl 2 rfl) ?_
          refine lv_goto (tgt := 81) hx hb dX0_sharedWithNext_68 (by decide) ?_
          exact (Go_s hg) _ _ dX0_sharedWithNext_81
    · have hg := Go_f c15 hg
      refine zv_iconst hx hb dX0_sharedWithNext_14 ?_
      exact (Go_s hg) _ _ dX0_sharedWithNext_15
set_option maxHeartbeats 4000000 in
set_option maxRecDepth 100000 in
theorem zc_X0_sharedWithNext (l : Launch) (D : va_G) (κ : Nat → ClassId) (t : Nat → Nat) (mk : Nat) (ad : Nat → Nat → Nat) (t_size : Int) (t_lines : Nat) (n1 : Nat) (i2 : Int) (out : Int) (h : zf_X0_sharedWithNext mk t_size t_lines n1 i2 = some out) : Met l yX0_sharedWithNext wsX0_sharedWithNext zr_X0_sharedWithNext (va_Pc [.ref (t 0), .ref (ad n1 0), .int (zi i2)] (zRa D κ mk ad ([((t 0), .inr (0, [.ref (t 1), .int (zi t_size)])), ((t 1), .inl (κ 1, 27, .inl (zc t_lines)))]))) (vp_Si (fun x => x = zi out)) 0 0 (fun _ => False) := by
  refine Met.ofW (cc := cX0_sharedWithNext) (maxL := 6) (ret := (some .int)) (by decide +kernel) rfl ?_
  intro p e s m args below meth c s₁ B hml hv
  obtain ⟨rfl, hP, hK, hB⟩ := hv
  have hx := B.exec
  have hb := B.bytes
  have hr := B.returns
  have hts := atoms_spec (ws := wsX0_sharedWithNext) B.pre
  have hown : s.vm.findClass RX0 = some m.cls := findClass_of_methodNamed B.named
  have hlocks := B.notSynchronized
  have hl := lv_entry ([.ref (t 0), .ref (ad n1 0), .int (zi i2)]) (n := 6) (Nat.le_of_ble_eq_true rfl)
  rw [lg_entry_eq]
  generalize (lg_sl ([.ref (t 0), .ref (ad n1 0), .int (zi i2)]) ++ List.replicate (6 - (lg_sl ([.ref (t 0), .ref (ad n1 0), .int (zi i2)])).length) Slot.unset).toArray = ls at hl ⊢
  have hl : lv_has ls 6 [(0, .ref (t 0)), (1, .ref (ad n1 0)), (2, .int (zi i2))] := hl
  refine zs_X0_sharedWithNext t mk ad t_size t_lines n1 i2 hx hb hml hown hts hK hP hB ls hl ⟨out, h, ?_⟩
  exact fun ls pc hd => W.iret hx hb hr (fun t ht hW => ⟨_, rfl, rfl, ht⟩) (fun _ h => by cases h) hd
end

section
/-! DiamondRows$Flips.comeTo(II)V -/
abbrev zr_X4_comeTo : Room := { frames := 0, cells := 0, slots := 0, locals := 0 }
noncomputable def zf_X4_comeTo  (t_queued : Int) (t_steps : Nat) (t_queue : Nat) (i1 : Int) (i2 : Int) : Option (Int × Nat × Nat) :=
  if zout i1 then none else
  if i1 < 0 then
  some (t_queued, t_steps, t_queue)
  else
  if (429 : Int) ≤ i1 then
  some (t_queued, t_steps, t_queue)
  else
  if i1 < 0 ∨ 429 ≤ i1 then none else
  if (zget t_steps (Int.toNat i1)) = (-1 : Int) then
  if zout t_queued then none else
  if (429 : Int) ≤ t_queued then
  some (t_queued, t_steps, t_queue)
  else
  if t_queued < 0 ∨ 429 ≤ t_queued then none else
  some ((t_queued + (1 : Int)), (zset t_steps (Int.toNat i1) i2), (zset t_queue (Int.toNat t_queued) i1))
  else
  some (t_queued, t_steps, t_queue)
theorem zi_X4_comeTo_X4 : ∀ w ∈ u_ws RX4 TX4 5, w ∈ wsX4_comeTo := fun w h => (List.mem_cons_of_mem _ (List.mem_append_right _ h))
theorem zl_X4_comeTo_9 : Cond.fieldLink RX4 9 "DiamondRows$Flips" "steps" "[I" ∈ wsX4_comeTo := (List.mem_cons_of_mem _ (List.mem_append_left _ (List.mem_of_getElem? (i := 0) rfl)))
theorem zl_X4_comeTo_15 : Cond.fieldLink RX4 15 "DiamondRows$Flips" "queue" "[I" ∈ wsX4_comeTo := (List.mem_cons_of_mem _ (List.mem_append_left _ (List.mem_of_getElem? (i := 2) rfl)))
theorem zl_X4_comeTo_21 : Cond.fieldLink RX4 21 "DiamondRows$Flips" "queued" "I" ∈ wsX4_comeTo := (List.mem_cons_of_mem _ (List.mem_append_left _ (List.mem_of_getElem? (i := 1) rfl)))
def zQ_X4_comeTo (p : Program) (l : Launch) (e : Env) (s : State) (m : MethodId) (args : Array Value) (below : List Frame) (meth : Method) (c : Code) (Q : State → Prop) (D : va_G) (κ : Nat → ClassId) (A : Nat → Prop) (H0 : Heap) (t : Nat → Nat) (t_wayLength : Int) (t_way : Nat) (o : Int × Nat × Nat) : Prop := ∀ (H : Heap) (locs : List Loc) (ls : Array Slot) (pc : Nat), va_P D vwCl ([((t 0), .inr (4, [.ref (t 1), .ref (t 2), .ref (t 3), .int (zi t_wayLength), .int (zi (o.1))])), ((t 1), .inl (κ 1, 429, .inl (zc (o.2.1)))), ((t 2), .inl (κ 1, 429, .inl (zc (o.2.2)))), ((t 3), .inl (κ 1, 429, .inl (zc t_way)))]) H → va_D A ([((t 0), .inr (4, [.ref (t 1), .ref (t 2), .ref (t 3), .int (zi t_wayLength), .int (zi (o.1))])), ((t 1), .inl (κ 1, 429, .inl (zc (o.2.1)))), ((t 2), .inl (κ 1, 429, .inl (zc (o.2.2)))), ((t 3), .inl (κ 1, 429, .inl (zc t_way)))]) → va_S A H0 H locs → decode cX4_comeTo pc = .ok (.return_, 1) → W p l e zr_X4_comeTo s m args below meth c H locs 0 0 Q (F0 m pc ls [])
set_option maxHeartbeats 4000000 in
set_option maxRecDepth 100000 in
theorem zs_X4_comeTo {p : Program} {l : Launch} {e : Env} {s : State} {m : MethodId} {args : Array Value} {below : List Frame} {meth : Method} {c : Code} {Q : State → Prop} {D : va_G} {κ : Nat → ClassId} {A : Nat → Prop} {H0 : Heap} (t : Nat → Nat) (t_wayLength : Int) (t_queued : Int) (t_steps : Nat) (t_queue : Nat) (t_way : Nat) (i1 : Int) (i2 : Int) (hx : p.tables.exec = Jvm.exec) (hb : c.code = cX4_comeTo) (hml : c.maxLocals = 3) (hown : s.vm.findClass RX4 = some m.cls) (hts : ∀ w ∈ wsX4_comeTo, w.before args s = true) (hK : va_K D vwCl (zTY κ) s) (hA : ∀ q : Nat, H0.size ≤ q → A q) (H : Heap) (locs : List Loc) (ls : Array Slot) (hP : va_P D vwCl ([((t 0), .inr (4, [.ref (t 1), .ref (t 2), .ref (t 3), .int (zi t_wayLength), .int (zi t_queued)])), ((t 1), .inl (κ 1, 429, .inl (zc t_steps))), ((t 2), .inl (κ 1, 429, .inl (zc t_queue))), ((t 3), .inl (κ 1, 429, .inl (zc t_way)))]) H) (hD : va_D A ([((t 0), .inr (4, [.ref (t 1), .ref (t 2), .ref (t 3), .int (zi t_wayLength), .int (zi t_queued)])), ((t 1), .inl (κ 1, 429, .inl (zc t_steps))), ((t 2), .inl (κ 1, 429, .inl (zc t_queue))), ((t 3), .inl (κ 1, 429, .inl (zc t_way)))])) (hS : va_S A H0 H locs) (hl : lv_has ls 3 [(0, .ref (t 0)), (1, .int (zi i1)), (2, .int (zi i2))]) (hg : Go (zQ_X4_comeTo p l e s m args below meth c Q D κ A H0 t t_wayLength t_way) (zf_X4_comeTo t_queued t_steps t_queue i1 i2)) : W p l e zr_X4_comeTo s m args below meth c H locs 0 0 Q (F0 m 0 ls []) := by
  unfold zf_X4_comeTo at hg
  refine lv_iload_n hx hb dX4_comeTo_0 rfl (lv_at hl 1 rfl) ?_
  obtain ⟨b1, hg⟩ := Go_n hg
  refine zv_if_lt (tgt := 58) hx hb dX4_comeTo_1 (by decide) b1 (fun c8 => ?_) (fun c8 => ?_)
  · have hg := Go_t c8 hg
    exact (Go_s hg) _ _ _ _ hP hD hS dX4_comeTo_58
  · have hg := Go_f c8 hg
    refine lv_iload_n hx hb dX4_comeTo_4 rfl (lv_at hl 1 rfl) ?_
    refine zv_sipush hx hb dX4_comeTo_5 (by decide) ?_
    refine zv_icmp_ge (tgt := 58) hx hb dX4_comeTo_8 (by decide) b1 (by decide) (fun c7 => ?_) (fun c7 => ?_)
    · have hg := Go_t c7 hg
      exact (Go_s hg) _ _ _ _ hP hD hS dX4_comeTo_58
    · have hg := Go_f c7 hg
      refine lv_aload_n hx hb dX4_comeTo_11 rfl (lv_at hl 0 rfl) ?_
      refine va_get (D := D) (ci := 4) (v := .ref (t 1)) (C := RX4) (T := TX4) (N := 5) hx hb hts zi_X4_comeTo_X4 hown hK hP 0 rfl rfl 0 (by decide) (hts (.fieldLink RX4 9 "DiamondRows$Flips" "steps" "[I") zl_X4_comeTo_9) (fun _ h9 => h9) rfl dX4_comeTo_12 ?_
      refine lv_iload_n hx hb dX4_comeTo_15 rfl (lv_at hl 1 rfl) ?_
      obtain ⟨n2, hg⟩ := Go_n hg
      refine zv_iald hx hb hK hP 1 1 rfl rfl (by decide) n2 dX4_comeTo_16 ?_
      refine zv_iconst hx hb dX4_comeTo_17 ?_
      refine zv_icmp_ne (tgt := 58) hx hb dX4_comeTo_18 (by decide) (zget_in _ _) (by decide) (fun c6 => ?_) (fun c6 => ?_)
      · have hg := Go_f c6 hg
        exact (Go_s hg) _ _ _ _ hP hD hS dX4_comeTo_58
      · have hg := Go_t c6 hg
        refine lv_aload_n hx hb dX4_comeTo_21 rfl (lv_at hl 0 rfl) ?_
        refine va_get (D := D) (ci := 4) (v := .int (zi t_queued)) (C := RX4) (T := TX4) (N := 5) hx hb hts zi_X4_comeTo_X4 hown hK hP 0 rfl rfl 4 (by decide) (hts (.fieldLink RX4 21 "DiamondRows$Flips" "queued" "I") zl_X4_comeTo_21) (fun _ h9 => h9) rfl dX4_comeTo_22 ?_
        refine zv_sipush hx hb dX4_comeTo_25 (by decide) ?_
        obtain ⟨b3, hg⟩ := Go_n hg
        refine zv_icmp_ge (tgt := 58) hx hb dX4_comeTo_28 (by decide) b3 (by decide) (fun c5 => ?_) (fun c5 => ?_)
        · have hg := Go_t c5 hg
          exact (Go_s hg) _ _ _ _ hP hD hS dX4_comeTo_58
        · have hg := Go_f c5 hg
          refine lv_aload_n hx hb dX4_comeTo_31 rfl (lv_at hl 0 rfl) ?_
          refine va_get (D := D) (ci := 4) (v := .ref (t 1)) (C := RX4) (T := TX4) (N := 5) hx hb hts zi_X4_comeTo_X4 hown hK hP 0 rfl rfl 0 (by decide) (hts (.fieldLink RX4 9 "DiamondRows$Flips" "steps" "[I") zl_X4_comeTo_9) (fun _ h9 => h9) rfl dX4_comeTo_32 ?_
          refine lv_iload_n hx hb dX4_comeTo_35 rfl (lv_at hl 1 rfl) ?_
          refine lv_iload_n hx hb dX4_comeTo_36 rfl (lv_at hl 2 rfl) ?_
          refine zv_iast hx hb hK hP hD hS 1 1 rfl rfl (by decide) n2 dX4_comeTo_37 (fun H locs hP hD hS => ?_)
          have hP : va_P D vwCl ([((t 0), .inr (4, [.ref (t 1), .ref (t 2), .ref (t 3), .int (zi t_wayLength), .int (zi t_queued)])), ((t 1), .inl (κ 1, 429, .inl (zc (zset t_steps (Int.toNat i1) i2)))), ((t 2), .inl (κ 1, 429, .inl (zc t_queue))), ((t 3), .inl (κ 1, 429, .inl (zc t_way)))]) H := hP
          have hD : va_D A ([((t 0), .inr (4, [.ref (t 1), .ref (t 2), .ref (t 3), .int (zi t_wayLength), .int (zi t_queued)])), ((t 1), .inl (κ 1, 429, .inl (zc (zset t_steps (Int.toNat i1) i2)))), ((t 2), .inl (κ 1, 429, .inl (zc t_queue))), ((t 3), .inl (κ 1, 429, .inl (zc t_way)))]) := hD
          refine lv_aload_n hx hb dX4_comeTo_38 rfl (lv_at hl 0 rfl) ?_
          refine va_get (D := D) (ci := 4) (v := .ref (t 2)) (C := RX4) (T := TX4) (N := 5) hx hb hts zi_X4_comeTo_X4 hown hK hP 0 rfl rfl 1 (by decide) (hts (.fieldLink RX4 15 "DiamondRows$Flips" "queue" "[I") zl_X4_comeTo_15) (fun _ h9 => h9) rfl dX4_comeTo_39 ?_
          refine lv_aload_n hx hb dX4_comeTo_42 rfl (lv_at hl 0 rfl) ?_
          refine va_get (D := D) (ci := 4) (v := .int (zi t_queued)) (C := RX4) (T := TX4) (N := 5) hx hb hts zi_X4_comeTo_X4 hown hK hP 0 rfl rfl 4 (by decide) (hts (.fieldLink RX4 21 "DiamondRows$Flips" "queued" "I") zl_X4_comeTo_21) (fun _ h9 => h9) rfl dX4_comeTo_43 ?_
          refine lv_iload_n hx hb dX4_comeTo_46 rfl (lv_at hl 1 rfl) ?_
          obtain ⟨n4, hg⟩ := Go_n hg
          refine zv_iast hx hb hK hP hD hS 2 1 rfl rfl (by decide) n4 dX4_comeTo_47 (fun H locs hP hD hS => ?_)
          have hP : va_P D vwCl ([((t 0), .inr (4, [.ref (t 1), .ref (t 2), .ref (t 3), .int (zi t_wayLength), .int (zi t_queued)])), ((t 1), .inl (κ 1, 429, .inl (zc (zset t_steps (Int.toNat i1) i2)))), ((t 2), .inl (κ 1, 429, .inl (zc (zset t_queue (Int.toNat t_queued) i1)))), ((t 3), .inl (κ 1, 429, .inl (zc t_way)))]) H := hP
          have hD : va_D A ([((t 0), .inr (4, [.ref (t 1), .ref (t 2), .ref (t 3), .int (zi t_wayLength), .int (zi t_queued)])), ((t 1), .inl (κ 1, 429, .inl (zc (zset t_steps (Int.toNat i1) i2)))), ((t 2), .inl (κ 1, 429, .inl (zc (zset t_queue (Int.toNat t_queued) i1)))), ((t 3), .inl (κ 1, 429, .inl (zc t_way)))]) := hD
          refine lv_aload_n hx hb dX4_comeTo_48 rfl (lv_at hl 0 rfl) ?_
          refine lv_dup hx hb dX4_comeTo_49 rfl ?_
          refine va_get (D := D) (ci := 4) (v := .int (zi t_queued)) (C := RX4) (T := TX4) (N := 5) hx hb hts zi_X4_comeTo_X4 hown hK hP 0 rfl rfl 4 (by decide) (hts (.fieldLink RX4 21 "DiamondRows$Flips" "queued" "I") zl_X4_comeTo_21) (fun _ h9 => h9) rfl dX4_comeTo_50 ?_
          refine zv_iconst hx hb dX4_comeTo_53 ?_
          refine zv_iadd hx hb dX4_comeTo_54 ?_
          refine va_put (D := D) (ci := 4) (v := .int (zi (t_queued + (1 : Int)))) (ty := .int) (C := RX4) (T := TX4) (N := 5) hx hb hts zi_X4_comeTo_X4 tyX4 tyX4_ok nmX4 hown hK hP hD hS 0 rfl rfl 4 (by decide) (hts (.fieldLink RX4 21 "DiamondRows$Flips" "queued" "I") zl_X4_comeTo_21) (fun _ h9 => h9) rfl (by decide +kernel) rfl rfl (Nat.le_of_ble_eq_true rfl) dX4_comeTo_55 (fun H locs hP hD hS => ?_)
          have hP : va_P D vwCl ([((t 0), .inr (4, [.ref (t 1), .ref (t 2), .ref (t 3), .int (zi t_wayLength), .int (zi (t_queued + (1 : Int)))])), ((t 1), .inl (κ 1, 429, .inl (zc (zset t_steps (Int.toNat i1) i2)))), ((t 2), .inl (κ 1, 429, .inl (zc (zset t_queue (Int.toNat t_queued) i1)))), ((t 3), .inl (κ 1, 429, .inl (zc t_way)))]) H := hP
          have hD : va_D A ([((t 0), .inr (4, [.ref (t 1), .ref (t 2), .ref (t 3), .int (zi t_wayLength), .int (zi (t_queued + (1 : Int)))])), ((t 1), .inl (κ 1, 429, .inl (zc (zset t_steps (Int.toNat i1) i2)))), ((t 2), .inl (κ 1, 429, .inl (zc (zset t_queue (Int.toNat t_queued) i1)))), ((t 3), .inl (κ 1, 429, .inl (zc t_way)))]) := hD
          exact (Go_s hg) _ _ _ _ hP hD hS dX4_comeTo_58
set_option maxHeartbeats 4000000 in
set_option maxRecDepth 100000 in
theorem zc_X4_comeTo (l : Launch) (D : va_G) (κ : Nat → ClassId) (t : Nat → Nat) (sz : Nat) (t_wayLength : Int) (t_queued : Int) (t_steps : Nat) (t_queue : Nat) (t_way : Nat) (i1 : Int) (i2 : Int) (out : Int × Nat × Nat) (h : zf_X4_comeTo t_queued t_steps t_queue i1 i2 = some out) : Met l yX4_comeTo wsX4_comeTo zr_X4_comeTo (va_Pc [.ref (t 0), .int (zi i1), .int (zi i2)] (zW D κ ([((t 0), .inr (4, [.ref (t 1), .ref (t 2), .ref (t 3), .int (zi t_wayLength), .int (zi t_queued)])), ((t 1), .inl (κ 1, 429, .inl (zc t_steps))), ((t 2), .inl (κ 1, 429, .inl (zc t_queue))), ((t 3), .inl (κ 1, 429, .inl (zc t_way)))]) sz)) (va_Qv (fun (_ : Unit) => True) (fun _ => zB D κ (va_A ([((t 0), .inr (4, [.ref (t 1), .ref (t 2), .ref (t 3), .int (zi t_wayLength), .int (zi t_queued)])), ((t 1), .inl (κ 1, 429, .inl (zc t_steps))), ((t 2), .inl (κ 1, 429, .inl (zc t_queue))), ((t 3), .inl (κ 1, 429, .inl (zc t_way)))]) sz) ([((t 0), .inr (4, [.ref (t 1), .ref (t 2), .ref (t 3), .int (zi t_wayLength), .int (zi (out.1))])), ((t 1), .inl (κ 1, 429, .inl (zc (out.2.1)))), ((t 2), .inl (κ 1, 429, .inl (zc (out.2.2)))), ((t 3), .inl (κ 1, 429, .inl (zc t_way)))])) (va_A ([((t 0), .inr (4, [.ref (t 1), .ref (t 2), .ref (t 3), .int (zi t_wayLength), .int (zi t_queued)])), ((t 1), .inl (κ 1, 429, .inl (zc t_steps))), ((t 2), .inl (κ 1, 429, .inl (zc t_queue))), ((t 3), .inl (κ 1, 429, .inl (zc t_way)))]) sz)) 0 0 (va_A ([((t 0), .inr (4, [.ref (t 1), .ref (t 2), .ref (t 3), .int (zi t_wayLength), .int (zi t_queued)])), ((t 1), .inl (κ 1, 429, .inl (zc t_steps))), ((t 2), .inl (κ 1, 429, .inl (zc t_queue))), ((t 3), .inl (κ 1, 429, .inl (zc t_way)))]) sz) := by
  refine Met.ofW (cc := cX4_comeTo) (maxL := 3) (ret := none) (by decide +kernel) rfl ?_
  intro p e s m args below meth c s₁ B hml hv
  obtain ⟨rfl, hsz, hP, hK, hD0⟩ := hv
  have hx := B.exec
  have hb := B.bytes
  have hr := B.returns
  have hts := atoms_spec (ws := wsX4_comeTo) B.pre
  have hown : s.vm.findClass RX4 = some m.cls := findClass_of_methodNamed B.named
  have hlocks := B.notSynchronized
  subst hsz
  have hD := hD0.self (sz := s.heap.size)
  generalize hAe : va_A ([((t 0), .inr (4, [.ref (t 1), .ref (t 2), .ref (t 3), .int (zi t_wayLength), .int (zi t_queued)])), ((t 1), .inl (κ 1, 429, .inl (zc t_steps))), ((t 2), .inl (κ 1, 429, .inl (zc t_queue))), ((t 3), .inl (κ 1, 429, .inl (zc t_way)))]) s.heap.size = A at hD ⊢
  have hA : ∀ q : Nat, s.heap.size ≤ q → A q := fun q h => by rw [← hAe]; exact Or.inr h
  have hS : va_S A s.heap s.heap [] := va_S.rf
  have hl := lv_entry ([.ref (t 0), .int (zi i1), .int (zi i2)]) (n := 3) (Nat.le_of_ble_eq_true rfl)
  rw [lg_entry_eq]
  generalize (lg_sl ([.ref (t 0), .int (zi i1), .int (zi i2)]) ++ List.replicate (3 - (lg_sl ([.ref (t 0), .int (zi i1), .int (zi i2)])).length) Slot.unset).toArray = ls at hl ⊢
  have hl : lv_has ls 3 [(0, .ref (t 0)), (1, .int (zi i1)), (2, .int (zi i2))] := hl
  refine zs_X4_comeTo t t_wayLength t_queued t_steps t_queue t_way i1 i2 hx hb hml hown hts hK hA s.heap [] ls hP hD hS hl ⟨out, h, ?_⟩
  exact fun H locs ls pc hP hD hS hd => W.vret hx hb hr (fun t ht hW => ⟨⟨(), rfl, trivial, by rw [ht]; exact hP, va_K.moved hW.alike hK, hD⟩, hS.F ht⟩) hS.2.2 hd
/-! DiamondRows$Flips.stepsTo(I)I -/
abbrev zr_X4_stepsTo : Room := { frames := 0, cells := 0, slots := 0, locals := 0 }
noncomputable def zf_X4_stepsTo  (t_steps : Nat) (i1 : Int) : Option (Int) :=
  if zout i1 then none else
  if i1 < 0 then
  some ((-1 : Int))
  else
  if (429 : Int) ≤ i1 then
  some ((-1 : Int))
  else
  if i1 < 0 ∨ 429 ≤ i1 then none else
  some ((zget t_steps (Int.toNat i1)))
theorem zi_X4_stepsTo_X4 : ∀ w ∈ u_ws RX4 TX4 5, w ∈ wsX4_stepsTo := fun w h => (List.mem_cons_of_mem _ (List.mem_append_right _ h))
theorem zl_X4_stepsTo_9 : Cond.fieldLink RX4 9 "DiamondRows$Flips" "steps" "[I" ∈ wsX4_stepsTo := (List.mem_cons_of_mem _ (List.mem_append_left _ (List.mem_of_getElem? (i := 0) rfl)))
def zQ_X4_stepsTo (p : Program) (l : Launch) (e : Env) (s : State) (m : MethodId) (args : Array Value) (below : List Frame) (meth : Method) (c : Code) (Q : State → Prop) (H : Heap) (locs : List Loc)  (o : Int) : Prop := ∀ (ls : Array Slot) (pc : Nat), decode cX4_stepsTo pc = .ok (.ireturn, 1) → W p l e zr_X4_stepsTo s m args below meth c H locs 0 0 Q (F0 m pc ls [.int (zi o)])
set_option maxHeartbeats 4000000 in
set_option maxRecDepth 100000 in
theorem zs_X4_stepsTo {p : Program} {l : Launch} {e : Env} {s : State} {m : MethodId} {args : Array Value} {below : List Frame} {meth : Method} {c : Code} {Q : State → Prop} {D : va_G} {κ : Nat → ClassId} {H : Heap} {locs : List Loc} (t : Nat → Nat) (t_wayLength : Int) (t_queued : Int) (t_steps : Nat) (t_queue : Nat) (t_way : Nat) (i1 : Int) (hx : p.tables.exec = Jvm.exec) (hb : c.code = cX4_stepsTo) (hml : c.maxLocals = 2) (hown : s.vm.findClass RX4 = some m.cls) (hts : ∀ w ∈ wsX4_stepsTo, w.before args s = true) (hK : va_K D vwCl (zTY κ) s) (hP : va_P D vwCl ([((t 0), .inr (4, [.ref (t 1), .ref (t 2), .ref (t 3), .int (zi t_wayLength), .int (zi t_queued)])), ((t 1), .inl (κ 1, 429, .inl (zc t_steps))), ((t 2), .inl (κ 1, 429, .inl (zc t_queue))), ((t 3), .inl (κ 1, 429, .inl (zc t_way)))]) H) (ls : Array Slot) (hl : lv_has ls 2 [(0, .ref (t 0)), (1, .int (zi i1))]) (hg : Go (zQ_X4_stepsTo p l e s m args below meth c Q H locs) (zf_X4_stepsTo t_steps i1)) : W p l e zr_X4_stepsTo s m args below meth c H locs 0 0 Q (F0 m 0 ls []) := by
  unfold zf_X4_stepsTo at hg
  refine lv_iload_n hx hb dX4_stepsTo_0 rfl (lv_at hl 1 rfl) ?_
  obtain ⟨b1, hg⟩ := Go_n hg
  refine zv_if_lt (tgt := 20) hx hb dX4_stepsTo_1 (by decide) b1 (fun c4 => ?_) (fun c4 => ?_)
  · have hg := Go_t c4 hg
    refine zv_iconst hx hb dX4_stepsTo_20 ?_
    exact (Go_s hg) _ _ dX4_stepsTo_21
  · have hg := Go_f c4 hg
    refine lv_iload_n hx hb dX4_stepsTo_4 rfl (lv_at hl 1 rfl) ?_
    refine zv_sipush hx hb dX4_stepsTo_5 (by decide) ?_
    refine zv_icmp_ge (tgt := 20) hx hb dX4_stepsTo_8 (by decide) b1 (by decide) (fun c3 => ?_) (fun c3 => ?_)
    · have hg := Go_t c3 hg
      refine zv_iconst hx hb dX4_stepsTo_20 ?_
      exact (Go_s hg) _ _ dX4_stepsTo_21
    · have hg := Go_f c3 hg
      refine lv_aload_n hx hb dX4_stepsTo_11 rfl (lv_at hl 0 rfl) ?_
      refine va_get (D := D) (ci := 4) (v := .ref (t 1)) (C := RX4) (T := TX4) (N := 5) hx hb hts zi_X4_stepsTo_X4 hown hK hP 0 rfl rfl 0 (by decide) (hts (.fieldLink RX4 9 "DiamondRows$Flips" "steps" "[I") zl_X4_stepsTo_9) (fun _ h9 => h9) rfl dX4_stepsTo_12 ?_
      refine lv_iload_n hx hb dX4_stepsTo_15 rfl (lv_at hl 1 rfl) ?_
      obtain ⟨n2, hg⟩ := Go_n hg
      refine zv_iald hx hb hK hP 1 1 rfl rfl (by decide) n2 dX4_stepsTo_16 ?_
      refine lv_goto (tgt := 21) hx hb dX4_stepsTo_17 (by decide) ?_
      exact (Go_s hg) _ _ dX4_stepsTo_21
set_option maxHeartbeats 4000000 in
set_option maxRecDepth 100000 in
theorem zc_X4_stepsTo (l : Launch) (D : va_G) (κ : Nat → ClassId) (t : Nat → Nat) (t_wayLength : Int) (t_queued : Int) (t_steps : Nat) (t_queue : Nat) (t_way : Nat) (i1 : Int) (out : Int) (h : zf_X4_stepsTo t_steps i1 = some out) : Met l yX4_stepsTo wsX4_stepsTo zr_X4_stepsTo (va_Pc [.ref (t 0), .int (zi i1)] (zR D κ ([((t 0), .inr (4, [.ref (t 1), .ref (t 2), .ref (t 3), .int (zi t_wayLength), .int (zi t_queued)])), ((t 1), .inl (κ 1, 429, .inl (zc t_steps))), ((t 2), .inl (κ 1, 429, .inl (zc t_queue))), ((t 3), .inl (κ 1, 429, .inl (zc t_way)))]))) (vp_Si (fun x => x = zi out)) 0 0 (fun _ => False) := by
  refine Met.ofW (cc := cX4_stepsTo) (maxL := 2) (ret := (some .int)) (by decide +kernel) rfl ?_
  intro p e s m args below meth c s₁ B hml hv
  obtain ⟨rfl, hP, hK⟩ := hv
  have hx := B.exec
  have hb := B.bytes
  have hr := B.returns
  have hts := atoms_spec (ws := wsX4_stepsTo) B.pre
  have hown : s.vm.findClass RX4 = some m.cls := findClass_of_methodNamed B.named
  have hlocks := B.notSynchronized
  have hl := lv_entry ([.ref (t 0), .int (zi i1)]) (n := 2) (Nat.le_of_ble_eq_true rfl)
  rw [lg_entry_eq]
  generalize (lg_sl ([.ref (t 0), .int (zi i1)]) ++ List.replicate (2 - (lg_sl ([.ref (t 0), .int (zi i1)])).length) Slot.unset).toArray = ls at hl ⊢
  have hl : lv_has ls 2 [(0, .ref (t 0)), (1, .int (zi i1))] := hl
  refine zs_X4_stepsTo t t_wayLength t_queued t_steps t_queue t_way i1 hx hb hml hown hts hK hP ls hl ⟨out, h, ?_⟩
  exact fun ls pc hd => W.iret hx hb hr (fun t ht hW => ⟨_, rfl, rfl, ht⟩) (fun _ h => by cases h) hd
/-! DiamondRows$Flips.measure(LDiamondRows$Polygon;I)V -/
abbrev zr_X4_measure : Room := { frames := 3, cells := 0, slots := 0, locals := 65 }
abbrev zS_X4_measure : Type := Nat × Int × Int × Int × Int × Int × Nat × Nat
abbrev zO_X4_measure : Type := Int × Nat × Nat
noncomputable def zg_X4_measure_0 (mk : Nat) (n1 : Nat) (i2 : Int) (i3 : Int) (i4 : Int) (i5 : Int) (t_queued : Int) (t_steps : Nat) (t_queue : Nat) : Option (zO_X4_measure ⊕ zS_X4_measure) :=
  some (.inr (2, i2, (0 : Int), 0, 0, t_queued, t_steps, t_queue))
noncomputable def zg_X4_measure_2 (mk : Nat) (n1 : Nat) (i2 : Int) (i3 : Int) (i4 : Int) (i5 : Int) (t_queued : Int) (t_steps : Nat) (t_queue : Nat) : Option (zO_X4_measure ⊕ zS_X4_measure) :=
  if zout i3 then none else
  if (429 : Int) ≤ i3 then
  Option.bind (zf_X4_comeTo (0 : Int) t_steps t_queue i2 (0 : Int)) (fun o2 =>
  some (.inr (35, i2, (0 : Int), 0, 0, (o2.1), (o2.2.1), (o2.2.2))))
  else
  if i3 < 0 ∨ 429 ≤ i3 then none else
  some (.inr (2, i2, (i3 + (1 : Int)), 0, 0, t_queued, (zset t_steps (Int.toNat i3) (-1 : Int)), t_queue))
noncomputable def zg_X4_measure_35 (mk : Nat) (n1 : Nat) (i2 : Int) (i3 : Int) (i4 : Int) (i5 : Int) (t_queued : Int) (t_steps : Nat) (t_queue : Nat) : Option (zO_X4_measure ⊕ zS_X4_measure) :=
  if zout i3 then none else
  if zout t_queued then none else
  if t_queued ≤ i3 then
  some (.inl (t_queued, t_steps, t_queue))
  else
  if (429 : Int) ≤ i3 then
  some (.inl (t_queued, t_steps, t_queue))
  else
  if i3 < 0 ∨ 429 ≤ i3 then none else
  if zno mk n1 then none else
  Option.bind (zf_X5_cutAt n1 (zget t_queue (Int.toNat i3))) (fun o9 =>
  some (.inr (65, 0, i3, o9, (0 : Int), t_queued, t_steps, t_queue)))
noncomputable def zg_X4_measure_65 (mk : Nat) (n1 : Nat) (i2 : Int) (i3 : Int) (i4 : Int) (i5 : Int) (t_queued : Int) (t_steps : Nat) (t_queue : Nat) : Option (zO_X4_measure ⊕ zS_X4_measure) :=
  if zno mk n1 then none else
  Option.bind (zf_X5_lineCount n1) (fun o13 =>
  if zout i5 then none else
  if zout o13 then none else
  if o13 ≤ i5 then
  some (.inr (35, 0, (i3 + (1 : Int)), i4, i5, t_queued, t_steps, t_queue))
  else
  Option.bind (zf_X5_neighbourWith n1 i4 i5) (fun o16 =>
  if i3 < 0 ∨ 429 ≤ i3 then none else
  Option.bind (zf_X4_stepsTo t_steps (zget t_queue (Int.toNat i3))) (fun o18 =>
  Option.bind (zf_X4_comeTo t_queued t_steps t_queue o16 (o18 + (1 : Int))) (fun o19 =>
  some (.inr (65, 0, i3, i4, (i5 + (1 : Int)), (o19.1), (o19.2.1), (o19.2.2)))))))
noncomputable def zg_X4_measure (mk : Nat) (n1 : Nat) (st : zS_X4_measure) : Option (zO_X4_measure ⊕ zS_X4_measure) := match st with
  | (lab, i2, i3, i4, i5, t_queued, t_steps, t_queue) => if lab = 0 then zg_X4_measure_0 mk n1 i2 i3 i4 i5 t_queued t_steps t_queue else if lab = 2 then zg_X4_measure_2 mk n1 i2 i3 i4 i5 t_queued t_steps t_queue else if lab = 35 then zg_X4_measure_35 mk n1 i2 i3 i4 i5 t_queued t_steps t_queue else if lab = 65 then zg_X4_measure_65 mk n1 i2 i3 i4 i5 t_queued t_steps t_queue else none
noncomputable def zf_X4_measure (mk : Nat) (t_queued : Int) (t_steps : Nat) (t_queue : Nat) (n1 : Nat) (i2 : Int) : Option (Int × Nat × Nat) := jrun (zg_X4_measure mk n1) jfuel (0, i2, 0, 0, 0, t_queued, t_steps, t_queue)
theorem zi_X4_measure_X4 : ∀ w ∈ u_ws RX4 TX4 5, w ∈ wsX4_measure := fun w h => (List.mem_cons_of_mem _ (List.mem_append_right _ (List.mem_append_left _ h)))
theorem zl_X4_measure_9 : Cond.fieldLink RX4 9 "DiamondRows$Flips" "steps" "[I" ∈ wsX4_measure := (List.mem_cons_of_mem _ (List.mem_append_left _ (List.mem_of_getElem? (i := 0) rfl)))
theorem zl_X4_measure_15 : Cond.fieldLink RX4 15 "DiamondRows$Flips" "queue" "[I" ∈ wsX4_measure := (List.mem_cons_of_mem _ (List.mem_append_left _ (List.mem_of_getElem? (i := 2) rfl)))
theorem zl_X4_measure_21 : Cond.fieldLink RX4 21 "DiamondRows$Flips" "queued" "I" ∈ wsX4_measure := (List.mem_cons_of_mem _ (List.mem_append_left _ (List.mem_of_getElem? (i := 1) rfl)))
def zQ_X4_measure (p : Program) (l : Launch) (e : Env) (s : State) (m : MethodId) (args : Array Value) (below : List Frame) (meth : Method) (c : Code) (Q : State → Prop) (D : va_G) (κ : Nat → ClassId) (A : Nat → Prop) (H0 : Heap) (t : Nat → Nat) (mk : Nat) (ad : Nat → Nat → Nat) (t_wayLength : Int) (t_way : Nat) (n1 : Nat) (o : Int × Nat × Nat) : Prop := ∀ (H : Heap) (locs : List Loc) (ls : Array Slot) (pc : Nat), va_P D vwCl ([((t 0), .inr (4, [.ref (t 1), .ref (t 2), .ref (t 3), .int (zi t_wayLength), .int (zi (o.1))])), ((t 1), .inl (κ 1, 429, .inl (zc (o.2.1)))), ((t 2), .inl (κ 1, 429, .inl (zc (o.2.2)))), ((t 3), .inl (κ 1, 429, .inl (zc t_way)))]) H → va_D A ([((t 0), .inr (4, [.ref (t 1), .ref (t 2), .ref (t 3), .int (zi t_wayLength), .int (zi (o.1))])), ((t 1), .inl (κ 1, 429, .inl (zc (o.2.1)))), ((t 2), .inl (κ 1, 429, .inl (zc (o.2.2)))), ((t 3), .inl (κ 1, 429, .inl (zc t_way)))]) → va_S A H0 H locs → decode cX4_measure pc = .ok (.return_, 1) → W p l e zr_X4_measure s m args below meth c H locs 0 0 Q (F0 m pc ls [])
def zA_X4_measure_0 (p : Program) (l : Launch) (e : Env) (s : State) (m : MethodId) (args : Array Value) (below : List Frame) (meth : Method) (c : Code) (Q : State → Prop) (D : va_G) (κ : Nat → ClassId) (A : Nat → Prop) (H0 : Heap) (t : Nat → Nat) (mk : Nat) (ad : Nat → Nat → Nat) (t_wayLength : Int) (t_way : Nat) (n1 : Nat) (i2 : Int) (i3 : Int) (i4 : Int) (i5 : Int) (t_queued : Int) (t_steps : Nat) (t_queue : Nat) : Prop := ∀ (H : Heap) (locs : List Loc) (ls : Array Slot), va_P D vwCl ([((t 0), .inr (4, [.ref (t 1), .ref (t 2), .ref (t 3), .int (zi t_wayLength), .int (zi t_queued)])), ((t 1), .inl (κ 1, 429, .inl (zc t_steps))), ((t 2), .inl (κ 1, 429, .inl (zc t_queue))), ((t 3), .inl (κ 1, 429, .inl (zc t_way)))]) H → va_D A ([((t 0), .inr (4, [.ref (t 1), .ref (t 2), .ref (t 3), .int (zi t_wayLength), .int (zi t_queued)])), ((t 1), .inl (κ 1, 429, .inl (zc t_steps))), ((t 2), .inl (κ 1, 429, .inl (zc t_queue))), ((t 3), .inl (κ 1, 429, .inl (zc t_way)))]) → va_S A H0 H locs → lv_has ls 6 [(0, .ref (t 0)), (1, .ref (ad n1 0)), (2, .int (zi i2))] → W p l e zr_X4_measure s m args below meth c H locs 0 0 Q (F0 m 0 ls [])
def zA_X4_measure_2 (p : Program) (l : Launch) (e : Env) (s : State) (m : MethodId) (args : Array Value) (below : List Frame) (meth : Method) (c : Code) (Q : State → Prop) (D : va_G) (κ : Nat → ClassId) (A : Nat → Prop) (H0 : Heap) (t : Nat → Nat) (mk : Nat) (ad : Nat → Nat → Nat) (t_wayLength : Int) (t_way : Nat) (n1 : Nat) (i2 : Int) (i3 : Int) (i4 : Int) (i5 : Int) (t_queued : Int) (t_steps : Nat) (t_queue : Nat) : Prop := ∀ (H : Heap) (locs : List Loc) (ls : Array Slot), va_P D vwCl ([((t 0), .inr (4, [.ref (t 1), .ref (t 2), .ref (t 3), .int (zi t_wayLength), .int (zi t_queued)])), ((t 1), .inl (κ 1, 429, .inl (zc t_steps))), ((t 2), .inl (κ 1, 429, .inl (zc t_queue))), ((t 3), .inl (κ 1, 429, .inl (zc t_way)))]) H → va_D A ([((t 0), .inr (4, [.ref (t 1), .ref (t 2), .ref (t 3), .int (zi t_wayLength), .int (zi t_queued)])), ((t 1), .inl (κ 1, 429, .inl (zc t_steps))), ((t 2), .inl (κ 1, 429, .inl (zc t_queue))), ((t 3), .inl (κ 1, 429, .inl (zc t_way)))]) → va_S A H0 H locs → lv_has ls 6 [(0, .ref (t 0)), (1, .ref (ad n1 0)), (2, .int (zi i2)), (3, .int (zi i3))] → W p l e zr_X4_measure s m args below meth c H locs 0 0 Q (F0 m 2 ls [])
def zA_X4_measure_35 (p : Program) (l : Launch) (e : Env) (s : State) (m : MethodId) (args : Array Value) (below : List Frame) (meth : Method) (c : Code) (Q : State → Prop) (D : va_G) (κ : Nat → ClassId) (A : Nat → Prop) (H0 : Heap) (t : Nat → Nat) (mk : Nat) (ad : Nat → Nat → Nat) (t_wayLength : Int) (t_way : Nat) (n1 : Nat) (i2 : Int) (i3 : Int) (i4 : Int) (i5 : Int) (t_queued : Int) (t_steps : Nat) (t_queue : Nat) : Prop := ∀ (H : Heap) (locs : List Loc) (ls : Array Slot), va_P D vwCl ([((t 0), .inr (4, [.ref (t 1), .ref (t 2), .ref (t 3), .int (zi t_wayLength), .int (zi t_queued)])), ((t 1), .inl (κ 1, 429, .inl (zc t_steps))), ((t 2), .inl (κ 1, 429, .inl (zc t_queue))), ((t 3), .inl (κ 1, 429, .inl (zc t_way)))]) H → va_D A ([((t 0), .inr (4, [.ref (t 1), .ref (t 2), .ref (t 3), .int (zi t_wayLength), .int (zi t_queued)])), ((t 1), .inl (κ 1, 429, .inl (zc t_steps))), ((t 2), .inl (κ 1, 429, .inl (zc t_queue))), ((t 3), .inl (κ 1, 429, .inl (zc t_way)))]) → va_S A H0 H locs → lv_has ls 6 [(0, .ref (t 0)), (1, .ref (ad n1 0)), (3, .int (zi i3))] → W p l e zr_X4_measure s m args below meth c H locs 0 0 Q (F0 m 35 ls [])
def zA_X4_measure_65 (p : Program) (l : Launch) (e : Env) (s : State) (m : MethodId) (args : Array Value) (below : List Frame) (meth : Method) (c : Code) (Q : State → Prop) (D : va_G) (κ : Nat → ClassId) (A : Nat → Prop) (H0 : Heap) (t : Nat → Nat) (mk : Nat) (ad : Nat → Nat → Nat) (t_wayLength : Int) (t_way : Nat) (n1 : Nat) (i2 : Int) (i3 : Int) (i4 : Int) (i5 : Int) (t_queued : Int) (t_steps : Nat) (t_queue : Nat) : Prop := ∀ (H : Heap) (locs : List Loc) (ls : Array Slot), va_P D vwCl ([((t 0), .inr (4, [.ref (t 1), .ref (t 2), .ref (t 3), .int (zi t_wayLength), .int (zi t_queued)])), ((t 1), .inl (κ 1, 429, .inl (zc t_steps))), ((t 2), .inl (κ 1, 429, .inl (zc t_queue))), ((t 3), .inl (κ 1, 429, .inl (zc t_way)))]) H → va_D A ([((t 0), .inr (4, [.ref (t 1), .ref (t 2), .ref (t 3), .int (zi t_wayLength), .int (zi t_queued)])), ((t 1), .inl (κ 1, 429, .inl (zc t_steps))), ((t 2), .inl (κ 1, 429, .inl (zc t_queue))), ((t 3), .inl (κ 1, 429, .inl (zc t_way)))]) → va_S A H0 H locs → lv_has ls 6 [(0, .ref (t 0)), (1, .ref (ad n1 0)), (3, .int (zi i3)), (4, .int (zi i4)), (5, .int (zi i5))] → W p l e zr_X4_measure s m args below meth c H locs 0 0 Q (F0 m 65 ls [])
def zA_X4_measure (p : Program) (l : Launch) (e : Env) (s : State) (m : MethodId) (args : Array Value) (below : List Frame) (meth : Method) (c : Code) (Q : State → Prop) (D : va_G) (κ : Nat → ClassId) (A : Nat → Prop) (H0 : Heap) (t : Nat → Nat) (mk : Nat) (ad : Nat → Nat → Nat) (t_wayLength : Int) (t_way : Nat) (n1 : Nat) (st : zS_X4_measure) : Prop := match st with
  | (lab, i2, i3, i4, i5, t_queued, t_steps, t_queue) => if lab = 0 then zA_X4_measure_0 p l e s m args below meth c Q D κ A H0 t mk ad t_wayLength t_way n1 i2 i3 i4 i5 t_queued t_steps t_queue else if lab = 2 then zA_X4_measure_2 p l e s m args below meth c Q D κ A H0 t mk ad t_wayLength t_way n1 i2 i3 i4 i5 t_queued t_steps t_queue else if lab = 35 then zA_X4_measure_35 p l e s m args below meth c Q D κ A H0 t mk ad t_wayLength t_way n1 i2 i3 i4 i5 t_queued t_steps t_queue else if lab = 65 then zA_X4_measure_65 p l e s m args below meth c Q D κ A H0 t mk ad t_wayLength t_way n1 i2 i3 i4 i5 t_queued t_steps t_queue else True
set_option maxHeartbeats 4000000 in
set_option maxRecDepth 100000 in
theorem zs_X4_measure_0 {p : Program} {l : Launch} {e : Env} {s : State} {m : MethodId} {args : Array Value} {below : List Frame} {meth : Method} {c : Code} {Q : State → Prop} {D : va_G} {κ : Nat → ClassId} {A : Nat → Prop} {H0 : Heap} (t : Nat → Nat) (mk : Nat) (ad : Nat → Nat → Nat) (t_wayLength : Int) (t_way : Nat) (n1 : Nat) (hx : p.tables.exec = Jvm.exec) (hb : c.code = cX4_measure) (hml : c.maxLocals = 6) (hown : s.vm.findClass RX4 = some m.cls) (hts : ∀ w ∈ wsX4_measure, w.before args s = true) (hK : va_K D vwCl (zTY κ) s) (hA : ∀ q : Nat, H0.size ≤ q → A q) (hB : zAmb D κ mk ad H0) (hBA : zApt mk ad A H0.size) (i2 : Int) (i3 : Int) (i4 : Int) (i5 : Int) (t_queued : Int) (t_steps : Nat) (t_queue : Nat) (hg : Go (GoE (zA_X4_measure p l e s m args below meth c Q D κ A H0 t mk ad t_wayLength t_way n1) (zQ_X4_measure p l e s m args below meth c Q D κ A H0 t mk ad t_wayLength t_way n1)) (zg_X4_measure_0 mk n1 i2 i3 i4 i5 t_queued t_steps t_queue)) : zA_X4_measure_0 p l e s m args below meth c Q D κ A H0 t mk ad t_wayLength t_way n1 i2 i3 i4 i5 t_queued t_steps t_queue := by
  intro H locs ls hP hD hS hl
  unfold zg_X4_measure_0 at hg
  refine zv_iconst hx hb dX4_measure_0 ?_
  refine lv_istore_n (lv' := [(3, .int (zi (0 : Int))), (0, .ref (t 0)), (1, .ref (ad n1 0)), (2, .int (zi i2))]) hx hb dX4_measure_1 rfl hl (by decide) rfl (fun ls hl => ?_)
  exact (Go_s hg) H locs ls hP hD hS (lv_sub hl [1, 2, 3, 0] rfl)
set_option maxHeartbeats 4000000 in
set_option maxRecDepth 100000 in
theorem zs_X4_measure_2 {p : Program} {l : Launch} {e : Env} {s : State} {m : MethodId} {args : Array Value} {below : List Frame} {meth : Method} {c : Code} {Q : State → Prop} {D : va_G} {κ : Nat → ClassId} {A : Nat → Prop} {H0 : Heap} (t : Nat → Nat) (mk : Nat) (ad : Nat → Nat → Nat) (t_wayLength : Int) (t_way : Nat) (n1 : Nat) (hx : p.tables.exec = Jvm.exec) (hb : c.code = cX4_measure) (hml : c.maxLocals = 6) (hown : s.vm.findClass RX4 = some m.cls) (hts : ∀ w ∈ wsX4_measure, w.before args s = true) (hK : va_K D vwCl (zTY κ) s) (hA : ∀ q : Nat, H0.size ≤ q → A q) (hB : zAmb D κ mk ad H0) (hBA : zApt mk ad A H0.size) (i2 : Int) (i3 : Int) (i4 : Int) (i5 : Int) (t_queued : Int) (t_steps : Nat) (t_queue : Nat) (hg : Go (GoE (zA_X4_measure p l e s m args below meth c Q D κ A H0 t mk ad t_wayLength t_way n1) (zQ_X4_measure p l e s m args below meth c Q D κ A H0 t mk ad t_wayLength t_way n1)) (zg_X4_measure_2 mk n1 i2 i3 i4 i5 t_queued t_steps t_queue)) : zA_X4_measure_2 p l e s m args below meth c Q D κ A H0 t mk ad t_wayLength t_way n1 i2 i3 i4 i5 t_queued t_steps t_queue := by
  intro H locs ls hP hD hS hl
  unfold zg_X4_measure_2 at hg
  refine lv_iload_n hx hb dX4_measure_2 rfl (lv_at hl 3 rfl) ?_
  refine zv_sipush hx hb dX4_measure_3 (by decide) ?_
  obtain ⟨b1, hg⟩ := Go_n hg
  refine zv_icmp_ge (tgt := 22) hx hb dX4_measure_6 (by decide) b1 (by decide) (fun c4 => ?_) (fun c4 => ?_)
  · have hg := Go_t c4 hg
    refine lv_aload_n hx hb dX4_measure_22 rfl (lv_at hl 0 rfl) ?_
    refine zv_iconst hx hb dX4_measure_23 ?_
    refine va_put (D := D) (ci := 4) (v := .int (zi (0 : Int))) (ty := .int) (C := RX4) (T := TX4) (N := 5) hx hb hts zi_X4_measure_X4 tyX4 tyX4_ok nmX4 hown hK hP hD hS 0 rfl rfl 4 (by decide) (hts (.fieldLink RX4 21 "DiamondRows$Flips" "queued" "I") zl_X4_measure_21) (fun _ h9 => h9) rfl (by decide +kernel) rfl rfl (Nat.le_of_ble_eq_true rfl) dX4_measure_24 (fun H locs hP hD hS => ?_)
    have hP : va_P D vwCl ([((t 0), .inr (4, [.ref (t 1), .ref (t 2), .ref (t 3), .int (zi t_wayLength), .int (zi (0 : Int))])), ((t 1), .inl (κ 1, 429, .inl (zc t_steps))), ((t 2), .inl (κ 1, 429, .inl (zc t_queue))), ((t 3), .inl (κ 1, 429, .inl (zc t_way)))]) H := hP
    have hD : va_D A ([((t 0), .inr (4, [.ref (t 1), .ref (t 2), .ref (t 3), .int (zi t_wayLength), .int (zi (0 : Int))])), ((t 1), .inl (κ 1, 429, .inl (zc t_steps))), ((t 2), .inl (κ 1, 429, .inl (zc t_queue))), ((t 3), .inl (κ 1, 429, .inl (zc t_way)))]) := hD
    refine lv_aload_n hx hb dX4_measure_27 rfl (lv_at hl 0 rfl) ?_
    refine lv_iload_n hx hb dX4_measure_28 rfl (lv_at hl 2 rfl) ?_
    refine zv_iconst hx hb dX4_measure_29 ?_
    obtain ⟨o2, ho2, hg⟩ := Go_b hg
    refine zj_v (wr := []) (ws1 := [((t 0), .inr (4, [.ref (t 1), .ref (t 2), .ref (t 3), .int (zi t_wayLength), .int (zi (o2.1))])), ((t 1), .inl (κ 1, 429, .inl (zc (o2.2.1)))), ((t 2), .inl (κ 1, 429, .inl (zc (o2.2.2)))), ((t 3), .inl (κ 1, 429, .inl (zc t_way)))]) (va_runV (rest := []) ⟨hx, hb, hml, hown, hts⟩ (zc_X4_comeTo l D κ t H.size t_wayLength (0 : Int) t_steps t_queue t_way i2 (0 : Int) o2 ho2) (cwV 2 hts gX4_measure_X4_comeTo rfl rfl rfl hv_X4_comeTo ⟨Nat.le_of_ble_eq_true rfl, Nat.le_of_ble_eq_true rfl⟩) (zpreWV hK (hP.sub [0, 1, 2, 3] rfl) (hD.sub [0, 1, 2, 3] (by decide) rfl) 4 0 rfl rfl) rfl rfl hl.1 rfl (lv_room (Nat.le_of_ble_eq_true rfl)) dX4_measure_30 ⟨Nat.zero_le _, Nat.zero_le _⟩) hP hD hS hA [0, 1, 2, 3] [] [0, 1, 2, 3] rfl rfl (by decide) (by decide) rfl rfl (by decide) (fun H locs hP hD hS => ?_)
    refine zv_iconst hx hb dX4_measure_33 ?_
    refine lv_istore_n (lv' := [(3, .int (zi (0 : Int))), (0, .ref (t 0)), (1, .ref (ad n1 0)), (2, .int (zi i2))]) hx hb dX4_measure_34 rfl hl (by decide) rfl (fun ls hl => ?_)
    exact (Go_s hg) H locs ls hP hD hS (lv_sub hl [1, 2, 0] rfl)
  · have hg := Go_f c4 hg
    refine lv_aload_n hx hb dX4_measure_9 rfl (lv_at hl 0 rfl) ?_
    refine va_get (D := D) (ci := 4) (v := .ref (t 1)) (C := RX4) (T := TX4) (N := 5) hx hb hts zi_X4_measure_X4 hown hK hP 0 rfl rfl 0 (by decide) (hts (.fieldLink RX4 9 "DiamondRows$Flips" "steps" "[I") zl_X4_measure_9) (fun _ h9 => h9) rfl dX4_measure_10 ?_
    refine lv_iload_n hx hb dX4_measure_13 rfl (lv_at hl 3 rfl) ?_
    refine zv_iconst hx hb dX4_measure_14 ?_
    obtain ⟨n3, hg⟩ := Go_n hg
    refine zv_iast hx hb hK hP hD hS 1 1 rfl rfl (by decide) n3 dX4_measure_15 (fun H locs hP hD hS => ?_)
    have hP : va_P D vwCl ([((t 0), .inr (4, [.ref (t 1), .ref (t 2), .ref (t 3), .int (zi t_wayLength), .int (zi t_queued)])), ((t 1), .inl (κ 1, 429, .inl (zc (zset t_steps (Int.toNat i3) (-1 : Int))))), ((t 2), .inl (κ 1, 429, .inl (zc t_queue))), ((t 3), .inl (κ 1, 429, .inl (zc t_way)))]) H := hP
    have hD : va_D A ([((t 0), .inr (4, [.ref (t 1), .ref (t 2), .ref (t 3), .int (zi t_wayLength), .int (zi t_queued)])), ((t 1), .inl (κ 1, 429, .inl (zc (zset t_steps (Int.toNat i3) (-1 : Int))))), ((t 2), .inl (κ 1, 429, .inl (zc t_queue))), ((t 3), .inl (κ 1, 429, .inl (zc t_way)))]) := hD
    refine lv_iinc (v := zi (i3 + (1 : Int))) (lv' := [(3, .int (zi (i3 + (1 : Int)))), (0, .ref (t 0)), (1, .ref (ad n1 0)), (2, .int (zi i2))]) hx hb dX4_measure_16 hl (k := 3) rfl (zi_add i3 _) (by decide) rfl (fun ls hl => ?_)
    refine lv_goto (tgt := 2) hx hb dX4_measure_19 (by decide) ?_
    exact (Go_s hg) H locs ls hP hD hS (lv_sub hl [1, 2, 3, 0] rfl)
set_option maxHeartbeats 4000000 in
set_option maxRecDepth 100000 in
theorem zs_X4_measure_35 {p : Program} {l : Launch} {e : Env} {s : State} {m : MethodId} {args : Array Value} {below : List Frame} {meth : Method} {c : Code} {Q : State → Prop} {D : va_G} {κ : Nat → ClassId} {A : Nat → Prop} {H0 : Heap} (t : Nat → Nat) (mk : Nat) (ad : Nat → Nat → Nat) (t_wayLength : Int) (t_way : Nat) (n1 : Nat) (hx : p.tables.exec = Jvm.exec) (hb : c.code = cX4_measure) (hml : c.maxLocals = 6) (hown : s.vm.findClass RX4 = some m.cls) (hts : ∀ w ∈ wsX4_measure, w.before args s = true) (hK : va_K D vwCl (zTY κ) s) (hA : ∀ q : Nat, H0.size ≤ q → A q) (hB : zAmb D κ mk ad H0) (hBA : zApt mk ad A H0.size) (i2 : Int) (i3 : Int) (i4 : Int) (i5 : Int) (t_queued : Int) (t_steps : Nat) (t_queue : Nat) (hg : Go (GoE (zA_X4_measure p l e s m args below meth c Q D κ A H0 t mk ad t_wayLength t_way n1) (zQ_X4_measure p l e s m args below meth c Q D κ A H0 t mk ad t_wayLength t_way n1)) (zg_X4_measure_35 mk n1 i2 i3 i4 i5 t_queued t_steps t_queue)) : zA_X4_measure_35 p l e s m args below meth c Q D κ A H0 t mk ad t_wayLength t_way n1 i2 i3 i4 i5 t_queued t_steps t_queue := by
  intro H locs ls hP hD hS hl
  unfold zg_X4_measure_35 at hg
  refine lv_iload_n hx hb dX4_measure_35 rfl (lv_at hl 2 rfl) ?_
  refine lv_aload_n hx hb dX4_measure_36 rfl (lv_at hl 0 rfl) ?_
  refine va_get (D := D) (ci := 4) (v := .int (zi t_queued)) (C := RX4) (T := TX4) (N := 5) hx hb hts zi_X4_measure_X4 hown hK hP 0 rfl rfl 4 (by decide) (hts (.fieldLink RX4 21 "DiamondRows$Flips" "queued" "I") zl_X4_measure_21) (fun _ h9 => h9) rfl dX4_measure_37 ?_
  obtain ⟨b5, hg⟩ := Go_n hg
  obtain ⟨b6, hg⟩ := Go_n hg
  refine zv_icmp_ge (tgt := 110) hx hb dX4_measure_40 (by decide) b5 b6 (fun c11 => ?_) (fun c11 => ?_)
  · have hg := Go_t c11 hg
    exact (Go_s hg) _ _ _ _ hP hD hS dX4_measure_110
  · have hg := Go_f c11 hg
    refine lv_iload_n hx hb dX4_measure_43 rfl (lv_at hl 2 rfl) ?_
    refine zv_sipush hx hb dX4_measure_44 (by decide) ?_
    refine zv_icmp_ge (tgt := 110) hx hb dX4_measure_47 (by decide) b5 (by decide) (fun c10 => ?_) (fun c10 => ?_)
    · have hg := Go_t c10 hg
      exact (Go_s hg) _ _ _ _ hP hD hS dX4_measure_110
    · have hg := Go_f c10 hg
      refine lv_aload_n hx hb dX4_measure_50 rfl (lv_at hl 1 rfl) ?_
      refine lv_aload_n hx hb dX4_measure_51 rfl (lv_at hl 0 rfl) ?_
      refine va_get (D := D) (ci := 4) (v := .ref (t 2)) (C := RX4) (T := TX4) (N := 5) hx hb hts zi_X4_measure_X4 hown hK hP 0 rfl rfl 1 (by decide) (hts (.fieldLink RX4 15 "DiamondRows$Flips" "queue" "[I") zl_X4_measure_15) (fun _ h9 => h9) rfl dX4_measure_52 ?_
      refine lv_iload_n hx hb dX4_measure_55 rfl (lv_at hl 2 rfl) ?_
      obtain ⟨n7, hg⟩ := Go_n hg
      refine zv_iald hx hb hK hP 2 1 rfl rfl (by decide) n7 dX4_measure_56 ?_
      obtain ⟨m8, hg⟩ := Go_n hg
      obtain ⟨o9, ho9, hg⟩ := Go_b hg
      refine zc_vi (rest := []) ⟨hx, hb, hml, hown, hts⟩ (zc_X5_cutAt l D κ (ad n1) n1 (zget t_queue (Int.toNat i3)) o9 ho9) (cwV 1 hts gX4_measure_X5_cutAt rfl rfl rfl hv_X5_cutAt ⟨Nat.le_of_ble_eq_true rfl, Nat.le_of_ble_eq_true rfl⟩) (zpreV hK ((zamb hB hBA hS) n1 m8) 5 0 rfl rfl) rfl hl.1 rfl (Nat.le_of_ble_eq_true rfl) dX4_measure_57 ⟨Nat.zero_le _, Nat.zero_le _⟩ ?_
      refine lv_istore (lv' := [(4, .int (zi o9)), (0, .ref (t 0)), (1, .ref (ad n1 0)), (3, .int (zi i3))]) hx hb dX4_measure_60 hl (by decide) rfl (fun ls hl => ?_)
      refine zv_iconst hx hb dX4_measure_62 ?_
      refine lv_istore (lv' := [(5, .int (zi (0 : Int))), (4, .int (zi o9)), (0, .ref (t 0)), (1, .ref (ad n1 0)), (3, .int (zi i3))]) hx hb dX4_measure_63 hl (by decide) rfl (fun ls hl => ?_)
      exact (Go_s hg) H locs ls hP hD hS (lv_sub hl [2, 3, 4, 1, 0] rfl)
set_option maxHeartbeats 4000000 in
set_option maxRecDepth 100000 in
theorem zs_X4_measure_65 {p : Program} {l : Launch} {e : Env} {s : State} {m : MethodId} {args : Array Value} {below : List Frame} {meth : Method} {c : Code} {Q : State → Prop} {D : va_G} {κ : Nat → ClassId} {A : Nat → Prop} {H0 : Heap} (t : Nat → Nat) (mk : Nat) (ad : Nat → Nat → Nat) (t_wayLength : Int) (t_way : Nat) (n1 : Nat) (hx : p.tables.exec = Jvm.exec) (hb : c.code = cX4_measure) (hml : c.maxLocals = 6) (hown : s.vm.findClass RX4 = some m.cls) (hts : ∀ w ∈ wsX4_measure, w.before args s = true) (hK : va_K D vwCl (zTY κ) s) (hA : ∀ q : Nat, H0.size ≤ q → A q) (hB : zAmb D κ mk ad H0) (hBA : zApt mk ad A H0.size) (i2 : Int) (i3 : Int) (i4 : Int) (i5 : Int) (t_queued : Int) (t_steps : Nat) (t_queue : Nat) (hg : Go (GoE (zA_X4_measure p l e s m args below meth c Q D κ A H0 t mk ad t_wayLength t_way n1) (zQ_X4_measure p l e s m args below meth c Q D κ A H0 t mk ad t_wayLength t_way n1)) (zg_X4_measure_65 mk n1 i2 i3 i4 i5 t_queued t_steps t_queue)) : zA_X4_measure_65 p l e s m args below meth c Q D κ A H0 t mk ad t_wayLength t_way n1 i2 i3 i4 i5 t_queued t_steps t_queue := by
  intro H locs ls hP hD hS hl
  unfold zg_X4_measure_65 at hg
  refine lv_iload hx hb dX4_measure_65 (lv_at hl 4 rfl) ?_
  refine lv_aload_n hx hb dX4_measure_67 rfl (lv_at hl 1 rfl) ?_
  obtain ⟨m12, hg⟩ := Go_n hg
  obtain ⟨o13, ho13, hg⟩ := Go_b hg
  refine zc_vi (rest := [.int (zi i5)]) ⟨hx, hb, hml, hown, hts⟩ (zc_X5_lineCount l D κ (ad n1) n1  o13 ho13) (cwV 0 hts gX4_measure_X5_lineCount rfl rfl rfl hv_X5_lineCount ⟨Nat.le_of_ble_eq_true rfl, Nat.le_of_ble_eq_true rfl⟩) (zpreV hK ((zamb hB hBA hS) n1 m12) 5 0 rfl rfl) rfl hl.1 rfl (Nat.le_of_ble_eq_true rfl) dX4_measure_68 ⟨Nat.zero_le _, Nat.zero_le _⟩ ?_
  obtain ⟨b14, hg⟩ := Go_n hg
  obtain ⟨b15, hg⟩ := Go_n hg
  refine zv_icmp_ge (tgt := 104) hx hb dX4_measure_71 (by decide) b14 b15 (fun c20 => ?_) (fun c20 => ?_)
  · have hg := Go_t c20 hg
    refine lv_iinc (v := zi (i3 + (1 : Int))) (lv' := [(3, .int (zi (i3 + (1 : Int)))), (0, .ref (t 0)), (1, .ref (ad n1 0)), (4, .int (zi i4)), (5, .int (zi i5))]) hx hb dX4_measure_104 hl (k := 2) rfl (zi_add i3 _) (by decide) rfl (fun ls hl => ?_)
    refine lv_goto (tgt := 35) hx hb dX4_measure_107 (by decide) ?_
    exact (Go_s hg) H locs ls hP hD hS (lv_sub hl [1, 2, 0] rfl)
  · have hg := Go_f c20 hg
    refine lv_aload_n hx hb dX4_measure_74 rfl (lv_at hl 0 rfl) ?_
    refine lv_aload_n hx hb dX4_measure_75 rfl (lv_at hl 1 rfl) ?_
    refine lv_iload hx hb dX4_measure_76 (lv_at hl 3 rfl) ?_
    refine lv_iload hx hb dX4_measure_78 (lv_at hl 4 rfl) ?_
    obtain ⟨o16, ho16, hg⟩ := Go_b hg
    refine zc_vi (rest := [.ref (t 0)]) ⟨hx, hb, hml, hown, hts⟩ (zc_X5_neighbourWith l D κ (ad n1) n1 i4 i5 o16 ho16) (cwV 2 hts gX4_measure_X5_neighbourWith rfl rfl rfl hv_X5_neighbourWith ⟨Nat.le_of_ble_eq_true rfl, Nat.le_of_ble_eq_true rfl⟩) (zpreV hK ((zamb hB hBA hS) n1 m12) 5 0 rfl rfl) rfl hl.1 rfl (Nat.le_of_ble_eq_true rfl) dX4_measure_80 ⟨Nat.zero_le _, Nat.zero_le _⟩ ?_
    refine lv_aload_n hx hb dX4_measure_83 rfl (lv_at hl 0 rfl) ?_
    refine lv_aload_n hx hb dX4_measure_84 rfl (lv_at hl 0 rfl) ?_
    refine va_get (D := D) (ci := 4) (v := .ref (t 2)) (C := RX4) (T := TX4) (N := 5) hx hb hts zi_X4_measure_X4 hown hK hP 0 rfl rfl 1 (by decide) (hts (.fieldLink RX4 15 "DiamondRows$Flips" "queue" "[I") zl_X4_measure_15) (fun _ h9 => h9) rfl dX4_measure_85 ?_
    refine lv_iload_n hx hb dX4_measure_88 rfl (lv_at hl 2 rfl) ?_
    obtain ⟨n17, hg⟩ := Go_n hg
    refine zv_iald hx hb hK hP 2 1 rfl rfl (by decide) n17 dX4_measure_89 ?_
    obtain ⟨o18, ho18, hg⟩ := Go_b hg
    refine zc_vi (rest := [.int (zi o16), .ref (t 0)]) ⟨hx, hb, hml, hown, hts⟩ (zc_X4_stepsTo l D κ t t_wayLength t_queued t_steps t_queue t_way (zget t_queue (Int.toNat i3)) o18 ho18) (cwV 1 hts gX4_measure_X4_stepsTo rfl rfl rfl hv_X4_stepsTo ⟨Nat.le_of_ble_eq_true rfl, Nat.le_of_ble_eq_true rfl⟩) (zpreV hK (hP.sub [0, 1, 2, 3] rfl) 4 0 rfl rfl) rfl hl.1 rfl (Nat.le_of_ble_eq_true rfl) dX4_measure_90 ⟨Nat.zero_le _, Nat.zero_le _⟩ ?_
    refine zv_iconst hx hb dX4_measure_93 ?_
    refine zv_iadd hx hb dX4_measure_94 ?_
    obtain ⟨o19, ho19, hg⟩ := Go_b hg
    refine zj_v (wr := []) (ws1 := [((t 0), .inr (4, [.ref (t 1), .ref (t 2), .ref (t 3), .int (zi t_wayLength), .int (zi (o19.1))])), ((t 1), .inl (κ 1, 429, .inl (zc (o19.2.1)))), ((t 2), .inl (κ 1, 429, .inl (zc (o19.2.2)))), ((t 3), .inl (κ 1, 429, .inl (zc t_way)))]) (va_runV (rest := []) ⟨hx, hb, hml, hown, hts⟩ (zc_X4_comeTo l D κ t H.size t_wayLength t_queued t_steps t_queue t_way o16 (o18 + (1 : Int)) o19 ho19) (cwV 2 hts gX4_measure_X4_comeTo rfl rfl rfl hv_X4_comeTo ⟨Nat.le_of_ble_eq_true rfl, Nat.le_of_ble_eq_true rfl⟩) (zpreWV hK (hP.sub [0, 1, 2, 3] rfl) (hD.sub [0, 1, 2, 3] (by decide) rfl) 4 0 rfl rfl) rfl rfl hl.1 rfl (lv_room (Nat.le_of_ble_eq_true rfl)) dX4_measure_95 ⟨Nat.zero_le _, Nat.zero_le _⟩) hP hD hS hA [0, 1, 2, 3] [] [0, 1, 2, 3] rfl rfl (by decide) (by decide) rfl rfl (by decide) (fun H locs hP hD hS => ?_)
    refine lv_iinc (v := zi (i5 + (1 : Int))) (lv' := [(5, .int (zi (i5 + (1 : Int)))), (0, .ref (t 0)), (1, .ref (ad n1 0)), (3, .int (zi i3)), (4, .int (zi i4))]) hx hb dX4_measure_98 hl (k := 4) rfl (zi_add i5 _) (by decide) rfl (fun ls hl => ?_)
    refine lv_goto (tgt := 65) hx hb dX4_measure_101 (by decide) ?_
    exact (Go_s hg) H locs ls hP hD hS (lv_sub hl [1, 2, 3, 4, 0] rfl)
set_option maxHeartbeats 4000000 in
set_option maxRecDepth 100000 in
theorem zw_X4_measure {p : Program} {l : Launch} {e : Env} {s : State} {m : MethodId} {args : Array Value} {below : List Frame} {meth : Method} {c : Code} {Q : State → Prop} {D : va_G} {κ : Nat → ClassId} {A : Nat → Prop} {H0 : Heap} (t : Nat → Nat) (mk : Nat) (ad : Nat → Nat → Nat) (t_wayLength : Int) (t_way : Nat) (n1 : Nat) (t_queued : Int) (t_steps : Nat) (t_queue : Nat) (i2 : Int) (hx : p.tables.exec = Jvm.exec) (hb : c.code = cX4_measure) (hml : c.maxLocals = 6) (hown : s.vm.findClass RX4 = some m.cls) (hts : ∀ w ∈ wsX4_measure, w.before args s = true) (hK : va_K D vwCl (zTY κ) s) (hA : ∀ q : Nat, H0.size ≤ q → A q) (hB : zAmb D κ mk ad H0) (hBA : zApt mk ad A H0.size) (out : Int × Nat × Nat) (h : zf_X4_measure mk t_queued t_steps t_queue n1 i2 = some out) (hq : zQ_X4_measure p l e s m args below meth c Q D κ A H0 t mk ad t_wayLength t_way n1 out) : zA_X4_measure_0 p l e s m args below meth c Q D κ A H0 t mk ad t_wayLength t_way n1 i2 0 0 0 t_queued t_steps t_queue := by
  have hst : ∀ st : zS_X4_measure, Go (GoE (zA_X4_measure p l e s m args below meth c Q D κ A H0 t mk ad t_wayLength t_way n1) (zQ_X4_measure p l e s m args below meth c Q D κ A H0 t mk ad t_wayLength t_way n1)) (zg_X4_measure mk n1 st) → zA_X4_measure p l e s m args below meth c Q D κ A H0 t mk ad t_wayLength t_way n1 st := by
    intro st hg
    obtain ⟨lab, i2, i3, i4, i5, t_queued, t_steps, t_queue⟩ := st
    by_cases h0 : lab = 0
    · subst h0
      exact zs_X4_measure_0 t mk ad t_wayLength t_way n1 hx hb hml hown hts hK hA hB hBA i2 i3 i4 i5 t_queued t_steps t_queue hg
    by_cases h2 : lab = 2
    · subst h2
      exact zs_X4_measure_2 t mk ad t_wayLength t_way n1 hx hb hml hown hts hK hA hB hBA i2 i3 i4 i5 t_queued t_steps t_queue hg
    by_cases h35 : lab = 35
    · subst h35
      exact zs_X4_measure_35 t mk ad t_wayLength t_way n1 hx hb hml hown hts hK hA hB hBA i2 i3 i4 i5 t_queued t_steps t_queue hg
    by_cases h65 : lab = 65
    · subst h65
      exact zs_X4_measure_65 t mk ad t_wayLength t_way n1 hx hb hml hown hts hK hA hB hBA i2 i3 i4 i5 t_queued t_steps t_queue hg
    have hz : zg_X4_measure mk n1 (lab, i2, i3, i4, i5, t_queued, t_steps, t_queue) = none := by simp [zg_X4_measure, h0, h2, h35, h65]
    rw [hz] at hg
    obtain ⟨a, h1, -⟩ := hg
    cases h1
  exact jwalk (At := zA_X4_measure p l e s m args below meth c Q D κ A H0 t mk ad t_wayLength t_way n1) (Ret := zQ_X4_measure p l e s m args below meth c Q D κ A H0 t mk ad t_wayLength t_way n1) hst _ _ _ h hq
set_option maxHeartbeats 4000000 in
set_option maxRecDepth 100000 in
theorem zc_X4_measure (l : Launch) (D : va_G) (κ : Nat → ClassId) (t : Nat → Nat) (mk : Nat) (ad : Nat → Nat → Nat) (sz : Nat) (t_wayLength : Int) (t_queued : Int) (t_steps : Nat) (t_queue : Nat) (t_way : Nat) (n1 : Nat) (i2 : Int) (out : Int × Nat × Nat) (h : zf_X4_measure mk t_queued t_steps t_queue n1 i2 = some out) : Met l yX4_measure wsX4_measure zr_X4_measure (va_Pc [.ref (t 0), .ref (ad n1 0), .int (zi i2)] (zWa D κ mk ad ([((t 0), .inr (4, [.ref (t 1), .ref (t 2), .ref (t 3), .int (zi t_wayLength), .int (zi t_queued)])), ((t 1), .inl (κ 1, 429, .inl (zc t_steps))), ((t 2), .inl (κ 1, 429, .inl (zc t_queue))), ((t 3), .inl (κ 1, 429, .inl (zc t_way)))]) sz)) (va_Qv (fun (_ : Unit) => True) (fun _ => zB D κ (va_A ([((t 0), .inr (4, [.ref (t 1), .ref (t 2), .ref (t 3), .int (zi t_wayLength), .int (zi t_queued)])), ((t 1), .inl (κ 1, 429, .inl (zc t_steps))), ((t 2), .inl (κ 1, 429, .inl (zc t_queue))), ((t 3), .inl (κ 1, 429, .inl (zc t_way)))]) sz) ([((t 0), .inr (4, [.ref (t 1), .ref (t 2), .ref (t 3), .int (zi t_wayLength), .int (zi (out.1))])), ((t 1), .inl (κ 1, 429, .inl (zc (out.2.1)))), ((t 2), .inl (κ 1, 429, .inl (zc (out.2.2)))), ((t 3), .inl (κ 1, 429, .inl (zc t_way)))])) (va_A ([((t 0), .inr (4, [.ref (t 1), .ref (t 2), .ref (t 3), .int (zi t_wayLength), .int (zi t_queued)])), ((t 1), .inl (κ 1, 429, .inl (zc t_steps))), ((t 2), .inl (κ 1, 429, .inl (zc t_queue))), ((t 3), .inl (κ 1, 429, .inl (zc t_way)))]) sz)) 0 0 (va_A ([((t 0), .inr (4, [.ref (t 1), .ref (t 2), .ref (t 3), .int (zi t_wayLength), .int (zi t_queued)])), ((t 1), .inl (κ 1, 429, .inl (zc t_steps))), ((t 2), .inl (κ 1, 429, .inl (zc t_queue))), ((t 3), .inl (κ 1, 429, .inl (zc t_way)))]) sz) := by
  refine Met.ofW (cc := cX4_measure) (maxL := 6) (ret := none) (by decide +kernel) rfl ?_
  intro p e s m args below meth c s₁ B hml hv
  obtain ⟨rfl, hsz, hP, hK, hD0, hB, hBA⟩ := hv
  have hx := B.exec
  have hb := B.bytes
  have hr := B.returns
  have hts := atoms_spec (ws := wsX4_measure) B.pre
  have hown : s.vm.findClass RX4 = some m.cls := findClass_of_methodNamed B.named
  have hlocks := B.notSynchronized
  subst hsz
  have hD := hD0.self (sz := s.heap.size)
  generalize hAe : va_A ([((t 0), .inr (4, [.ref (t 1), .ref (t 2), .ref (t 3), .int (zi t_wayLength), .int (zi t_queued)])), ((t 1), .inl (κ 1, 429, .inl (zc t_steps))), ((t 2), .inl (κ 1, 429, .inl (zc t_queue))), ((t 3), .inl (κ 1, 429, .inl (zc t_way)))]) s.heap.size = A at hD hBA ⊢
  have hA : ∀ q : Nat, s.heap.size ≤ q → A q := fun q h => by rw [← hAe]; exact Or.inr h
  have hS : va_S A s.heap s.heap [] := va_S.rf
  have hl := lv_entry ([.ref (t 0), .ref (ad n1 0), .int (zi i2)]) (n := 6) (Nat.le_of_ble_eq_true rfl)
  rw [lg_entry_eq]
  generalize (lg_sl ([.ref (t 0), .ref (ad n1 0), .int (zi i2)]) ++ List.replicate (6 - (lg_sl ([.ref (t 0), .ref (ad n1 0), .int (zi i2)])).length) Slot.unset).toArray = ls at hl ⊢
  have hl : lv_has ls 6 [(0, .ref (t 0)), (1, .ref (ad n1 0)), (2, .int (zi i2))] := hl
  refine (zw_X4_measure t mk ad t_wayLength t_way n1 t_queued t_steps t_queue i2 hx hb hml hown hts hK hA hB hBA out h ?_) s.heap [] ls hP hD hS (lv_sub hl [0, 1, 2] rfl)
  exact fun H locs ls pc hP hD hS hd => W.vret hx hb hr (fun t ht hW => ⟨⟨(), rfl, trivial, by rw [ht]; exact hP, va_K.moved hW.alike hK, hD⟩, hS.F ht⟩) hS.2.2 hd
/-! DiamondRows$Flips.mostSteps(LDiamondRows$Polygon;)I -/
abbrev zr_X4_mostSteps : Room := { frames := 1, cells := 0, slots := 0, locals := 30 }
abbrev zS_X4_mostSteps : Type := Nat × Int × Int
abbrev zO_X4_mostSteps : Type := Int
noncomputable def zg_X4_mostSteps_0 (mk : Nat) (t_steps : Nat) (n1 : Nat) (i2 : Int) (i3 : Int) : Option (zO_X4_mostSteps ⊕ zS_X4_mostSteps) :=
  some (.inr (4, (0 : Int), (0 : Int)))
noncomputable def zg_X4_mostSteps_4 (mk : Nat) (t_steps : Nat) (n1 : Nat) (i2 : Int) (i3 : Int) : Option (zO_X4_mostSteps ⊕ zS_X4_mostSteps) :=
  if zno mk n1 then none else
  Option.bind (zf_X5_cutCount n1) (fun o2 =>
  if zout i3 then none else
  if zout o2 then none else
  if o2 ≤ i3 then
  some (.inl (i2))
  else
  Option.bind (zf_X4_stepsTo t_steps i3) (fun o5 =>
  if zout i2 then none else
  if zout o5 then none else
  some (.inr (4, (zmax i2 o5), (i3 + (1 : Int))))))
noncomputable def zg_X4_mostSteps (mk : Nat) (t_steps : Nat) (n1 : Nat) (st : zS_X4_mostSteps) : Option (zO_X4_mostSteps ⊕ zS_X4_mostSteps) := match st with
  | (lab, i2, i3) => if lab = 0 then zg_X4_mostSteps_0 mk t_steps n1 i2 i3 else if lab = 4 then zg_X4_mostSteps_4 mk t_steps n1 i2 i3 else none
noncomputable def zf_X4_mostSteps (mk : Nat) (t_steps : Nat) (n1 : Nat) : Option (Int) := jrun (zg_X4_mostSteps mk t_steps n1) jfuel (0, 0, 0)
def zQ_X4_mostSteps (p : Program) (l : Launch) (e : Env) (s : State) (m : MethodId) (args : Array Value) (below : List Frame) (meth : Method) (c : Code) (Q : State → Prop) (H : Heap) (locs : List Loc)  (o : Int) : Prop := ∀ (ls : Array Slot) (pc : Nat), decode cX4_mostSteps pc = .ok (.ireturn, 1) → W p l e zr_X4_mostSteps s m args below meth c H locs 0 0 Q (F0 m pc ls [.int (zi o)])
def zA_X4_mostSteps_0 (p : Program) (l : Launch) (e : Env) (s : State) (m : MethodId) (args : Array Value) (below : List Frame) (meth : Method) (c : Code) (Q : State → Prop) (H : Heap) (locs : List Loc) (t : Nat → Nat) (mk : Nat) (ad : Nat → Nat → Nat) (n1 : Nat) (i2 : Int) (i3 : Int) : Prop := ∀ ls : Array Slot, lv_has ls 4 [(0, .ref (t 0)), (1, .ref (ad n1 0))] → W p l e zr_X4_mostSteps s m args below meth c H locs 0 0 Q (F0 m 0 ls [])
def zA_X4_mostSteps_4 (p : Program) (l : Launch) (e : Env) (s : State) (m : MethodId) (args : Array Value) (below : List Frame) (meth : Method) (c : Code) (Q : State → Prop) (H : Heap) (locs : List Loc) (t : Nat → Nat) (mk : Nat) (ad : Nat → Nat → Nat) (n1 : Nat) (i2 : Int) (i3 : Int) : Prop := ∀ ls : Array Slot, lv_has ls 4 [(0, .ref (t 0)), (1, .ref (ad n1 0)), (2, .int (zi i2)), (3, .int (zi i3))] → W p l e zr_X4_mostSteps s m args below meth c H locs 0 0 Q (F0 m 4 ls [])
def zA_X4_mostSteps (p : Program) (l : Launch) (e : Env) (s : State) (m : MethodId) (args : Array Value) (below : List Frame) (meth : Method) (c : Code) (Q : State → Prop) (H : Heap) (locs : List Loc) (t : Nat → Nat) (mk : Nat) (ad : Nat → Nat → Nat) (n1 : Nat) (st : zS_X4_mostSteps) : Prop := match st with
  | (lab, i2, i3) => if lab = 0 then zA_X4_mostSteps_0 p l e s m args below meth c Q H locs t mk ad n1 i2 i3 else if lab = 4 then zA_X4_mostSteps_4 p l e s m args below meth c Q H locs t mk ad n1 i2 i3 else True
set_option maxHeartbeats 4000000 in
set_option maxRecDepth 100000 in
theorem zs_X4_mostSteps_0 {p : Program} {l : Launch} {e : Env} {s : State} {m : MethodId} {args : Array Value} {below : List Frame} {meth : Method} {c : Code} {Q : State → Prop} {D : va_G} {κ : Nat → ClassId} {H : Heap} {locs : List Loc} (t : Nat → Nat) (mk : Nat) (ad : Nat → Nat → Nat) (t_wayLength : Int) (t_queued : Int) (t_steps : Nat) (t_queue : Nat) (t_way : Nat) (n1 : Nat) (hx : p.tables.exec = Jvm.exec) (hb : c.code = cX4_mostSteps) (hml : c.maxLocals = 4) (hown : s.vm.findClass RX4 = some m.cls) (hts : ∀ w ∈ wsX4_mostSteps, w.before args s = true) (hK : va_K D vwCl (zTY κ) s) (hP : va_P D vwCl ([((t 0), .inr (4, [.ref (t 1), .ref (t 2), .ref (t 3), .int (zi t_wayLength), .int (zi t_queued)])), ((t 1), .inl (κ 1, 429, .inl (zc t_steps))), ((t 2), .inl (κ 1, 429, .inl (zc t_queue))), ((t 3), .inl (κ 1, 429, .inl (zc t_way)))]) H) (hB : zAmb D κ mk ad H) (i2 : Int) (i3 : Int) (hg : Go (GoE (zA_X4_mostSteps p l e s m args below meth c Q H locs t mk ad n1) (zQ_X4_mostSteps p l e s m args below meth c Q H locs)) (zg_X4_mostSteps_0 mk t_steps n1 i2 i3)) : zA_X4_mostSteps_0 p l e s m args below meth c Q H locs t mk ad n1 i2 i3 := by
  intro ls hl
  unfold zg_X4_mostSteps_0 at hg
  refine zv_iconst hx hb dX4_mostSteps_0 ?_
  refine lv_istore_n (lv' := [(2, .int (zi (0 : Int))), (0, .ref (t 0)), (1, .ref (ad n1 0))]) hx hb dX4_mostSteps_1 rfl hl (by decide) rfl (fun ls hl => ?_)
  refine zv_iconst hx hb dX4_mostSteps_2 ?_
  refine lv_istore_n (lv' := [(3, .int (zi (0 : Int))), (2, .int (zi (0 : Int))), (0, .ref (t 0)), (1, .ref (ad n1 0))]) hx hb dX4_mostSteps_3 rfl hl (by decide) rfl (fun ls hl => ?_)
  exact (Go_s hg) ls (lv_sub hl [2, 3, 1, 0] rfl)
set_option maxHeartbeats 4000000 in
set_option maxRecDepth 100000 in
theorem zs_X4_mostSteps_4 {p : Program} {l : Launch} {e : Env} {s : State} {m : MethodId} {args : Array Value} {below : List Frame} {meth : Method} {c : Code} {Q : State → Prop} {D : va_G} {κ : Nat → ClassId} {H : Heap} {locs : List Loc} (t : Nat → Nat) (mk : Nat) (ad : Nat → Nat → Nat) (t_wayLength : Int) (t_queued : Int) (t_steps : Nat) (t_queue : Nat) (t_way : Nat) (n1 : Nat) (hx : p.tables.exec = Jvm.exec) (hb : c.code = cX4_mostSteps) (hml : c.maxLocals = 4) (hown : s.vm.findClass RX4 = some m.cls) (hts : ∀ w ∈ wsX4_mostSteps, w.before args s = true) (hK : va_K D vwCl (zTY κ) s) (hP : va_P D vwCl ([((t 0), .inr (4, [.ref (t 1), .ref (t 2), .ref (t 3), .int (zi t_wayLength), .int (zi t_queued)])), ((t 1), .inl (κ 1, 429, .inl (zc t_steps))), ((t 2), .inl (κ 1, 429, .inl (zc t_queue))), ((t 3), .inl (κ 1, 429, .inl (zc t_way)))]) H) (hB : zAmb D κ mk ad H) (i2 : Int) (i3 : Int) (hg : Go (GoE (zA_X4_mostSteps p l e s m args below meth c Q H locs t mk ad n1) (zQ_X4_mostSteps p l e s m args below meth c Q H locs)) (zg_X4_mostSteps_4 mk t_steps n1 i2 i3)) : zA_X4_mostSteps_4 p l e s m args below meth c Q H locs t mk ad n1 i2 i3 := by
  intro ls hl
  unfold zg_X4_mostSteps_4 at hg
  refine lv_iload_n hx hb dX4_mostSteps_4 rfl (lv_at hl 3 rfl) ?_
  refine lv_aload_n hx hb dX4_mostSteps_5 rfl (lv_at hl 1 rfl) ?_
  obtain ⟨m1, hg⟩ := Go_n hg
  obtain ⟨o2, ho2, hg⟩ := Go_b hg
  refine zc_vi (rest := [.int (zi i3)]) ⟨hx, hb, hml, hown, hts⟩ (zc_X5_cutCount l D κ (ad n1) n1  o2 ho2) (cwV 0 hts gX4_mostSteps_X5_cutCount rfl rfl rfl hv_X5_cutCount ⟨Nat.le_of_ble_eq_true rfl, Nat.le_of_ble_eq_true rfl⟩) (zpreV hK (hB n1 m1) 5 0 rfl rfl) rfl hl.1 rfl (Nat.le_of_ble_eq_true rfl) dX4_mostSteps_6 ⟨Nat.zero_le _, Nat.zero_le _⟩ ?_
  obtain ⟨b3, hg⟩ := Go_n hg
  obtain ⟨b4, hg⟩ := Go_n hg
  refine zv_icmp_ge (tgt := 28) hx hb dX4_mostSteps_9 (by decide) b3 b4 (fun c8 => ?_) (fun c8 => ?_)
  · have hg := Go_t c8 hg
    refine lv_iload_n hx hb dX4_mostSteps_28 rfl (lv_at hl 2 rfl) ?_
    exact (Go_s hg) _ _ dX4_mostSteps_29
  · have hg := Go_f c8 hg
    refine lv_iload_n hx hb dX4_mostSteps_12 rfl (lv_at hl 2 rfl) ?_
    refine lv_aload_n hx hb dX4_mostSteps_13 rfl (lv_at hl 0 rfl) ?_
    refine lv_iload_n hx hb dX4_mostSteps_14 rfl (lv_at hl 3 rfl) ?_
    obtain ⟨o5, ho5, hg⟩ := Go_b hg
    refine zc_vi (rest := [.int (zi i2)]) ⟨hx, hb, hml, hown, hts⟩ (zc_X4_stepsTo l D κ t t_wayLength t_queued t_steps t_queue t_way i3 o5 ho5) (cwV 1 hts gX4_mostSteps_X4_stepsTo rfl rfl rfl hv_X4_stepsTo ⟨Nat.le_of_ble_eq_true rfl, Nat.le_of_ble_eq_true rfl⟩) (zpreV hK (hP.sub [0, 1, 2, 3] rfl) 4 0 rfl rfl) rfl hl.1 rfl (Nat.le_of_ble_eq_true rfl) dX4_mostSteps_15 ⟨Nat.zero_le _, Nat.zero_le _⟩ ?_
    obtain ⟨b6, hg⟩ := Go_n hg
    obtain ⟨b7, hg⟩ := Go_n hg
    refine va_mmax hx hb (by rw [hml]; exact hl.1.symm) hown (hts (.methodLink RX4 49 Lib.Math.max.name) (List.mem_cons_of_mem _ (List.mem_append_left _ (List.mem_of_getElem? (i := 0) rfl)))) (hts (.static Lib.Math.max.name) (List.mem_cons_of_mem _ (List.mem_append_left _ (List.mem_of_getElem? (i := 1) rfl)))) (hts (.initialized "java/lang/Math") (List.mem_cons_of_mem _ (List.mem_append_left _ (List.mem_of_getElem? (i := 2) rfl)))) (hts (.code Lib.Math.max.name Lib.Math.max.code 2 (some .int)) (List.mem_cons_of_mem _ (List.mem_append_left _ (List.mem_of_getElem? (i := 3) rfl)))) (Nat.le_of_ble_eq_true rfl) (Nat.le_of_ble_eq_true rfl) (Nat.zero_le _) (Nat.zero_le _) dX4_mostSteps_18 ?_
    rw [zi_max b6 b7]
    refine lv_istore_n (lv' := [(2, .int (zi (zmax i2 o5))), (0, .ref (t 0)), (1, .ref (ad n1 0)), (3, .int (zi i3))]) hx hb dX4_mostSteps_21 rfl hl (by decide) rfl (fun ls hl => ?_)
    refine lv_iinc (v := zi (i3 + (1 : Int))) (lv' := [(3, .int (zi (i3 + (1 : Int)))), (2, .int (zi (zmax i2 o5))), (0, .ref (t 0)), (1, .ref (ad n1 0))]) hx hb dX4_mostSteps_22 hl (k := 3) rfl (zi_add i3 _) (by decide) rfl (fun ls hl => ?_)
    refine lv_goto (tgt := 4) hx hb dX4_mostSteps_25 (by decide) ?_
    exact (Go_s hg) ls (lv_sub hl [2, 3, 1, 0] rfl)
set_option maxHeartbeats 4000000 in
set_option maxRecDepth 100000 in
theorem zw_X4_mostSteps {p : Program} {l : Launch} {e : Env} {s : State} {m : MethodId} {args : Array Value} {below : List Frame} {meth : Method} {c : Code} {Q : State → Prop} {D : va_G} {κ : Nat → ClassId} {H : Heap} {locs : List Loc} (t : Nat → Nat) (mk : Nat) (ad : Nat → Nat → Nat) (t_wayLength : Int) (t_queued : Int) (t_steps : Nat) (t_queue : Nat) (t_way : Nat) (n1 : Nat)  (hx : p.tables.exec = Jvm.exec) (hb : c.code = cX4_mostSteps) (hml : c.maxLocals = 4) (hown : s.vm.findClass RX4 = some m.cls) (hts : ∀ w ∈ wsX4_mostSteps, w.before args s = true) (hK : va_K D vwCl (zTY κ) s) (hP : va_P D vwCl ([((t 0), .inr (4, [.ref (t 1), .ref (t 2), .ref (t 3), .int (zi t_wayLength), .int (zi t_queued)])), ((t 1), .inl (κ 1, 429, .inl (zc t_steps))), ((t 2), .inl (κ 1, 429, .inl (zc t_queue))), ((t 3), .inl (κ 1, 429, .inl (zc t_way)))]) H) (hB : zAmb D κ mk ad H) (out : Int) (h : zf_X4_mostSteps mk t_steps n1 = some out) (hq : zQ_X4_mostSteps p l e s m args below meth c Q H locs out) : zA_X4_mostSteps_0 p l e s m args below meth c Q H locs t mk ad n1 0 0 := by
  have hst : ∀ st : zS_X4_mostSteps, Go (GoE (zA_X4_mostSteps p l e s m args below meth c Q H locs t mk ad n1) (zQ_X4_mostSteps p l e s m args below meth c Q H locs)) (zg_X4_mostSteps mk t_steps n1 st) → zA_X4_mostSteps p l e s m args below meth c Q H locs t mk ad n1 st := by
    intro st hg
    obtain ⟨lab, i2, i3⟩ := st
    by_cases h0 : lab = 0
    · subst h0
      exact zs_X4_mostSteps_0 t mk ad t_wayLength t_queued t_steps t_queue t_way n1 hx hb hml hown hts hK hP hB i2 i3 hg
    by_cases h4 : lab = 4
    · subst h4
      exact zs_X4_mostSteps_4 t mk ad t_wayLength t_queued t_steps t_queue t_way n1 hx hb hml hown hts hK hP hB i2 i3 hg
    have hz : zg_X4_mostSteps mk t_steps n1 (lab, i2, i3) = none := by simp [zg_X4_mostSteps, h0, h4]
    rw [hz] at hg
    obtain ⟨a, h1, -⟩ := hg
    cases h1
  exact jwalk (At := zA_X4_mostSteps p l e s m args below meth c Q H locs t mk ad n1) (Ret := zQ_X4_mostSteps p l e s m args below meth c Q H locs) hst _ _ _ h hq
set_option maxHeartbeats 4000000 in
set_option maxRecDepth 100000 in
theorem zc_X4_mostSteps (l : Launch) (D : va_G) (κ : Nat → ClassId) (t : Nat → Nat) (mk : Nat) (ad : Nat → Nat → Nat) (t_wayLength : Int) (t_queued : Int) (t_steps : Nat) (t_queue : Nat) (t_way : Nat) (n1 : Nat) (out : Int) (h : zf_X4_mostSteps mk t_steps n1 = some out) : Met l yX4_mostSteps wsX4_mostSteps zr_X4_mostSteps (va_Pc [.ref (t 0), .ref (ad n1 0)] (zRa D κ mk ad ([((t 0), .inr (4, [.ref (t 1), .ref (t 2), .ref (t 3), .int (zi t_wayLength), .int (zi t_queued)])), ((t 1), .inl (κ 1, 429, .inl (zc t_steps))), ((t 2), .inl (κ 1, 429, .inl (zc t_queue))), ((t 3), .inl (κ 1, 429, .inl (zc t_way)))]))) (vp_Si (fun x => x = zi out)) 0 0 (fun _ => False) := by
  refine Met.ofW (cc := cX4_mostSteps) (maxL := 4) (ret := (some .int)) (by decide +kernel) rfl ?_
  intro p e s m args below meth c s₁ B hml hv
  obtain ⟨rfl, hP, hK, hB⟩ := hv
  have hx := B.exec
  have hb := B.bytes
  have hr := B.returns
  have hts := atoms_spec (ws := wsX4_mostSteps) B.pre
  have hown : s.vm.findClass RX4 = some m.cls := findClass_of_methodNamed B.named
  have hlocks := B.notSynchronized
  have hl := lv_entry ([.ref (t 0), .ref (ad n1 0)]) (n := 4) (Nat.le_of_ble_eq_true rfl)
  rw [lg_entry_eq]
  generalize (lg_sl ([.ref (t 0), .ref (ad n1 0)]) ++ List.replicate (4 - (lg_sl ([.ref (t 0), .ref (ad n1 0)])).length) Slot.unset).toArray = ls at hl ⊢
  have hl : lv_has ls 4 [(0, .ref (t 0)), (1, .ref (ad n1 0))] := hl
  refine (zw_X4_mostSteps t mk ad t_wayLength t_queued t_steps t_queue t_way n1  hx hb hml hown hts hK hP hB out h ?_) ls (lv_sub hl [0, 1] rfl)
  exact fun ls pc hd => W.iret hx hb hr (fun t ht hW => ⟨_, rfl, rfl, ht⟩) (fun _ h => by cases h) hd
/-! DiamondRows$Flips.howManyAt(LDiamondRows$Polygon;I)I -/
abbrev zr_X4_howManyAt : Room := { frames := 1, cells := 0, slots := 0, locals := 21 }
abbrev zS_X4_howManyAt : Type := Nat × Int × Int × Int
abbrev zO_X4_howManyAt : Type := Int
noncomputable def zg_X4_howManyAt_0 (mk : Nat) (t_steps : Nat) (n1 : Nat) (i2 : Int) (i3 : Int) (i4 : Int) : Option (zO_X4_howManyAt ⊕ zS_X4_howManyAt) :=
  some (.inr (5, i2, (0 : Int), (0 : Int)))
noncomputable def zg_X4_howManyAt_5 (mk : Nat) (t_steps : Nat) (n1 : Nat) (i2 : Int) (i3 : Int) (i4 : Int) : Option (zO_X4_howManyAt ⊕ zS_X4_howManyAt) :=
  if zno mk n1 then none else
  Option.bind (zf_X5_cutCount n1) (fun o2 =>
  if zout i4 then none else
  if zout o2 then none else
  if o2 ≤ i4 then
  some (.inl (i3))
  else
  Option.bind (zf_X4_stepsTo t_steps i4) (fun o5 =>
  if zout o5 then none else
  if zout i2 then none else
  if o5 = i2 then
  some (.inr (5, i2, (i3 + (1 : Int)), (i4 + (1 : Int))))
  else
  some (.inr (5, i2, i3, (i4 + (1 : Int))))))
noncomputable def zg_X4_howManyAt (mk : Nat) (t_steps : Nat) (n1 : Nat) (st : zS_X4_howManyAt) : Option (zO_X4_howManyAt ⊕ zS_X4_howManyAt) := match st with
  | (lab, i2, i3, i4) => if lab = 0 then zg_X4_howManyAt_0 mk t_steps n1 i2 i3 i4 else if lab = 5 then zg_X4_howManyAt_5 mk t_steps n1 i2 i3 i4 else none
noncomputable def zf_X4_howManyAt (mk : Nat) (t_steps : Nat) (n1 : Nat) (i2 : Int) : Option (Int) := jrun (zg_X4_howManyAt mk t_steps n1) jfuel (0, i2, 0, 0)
def zQ_X4_howManyAt (p : Program) (l : Launch) (e : Env) (s : State) (m : MethodId) (args : Array Value) (below : List Frame) (meth : Method) (c : Code) (Q : State → Prop) (H : Heap) (locs : List Loc)  (o : Int) : Prop := ∀ (ls : Array Slot) (pc : Nat), decode cX4_howManyAt pc = .ok (.ireturn, 1) → W p l e zr_X4_howManyAt s m args below meth c H locs 0 0 Q (F0 m pc ls [.int (zi o)])
def zA_X4_howManyAt_0 (p : Program) (l : Launch) (e : Env) (s : State) (m : MethodId) (args : Array Value) (below : List Frame) (meth : Method) (c : Code) (Q : State → Prop) (H : Heap) (locs : List Loc) (t : Nat → Nat) (mk : Nat) (ad : Nat → Nat → Nat) (n1 : Nat) (i2 : Int) (i3 : Int) (i4 : Int) : Prop := ∀ ls : Array Slot, lv_has ls 5 [(0, .ref (t 0)), (1, .ref (ad n1 0)), (2, .int (zi i2))] → W p l e zr_X4_howManyAt s m args below meth c H locs 0 0 Q (F0 m 0 ls [])
def zA_X4_howManyAt_5 (p : Program) (l : Launch) (e : Env) (s : State) (m : MethodId) (args : Array Value) (below : List Frame) (meth : Method) (c : Code) (Q : State → Prop) (H : Heap) (locs : List Loc) (t : Nat → Nat) (mk : Nat) (ad : Nat → Nat → Nat) (n1 : Nat) (i2 : Int) (i3 : Int) (i4 : Int) : Prop := ∀ ls : Array Slot, lv_has ls 5 [(0, .ref (t 0)), (1, .ref (ad n1 0)), (2, .int (zi i2)), (3, .int (zi i3)), (4, .int (zi i4))] → W p l e zr_X4_howManyAt s m args below meth c H locs 0 0 Q (F0 m 5 ls [])
def zA_X4_howManyAt (p : Program) (l : Launch) (e : Env) (s : State) (m : MethodId) (args : Array Value) (below : List Frame) (meth : Method) (c : Code) (Q : State → Prop) (H : Heap) (locs : List Loc) (t : Nat → Nat) (mk : Nat) (ad : Nat → Nat → Nat) (n1 : Nat) (st : zS_X4_howManyAt) : Prop := match st with
  | (lab, i2, i3, i4) => if lab = 0 then zA_X4_howManyAt_0 p l e s m args below meth c Q H locs t mk ad n1 i2 i3 i4 else if lab = 5 then zA_X4_howManyAt_5 p l e s m args below meth c Q H locs t mk ad n1 i2 i3 i4 else True
set_option maxHeartbeats 4000000 in
set_option maxRecDepth 100000 in
theorem zs_X4_howManyAt_0 {p : Program} {l : Launch} {e : Env} {s : State} {m : MethodId} {args : Array Value} {below : List Frame} {meth : Method} {c : Code} {Q : State → Prop} {D : va_G} {κ : Nat → ClassId} {H : Heap} {locs : List Loc} (t : Nat → Nat) (mk : Nat) (ad : Nat → Nat → Nat) (t_wayLength : Int) (t_queued : Int) (t_steps : Nat) (t_queue : Nat) (t_way : Nat) (n1 : Nat) (hx : p.tables.exec = Jvm.exec) (hb : c.code = cX4_howManyAt) (hml : c.maxLocals = 5) (hown : s.vm.findClass RX4 = some m.cls) (hts : ∀ w ∈ wsX4_howManyAt, w.before args s = true) (hK : va_K D vwCl (zTY κ) s) (hP : va_P D vwCl ([((t 0), .inr (4, [.ref (t 1), .ref (t 2), .ref (t 3), .int (zi t_wayLength), .int (zi t_queued)])), ((t 1), .inl (κ 1, 429, .inl (zc t_steps))), ((t 2), .inl (κ 1, 429, .inl (zc t_queue))), ((t 3), .inl (κ 1, 429, .inl (zc t_way)))]) H) (hB : zAmb D κ mk ad H) (i2 : Int) (i3 : Int) (i4 : Int) (hg : Go (GoE (zA_X4_howManyAt p l e s m args below meth c Q H locs t mk ad n1) (zQ_X4_howManyAt p l e s m args below meth c Q H locs)) (zg_X4_howManyAt_0 mk t_steps n1 i2 i3 i4)) : zA_X4_howManyAt_0 p l e s m args below meth c Q H locs t mk ad n1 i2 i3 i4 := by
  intro ls hl
  unfold zg_X4_howManyAt_0 at hg
  refine zv_iconst hx hb dX4_howManyAt_0 ?_
  refine lv_istore_n (lv' := [(3, .int (zi (0 : Int))), (0, .ref (t 0)), (1, .ref (ad n1 0)), (2, .int (zi i2))]) hx hb dX4_howManyAt_1 rfl hl (by decide) rfl (fun ls hl => ?_)
  refine zv_iconst hx hb dX4_howManyAt_2 ?_
  refine lv_istore (lv' := [(4, .int (zi (0 : Int))), (3, .int (zi (0 : Int))), (0, .ref (t 0)), (1, .ref (ad n1 0)), (2, .int (zi i2))]) hx hb dX4_howManyAt_3 hl (by decide) rfl (fun ls hl => ?_)
  exact (Go_s hg) ls (lv_sub hl [2, 3, 4, 1, 0] rfl)
set_option maxHeartbeats 4000000 in
set_option maxRecDepth 100000 in
theorem zs_X4_howManyAt_5 {p : Program} {l : Launch} {e : Env} {s : State} {m : MethodId} {args : Array Value} {below : List Frame} {meth : Method} {c : Code} {Q : State → Prop} {D : va_G} {κ : Nat → ClassId} {H : Heap} {locs : List Loc} (t : Nat → Nat) (mk : Nat) (ad : Nat → Nat → Nat) (t_wayLength : Int) (t_queued : Int) (t_steps : Nat) (t_queue : Nat) (t_way : Nat) (n1 : Nat) (hx : p.tables.exec = Jvm.exec) (hb : c.code = cX4_howManyAt) (hml : c.maxLocals = 5) (hown : s.vm.findClass RX4 = some m.cls) (hts : ∀ w ∈ wsX4_howManyAt, w.before args s = true) (hK : va_K D vwCl (zTY κ) s) (hP : va_P D vwCl ([((t 0), .inr (4, [.ref (t 1), .ref (t 2), .ref (t 3), .int (zi t_wayLength), .int (zi t_queued)])), ((t 1), .inl (κ 1, 429, .inl (zc t_steps))), ((t 2), .inl (κ 1, 429, .inl (zc t_queue))), ((t 3), .inl (κ 1, 429, .inl (zc t_way)))]) H) (hB : zAmb D κ mk ad H) (i2 : Int) (i3 : Int) (i4 : Int) (hg : Go (GoE (zA_X4_howManyAt p l e s m args below meth c Q H locs t mk ad n1) (zQ_X4_howManyAt p l e s m args below meth c Q H locs)) (zg_X4_howManyAt_5 mk t_steps n1 i2 i3 i4)) : zA_X4_howManyAt_5 p l e s m args below meth c Q H locs t mk ad n1 i2 i3 i4 := by
  intro ls hl
  unfold zg_X4_howManyAt_5 at hg
  refine lv_iload hx hb dX4_howManyAt_5 (lv_at hl 4 rfl) ?_
  refine lv_aload_n hx hb dX4_howManyAt_7 rfl (lv_at hl 1 rfl) ?_
  obtain ⟨m1, hg⟩ := Go_n hg
  obtain ⟨o2, ho2, hg⟩ := Go_b hg
  refine zc_vi (rest := [.int (zi i4)]) ⟨hx, hb, hml, hown, hts⟩ (zc_X5_cutCount l D κ (ad n1) n1  o2 ho2) (cwV 0 hts gX4_howManyAt_X5_cutCount rfl rfl rfl hv_X5_cutCount ⟨Nat.le_of_ble_eq_true rfl, Nat.le_of_ble_eq_true rfl⟩) (zpreV hK (hB n1 m1) 5 0 rfl rfl) rfl hl.1 rfl (Nat.le_of_ble_eq_true rfl) dX4_howManyAt_8 ⟨Nat.zero_le _, Nat.zero_le _⟩ ?_
  obtain ⟨b3, hg⟩ := Go_n hg
  obtain ⟨b4, hg⟩ := Go_n hg
  refine zv_icmp_ge (tgt := 33) hx hb dX4_howManyAt_11 (by decide) b3 b4 (fun c9 => ?_) (fun c9 => ?_)
  · have hg := Go_t c9 hg
    refine lv_iload_n hx hb dX4_howManyAt_33 rfl (lv_at hl 3 rfl) ?_
    exact (Go_s hg) _ _ dX4_howManyAt_34
  · have hg := Go_f c9 hg
    refine lv_aload_n hx hb dX4_howManyAt_14 rfl (lv_at hl 0 rfl) ?_
    refine lv_iload hx hb dX4_howManyAt_15 (lv_at hl 4 rfl) ?_
    obtain ⟨o5, ho5, hg⟩ := Go_b hg
    refine zc_vi (rest := []) ⟨hx, hb, hml, hown, hts⟩ (zc_X4_stepsTo l D κ t t_wayLength t_queued t_steps t_queue t_way i4 o5 ho5) (cwV 1 hts gX4_howManyAt_X4_stepsTo rfl rfl rfl hv_X4_stepsTo ⟨Nat.le_of_ble_eq_true rfl, Nat.le_of_ble_eq_true rfl⟩) (zpreV hK (hP.sub [0, 1, 2, 3] rfl) 4 0 rfl rfl) rfl hl.1 rfl (Nat.le_of_ble_eq_true rfl) dX4_howManyAt_17 ⟨Nat.zero_le _, Nat.zero_le _⟩ ?_
    refine lv_iload_n hx hb dX4_howManyAt_20 rfl (lv_at hl 2 rfl) ?_
    obtain ⟨b6, hg⟩ := Go_n hg
    obtain ⟨b7, hg⟩ := Go_n hg
    refine zv_icmp_ne (tgt := 27) hx hb dX4_howManyAt_21 (by decide) b6 b7 (fun c8 => ?_) (fun c8 => ?_)
    · have hg := Go_f c8 hg
      refine lv_iinc (v := zi (i4 + (1 : Int))) (lv' := [(4, .int (zi (i4 + (1 : Int)))), (0, .ref (t 0)), (1, .ref (ad n1 0)), (2, .int (zi i2)), (3, .int (zi i3))]) hx hb dX4_howManyAt_27 hl (k := 4) rfl (zi_add i4 _) (by decide) rfl (fun ls hl => ?_)
      refine lv_goto (tgt := 5) hx hb dX4_howManyAt_30 (by decide) ?_
      exact (Go_s hg) ls (lv_sub hl [1, 2, 3, 4, 0] rfl)
    · have hg := Go_t c8 hg
      refine lv_iinc (v := zi (i3 + (1 : Int))) (lv' := [(3, .int (zi (i3 + (1 : Int)))), (0, .ref (t 0)), (1, .ref (ad n1 0)), (2, .int (zi i2)), (4, .int (zi i4))]) hx hb dX4_howManyAt_24 hl (k := 3) rfl (zi_add i3 _) (by decide) rfl (fun ls hl => ?_)
      refine lv_iinc (v := zi (i4 + (1 : Int))) (lv' := [(4, .int (zi (i4 + (1 : Int)))), (3, .int (zi (i3 + (1 : Int)))), (0, .ref (t 0)), (1, .ref (ad n1 0)), (2, .int (zi i2))]) hx hb dX4_howManyAt_27 hl (k := 4) rfl (zi_add i4 _) (by decide) rfl (fun ls hl => ?_)
      refine lv_goto (tgt := 5) hx hb dX4_howManyAt_30 (by decide) ?_
      exact (Go_s hg) ls (lv_sub hl [2, 3, 4, 1, 0] rfl)
set_option maxHeartbeats 4000000 in
set_option maxRecDepth 100000 in
theorem zw_X4_howManyAt {p : Program} {l : Launch} {e : Env} {s : State} {m : MethodId} {args : Array Value} {below : List Frame} {meth : Method} {c : Code} {Q : State → Prop} {D : va_G} {κ : Nat → ClassId} {H : Heap} {locs : List Loc} (t : Nat → Nat) (mk : Nat) (ad : Nat → Nat → Nat) (t_wayLength : Int) (t_queued : Int) (t_steps : Nat) (t_queue : Nat) (t_way : Nat) (n1 : Nat) (i2 : Int) (hx : p.tables.exec = Jvm.exec) (hb : c.code = cX4_howManyAt) (hml : c.maxLocals = 5) (hown : s.vm.findClass RX4 = some m.cls) (hts : ∀ w ∈ wsX4_howManyAt, w.before args s = true) (hK : va_K D vwCl (zTY κ) s) (hP : va_P D vwCl ([((t 0), .inr (4, [.ref (t 1), .ref (t 2), .ref (t 3), .int (zi t_wayLength), .int (zi t_queued)])), ((t 1), .inl (κ 1, 429, .inl (zc t_steps))), ((t 2), .inl (κ 1, 429, .inl (zc t_queue))), ((t 3), .inl (κ 1, 429, .inl (zc t_way)))]) H) (hB : zAmb D κ mk ad H) (out : Int) (h : zf_X4_howManyAt mk t_steps n1 i2 = some out) (hq : zQ_X4_howManyAt p l e s m args below meth c Q H locs out) : zA_X4_howManyAt_0 p l e s m args below meth c Q H locs t mk ad n1 i2 0 0 := by
  have hst : ∀ st : zS_X4_howManyAt, Go (GoE (zA_X4_howManyAt p l e s m args below meth c Q H locs t mk ad n1) (zQ_X4_howManyAt p l e s m args below meth c Q H locs)) (zg_X4_howManyAt mk t_steps n1 st) → zA_X4_howManyAt p l e s m args below meth c Q H locs t mk ad n1 st := by
    intro st hg
    obtain ⟨lab, i2, i3, i4⟩ := st
    by_cases h0 : lab = 0
    · subst h0
      exact zs_X4_howManyAt_0 t mk ad t_wayLength t_queued t_steps t_queue t_way n1 hx hb hml hown hts hK hP hB i2 i3 i4 hg
    by_cases h5 : lab = 5
    · subst h5
      exact zs_X4_howManyAt_5 t mk ad t_wayLength t_queued t_steps t_queue t_way n1 hx hb hml hown hts hK hP hB i2 i3 i4 hg
    have hz : zg_X4_howManyAt mk t_steps n1 (lab, i2, i3, i4) = none := by simp [zg_X4_howManyAt, h0, h5]
    rw [hz] at hg
    obtain ⟨a, h1, -⟩ := hg
    cases h1
  exact jwalk (At := zA_X4_howManyAt p l e s m args below meth c Q H locs t mk ad n1) (Ret := zQ_X4_howManyAt p l e s m args below meth c Q H locs) hst _ _ _ h hq
set_option maxHeartbeats 4000000 in
set_option maxRecDepth 100000 in
theorem zc_X4_howManyAt (l : Launch) (D : va_G) (κ : Nat → ClassId) (t : Nat → Nat) (mk : Nat) (ad : Nat → Nat → Nat) (t_wayLength : Int) (t_queued : Int) (t_steps : Nat) (t_queue : Nat) (t_way : Nat) (n1 : Nat) (i2 : Int) (out : Int) (h : zf_X4_howManyAt mk t_steps n1 i2 = some out) : Met l yX4_howManyAt wsX4_howManyAt zr_X4_howManyAt (va_Pc [.ref (t 0), .ref (ad n1 0), .int (zi i2)] (zRa D κ mk ad ([((t 0), .inr (4, [.ref (t 1), .ref (t 2), .ref (t 3), .int (zi t_wayLength), .int (zi t_queued)])), ((t 1), .inl (κ 1, 429, .inl (zc t_steps))), ((t 2), .inl (κ 1, 429, .inl (zc t_queue))), ((t 3), .inl (κ 1, 429, .inl (zc t_way)))]))) (vp_Si (fun x => x = zi out)) 0 0 (fun _ => False) := by
  refine Met.ofW (cc := cX4_howManyAt) (maxL := 5) (ret := (some .int)) (by decide +kernel) rfl ?_
  intro p e s m args below meth c s₁ B hml hv
  obtain ⟨rfl, hP, hK, hB⟩ := hv
  have hx := B.exec
  have hb := B.bytes
  have hr := B.returns
  have hts := atoms_spec (ws := wsX4_howManyAt) B.pre
  have hown : s.vm.findClass RX4 = some m.cls := findClass_of_methodNamed B.named
  have hlocks := B.notSynchronized
  have hl := lv_entry ([.ref (t 0), .ref (ad n1 0), .int (zi i2)]) (n := 5) (Nat.le_of_ble_eq_true rfl)
  rw [lg_entry_eq]
  generalize (lg_sl ([.ref (t 0), .ref (ad n1 0), .int (zi i2)]) ++ List.replicate (5 - (lg_sl ([.ref (t 0), .ref (ad n1 0), .int (zi i2)])).length) Slot.unset).toArray = ls at hl ⊢
  have hl : lv_has ls 5 [(0, .ref (t 0)), (1, .ref (ad n1 0)), (2, .int (zi i2))] := hl
  refine (zw_X4_howManyAt t mk ad t_wayLength t_queued t_steps t_queue t_way n1 i2 hx hb hml hown hts hK hP hB out h ?_) ls (lv_sub hl [0, 1, 2] rfl)
  exact fun ls pc hd => W.iret hx hb hr (fun t ht hW => ⟨_, rfl, rfl, ht⟩) (fun _ h => by cases h) hd
/-! DiamondRows$Flips.leastNearer(LDiamondRows$Polygon;I)I -/
abbrev zr_X4_leastNearer : Room := { frames := 3, cells := 0, slots := 0, locals := 65 }
abbrev zS_X4_leastNearer : Type := Nat × Int × Int × Int × Int × Int
abbrev zO_X4_leastNearer : Type := Int
noncomputable def zg_X4_leastNearer_0 (mk : Nat) (t_steps : Nat) (n1 : Nat) (i2 : Int) (i3 : Int) (i4 : Int) (i5 : Int) (i6 : Int) : Option (zO_X4_leastNearer ⊕ zS_X4_leastNearer) :=
  if zno mk n1 then none else
  Option.bind (zf_X5_cutAt n1 i2) (fun o2 =>
  some (.inr (12, i2, o2, (-1 : Int), (0 : Int), 0)))
noncomputable def zg_X4_leastNearer_12 (mk : Nat) (t_steps : Nat) (n1 : Nat) (i2 : Int) (i3 : Int) (i4 : Int) (i5 : Int) (i6 : Int) : Option (zO_X4_leastNearer ⊕ zS_X4_leastNearer) :=
  if zno mk n1 then none else
  Option.bind (zf_X5_lineCount n1) (fun o4 =>
  if zout i5 then none else
  if zout o4 then none else
  if o4 ≤ i5 then
  some (.inl (i4))
  else
  Option.bind (zf_X5_neighbourWith n1 i3 i5) (fun o7 =>
  if zout o7 then none else
  if o7 = (-1 : Int) then
  some (.inr (56, i2, i3, i4, i5, o7))
  else
  Option.bind (zf_X4_stepsTo t_steps o7) (fun o9 =>
  Option.bind (zf_X4_stepsTo t_steps i2) (fun o10 =>
  if zout o9 then none else
  if zout (o10 - (1 : Int)) then none else
  if o9 = (o10 - (1 : Int)) then
  if (1 : Int) = 0 then
  some (.inr (12, i2, i3, i4, (i5 + (1 : Int)), o7))
  else
  if zout i4 then none else
  if i4 = (-1 : Int) then
  some (.inr (12, i2, i3, o7, (i5 + (1 : Int)), o7))
  else
  if i4 ≤ o7 then
  some (.inr (12, i2, i3, i4, (i5 + (1 : Int)), o7))
  else
  some (.inr (12, i2, i3, o7, (i5 + (1 : Int)), o7))
  else
  some (.inr (56, i2, i3, i4, i5, o7))))))
noncomputable def zg_X4_leastNearer_56 (mk : Nat) (t_steps : Nat) (n1 : Nat) (i2 : Int) (i3 : Int) (i4 : Int) (i5 : Int) (i6 : Int) : Option (zO_X4_leastNearer ⊕ zS_X4_leastNearer) :=
  if (0 : Int) = 0 then
  some (.inr (12, i2, i3, i4, (i5 + (1 : Int)), i6))
  else
  if zout i4 then none else
  if i4 = (-1 : Int) then
  some (.inr (12, i2, i3, i6, (i5 + (1 : Int)), i6))
  else
  if zout i6 then none else
  if i4 ≤ i6 then
  some (.inr (12, i2, i3, i4, (i5 + (1 : Int)), i6))
  else
  some (.inr (12, i2, i3, i6, (i5 + (1 : Int)), i6))
noncomputable def zg_X4_leastNearer (mk : Nat) (t_steps : Nat) (n1 : Nat) (st : zS_X4_leastNearer) : Option (zO_X4_leastNearer ⊕ zS_X4_leastNearer) := match st with
  | (lab, i2, i3, i4, i5, i6) => if lab = 0 then zg_X4_leastNearer_0 mk t_steps n1 i2 i3 i4 i5 i6 else if lab = 12 then zg_X4_leastNearer_12 mk t_steps n1 i2 i3 i4 i5 i6 else if lab = 56 then zg_X4_leastNearer_56 mk t_steps n1 i2 i3 i4 i5 i6 else none
noncomputable def zf_X4_leastNearer (mk : Nat) (t_steps : Nat) (n1 : Nat) (i2 : Int) : Option (Int) := jrun (zg_X4_leastNearer mk t_steps n1) jfuel (0, i2, 0, 0, 0, 0)
def zQ_X4_leastNearer (p : Program) (l : Launch) (e : Env) (s : State) (m : MethodId) (args : Array Value) (below : List Frame) (meth : Method) (c : Code) (Q : State → Prop) (H : Heap) (locs : List Loc)  (o : Int) : Prop := ∀ (ls : Array Slot) (pc : Nat), decode cX4_leastNearer pc = .ok (.ireturn, 1) → W p l e zr_X4_leastNearer s m args below meth c H locs 0 0 Q (F0 m pc ls [.int (zi o)])
def zA_X4_leastNearer_0 (p : Program) (l : Launch) (e : Env) (s : State) (m : MethodId) (args : Array Value) (below : List Frame) (meth : Method) (c : Code) (Q : State → Prop) (H : Heap) (locs : List Loc) (t : Nat → Nat) (mk : Nat) (ad : Nat → Nat → Nat) (n1 : Nat) (i2 : Int) (i3 : Int) (i4 : Int) (i5 : Int) (i6 : Int) : Prop := ∀ ls : Array Slot, lv_has ls 8 [(0, .ref (t 0)), (1, .ref (ad n1 0)), (2, .int (zi i2))] → W p l e zr_X4_leastNearer s m args below meth c H locs 0 0 Q (F0 m 0 ls [])
def zA_X4_leastNearer_12 (p : Program) (l : Launch) (e : Env) (s : State) (m : MethodId) (args : Array Value) (below : List Frame) (meth : Method) (c : Code) (Q : State → Prop) (H : Heap) (locs : List Loc) (t : Nat → Nat) (mk : Nat) (ad : Nat → Nat → Nat) (n1 : Nat) (i2 : Int) (i3 : Int) (i4 : Int) (i5 : Int) (i6 : Int) : Prop := ∀ ls : Array Slot, lv_has ls 8 [(0, .ref (t 0)), (1, .ref (ad n1 0)), (2, .int (zi i2)), (3, .int (zi i3)), (4, .int (zi i4)), (5, .int (zi i5))] → W p l e zr_X4_leastNearer s m args below meth c H locs 0 0 Q (F0 m 12 ls [])
def zA_X4_leastNearer_56 (p : Program) (l : Launch) (e : Env) (s : State) (m : MethodId) (args : Array Value) (below : List Frame) (meth : Method) (c : Code) (Q : State → Prop) (H : Heap) (locs : List Loc) (t : Nat → Nat) (mk : Nat) (ad : Nat → Nat → Nat) (n1 : Nat) (i2 : Int) (i3 : Int) (i4 : Int) (i5 : Int) (i6 : Int) : Prop := ∀ ls : Array Slot, lv_has ls 8 [(0, .ref (t 0)), (1, .ref (ad n1 0)), (2, .int (zi i2)), (3, .int (zi i3)), (4, .int (zi i4)), (5, .int (zi i5)), (6, .int (zi i6))] → W p l e zr_X4_leastNearer s m args below meth c H locs 0 0 Q (F0 m 56 ls [])
def zA_X4_leastNearer (p : Program) (l : Launch) (e : Env) (s : State) (m : MethodId) (args : Array Value) (below : List Frame) (meth : Method) (c : Code) (Q : State → Prop) (H : Heap) (locs : List Loc) (t : Nat → Nat) (mk : Nat) (ad : Nat → Nat → Nat) (n1 : Nat) (st : zS_X4_leastNearer) : Prop := match st with
  | (lab, i2, i3, i4, i5, i6) => if lab = 0 then zA_X4_leastNearer_0 p l e s m args below meth c Q H locs t mk ad n1 i2 i3 i4 i5 i6 else if lab = 12 then zA_X4_leastNearer_12 p l e s m args below meth c Q H locs t mk ad n1 i2 i3 i4 i5 i6 else if lab = 56 then zA_X4_leastNearer_56 p l e s m args below meth c Q H locs t mk ad n1 i2 i3 i4 i5 i6 else True
set_option maxHeartbeats 4000000 in
set_option maxRecDepth 100000 in
theorem zs_X4_leastNearer_0 {p : Program} {l : Launch} {e : Env} {s : State} {m : MethodId} {args : Array Value} {below : List Frame} {meth : Method} {c : Code} {Q : State → Prop} {D : va_G} {κ : Nat → ClassId} {H : Heap} {locs : List Loc} (t : Nat → Nat) (mk : Nat) (ad : Nat → Nat → Nat) (t_wayLength : Int) (t_queued : Int) (t_steps : Nat) (t_queue : Nat) (t_way : Nat) (n1 : Nat) (hx : p.tables.exec = Jvm.exec) (hb : c.code = cX4_leastNearer) (hml : c.maxLocals = 8) (hown : s.vm.findClass RX4 = some m.cls) (hts : ∀ w ∈ wsX4_leastNearer, w.before args s = true) (hK : va_K D vwCl (zTY κ) s) (hP : va_P D vwCl ([((t 0), .inr (4, [.ref (t 1), .ref (t 2), .ref (t 3), .int (zi t_wayLength), .int (zi t_queued)])), ((t 1), .inl (κ 1, 429, .inl (zc t_steps))), ((t 2), .inl (κ 1, 429, .inl (zc t_queue))), ((t 3), .inl (κ 1, 429, .inl (zc t_way)))]) H) (hB : zAmb D κ mk ad H) (i2 : Int) (i3 : Int) (i4 : Int) (i5 : Int) (i6 : Int) (hg : Go (GoE (zA_X4_leastNearer p l e s m args below meth c Q H locs t mk ad n1) (zQ_X4_leastNearer p l e s m args below meth c Q H locs)) (zg_X4_leastNearer_0 mk t_steps n1 i2 i3 i4 i5 i6)) : zA_X4_leastNearer_0 p l e s m args below meth c Q H locs t mk ad n1 i2 i3 i4 i5 i6 := by
  intro ls hl
  unfold zg_X4_leastNearer_0 at hg
  refine lv_aload_n hx hb dX4_leastNearer_0 rfl (lv_at hl 1 rfl) ?_
  refine lv_iload_n hx hb dX4_leastNearer_1 rfl (lv_at hl 2 rfl) ?_
  obtain ⟨m1, hg⟩ := Go_n hg
  obtain ⟨o2, ho2, hg⟩ := Go_b hg
  refine zc_vi (rest := []) ⟨hx, hb, hml, hown, hts⟩ (zc_X5_cutAt l D κ (ad n1) n1 i2 o2 ho2) (cwV 1 hts gX4_leastNearer_X5_cutAt rfl rfl rfl hv_X5_cutAt ⟨Nat.le_of_ble_eq_true rfl, Nat.le_of_ble_eq_true rfl⟩) (zpreV hK (hB n1 m1) 5 0 rfl rfl) rfl hl.1 rfl (Nat.le_of_ble_eq_true rfl) dX4_leastNearer_2 ⟨Nat.zero_le _, Nat.zero_le _⟩ ?_
  refine lv_istore_n (lv' := [(3, .int (zi o2)), (0, .ref (t 0)), (1, .ref (ad n1 0)), (2, .int (zi i2))]) hx hb dX4_leastNearer_5 rfl hl (by decide) rfl (fun ls hl => ?_)
  refine zv_iconst hx hb dX4_leastNearer_6 ?_
  refine lv_istore (lv' := [(4, .int (zi (-1 : Int))), (3, .int (zi o2)), (0, .ref (t 0)), (1, .ref (ad n1 0)), (2, .int (zi i2))]) hx hb dX4_leastNearer_7 hl (by decide) rfl (fun ls hl => ?_)
  refine zv_iconst hx hb dX4_leastNearer_9 ?_
  refine lv_istore (lv' := [(5, .int (zi (0 : Int))), (4, .int (zi (-1 : Int))), (3, .int (zi o2)), (0, .ref (t 0)), (1, .ref (ad n1 0)), (2, .int (zi i2))]) hx hb dX4_leastNearer_10 hl (by decide) rfl (fun ls hl => ?_)
  exact (Go_s hg) ls (lv_sub hl [3, 4, 5, 2, 1, 0] rfl)
set_option maxHeartbeats 4000000 in
set_option maxRecDepth 100000 in
theorem zs_X4_leastNearer_12 {p : Program} {l : Launch} {e : Env} {s : State} {m : MethodId} {args : Array Value} {below : List Frame} {meth : Method} {c : Code} {Q : State → Prop} {D : va_G} {κ : Nat → ClassId} {H : Heap} {locs : List Loc} (t : Nat → Nat) (mk : Nat) (ad : Nat → Nat → Nat) (t_wayLength : Int) (t_queued : Int) (t_steps : Nat) (t_queue : Nat) (t_way : Nat) (n1 : Nat) (hx : p.tables.exec = Jvm.exec) (hb : c.code = cX4_leastNearer) (hml : c.maxLocals = 8) (hown : s.vm.findClass RX4 = some m.cls) (hts : ∀ w ∈ wsX4_leastNearer, w.before args s = true) (hK : va_K D vwCl (zTY κ) s) (hP : va_P D vwCl ([((t 0), .inr (4, [.ref (t 1), .ref (t 2), .ref (t 3), .int (zi t_wayLength), .int (zi t_queued)])), ((t 1), .inl (κ 1, 429, .inl (zc t_steps))), ((t 2), .inl (κ 1, 429, .inl (zc t_queue))), ((t 3), .inl (κ 1, 429, .inl (zc t_way)))]) H) (hB : zAmb D κ mk ad H) (i2 : Int) (i3 : Int) (i4 : Int) (i5 : Int) (i6 : Int) (hg : Go (GoE (zA_X4_leastNearer p l e s m args below meth c Q H locs t mk ad n1) (zQ_X4_leastNearer p l e s m args below meth c Q H locs)) (zg_X4_leastNearer_12 mk t_steps n1 i2 i3 i4 i5 i6)) : zA_X4_leastNearer_12 p l e s m args below meth c Q H locs t mk ad n1 i2 i3 i4 i5 i6 := by
  intro ls hl
  unfold zg_X4_leastNearer_12 at hg
  refine lv_iload hx hb dX4_leastNearer_12 (lv_at hl 5 rfl) ?_
  refine lv_aload_n hx hb dX4_leastNearer_14 rfl (lv_at hl 1 rfl) ?_
  obtain ⟨m3, hg⟩ := Go_n hg
  obtain ⟨o4, ho4, hg⟩ := Go_b hg
  refine zc_vi (rest := [.int (zi i5)]) ⟨hx, hb, hml, hown, hts⟩ (zc_X5_lineCount l D κ (ad n1) n1  o4 ho4) (cwV 0 hts gX4_leastNearer_X5_lineCount rfl rfl rfl hv_X5_lineCount ⟨Nat.le_of_ble_eq_true rfl, Nat.le_of_ble_eq_true rfl⟩) (zpreV hK (hB n1 m3) 5 0 rfl rfl) rfl hl.1 rfl (Nat.le_of_ble_eq_true rfl) dX4_leastNearer_15 ⟨Nat.zero_le _, Nat.zero_le _⟩ ?_
  obtain ⟨b5, hg⟩ := Go_n hg
  obtain ⟨b6, hg⟩ := Go_n hg
  refine zv_icmp_ge (tgt := 87) hx hb dX4_leastNearer_18 (by decide) b5 b6 (fun c19 => ?_) (fun c19 => ?_)
  · have hg := Go_t c19 hg
    refine lv_iload hx hb dX4_leastNearer_87 (lv_at hl 4 rfl) ?_
    exact (Go_s hg) _ _ dX4_leastNearer_89
  · have hg := Go_f c19 hg
    refine lv_aload_n hx hb dX4_leastNearer_21 rfl (lv_at hl 1 rfl) ?_
    refine lv_iload_n hx hb dX4_leastNearer_22 rfl (lv_at hl 3 rfl) ?_
    refine lv_iload hx hb dX4_leastNearer_23 (lv_at hl 5 rfl) ?_
    obtain ⟨o7, ho7, hg⟩ := Go_b hg
    refine zc_vi (rest := []) ⟨hx, hb, hml, hown, hts⟩ (zc_X5_neighbourWith l D κ (ad n1) n1 i3 i5 o7 ho7) (cwV 2 hts gX4_leastNearer_X5_neighbourWith rfl rfl rfl hv_X5_neighbourWith ⟨Nat.le_of_ble_eq_true rfl, Nat.le_of_ble_eq_true rfl⟩) (zpreV hK (hB n1 m3) 5 0 rfl rfl) rfl hl.1 rfl (Nat.le_of_ble_eq_true rfl) dX4_leastNearer_25 ⟨Nat.zero_le _, Nat.zero_le _⟩ ?_
    refine lv_istore (lv' := [(6, .int (zi o7)), (0, .ref (t 0)), (1, .ref (ad n1 0)), (2, .int (zi i2)), (3, .int (zi i3)), (4, .int (zi i4)), (5, .int (zi i5))]) hx hb dX4_leastNearer_28 hl (by decide) rfl (fun ls hl => ?_)
    refine lv_iload hx hb dX4_leastNearer_30 (lv_at hl 0 rfl) ?_
    refine zv_iconst hx hb dX4_leastNearer_32 ?_
    obtain ⟨b8, hg⟩ := Go_n hg
    refine zv_icmp_eq (tgt := 56) hx hb dX4_leastNearer_33 (by decide) b8 (by decide) (fun c18 => ?_) (fun c18 => ?_)
    · have hg := Go_t c18 hg
      exact (Go_s hg) ls (lv_sub hl [1, 2, 3, 4, 5, 6, 0] rfl)
    · have hg := Go_f c18 hg
      refine lv_aload_n hx hb dX4_leastNearer_36 rfl (lv_at hl 1 rfl) ?_
      refine lv_iload hx hb dX4_leastNearer_37 (lv_at hl 0 rfl) ?_
      obtain ⟨o9, ho9, hg⟩ := Go_b hg
      refine zc_vi (rest := []) ⟨hx, hb, hml, hown, hts⟩ (zc_X4_stepsTo l D κ t t_wayLength t_queued t_steps t_queue t_way o7 o9 ho9) (cwV 1 hts gX4_leastNearer_X4_stepsTo rfl rfl rfl hv_X4_stepsTo ⟨Nat.le_of_ble_eq_true rfl, Nat.le_of_ble_eq_true rfl⟩) (zpreV hK (hP.sub [0, 1, 2, 3] rfl) 4 0 rfl rfl) rfl hl.1 rfl (Nat.le_of_ble_eq_true rfl) dX4_leastNearer_39 ⟨Nat.zero_le _, Nat.zero_le _⟩ ?_
      refine lv_aload_n hx hb dX4_leastNearer_42 rfl (lv_at hl 1 rfl) ?_
      refine lv_iload_n hx hb dX4_leastNearer_43 rfl (lv_at hl 3 rfl) ?_
      obtain ⟨o10, ho10, hg⟩ := Go_b hg
      refine zc_vi (rest := [.int (zi o9)]) ⟨hx, hb, hml, hown, hts⟩ (zc_X4_stepsTo l D κ t t_wayLength t_queued t_steps t_queue t_way i2 o10 ho10) (cwV 1 hts gX4_leastNearer_X4_stepsTo rfl rfl rfl hv_X4_stepsTo ⟨Nat.le_of_ble_eq_true rfl, Nat.le_of_ble_eq_true rfl⟩) (zpreV hK (hP.sub [0, 1, 2, 3] rfl) 4 0 rfl rfl) rfl hl.1 rfl (Nat.le_of_ble_eq_true rfl) dX4_leastNearer_44 ⟨Nat.zero_le _, Nat.zero_le _⟩ ?_
      refine zv_iconst hx hb dX4_leastNearer_47 ?_
      refine zv_isub hx hb dX4_leastNearer_48 ?_
      obtain ⟨b11, hg⟩ := Go_n hg
      obtain ⟨b12, hg⟩ := Go_n hg
      refine zv_icmp_ne (tgt := 56) hx hb dX4_leastNearer_49 (by decide) b11 b12 (fun c17 => ?_) (fun c17 => ?_)
      · have hg := Go_f c17 hg
        exact (Go_s hg) ls (lv_sub hl [1, 2, 3, 4, 5, 6, 0] rfl)
      · have hg := Go_t c17 hg
        refine zv_iconst hx hb dX4_leastNearer_52 ?_
        refine lv_goto (tgt := 57) hx hb dX4_leastNearer_53 (by decide) ?_
        refine lv_istore (lv' := [(7, .int (zi (1 : Int))), (6, .int (zi o7)), (0, .ref (t 0)), (1, .ref (ad n1 0)), (2, .int (zi i2)), (3, .int (zi i3)), (4, .int (zi i4)), (5, .int (zi i5))]) hx hb dX4_leastNearer_57 hl (by decide) rfl (fun ls hl => ?_)
        refine lv_iload hx hb dX4_leastNearer_59 (lv_at hl 0 rfl) ?_
        refine zv_if_eq (tgt := 81) hx hb dX4_leastNearer_61 (by decide) (by decide) (fun c16 => ?_) (fun c16 => ?_)
        · have hg := Go_t c16 hg
          refine lv_iinc (v := zi (i5 + (1 : Int))) (lv' := [(5, .int (zi (i5 + (1 : Int)))), (7, .int (zi (1 : Int))), (6, .int (zi o7)), (0, .ref (t 0)), (1, .ref (ad n1 0)), (2, .int (zi i2)), (3, .int (zi i3)), (4, .int (zi i4))]) hx hb dX4_leastNearer_81 hl (k := 7) rfl (zi_add i5 _) (by decide) rfl (fun ls hl => ?_)
          refine lv_goto (tgt := 12) hx hb dX4_leastNearer_84 (by decide) ?_
          exact (Go_s hg) ls (lv_sub hl [3, 4, 5, 6, 7, 0] rfl)
        · have hg := Go_f c16 hg
          refine lv_iload hx hb dX4_leastNearer_64 (lv_at hl 6 rfl) ?_
          refine zv_iconst hx hb dX4_leastNearer_66 ?_
          obtain ⟨b13, hg⟩ := Go_n hg
          refine zv_icmp_eq (tgt := 77) hx hb dX4_leastNearer_67 (by decide) b13 (by decide) (fun c15 => ?_) (fun c15 => ?_)
          · have hg := Go_t c15 hg
            refine lv_iload hx hb dX4_leastNearer_77 (lv_at hl 1 rfl) ?_
            refine lv_istore (lv' := [(4, .int (zi o7)), (7, .int (zi (1 : Int))), (6, .int (zi o7)), (0, .ref (t 0)), (1, .ref (ad n1 0)), (2, .int (zi i2)), (3, .int (zi i3)), (5, .int (zi i5))]) hx hb dX4_leastNearer_79 hl (by decide) rfl (fun ls hl => ?_)
            refine lv_iinc (v := zi (i5 + (1 : Int))) (lv' := [(5, .int (zi (i5 + (1 : Int)))), (4, .int (zi o7)), (7, .int (zi (1 : Int))), (6, .int (zi o7)), (0, .ref (t 0)), (1, .ref (ad n1 0)), (2, .int (zi i2)), (3, .int (zi i3))]) hx hb dX4_leastNearer_81 hl (k := 7) rfl (zi_add i5 _) (by decide) rfl (fun ls hl => ?_)
            refine lv_goto (tgt := 12) hx hb dX4_leastNearer_84 (by decide) ?_
            exact (Go_s hg) ls (lv_sub hl [4, 5, 6, 7, 1, 0] rfl)
          · have hg := Go_f c15 hg
            refine lv_iload hx hb dX4_leastNearer_70 (lv_at hl 1 rfl) ?_
            refine lv_iload hx hb dX4_leastNearer_72 (lv_at hl 6 rfl) ?_
            refine zv_icmp_ge (tgt := 81) hx hb dX4_leastNearer_74 (by decide) b8 b13 (fun c14 => ?_) (fun c14 => ?_)
            · have hg := Go_t c14 hg
              refine lv_iinc (v := zi (i5 + (1 : Int))) (lv' := [(5, .int (zi (i5 + (1 : Int)))), (7, .int (zi (1 : Int))), (6, .int (zi o7)), (0, .ref (t 0)), (1, .ref (ad n1 0)), (2, .int (zi i2)), (3, .int (zi i3)), (4, .int (zi i4))]) hx hb dX4_leastNearer_81 hl (k := 7) rfl (zi_add i5 _) (by decide) rfl (fun ls hl => ?_)
              refine lv_goto (tgt := 12) hx hb dX4_leastNearer_84 (by decide) ?_
              exact (Go_s hg) ls (lv_sub hl [3, 4, 5, 6, 7, 0] rfl)
            · have hg := Go_f c14 hg
              refine lv_iload hx hb dX4_leastNearer_77 (lv_at hl 1 rfl) ?_
              refine lv_istore (lv' := [(4, .int (zi o7)), (7, .int (zi (1 : Int))), (6, .int (zi o7)), (0, .ref (t 0)), (1, .ref (ad n1 0)), (2, .int (zi i2)), (3, .int (zi i3)), (5, .int (zi i5))]) hx hb dX4_leastNearer_79 hl (by decide) rfl (fun ls hl => ?_)
              refine lv_iinc (v := zi (i5 + (1 : Int))) (lv' := [(5, .int (zi (i5 + (1 : Int)))), (4, .int (zi o7)), (7, .int (zi (1 : Int))), (6, .int (zi o7)), (0, .ref (t 0)), (1, .ref (ad n1 0)), (2, .int (zi i2)), (3, .int (zi i3))]) hx hb dX4_leastNearer_81 hl (k := 7) rfl (zi_add i5 _) (by decide) rfl (fun ls hl => ?_)
              refine lv_goto (tgt := 12) hx hb dX4_leastNearer_84 (by decide) ?_
              exact (Go_s hg) ls (lv_sub hl [4, 5, 6, 7, 1, 0] rfl)
set_option maxHeartbeats 4000000 in
set_option maxRecDepth 100000 in
theorem zs_X4_leastNearer_56 {p : Program} {l : Launch} {e : Env} {s : State} {m : MethodId} {args : Array Value} {below : List Frame} {meth : Method} {c : Code} {Q : State → Prop} {D : va_G} {κ : Nat → ClassId} {H : Heap} {locs : List Loc} (t : Nat → Nat) (mk : Nat) (ad : Nat → Nat → Nat) (t_wayLength : Int) (t_queued : Int) (t_steps : Nat) (t_queue : Nat) (t_way : Nat) (n1 : Nat) (hx : p.tables.exec = Jvm.exec) (hb : c.code = cX4_leastNearer) (hml : c.maxLocals = 8) (hown : s.vm.findClass RX4 = some m.cls) (hts : ∀ w ∈ wsX4_leastNearer, w.before args s = true) (hK : va_K D vwCl (zTY κ) s) (hP : va_P D vwCl ([((t 0), .inr (4, [.ref (t 1), .ref (t 2), .ref (t 3), .int (zi t_wayLength), .int (zi t_queued)])), ((t 1), .inl (κ 1, 429, .inl (zc t_steps))), ((t 2), .inl (κ 1, 429, .inl (zc t_queue))), ((t 3), .inl (κ 1, 429, .inl (zc t_way)))]) H) (hB : zAmb D κ mk ad H) (i2 : Int) (i3 : Int) (i4 : Int) (i5 : Int) (i6 : Int) (hg : Go (GoE (zA_X4_leastNearer p l e s m args below meth c Q H locs t mk ad n1) (zQ_X4_leastNearer p l e s m args below meth c Q H locs)) (zg_X4_leastNearer_56 mk t_steps n1 i2 i3 i4 i5 i6)) : zA_X4_leastNearer_56 p l e s m args below meth c Q H locs t mk ad n1 i2 i3 i4 i5 i6 := by
  intro ls hl
  unfold zg_X4_leastNearer_56 at hg
  refine zv_iconst hx hb dX4_leastNearer_56 ?_
  refine lv_istore (lv' := [(7, .int (zi (0 : Int))), (0, .ref (t 0)), (1, .ref (ad n1 0)), (2, .int (zi i2)), (3, .int (zi i3)), (4, .int (zi i4)), (5, .int (zi i5)), (6, .int (zi i6))]) hx hb dX4_leastNearer_57 hl (by decide) rfl (fun ls hl => ?_)
  refine lv_iload hx hb dX4_leastNearer_59 (lv_at hl 0 rfl) ?_
  refine zv_if_eq (tgt := 81) hx hb dX4_leastNearer_61 (by decide) (by decide) (fun c24 => ?_) (fun c24 => ?_)
  · have hg := Go_t c24 hg
    refine lv_iinc (v := zi (i5 + (1 : Int))) (lv' := [(5, .int (zi (i5 + (1 : Int)))), (7, .int (zi (0 : Int))), (0, .ref (t 0)), (1, .ref (ad n1 0)), (2, .int (zi i2)), (3, .int (zi i3)), (4, .int (zi i4)), (6, .int (zi i6))]) hx hb dX4_leastNearer_81 hl (k := 6) rfl (zi_add i5 _) (by decide) rfl (fun ls hl => ?_)
    refine lv_goto (tgt := 12) hx hb dX4_leastNearer_84 (by decide) ?_
    exact (Go_s hg) ls (lv_sub hl [2, 3, 4, 5, 6, 0] rfl)
  · have hg := Go_f c24 hg
    refine lv_iload hx hb dX4_leastNearer_64 (lv_at hl 5 rfl) ?_
    refine zv_iconst hx hb dX4_leastNearer_66 ?_
    obtain ⟨b20, hg⟩ := Go_n hg
    refine zv_icmp_eq (tgt := 77) hx hb dX4_leastNearer_67 (by decide) b20 (by decide) (fun c23 => ?_) (fun c23 => ?_)
    · have hg := Go_t c23 hg
      refine lv_iload hx hb dX4_leastNearer_77 (lv_at hl 7 rfl) ?_
      refine lv_istore (lv' := [(4, .int (zi i6)), (7, .int (zi (0 : Int))), (0, .ref (t 0)), (1, .ref (ad n1 0)), (2, .int (zi i2)), (3, .int (zi i3)), (5, .int (zi i5)), (6, .int (zi i6))]) hx hb dX4_leastNearer_79 hl (by decide) rfl (fun ls hl => ?_)
      refine lv_iinc (v := zi (i5 + (1 : Int))) (lv' := [(5, .int (zi (i5 + (1 : Int)))), (4, .int (zi i6)), (7, .int (zi (0 : Int))), (0, .ref (t 0)), (1, .ref (ad n1 0)), (2, .int (zi i2)), (3, .int (zi i3)), (6, .int (zi i6))]) hx hb dX4_leastNearer_81 hl (k := 6) rfl (zi_add i5 _) (by decide) rfl (fun ls hl => ?_)
      refine lv_goto (tgt := 12) hx hb dX4_leastNearer_84 (by decide) ?_
      exact (Go_s hg) ls (lv_sub hl [3, 4, 5, 6, 1, 0] rfl)
    · have hg := Go_f c23 hg
      refine lv_iload hx hb dX4_leastNearer_70 (lv_at hl 7 rfl) ?_
      refine lv_iload hx hb dX4_leastNearer_72 (lv_at hl 5 rfl) ?_
      obtain ⟨b21, hg⟩ := Go_n hg
      refine zv_icmp_ge (tgt := 81) hx hb dX4_leastNearer_74 (by decide) b21 b20 (fun c22 => ?_) (fun c22 => ?_)
      · have hg := Go_t c22 hg
        refine lv_iinc (v := zi (i5 + (1 : Int))) (lv' := [(5, .int (zi (i5 + (1 : Int)))), (7, .int (zi (0 : Int))), (0, .ref (t 0)), (1, .ref (ad n1 0)), (2, .int (zi i2)), (3, .int (zi i3)), (4, .int (zi i4)), (6, .int (zi i6))]) hx hb dX4_leastNearer_81 hl (k := 6) rfl (zi_add i5 _) (by decide) rfl (fun ls hl => ?_)
        refine lv_goto (tgt := 12) hx hb dX4_leastNearer_84 (by decide) ?_
        exact (Go_s hg) ls (lv_sub hl [2, 3, 4, 5, 6, 0] rfl)
      · have hg := Go_f c22 hg
        refine lv_iload hx hb dX4_leastNearer_77 (lv_at hl 7 rfl) ?_
        refine lv_istore (lv' := [(4, .int (zi i6)), (7, .int (zi (0 : Int))), (0, .ref (t 0)), (1, .ref (ad n1 0)), (2, .int (zi i2)), (3, .int (zi i3)), (5, .int (zi i5)), (6, .int (zi i6))]) hx hb dX4_leastNearer_79 hl (by decide) rfl (fun ls hl => ?_)
        refine lv_iinc (v := zi (i5 + (1 : Int))) (lv' := [(5, .int (zi (i5 + (1 : Int)))), (4, .int (zi i6)), (7, .int (zi (0 : Int))), (0, .ref (t 0)), (1, .ref (ad n1 0)), (2, .int (zi i2)), (3, .int (zi i3)), (6, .int (zi i6))]) hx hb dX4_leastNearer_81 hl (k := 6) rfl (zi_add i5 _) (by decide) rfl (fun ls hl => ?_)
        refine lv_goto (tgt := 12) hx hb dX4_leastNearer_84 (by decide) ?_
        exact (Go_s hg) ls (lv_sub hl [3, 4, 5, 6, 1, 0] rfl)
set_option maxHeartbeats 4000000 in
set_option maxRecDepth 100000 in
theorem zw_X4_leastNearer {p : Program} {l : Launch} {e : Env} {s : State} {m : MethodId} {args : Array Value} {below : List Frame} {meth : Method} {c : Code} {Q : State → Prop} {D : va_G} {κ : Nat → ClassId} {H : Heap} {locs : List Loc} (t : Nat → Nat) (mk : Nat) (ad : Nat → Nat → Nat) (t_wayLength : Int) (t_queued : Int) (t_steps : Nat) (t_queue : Nat) (t_way : Nat) (n1 : Nat) (i2 : Int) (hx : p.tables.exec = Jvm.exec) (hb : c.code = cX4_leastNearer) (hml : c.maxLocals = 8) (hown : s.vm.findClass RX4 = some m.cls) (hts : ∀ w ∈ wsX4_leastNearer, w.before args s = true) (hK : va_K D vwCl (zTY κ) s) (hP : va_P D vwCl ([((t 0), .inr (4, [.ref (t 1), .ref (t 2), .ref (t 3), .int (zi t_wayLength), .int (zi t_queued)])), ((t 1), .inl (κ 1, 429, .inl (zc t_steps))), ((t 2), .inl (κ 1, 429, .inl (zc t_queue))), ((t 3), .inl (κ 1, 429, .inl (zc t_way)))]) H) (hB : zAmb D κ mk ad H) (out : Int) (h : zf_X4_leastNearer mk t_steps n1 i2 = some out) (hq : zQ_X4_leastNearer p l e s m args below meth c Q H locs out) : zA_X4_leastNearer_0 p l e s m args below meth c Q H locs t mk ad n1 i2 0 0 0 0 := by
  have hst : ∀ st : zS_X4_leastNearer, Go (GoE (zA_X4_leastNearer p l e s m args below meth c Q H locs t mk ad n1) (zQ_X4_leastNearer p l e s m args below meth c Q H locs)) (zg_X4_leastNearer mk t_steps n1 st) → zA_X4_leastNearer p l e s m args below meth c Q H locs t mk ad n1 st := by
    intro st hg
    obtain ⟨lab, i2, i3, i4, i5, i6⟩ := st
    by_cases h0 : lab = 0
    · subst h0
      exact zs_X4_leastNearer_0 t mk ad t_wayLength t_queued t_steps t_queue t_way n1 hx hb hml hown hts hK hP hB i2 i3 i4 i5 i6 hg
    by_cases h12 : lab = 12
    · subst h12
      exact zs_X4_leastNearer_12 t mk ad t_wayLength t_queued t_steps t_queue t_way n1 hx hb hml hown hts hK hP hB i2 i3 i4 i5 i6 hg
    by_cases h56 : lab = 56
    · subst h56
      exact zs_X4_leastNearer_56 t mk ad t_wayLength t_queued t_steps t_queue t_way n1 hx hb hml hown hts hK hP hB i2 i3 i4 i5 i6 hg
    have hz : zg_X4_leastNearer mk t_steps n1 (lab, i2, i3, i4, i5, i6) = none := by simp [zg_X4_leastNearer, h0, h12, h56]
    rw [hz] at hg
    obtain ⟨a, h1, -⟩ := hg
    cases h1
  exact jwalk (At := zA_X4_leastNearer p l e s m args below meth c Q H locs t mk ad n1) (Ret := zQ_X4_leastNearer p l e s m args below meth c Q H locs) hst _ _ _ h hq
set_option maxHeartbeats 4000000 in
set_option maxRecDepth 100000 in
theorem zc_X4_leastNearer (l : Launch) (D : va_G) (κ : Nat → ClassId) (t : Nat → Nat) (mk : Nat) (ad : Nat → Nat → Nat) (t_wayLength : Int) (t_queued : Int) (t_steps : Nat) (t_queue : Nat) (t_way : Nat) (n1 : Nat) (i2 : Int) (out : Int) (h : zf_X4_leastNearer mk t_steps n1 i2 = some out) : Met l yX4_leastNearer wsX4_leastNearer zr_X4_leastNearer (va_Pc [.ref (t 0), .ref (ad n1 0), .int (zi i2)] (zRa D κ mk ad ([((t 0), .inr (4, [.ref (t 1), .ref (t 2), .ref (t 3), .int (zi t_wayLength), .int (zi t_queued)])), ((t 1), .inl (κ 1, 429, .inl (zc t_steps))), ((t 2), .inl (κ 1, 429, .inl (zc t_queue))), ((t 3), .inl (κ 1, 429, .inl (zc t_way)))]))) (vp_Si (fun x => x = zi out)) 0 0 (fun _ => False) := by
  refine Met.ofW (cc := cX4_leastNearer) (maxL := 8) (ret := (some .int)) (by decide +kernel) rfl ?_
  intro p e s m args below meth c s₁ B hml hv
  obtain ⟨rfl, hP, hK, hB⟩ := hv
  have hx := B.exec
  have hb := B.bytes
  have hr := B.returns
  have hts := atoms_spec (ws := wsX4_leastNearer) B.pre
  have hown : s.vm.findClass RX4 = some m.cls := findClass_of_methodNamed B.named
  have hlocks := B.notSynchronized
  have hl := lv_entry ([.ref (t 0), .ref (ad n1 0), .int (zi i2)]) (n := 8) (Nat.le_of_ble_eq_true rfl)
  rw [lg_entry_eq]
  generalize (lg_sl ([.ref (t 0), .ref (ad n1 0), .int (zi i2)]) ++ List.replicate (8 - (lg_sl ([.ref (t 0), .ref (ad n1 0), .int (zi i2)])).length) Slot.unset).toArray = ls at hl ⊢
  have hl : lv_has ls 8 [(0, .ref (t 0)), (1, .ref (ad n1 0)), (2, .int (zi i2))] := hl
  refine (zw_X4_leastNearer t mk ad t_wayLength t_queued t_steps t_queue t_way n1 i2 hx hb hml hown hts hK hP hB out h ?_) ls (lv_sub hl [0, 1, 2] rfl)
  exact fun ls pc hd => W.iret hx hb hr (fun t ht hW => ⟨_, rfl, rfl, ht⟩) (fun _ h => by cases h) hd
/-! DiamondRows$Flips.layWay(LDiamondRows$Polygon;II)I -/
abbrev zr_X4_layWay : Room := { frames := 4, cells := 0, slots := 0, locals := 92 }
abbrev zS_X4_layWay : Type := Nat × Int × Int × Int × Int × Int × Int × Int × Nat × Nat × Nat
abbrev zO_X4_layWay : Type := Int × Int × Int × Nat × Nat × Nat
noncomputable def zg_X4_layWay_0 (mk : Nat) (n1 : Nat) (i2 : Int) (i3 : Int) (i4 : Int) (i5 : Int) (i6 : Int) (t_wayLength : Int) (t_queued : Int) (t_steps : Nat) (t_queue : Nat) (t_way : Nat) : Option (zO_X4_layWay ⊕ zS_X4_layWay) :=
  Option.bind (zf_X4_measure mk t_queued t_steps t_queue n1 i3) (fun o1 =>
  Option.bind (zf_X4_stepsTo (o1.2.1) i2) (fun o2 =>
  some (.inr (24, i2, i3, o2, i2, (0 : Int), (0 : Int), (o1.1), (o1.2.1), (o1.2.2), t_way))))
noncomputable def zg_X4_layWay_24 (mk : Nat) (n1 : Nat) (i2 : Int) (i3 : Int) (i4 : Int) (i5 : Int) (i6 : Int) (t_wayLength : Int) (t_queued : Int) (t_steps : Nat) (t_queue : Nat) (t_way : Nat) : Option (zO_X4_layWay ⊕ zS_X4_layWay) :=
  if zout i6 then none else
  if zout i4 then none else
  if i4 < i6 then
  some (.inl (i4, t_wayLength, t_queued, t_steps, t_queue, t_way))
  else
  if (429 : Int) ≤ i6 then
  some (.inl (i4, t_wayLength, t_queued, t_steps, t_queue, t_way))
  else
  if i6 < 0 ∨ 429 ≤ i6 then none else
  Option.bind (zf_X4_leastNearer mk t_steps n1 i5) (fun o6 =>
  some (.inr (24, 0, 0, i4, o6, (i6 + (1 : Int)), (t_wayLength + (1 : Int)), t_queued, t_steps, t_queue, (zset t_way (Int.toNat i6) i5))))
noncomputable def zg_X4_layWay (mk : Nat) (n1 : Nat) (st : zS_X4_layWay) : Option (zO_X4_layWay ⊕ zS_X4_layWay) := match st with
  | (lab, i2, i3, i4, i5, i6, t_wayLength, t_queued, t_steps, t_queue, t_way) => if lab = 0 then zg_X4_layWay_0 mk n1 i2 i3 i4 i5 i6 t_wayLength t_queued t_steps t_queue t_way else if lab = 24 then zg_X4_layWay_24 mk n1 i2 i3 i4 i5 i6 t_wayLength t_queued t_steps t_queue t_way else none
noncomputable def zf_X4_layWay (mk : Nat) (t_wayLength : Int) (t_queued : Int) (t_steps : Nat) (t_queue : Nat) (t_way : Nat) (n1 : Nat) (i2 : Int) (i3 : Int) : Option (Int × Int × Int × Nat × Nat × Nat) := jrun (zg_X4_layWay mk n1) jfuel (0, i2, i3, 0, 0, 0, t_wayLength, t_queued, t_steps, t_queue, t_way)
theorem zi_X4_layWay_X4 : ∀ w ∈ u_ws RX4 TX4 5, w ∈ wsX4_layWay := fun w h => (List.mem_cons_of_mem _ (List.mem_append_right _ (List.mem_append_left _ h)))
theorem zl_X4_layWay_18 : Cond.fieldLink RX4 18 "DiamondRows$Flips" "way" "[I" ∈ wsX4_layWay := (List.mem_cons_of_mem _ (List.mem_append_left _ (List.mem_of_getElem? (i := 1) rfl)))
theorem zl_X4_layWay_58 : Cond.fieldLink RX4 58 "DiamondRows$Flips" "wayLength" "I" ∈ wsX4_layWay := (List.mem_cons_of_mem _ (List.mem_append_left _ (List.mem_of_getElem? (i := 0) rfl)))
def zQ_X4_layWay (p : Program) (l : Launch) (e : Env) (s : State) (m : MethodId) (args : Array Value) (below : List Frame) (meth : Method) (c : Code) (Q : State → Prop) (D : va_G) (κ : Nat → ClassId) (A : Nat → Prop) (H0 : Heap) (t : Nat → Nat) (mk : Nat) (ad : Nat → Nat → Nat) (n1 : Nat) (o : Int × Int × Int × Nat × Nat × Nat) : Prop := ∀ (H : Heap) (locs : List Loc) (ls : Array Slot) (pc : Nat), va_P D vwCl ([((t 0), .inr (4, [.ref (t 1), .ref (t 2), .ref (t 3), .int (zi (o.2.1)), .int (zi (o.2.2.1))])), ((t 1), .inl (κ 1, 429, .inl (zc (o.2.2.2.1)))), ((t 2), .inl (κ 1, 429, .inl (zc (o.2.2.2.2.1)))), ((t 3), .inl (κ 1, 429, .inl (zc (o.2.2.2.2.2))))]) H → va_D A ([((t 0), .inr (4, [.ref (t 1), .ref (t 2), .ref (t 3), .int (zi (o.2.1)), .int (zi (o.2.2.1))])), ((t 1), .inl (κ 1, 429, .inl (zc (o.2.2.2.1)))), ((t 2), .inl (κ 1, 429, .inl (zc (o.2.2.2.2.1)))), ((t 3), .inl (κ 1, 429, .inl (zc (o.2.2.2.2.2))))]) → va_S A H0 H locs → decode cX4_layWay pc = .ok (.ireturn, 1) → W p l e zr_X4_layWay s m args below meth c H locs 0 0 Q (F0 m pc ls [.int (zi (o.1))])
def zA_X4_layWay_0 (p : Program) (l : Launch) (e : Env) (s : State) (m : MethodId) (args : Array Value) (below : List Frame) (meth : Method) (c : Code) (Q : State → Prop) (D : va_G) (κ : Nat → ClassId) (A : Nat → Prop) (H0 : Heap) (t : Nat → Nat) (mk : Nat) (ad : Nat → Nat → Nat) (n1 : Nat) (i2 : Int) (i3 : Int) (i4 : Int) (i5 : Int) (i6 : Int) (t_wayLength : Int) (t_queued : Int) (t_steps : Nat) (t_queue : Nat) (t_way : Nat) : Prop := ∀ (H : Heap) (locs : List Loc) (ls : Array Slot), va_P D vwCl ([((t 0), .inr (4, [.ref (t 1), .ref (t 2), .ref (t 3), .int (zi t_wayLength), .int (zi t_queued)])), ((t 1), .inl (κ 1, 429, .inl (zc t_steps))), ((t 2), .inl (κ 1, 429, .inl (zc t_queue))), ((t 3), .inl (κ 1, 429, .inl (zc t_way)))]) H → va_D A ([((t 0), .inr (4, [.ref (t 1), .ref (t 2), .ref (t 3), .int (zi t_wayLength), .int (zi t_queued)])), ((t 1), .inl (κ 1, 429, .inl (zc t_steps))), ((t 2), .inl (κ 1, 429, .inl (zc t_queue))), ((t 3), .inl (κ 1, 429, .inl (zc t_way)))]) → va_S A H0 H locs → lv_has ls 7 [(0, .ref (t 0)), (1, .ref (ad n1 0)), (2, .int (zi i2)), (3, .int (zi i3))] → W p l e zr_X4_layWay s m args below meth c H locs 0 0 Q (F0 m 0 ls [])
def zA_X4_layWay_24 (p : Program) (l : Launch) (e : Env) (s : State) (m : MethodId) (args : Array Value) (below : List Frame) (meth : Method) (c : Code) (Q : State → Prop) (D : va_G) (κ : Nat → ClassId) (A : Nat → Prop) (H0 : Heap) (t : Nat → Nat) (mk : Nat) (ad : Nat → Nat → Nat) (n1 : Nat) (i2 : Int) (i3 : Int) (i4 : Int) (i5 : Int) (i6 : Int) (t_wayLength : Int) (t_queued : Int) (t_steps : Nat) (t_queue : Nat) (t_way : Nat) : Prop := ∀ (H : Heap) (locs : List Loc) (ls : Array Slot), va_P D vwCl ([((t 0), .inr (4, [.ref (t 1), .ref (t 2), .ref (t 3), .int (zi t_wayLength), .int (zi t_queued)])), ((t 1), .inl (κ 1, 429, .inl (zc t_steps))), ((t 2), .inl (κ 1, 429, .inl (zc t_queue))), ((t 3), .inl (κ 1, 429, .inl (zc t_way)))]) H → va_D A ([((t 0), .inr (4, [.ref (t 1), .ref (t 2), .ref (t 3), .int (zi t_wayLength), .int (zi t_queued)])), ((t 1), .inl (κ 1, 429, .inl (zc t_steps))), ((t 2), .inl (κ 1, 429, .inl (zc t_queue))), ((t 3), .inl (κ 1, 429, .inl (zc t_way)))]) → va_S A H0 H locs → lv_has ls 7 [(0, .ref (t 0)), (1, .ref (ad n1 0)), (4, .int (zi i4)), (5, .int (zi i5)), (6, .int (zi i6))] → W p l e zr_X4_layWay s m args below meth c H locs 0 0 Q (F0 m 24 ls [])
def zA_X4_layWay (p : Program) (l : Launch) (e : Env) (s : State) (m : MethodId) (args : Array Value) (below : List Frame) (meth : Method) (c : Code) (Q : State → Prop) (D : va_G) (κ : Nat → ClassId) (A : Nat → Prop) (H0 : Heap) (t : Nat → Nat) (mk : Nat) (ad : Nat → Nat → Nat) (n1 : Nat) (st : zS_X4_layWay) : Prop := match st with
  | (lab, i2, i3, i4, i5, i6, t_wayLength, t_queued, t_steps, t_queue, t_way) => if lab = 0 then zA_X4_layWay_0 p l e s m args below meth c Q D κ A H0 t mk ad n1 i2 i3 i4 i5 i6 t_wayLength t_queued t_steps t_queue t_way else if lab = 24 then zA_X4_layWay_24 p l e s m args below meth c Q D κ A H0 t mk ad n1 i2 i3 i4 i5 i6 t_wayLength t_queued t_steps t_queue t_way else True
set_option maxHeartbeats 4000000 in
set_option maxRecDepth 100000 in
theorem zs_X4_layWay_0 {p : Program} {l : Launch} {e : Env} {s : State} {m : MethodId} {args : Array Value} {below : List Frame} {meth : Method} {c : Code} {Q : State → Prop} {D : va_G} {κ : Nat → ClassId} {A : Nat → Prop} {H0 : Heap} (t : Nat → Nat) (mk : Nat) (ad : Nat → Nat → Nat) (n1 : Nat) (hx : p.tables.exec = Jvm.exec) (hb : c.code = cX4_layWay) (hml : c.maxLocals = 7) (hown : s.vm.findClass RX4 = some m.cls) (hts : ∀ w ∈ wsX4_layWay, w.before args s = true) (hK : va_K D vwCl (zTY κ) s) (hA : ∀ q : Nat, H0.size ≤ q → A q) (hB : zAmb D κ mk ad H0) (hBA : zApt mk ad A H0.size) (i2 : Int) (i3 : Int) (i4 : Int) (i5 : Int) (i6 : Int) (t_wayLength : Int) (t_queued : Int) (t_steps : Nat) (t_queue : Nat) (t_way : Nat) (hg : Go (GoE (zA_X4_layWay p l e s m args below meth c Q D κ A H0 t mk ad n1) (zQ_X4_layWay p l e s m args below meth c Q D κ A H0 t mk ad n1)) (zg_X4_layWay_0 mk n1 i2 i3 i4 i5 i6 t_wayLength t_queued t_steps t_queue t_way)) : zA_X4_layWay_0 p l e s m args below meth c Q D κ A H0 t mk ad n1 i2 i3 i4 i5 i6 t_wayLength t_queued t_steps t_queue t_way := by
  intro H locs ls hP hD hS hl
  unfold zg_X4_layWay_0 at hg
  refine lv_aload_n hx hb dX4_layWay_0 rfl (lv_at hl 0 rfl) ?_
  refine lv_aload_n hx hb dX4_layWay_1 rfl (lv_at hl 1 rfl) ?_
  refine lv_iload_n hx hb dX4_layWay_2 rfl (lv_at hl 3 rfl) ?_
  obtain ⟨o1, ho1, hg⟩ := Go_b hg
  refine zj_v (wr := []) (ws1 := [((t 0), .inr (4, [.ref (t 1), .ref (t 2), .ref (t 3), .int (zi t_wayLength), .int (zi (o1.1))])), ((t 1), .inl (κ 1, 429, .inl (zc (o1.2.1)))), ((t 2), .inl (κ 1, 429, .inl (zc (o1.2.2)))), ((t 3), .inl (κ 1, 429, .inl (zc t_way)))]) (va_runV (rest := []) ⟨hx, hb, hml, hown, hts⟩ (zc_X4_measure l D κ t mk ad H.size t_wayLength t_queued t_steps t_queue t_way n1 i3 o1 ho1) (cwV 2 hts gX4_layWay_X4_measure rfl rfl rfl hv_X4_measure ⟨Nat.le_of_ble_eq_true rfl, Nat.le_of_ble_eq_true rfl⟩) (zpreWVa hK (hP.sub [0, 1, 2, 3] rfl) (hD.sub [0, 1, 2, 3] (by decide) rfl) (zamb hB hBA hS) (zapt hBA hS (va_free hD hS hA [0, 1, 2, 3] rfl)) 4 0 rfl rfl) rfl rfl hl.1 rfl (lv_room (Nat.le_of_ble_eq_true rfl)) dX4_layWay_3 ⟨Nat.zero_le _, Nat.zero_le _⟩) hP hD hS hA [0, 1, 2, 3] [] [0, 1, 2, 3] rfl rfl (by decide) (by decide) rfl rfl (by decide) (fun H locs hP hD hS => ?_)
  refine lv_aload_n hx hb dX4_layWay_6 rfl (lv_at hl 0 rfl) ?_
  refine lv_iload_n hx hb dX4_layWay_7 rfl (lv_at hl 2 rfl) ?_
  obtain ⟨o2, ho2, hg⟩ := Go_b hg
  refine zc_vi (rest := []) ⟨hx, hb, hml, hown, hts⟩ (zc_X4_stepsTo l D κ t t_wayLength (o1.1) (o1.2.1) (o1.2.2) t_way i2 o2 ho2) (cwV 1 hts gX4_layWay_X4_stepsTo rfl rfl rfl hv_X4_stepsTo ⟨Nat.le_of_ble_eq_true rfl, Nat.le_of_ble_eq_true rfl⟩) (zpreV hK (hP.sub [0, 1, 2, 3] rfl) 4 0 rfl rfl) rfl hl.1 rfl (Nat.le_of_ble_eq_true rfl) dX4_layWay_8 ⟨Nat.zero_le _, Nat.zero_le _⟩ ?_
  refine lv_istore (lv' := [(4, .int (zi o2)), (0, .ref (t 0)), (1, .ref (ad n1 0)), (2, .int (zi i2)), (3, .int (zi i3))]) hx hb dX4_layWay_11 hl (by decide) rfl (fun ls hl => ?_)
  refine lv_iload_n hx hb dX4_layWay_13 rfl (lv_at hl 3 rfl) ?_
  refine lv_istore (lv' := [(5, .int (zi i2)), (4, .int (zi o2)), (0, .ref (t 0)), (1, .ref (ad n1 0)), (2, .int (zi i2)), (3, .int (zi i3))]) hx hb dX4_layWay_14 hl (by decide) rfl (fun ls hl => ?_)
  refine lv_aload_n hx hb dX4_layWay_16 rfl (lv_at hl 2 rfl) ?_
  refine zv_iconst hx hb dX4_layWay_17 ?_
  refine va_put (D := D) (ci := 4) (v := .int (zi (0 : Int))) (ty := .int) (C := RX4) (T := TX4) (N := 5) hx hb hts zi_X4_layWay_X4 tyX4 tyX4_ok nmX4 hown hK hP hD hS 0 rfl rfl 3 (by decide) (hts (.fieldLink RX4 58 "DiamondRows$Flips" "wayLength" "I") zl_X4_layWay_58) (fun _ h9 => h9) rfl (by decide +kernel) rfl rfl (Nat.le_of_ble_eq_true rfl) dX4_layWay_18 (fun H locs hP hD hS => ?_)
  have hP : va_P D vwCl ([((t 0), .inr (4, [.ref (t 1), .ref (t 2), .ref (t 3), .int (zi (0 : Int)), .int (zi (o1.1))])), ((t 1), .inl (κ 1, 429, .inl (zc (o1.2.1)))), ((t 2), .inl (κ 1, 429, .inl (zc (o1.2.2)))), ((t 3), .inl (κ 1, 429, .inl (zc t_way)))]) H := hP
  have hD : va_D A ([((t 0), .inr (4, [.ref (t 1), .ref (t 2), .ref (t 3), .int (zi (0 : Int)), .int (zi (o1.1))])), ((t 1), .inl (κ 1, 429, .inl (zc (o1.2.1)))), ((t 2), .inl (κ 1, 429, .inl (zc (o1.2.2)))), ((t 3), .inl (κ 1, 429, .inl (zc t_way)))]) := hD
  refine zv_iconst hx hb dX4_layWay_21 ?_
  refine lv_istore (lv' := [(6, .int (zi (0 : Int))), (5, .int (zi i2)), (4, .int (zi o2)), (0, .ref (t 0)), (1, .ref (ad n1 0)), (2, .int (zi i2)), (3, .int (zi i3))]) hx hb dX4_layWay_22 hl (by decide) rfl (fun ls hl => ?_)
  exact (Go_s hg) H locs ls hP hD hS (lv_sub hl [3, 4, 2, 1, 0] rfl)
set_option maxHeartbeats 4000000 in
set_option maxRecDepth 100000 in
theorem zs_X4_layWay_24 {p : Program} {l : Launch} {e : Env} {s : State} {m : MethodId} {args : Array Value} {below : List Frame} {meth : Method} {c : Code} {Q : State → Prop} {D : va_G} {κ : Nat → ClassId} {A : Nat → Prop} {H0 : Heap} (t : Nat → Nat) (mk : Nat) (ad : Nat → Nat → Nat) (n1 : Nat) (hx : p.tables.exec = Jvm.exec) (hb : c.code = cX4_layWay) (hml : c.maxLocals = 7) (hown : s.vm.findClass RX4 = some m.cls) (hts : ∀ w ∈ wsX4_layWay, w.before args s = true) (hK : va_K D vwCl (zTY κ) s) (hA : ∀ q : Nat, H0.size ≤ q → A q) (hB : zAmb D κ mk ad H0) (hBA : zApt mk ad A H0.size) (i2 : Int) (i3 : Int) (i4 : Int) (i5 : Int) (i6 : Int) (t_wayLength : Int) (t_queued : Int) (t_steps : Nat) (t_queue : Nat) (t_way : Nat) (hg : Go (GoE (zA_X4_layWay p l e s m args below meth c Q D κ A H0 t mk ad n1) (zQ_X4_layWay p l e s m args below meth c Q D κ A H0 t mk ad n1)) (zg_X4_layWay_24 mk n1 i2 i3 i4 i5 i6 t_wayLength t_queued t_steps t_queue t_way)) : zA_X4_layWay_24 p l e s m args below meth c Q D κ A H0 t mk ad n1 i2 i3 i4 i5 i6 t_wayLength t_queued t_steps t_queue t_way := by
  intro H locs ls hP hD hS hl
  unfold zg_X4_layWay_24 at hg
  refine lv_iload hx hb dX4_layWay_24 (lv_at hl 4 rfl) ?_
  refine lv_iload hx hb dX4_layWay_26 (lv_at hl 2 rfl) ?_
  obtain ⟨b3, hg⟩ := Go_n hg
  obtain ⟨b4, hg⟩ := Go_n hg
  refine zv_icmp_gt (tgt := 73) hx hb dX4_layWay_28 (by decide) b3 b4 (fun c8 => ?_) (fun c8 => ?_)
  · have hg := Go_t c8 hg
    refine lv_iload hx hb dX4_layWay_73 (lv_at hl 2 rfl) ?_
    exact (Go_s hg) _ _ _ _ hP hD hS dX4_layWay_75
  · have hg := Go_f c8 hg
    refine lv_iload hx hb dX4_layWay_31 (lv_at hl 4 rfl) ?_
    refine zv_sipush hx hb dX4_layWay_33 (by decide) ?_
    refine zv_icmp_ge (tgt := 73) hx hb dX4_layWay_36 (by decide) b3 (by decide) (fun c7 => ?_) (fun c7 => ?_)
    · have hg := Go_t c7 hg
      refine lv_iload hx hb dX4_layWay_73 (lv_at hl 2 rfl) ?_
      exact (Go_s hg) _ _ _ _ hP hD hS dX4_layWay_75
    · have hg := Go_f c7 hg
      refine lv_aload_n hx hb dX4_layWay_39 rfl (lv_at hl 0 rfl) ?_
      refine va_get (D := D) (ci := 4) (v := .ref (t 3)) (C := RX4) (T := TX4) (N := 5) hx hb hts zi_X4_layWay_X4 hown hK hP 0 rfl rfl 2 (by decide) (hts (.fieldLink RX4 18 "DiamondRows$Flips" "way" "[I") zl_X4_layWay_18) (fun _ h9 => h9) rfl dX4_layWay_40 ?_
      refine lv_iload hx hb dX4_layWay_43 (lv_at hl 4 rfl) ?_
      refine lv_iload hx hb dX4_layWay_45 (lv_at hl 3 rfl) ?_
      obtain ⟨n5, hg⟩ := Go_n hg
      refine zv_iast hx hb hK hP hD hS 3 1 rfl rfl (by decide) n5 dX4_layWay_47 (fun H locs hP hD hS => ?_)
      have hP : va_P D vwCl ([((t 0), .inr (4, [.ref (t 1), .ref (t 2), .ref (t 3), .int (zi t_wayLength), .int (zi t_queued)])), ((t 1), .inl (κ 1, 429, .inl (zc t_steps))), ((t 2), .inl (κ 1, 429, .inl (zc t_queue))), ((t 3), .inl (κ 1, 429, .inl (zc (zset t_way (Int.toNat i6) i5))))]) H := hP
      have hD : va_D A ([((t 0), .inr (4, [.ref (t 1), .ref (t 2), .ref (t 3), .int (zi t_wayLength), .int (zi t_queued)])), ((t 1), .inl (κ 1, 429, .inl (zc t_steps))), ((t 2), .inl (κ 1, 429, .inl (zc t_queue))), ((t 3), .inl (κ 1, 429, .inl (zc (zset t_way (Int.toNat i6) i5))))]) := hD
      refine lv_aload_n hx hb dX4_layWay_48 rfl (lv_at hl 0 rfl) ?_
      refine lv_dup hx hb dX4_layWay_49 rfl ?_
      refine va_get (D := D) (ci := 4) (v := .int (zi t_wayLength)) (C := RX4) (T := TX4) (N := 5) hx hb hts zi_X4_layWay_X4 hown hK hP 0 rfl rfl 3 (by decide) (hts (.fieldLink RX4 58 "DiamondRows$Flips" "wayLength" "I") zl_X4_layWay_58) (fun _ h9 => h9) rfl dX4_layWay_50 ?_
      refine zv_iconst hx hb dX4_layWay_53 ?_
      refine zv_iadd hx hb dX4_layWay_54 ?_
      refine va_put (D := D) (ci := 4) (v := .int (zi (t_wayLength + (1 : Int)))) (ty := .int) (C := RX4) (T := TX4) (N := 5) hx hb hts zi_X4_layWay_X4 tyX4 tyX4_ok nmX4 hown hK hP hD hS 0 rfl rfl 3 (by decide) (hts (.fieldLink RX4 58 "DiamondRows$Flips" "wayLength" "I") zl_X4_layWay_58) (fun _ h9 => h9) rfl (by decide +kernel) rfl rfl (Nat.le_of_ble_eq_true rfl) dX4_layWay_55 (fun H locs hP hD hS => ?_)
      have hP : va_P D vwCl ([((t 0), .inr (4, [.ref (t 1), .ref (t 2), .ref (t 3), .int (zi (t_wayLength + (1 : Int))), .int (zi t_queued)])), ((t 1), .inl (κ 1, 429, .inl (zc t_steps))), ((t 2), .inl (κ 1, 429, .inl (zc t_queue))), ((t 3), .inl (κ 1, 429, .inl (zc (zset t_way (Int.toNat i6) i5))))]) H := hP
      have hD : va_D A ([((t 0), .inr (4, [.ref (t 1), .ref (t 2), .ref (t 3), .int (zi (t_wayLength + (1 : Int))), .int (zi t_queued)])), ((t 1), .inl (κ 1, 429, .inl (zc t_steps))), ((t 2), .inl (κ 1, 429, .inl (zc t_queue))), ((t 3), .inl (κ 1, 429, .inl (zc (zset t_way (Int.toNat i6) i5))))]) := hD
      refine lv_aload_n hx hb dX4_layWay_58 rfl (lv_at hl 0 rfl) ?_
      refine lv_aload_n hx hb dX4_layWay_59 rfl (lv_at hl 1 rfl) ?_
      refine lv_iload hx hb dX4_layWay_60 (lv_at hl 3 rfl) ?_
      obtain ⟨o6, ho6, hg⟩ := Go_b hg
      refine zc_vi (rest := []) ⟨hx, hb, hml, hown, hts⟩ (zc_X4_leastNearer l D κ t mk ad (t_wayLength + (1 : Int)) t_queued t_steps t_queue (zset t_way (Int.toNat i6) i5) n1 i5 o6 ho6) (cwV 2 hts gX4_layWay_X4_leastNearer rfl rfl rfl hv_X4_leastNearer ⟨Nat.le_of_ble_eq_true rfl, Nat.le_of_ble_eq_true rfl⟩) (zpreVa hK (hP.sub [0, 1, 2, 3] rfl) (zamb hB hBA hS) 4 0 rfl rfl) rfl hl.1 rfl (Nat.le_of_ble_eq_true rfl) dX4_layWay_62 ⟨Nat.zero_le _, Nat.zero_le _⟩ ?_
      refine lv_istore (lv' := [(5, .int (zi o6)), (0, .ref (t 0)), (1, .ref (ad n1 0)), (4, .int (zi i4)), (6, .int (zi i6))]) hx hb dX4_layWay_65 hl (by decide) rfl (fun ls hl => ?_)
      refine lv_iinc (v := zi (i6 + (1 : Int))) (lv' := [(6, .int (zi (i6 + (1 : Int)))), (5, .int (zi o6)), (0, .ref (t 0)), (1, .ref (ad n1 0)), (4, .int (zi i4))]) hx hb dX4_layWay_67 hl (k := 4) rfl (zi_add i6 _) (by decide) rfl (fun ls hl => ?_)
      refine lv_goto (tgt := 24) hx hb dX4_layWay_70 (by decide) ?_
      exact (Go_s hg) H locs ls hP hD hS (lv_sub hl [2, 3, 4, 1, 0] rfl)
set_option maxHeartbeats 4000000 in
set_option maxRecDepth 100000 in
theorem zw_X4_layWay {p : Program} {l : Launch} {e : Env} {s : State} {m : MethodId} {args : Array Value} {below : List Frame} {meth : Method} {c : Code} {Q : State → Prop} {D : va_G} {κ : Nat → ClassId} {A : Nat → Prop} {H0 : Heap} (t : Nat → Nat) (mk : Nat) (ad : Nat → Nat → Nat) (n1 : Nat) (t_wayLength : Int) (t_queued : Int) (t_steps : Nat) (t_queue : Nat) (t_way : Nat) (i2 : Int) (i3 : Int) (hx : p.tables.exec = Jvm.exec) (hb : c.code = cX4_layWay) (hml : c.maxLocals = 7) (hown : s.vm.findClass RX4 = some m.cls) (hts : ∀ w ∈ wsX4_layWay, w.before args s = true) (hK : va_K D vwCl (zTY κ) s) (hA : ∀ q : Nat, H0.size ≤ q → A q) (hB : zAmb D κ mk ad H0) (hBA : zApt mk ad A H0.size) (out : Int × Int × Int × Nat × Nat × Nat) (h : zf_X4_layWay mk t_wayLength t_queued t_steps t_queue t_way n1 i2 i3 = some out) (hq : zQ_X4_layWay p l e s m args below meth c Q D κ A H0 t mk ad n1 out) : zA_X4_layWay_0 p l e s m args below meth c Q D κ A H0 t mk ad n1 i2 i3 0 0 0 t_wayLength t_queued t_steps t_queue t_way := by
  have hst : ∀ st : zS_X4_layWay, Go (GoE (zA_X4_layWay p l e s m args below meth c Q D κ A H0 t mk ad n1) (zQ_X4_layWay p l e s m args below meth c Q D κ A H0 t mk ad n1)) (zg_X4_layWay mk n1 st) → zA_X4_layWay p l e s m args below meth c Q D κ A H0 t mk ad n1 st := by
    intro st hg
    obtain ⟨lab, i2, i3, i4, i5, i6, t_wayLength, t_queued, t_steps, t_queue, t_way⟩ := st
    by_cases h0 : lab = 0
    · subst h0
      exact zs_X4_layWay_0 t mk ad n1 hx hb hml hown hts hK hA hB hBA i2 i3 i4 i5 i6 t_wayLength t_queued t_steps t_queue t_way hg
    by_cases h24 : lab = 24
    · subst h24
      exact zs_X4_layWay_24 t mk ad n1 hx hb hml hown hts hK hA hB hBA i2 i3 i4 i5 i6 t_wayLength t_queued t_steps t_queue t_way hg
    have hz : zg_X4_layWay mk n1 (lab, i2, i3, i4, i5, i6, t_wayLength, t_queued, t_steps, t_queue, t_way) = none := by simp [zg_X4_layWay, h0, h24]
    rw [hz] at hg
    obtain ⟨a, h1, -⟩ := hg
    cases h1
  exact jwalk (At := zA_X4_layWay p l e s m args below meth c Q D κ A H0 t mk ad n1) (Ret := zQ_X4_layWay p l e s m args below meth c Q D κ A H0 t mk ad n1) hst _ _ _ h hq
set_option maxHeartbeats 4000000 in
set_option maxRecDepth 100000 in
theorem zc_X4_layWay (l : Launch) (D : va_G) (κ : Nat → ClassId) (t : Nat → Nat) (mk : Nat) (ad : Nat → Nat → Nat) (sz : Nat) (t_wayLength : Int) (t_queued : Int) (t_steps : Nat) (t_queue : Nat) (t_way : Nat) (n1 : Nat) (i2 : Int) (i3 : Int) (out : Int × Int × Int × Nat × Nat × Nat) (h : zf_X4_layWay mk t_wayLength t_queued t_steps t_queue t_way n1 i2 i3 = some out) : Met l yX4_layWay wsX4_layWay zr_X4_layWay (va_Pc [.ref (t 0), .ref (ad n1 0), .int (zi i2), .int (zi i3)] (zWa D κ mk ad ([((t 0), .inr (4, [.ref (t 1), .ref (t 2), .ref (t 3), .int (zi t_wayLength), .int (zi t_queued)])), ((t 1), .inl (κ 1, 429, .inl (zc t_steps))), ((t 2), .inl (κ 1, 429, .inl (zc t_queue))), ((t 3), .inl (κ 1, 429, .inl (zc t_way)))]) sz)) (va_Qi (fun r (_ : Unit) => r = zi (out.1)) (fun _ => zB D κ (va_A ([((t 0), .inr (4, [.ref (t 1), .ref (t 2), .ref (t 3), .int (zi t_wayLength), .int (zi t_queued)])), ((t 1), .inl (κ 1, 429, .inl (zc t_steps))), ((t 2), .inl (κ 1, 429, .inl (zc t_queue))), ((t 3), .inl (κ 1, 429, .inl (zc t_way)))]) sz) ([((t 0), .inr (4, [.ref (t 1), .ref (t 2), .ref (t 3), .int (zi (out.2.1)), .int (zi (out.2.2.1))])), ((t 1), .inl (κ 1, 429, .inl (zc (out.2.2.2.1)))), ((t 2), .inl (κ 1, 429, .inl (zc (out.2.2.2.2.1)))), ((t 3), .inl (κ 1, 429, .inl (zc (out.2.2.2.2.2))))])) (va_A ([((t 0), .inr (4, [.ref (t 1), .ref (t 2), .ref (t 3), .int (zi t_wayLength), .int (zi t_queued)])), ((t 1), .inl (κ 1, 429, .inl (zc t_steps))), ((t 2), .inl (κ 1, 429, .inl (zc t_queue))), ((t 3), .inl (κ 1, 429, .inl (zc t_way)))]) sz)) 0 0 (va_A ([((t 0), .inr (4, [.ref (t 1), .ref (t 2), .ref (t 3), .int (zi t_wayLength), .int (zi t_queued)])), ((t 1), .inl (κ 1, 429, .inl (zc t_steps))), ((t 2), .inl (κ 1, 429, .inl (zc t_queue))), ((t 3), .inl (κ 1, 429, .inl (zc t_way)))]) sz) := by
  refine Met.ofW (cc := cX4_layWay) (maxL := 7) (ret := (some .int)) (by decide +kernel) rfl ?_
  intro p e s m args below meth c s₁ B hml hv
  obtain ⟨rfl, hsz, hP, hK, hD0, hB, hBA⟩ := hv
  have hx := B.exec
  have hb := B.bytes
  have hr := B.returns
  have hts := atoms_spec (ws := wsX4_layWay) B.pre
  have hown : s.vm.findClass RX4 = some m.cls := findClass_of_methodNamed B.named
  have hlocks := B.notSynchronized
  subst hsz
  have hD := hD0.self (sz := s.heap.size)
  generalize hAe : va_A ([((t 0), .inr (4, [.ref (t 1), .ref (t 2), .ref (t 3), .int (zi t_wayLength), .int (zi t_queued)])), ((t 1), .inl (κ 1, 429, .inl (zc t_steps))), ((t 2), .inl (κ 1, 429, .inl (zc t_queue))), ((t 3), .inl (κ 1, 429, .inl (zc t_way)))]) s.heap.size = A at hD hBA ⊢
  have hA : ∀ q : Nat, s.heap.size ≤ q → A q := fun q h => by rw [← hAe]; exact Or.inr h
  have hS : va_S A s.heap s.heap [] := va_S.rf
  have hl := lv_entry ([.ref (t 0), .ref (ad n1 0), .int (zi i2), .int (zi i3)]) (n := 7) (Nat.le_of_ble_eq_true rfl)
  rw [lg_entry_eq]
  generalize (lg_sl ([.ref (t 0), .ref (ad n1 0), .int (zi i2), .int (zi i3)]) ++ List.replicate (7 - (lg_sl ([.ref (t 0), .ref (ad n1 0), .int (zi i2), .int (zi i3)])).length) Slot.unset).toArray = ls at hl ⊢
  have hl : lv_has ls 7 [(0, .ref (t 0)), (1, .ref (ad n1 0)), (2, .int (zi i2)), (3, .int (zi i3))] := hl
  refine (zw_X4_layWay t mk ad n1 t_wayLength t_queued t_steps t_queue t_way i2 i3 hx hb hml hown hts hK hA hB hBA out h ?_) s.heap [] ls hP hD hS (lv_sub hl [0, 1, 2, 3] rfl)
  exact fun H locs ls pc hP hD hS hd => W.iret hx hb hr (fun t ht hW => ⟨⟨_, (), rfl, rfl, by rw [ht]; exact hP, va_K.moved hW.alike hK, hD⟩, hS.F ht⟩) hS.2.2 hd
/-! DiamondRows$Flips.onWay(I)I -/
abbrev zr_X4_onWay : Room := { frames := 0, cells := 0, slots := 0, locals := 0 }
noncomputable def zf_X4_onWay  (t_wayLength : Int) (t_way : Nat) (i1 : Int) : Option (Int) :=
  if zout i1 then none else
  if i1 < 0 then
  some ((-1 : Int))
  else
  if zout t_wayLength then none else
  if t_wayLength ≤ i1 then
  some ((-1 : Int))
  else
  if i1 < 0 ∨ 429 ≤ i1 then none else
  some ((zget t_way (Int.toNat i1)))
theorem zi_X4_onWay_X4 : ∀ w ∈ u_ws RX4 TX4 5, w ∈ wsX4_onWay := fun w h => (List.mem_cons_of_mem _ (List.mem_append_right _ h))
theorem zl_X4_onWay_18 : Cond.fieldLink RX4 18 "DiamondRows$Flips" "way" "[I" ∈ wsX4_onWay := (List.mem_cons_of_mem _ (List.mem_append_left _ (List.mem_of_getElem? (i := 1) rfl)))
theorem zl_X4_onWay_58 : Cond.fieldLink RX4 58 "DiamondRows$Flips" "wayLength" "I" ∈ wsX4_onWay := (List.mem_cons_of_mem _ (List.mem_append_left _ (List.mem_of_getElem? (i := 0) rfl)))
def zQ_X4_onWay (p : Program) (l : Launch) (e : Env) (s : State) (m : MethodId) (args : Array Value) (below : List Frame) (meth : Method) (c : Code) (Q : State → Prop) (H : Heap) (locs : List Loc)  (o : Int) : Prop := ∀ (ls : Array Slot) (pc : Nat), decode cX4_onWay pc = .ok (.ireturn, 1) → W p l e zr_X4_onWay s m args below meth c H locs 0 0 Q (F0 m pc ls [.int (zi o)])
set_option maxHeartbeats 4000000 in
set_option maxRecDepth 100000 in
theorem zs_X4_onWay {p : Program} {l : Launch} {e : Env} {s : State} {m : MethodId} {args : Array Value} {below : List Frame} {meth : Method} {c : Code} {Q : State → Prop} {D : va_G} {κ : Nat → ClassId} {H : Heap} {locs : List Loc} (t : Nat → Nat) (t_wayLength : Int) (t_queued : Int) (t_steps : Nat) (t_queue : Nat) (t_way : Nat) (i1 : Int) (hx : p.tables.exec = Jvm.exec) (hb : c.code = cX4_onWay) (hml : c.maxLocals = 2) (hown : s.vm.findClass RX4 = some m.cls) (hts : ∀ w ∈ wsX4_onWay, w.before args s = true) (hK : va_K D vwCl (zTY κ) s) (hP : va_P D vwCl ([((t 0), .inr (4, [.ref (t 1), .ref (t 2), .ref (t 3), .int (zi t_wayLength), .int (zi t_queued)])), ((t 1), .inl (κ 1, 429, .inl (zc t_steps))), ((t 2), .inl (κ 1, 429, .inl (zc t_queue))), ((t 3), .inl (κ 1, 429, .inl (zc t_way)))]) H) (ls : Array Slot) (hl : lv_has ls 2 [(0, .ref (t 0)), (1, .int (zi i1))]) (hg : Go (zQ_X4_onWay p l e s m args below meth c Q H locs) (zf_X4_onWay t_wayLength t_way i1)) : W p l e zr_X4_onWay s m args below meth c H locs 0 0 Q (F0 m 0 ls []) := by
  unfold zf_X4_onWay at hg
  refine lv_iload_n hx hb dX4_onWay_0 rfl (lv_at hl 1 rfl) ?_
  obtain ⟨b1, hg⟩ := Go_n hg
  refine zv_if_lt (tgt := 21) hx hb dX4_onWay_1 (by decide) b1 (fun c5 => ?_) (fun c5 => ?_)
  · have hg := Go_t c5 hg
    refine zv_iconst hx hb dX4_onWay_21 ?_
    exact (Go_s hg) _ _ dX4_onWay_22
  · have hg := Go_f c5 hg
    refine lv_iload_n hx hb dX4_onWay_4 rfl (lv_at hl 1 rfl) ?_
    refine lv_aload_n hx hb dX4_onWay_5 rfl (lv_at hl 0 rfl) ?_
    refine va_get (D := D) (ci := 4) (v := .int (zi t_wayLength)) (C := RX4) (T := TX4) (N := 5) hx hb hts zi_X4_onWay_X4 hown hK hP 0 rfl rfl 3 (by decide) (hts (.fieldLink RX4 58 "DiamondRows$Flips" "wayLength" "I") zl_X4_onWay_58) (fun _ h9 => h9) rfl dX4_onWay_6 ?_
    obtain ⟨b2, hg⟩ := Go_n hg
    refine zv_icmp_ge (tgt := 21) hx hb dX4_onWay_9 (by decide) b1 b2 (fun c4 => ?_) (fun c4 => ?_)
    · have hg := Go_t c4 hg
      refine zv_iconst hx hb dX4_onWay_21 ?_
      exact (Go_s hg) _ _ dX4_onWay_22
    · have hg := Go_f c4 hg
      refine lv_aload_n hx hb dX4_onWay_12 rfl (lv_at hl 0 rfl) ?_
      refine va_get (D := D) (ci := 4) (v := .ref (t 3)) (C := RX4) (T := TX4) (N := 5) hx hb hts zi_X4_onWay_X4 hown hK hP 0 rfl rfl 2 (by decide) (hts (.fieldLink RX4 18 "DiamondRows$Flips" "way" "[I") zl_X4_onWay_18) (fun _ h9 => h9) rfl dX4_onWay_13 ?_
      refine lv_iload_n hx hb dX4_onWay_16 rfl (lv_at hl 1 rfl) ?_
      obtain ⟨n3, hg⟩ := Go_n hg
      refine zv_iald hx hb hK hP 3 1 rfl rfl (by decide) n3 dX4_onWay_17 ?_
      refine lv_goto (tgt := 22) hx hb dX4_onWay_18 (by decide) ?_
      exact (Go_s hg) _ _ dX4_onWay_22
set_option maxHeartbeats 4000000 in
set_option maxRecDepth 100000 in
theorem zc_X4_onWay (l : Launch) (D : va_G) (κ : Nat → ClassId) (t : Nat → Nat) (t_wayLength : Int) (t_queued : Int) (t_steps : Nat) (t_queue : Nat) (t_way : Nat) (i1 : Int) (out : Int) (h : zf_X4_onWay t_wayLength t_way i1 = some out) : Met l yX4_onWay wsX4_onWay zr_X4_onWay (va_Pc [.ref (t 0), .int (zi i1)] (zR D κ ([((t 0), .inr (4, [.ref (t 1), .ref (t 2), .ref (t 3), .int (zi t_wayLength), .int (zi t_queued)])), ((t 1), .inl (κ 1, 429, .inl (zc t_steps))), ((t 2), .inl (κ 1, 429, .inl (zc t_queue))), ((t 3), .inl (κ 1, 429, .inl (zc t_way)))]))) (vp_Si (fun x => x = zi out)) 0 0 (fun _ => False) := by
  refine Met.ofW (cc := cX4_onWay) (maxL := 2) (ret := (some .int)) (by decide +kernel) rfl ?_
  intro p e s m args below meth c s₁ B hml hv
  obtain ⟨rfl, hP, hK⟩ := hv
  have hx := B.exec
  have hb := B.bytes
  have hr := B.returns
  have hts := atoms_spec (ws := wsX4_onWay) B.pre
  have hown : s.vm.findClass RX4 = some m.cls := findClass_of_methodNamed B.named
  have hlocks := B.notSynchronized
  have hl := lv_entry ([.ref (t 0), .int (zi i1)]) (n := 2) (Nat.le_of_ble_eq_true rfl)
  rw [lg_entry_eq]
  generalize (lg_sl ([.ref (t 0), .int (zi i1)]) ++ List.replicate (2 - (lg_sl ([.ref (t 0), .int (zi i1)])).length) Slot.unset).toArray = ls at hl ⊢
  have hl : lv_has ls 2 [(0, .ref (t 0)), (1, .int (zi i1))] := hl
  refine zs_X4_onWay t t_wayLength t_queued t_steps t_queue t_way i1 hx hb hml hown hts hK hP ls hl ⟨out, h, ?_⟩
  exact fun ls pc hd => W.iret hx hb hr (fun t ht hW => ⟨_, rfl, rfl, ht⟩) (fun _ h => by cases h) hd
end
