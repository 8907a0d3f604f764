/-! DiamondRows$Endless.size()I -/
abbrev zr_X2_size : Room := { frames := 0, cells := 0, slots := 0, locals := 0 }
noncomputable def zf_X2_size  (t_size : Int)  : Option (Int) :=
  some (t_size)
theorem zi_X2_size_X2 : ∀ w ∈ u_ws RX2 TX2 2, w ∈ wsX2_size := by decide +kernel
theorem zl_X2_size_15 : Cond.fieldLink RX2 15 "DiamondRows$Endless" "size" "I" ∈ wsX2_size := by decide +kernel
def zQ_X2_size (p : Program) (l : Launch) (e : Env) (s : State) (m : MethodId) (args : Array Value) (below : List Frame) (meth : Method) (c : Code) (Q : State → Prop) (H : Heap) (locs : List Loc)  (o : Int) : Prop := ∀ (ls : Array Slot) (pc : Nat), decode cX2_size pc = .ok (.ireturn, 1) → W p l e zr_X2_size s m args below meth c H locs 0 0 Q (F0 m pc ls [.int (zi o)])
set_option maxHeartbeats 4000000 in
set_option maxRecDepth 100000 in
theorem zs_X2_size {p : Program} {l : Launch} {e : Env} {s : State} {m : MethodId} {args : Array Value} {below : List Frame} {meth : Method} {c : Code} {Q : State → Prop} {D : va_G} {κ : Nat → ClassId} {H : Heap} {locs : List Loc} (t : Nat → Nat) (t_size : Int) (t_numbers : Nat)  (hx : p.tables.exec = Jvm.exec) (hb : c.code = cX2_size) (hml : c.maxLocals = 1) (hown : s.vm.findClass RX2 = some m.cls) (hts : ∀ w ∈ wsX2_size, w.before args s = true) (hK : va_K D vwCl (zTY κ) s) (hP : va_P D vwCl ([((t 0), .inr (2, [.ref (t 1), .int (zi t_size)])), ((t 1), .inl (κ 1, 10, .inl (zc t_numbers)))]) H) (ls : Array Slot) (hl : lv_has ls 1 [(0, .ref (t 0))]) (hg : Go (zQ_X2_size p l e s m args below meth c Q H locs) (zf_X2_size t_size )) : W p l e zr_X2_size s m args below meth c H locs 0 0 Q (F0 m 0 ls []) := by
  unfold zf_X2_size at hg
  refine lv_aload_n hx hb dX2_size_0 rfl (lv_at hl 0 rfl) ?_
  refine va_get (D := D) (ci := 2) (v := .int (zi t_size)) (C := RX2) (T := TX2) (N := 2) hx hb hts zi_X2_size_X2 hown hK hP 0 rfl rfl 1 (by decide) (hts (.fieldLink RX2 15 "DiamondRows$Endless" "size" "I") zl_X2_size_15) (fun _ h9 => h9) rfl dX2_size_1 ?_
  exact (Go_s hg) _ _ dX2_size_4
set_option maxHeartbeats 4000000 in
set_option maxRecDepth 100000 in
theorem zc_X2_size (l : Launch) (D : va_G) (κ : Nat → ClassId) (t : Nat → Nat) (t_size : Int) (t_numbers : Nat)  (out : Int) (h : zf_X2_size t_size  = some out) : Met l yX2_size wsX2_size zr_X2_size (va_Pc [.ref (t 0)] (zR D κ ([((t 0), .inr (2, [.ref (t 1), .int (zi t_size)])), ((t 1), .inl (κ 1, 10, .inl (zc t_numbers)))]))) (vp_Si (fun x => x = zi out)) 0 0 (fun _ => False) := by
  refine Met.ofW (cc := cX2_size) (maxL := 1) (ret := (some .int)) (by decide +kernel) rfl ?_
  intro p e s m args below meth c s₁ B hml hv
  obtain ⟨rfl, hP, hK⟩ := hv
  have hx := B.exec
  have hb := B.bytes
  have hr := B.returns
  have hts := atoms_spec (ws := wsX2_size) B.pre
  have hown : s.vm.findClass RX2 = some m.cls := findClass_of_methodNamed B.named
  have hlocks := B.notSynchronized
  have hl := lv_entry ([.ref (t 0)]) (n := 1) (Nat.le_of_ble_eq_true rfl)
  rw [lg_entry_eq]
  generalize (lg_sl ([.ref (t 0)]) ++ List.replicate (1 - (lg_sl ([.ref (t 0)])).length) Slot.unset).toArray = ls at hl ⊢
  have hl : lv_has ls 1 [(0, .ref (t 0))] := hl
  refine zs_X2_size t t_size t_numbers  hx hb hml hown hts hK hP ls hl ⟨out, h, ?_⟩
  exact fun ls pc hd => W.iret hx hb hr (fun t ht hW => ⟨_, rfl, rfl, ht⟩) (fun _ h => by cases h) hd
/-! DiamondRows$Endless.hasPlace(I)Z -/
abbrev zr_X2_hasPlace : Room := { frames := 0, cells := 0, slots := 0, locals := 0 }
noncomputable def zf_X2_hasPlace  (t_size : Int) (i1 : Int) : Option (Bool) :=
  if zout i1 then none else
  if i1 < 0 then
  some (false)
  else
  if zout t_size then none else
  if t_size ≤ i1 then
  some (false)
  else
  some (true)
theorem zi_X2_hasPlace_X2 : ∀ w ∈ u_ws RX2 TX2 2, w ∈ wsX2_hasPlace := by decide +kernel
theorem zl_X2_hasPlace_15 : Cond.fieldLink RX2 15 "DiamondRows$Endless" "size" "I" ∈ wsX2_hasPlace := by decide +kernel
def zQ_X2_hasPlace (p : Program) (l : Launch) (e : Env) (s : State) (m : MethodId) (args : Array Value) (below : List Frame) (meth : Method) (c : Code) (Q : State → Prop) (H : Heap) (locs : List Loc)  (o : Bool) : Prop := ∀ (ls : Array Slot) (pc : Nat), decode cX2_hasPlace pc = .ok (.ireturn, 1) → W p l e zr_X2_hasPlace s m args below meth c H locs 0 0 Q (F0 m pc ls [.int (zi (bI o))])
set_option maxHeartbeats 4000000 in
set_option maxRecDepth 100000 in
theorem zs_X2_hasPlace {p : Program} {l : Launch} {e : Env} {s : State} {m : MethodId} {args : Array Value} {below : List Frame} {meth : Method} {c : Code} {Q : State → Prop} {D : va_G} {κ : Nat → ClassId} {H : Heap} {locs : List Loc} (t : Nat → Nat) (t_size : Int) (t_numbers : Nat) (i1 : Int) (hx : p.tables.exec = Jvm.exec) (hb : c.code = cX2_hasPlace) (hml : c.maxLocals = 2) (hown : s.vm.findClass RX2 = some m.cls) (hts : ∀ w ∈ wsX2_hasPlace, w.before args s = true) (hK : va_K D vwCl (zTY κ) s) (hP : va_P D vwCl ([((t 0), .inr (2, [.ref (t 1), .int (zi t_size)])), ((t 1), .inl (κ 1, 10, .inl (zc t_numbers)))]) H) (ls : Array Slot) (hl : lv_has ls 2 [(0, .ref (t 0)), (1, .int (zi i1))]) (hg : Go (zQ_X2_hasPlace p l e s m args below meth c Q H locs) (zf_X2_hasPlace t_size i1)) : W p l e zr_X2_hasPlace s m args below meth c H locs 0 0 Q (F0 m 0 ls []) := by
  unfold zf_X2_hasPlace at hg
  refine lv_iload_n hx hb dX2_hasPlace_0 rfl (lv_at hl 1 rfl) ?_
  obtain ⟨b1, hg⟩ := Go_n hg
  refine zv_if_lt (tgt := 16) hx hb dX2_hasPlace_1 (by decide) b1 (fun c4 => ?_) (fun c4 => ?_)
  · have hg := Go_t c4 hg
    refine zv_iconst hx hb dX2_hasPlace_16 ?_
    exact (Go_s hg) _ _ dX2_hasPlace_17
  · have hg := Go_f c4 hg
    refine lv_iload_n hx hb dX2_hasPlace_4 rfl (lv_at hl 1 rfl) ?_
    refine lv_aload_n hx hb dX2_hasPlace_5 rfl (lv_at hl 0 rfl) ?_
    refine va_get (D := D) (ci := 2) (v := .int (zi t_size)) (C := RX2) (T := TX2) (N := 2) hx hb hts zi_X2_hasPlace_X2 hown hK hP 0 rfl rfl 1 (by decide) (hts (.fieldLink RX2 15 "DiamondRows$Endless" "size" "I") zl_X2_hasPlace_15) (fun _ h9 => h9) rfl dX2_hasPlace_6 ?_
    obtain ⟨b2, hg⟩ := Go_n hg
    refine zv_icmp_ge (tgt := 16) hx hb dX2_hasPlace_9 (by decide) b1 b2 (fun c3 => ?_) (fun c3 => ?_)
    · have hg := Go_t c3 hg
      refine zv_iconst hx hb dX2_hasPlace_16 ?_
      exact (Go_s hg) _ _ dX2_hasPlace_17
    · have hg := Go_f c3 hg
      refine zv_iconst hx hb dX2_hasPlace_12 ?_
      refine lv_goto (tgt := 17) hx hb dX2_hasPlace_13 (by decide) ?_
      exact (Go_s hg) _ _ dX2_hasPlace_17
set_option maxHeartbeats 4000000 in
set_option maxRecDepth 100000 in
theorem zc_X2_hasPlace (l : Launch) (D : va_G) (κ : Nat → ClassId) (t : Nat → Nat) (t_size : Int) (t_numbers : Nat) (i1 : Int) (out : Bool) (h : zf_X2_hasPlace t_size i1 = some out) : Met l yX2_hasPlace wsX2_hasPlace zr_X2_hasPlace (va_Pc [.ref (t 0), .int (zi i1)] (zR D κ ([((t 0), .inr (2, [.ref (t 1), .int (zi t_size)])), ((t 1), .inl (κ 1, 10, .inl (zc t_numbers)))]))) (vp_Si (fun x => x = zi (bI out))) 0 0 (fun _ => False) := by
  refine Met.ofW (cc := cX2_hasPlace) (maxL := 2) (ret := (some .boolean)) (by decide +kernel) rfl ?_
  intro p e s m args below meth c s₁ B hml hv
  obtain ⟨rfl, hP, hK⟩ := hv
  have hx := B.exec
  have hb := B.bytes
  have hr := B.returns
  have hts := atoms_spec (ws := wsX2_hasPlace) B.pre
  have hown : s.vm.findClass RX2 = some m.cls := findClass_of_methodNamed B.named
  have hlocks := B.notSynchronized
  have hl := lv_entry ([.ref (t 0), .int (zi i1)]) (n := 2) (Nat.le_of_ble_eq_true rfl)
  rw [lg_entry_eq]
  generalize (lg_sl ([.ref (t 0), .int (zi i1)]) ++ List.replicate (2 - (lg_sl ([.ref (t 0), .int (zi i1)])).length) Slot.unset).toArray = ls at hl ⊢
  have hl : lv_has ls 2 [(0, .ref (t 0)), (1, .int (zi i1))] := hl
  refine zs_X2_hasPlace t t_size t_numbers i1 hx hb hml hown hts hK hP ls hl ⟨out, h, ?_⟩
  exact fun ls pc hd => W.zret hx hb hr (bI_nar _) (fun t ht hW => ⟨_, rfl, rfl, ht⟩) (fun _ h => by cases h) hd
/-! DiamondRows$Endless.accepts([II)Z -/
abbrev zr_X2_accepts : Room := { frames := 0, cells := 0, slots := 0, locals := 0 }
abbrev zS_X2_accepts : Type := Nat × Int × Int
abbrev zO_X2_accepts : Type := Bool
noncomputable def zg_X2_accepts_0  (q1_c : Nat) (i2 : Int) (i3 : Int) : Option (zO_X2_accepts ⊕ zS_X2_accepts) :=
  if zout i2 then none else
  if i2 < (1 : Int) then
  some (.inl (false))
  else
  if (10 : Int) < i2 then
  some (.inl (false))
  else
  if i2 ≤ (10 : Int) then
  some (.inr (21, i2, (0 : Int)))
  else
  some (.inl (false))
noncomputable def zg_X2_accepts_21  (q1_c : Nat) (i2 : Int) (i3 : Int) : Option (zO_X2_accepts ⊕ zS_X2_accepts) :=
  if zout i3 then none else
  if zout i2 then none else
  if i2 ≤ i3 then
  some (.inl (true))
  else
  if i3 < 0 ∨ 10 ≤ i3 then none else
  if (zget q1_c (Int.toNat i3)) < (1 : Int) then
  some (.inl (false))
  else
  if (zget q1_c (Int.toNat i3)) ≤ (20 : Int) then
  some (.inr (21, i2, (i3 + (1 : Int))))
  else
  some (.inl (false))
noncomputable def zg_X2_accepts  (q1_c : Nat) (st : zS_X2_accepts) : Option (zO_X2_accepts ⊕ zS_X2_accepts) := match st with
  | (lab, i2, i3) => if lab = 0 then zg_X2_accepts_0 q1_c i2 i3 else if lab = 21 then zg_X2_accepts_21 q1_c i2 i3 else none
noncomputable def zf_X2_accepts  (q1_c : Nat) (i2 : Int) : Option (Bool) := jrun (zg_X2_accepts q1_c) jfuel (0, i2, 0)
def zQ_X2_accepts (p : Program) (l : Launch) (e : Env) (s : State) (m : MethodId) (args : Array Value) (below : List Frame) (meth : Method) (c : Code) (Q : State → Prop) (H : Heap) (locs : List Loc)  (o : Bool) : Prop := ∀ (ls : Array Slot) (pc : Nat), decode cX2_accepts pc = .ok (.ireturn, 1) → W p l e zr_X2_accepts s m args below meth c H locs 0 0 Q (F0 m pc ls [.int (zi (bI o))])
def zA_X2_accepts_0 (p : Program) (l : Launch) (e : Env) (s : State) (m : MethodId) (args : Array Value) (below : List Frame) (meth : Method) (c : Code) (Q : State → Prop) (H : Heap) (locs : List Loc) (t : Nat → Nat) (q1 : Nat)  (i2 : Int) (i3 : Int) : Prop := ∀ ls : Array Slot, lv_has ls 4 [(0, .ref (t 0)), (1, .ref q1), (2, .int (zi i2))] → W p l e zr_X2_accepts s m args below meth c H locs 0 0 Q (F0 m 0 ls [])
def zA_X2_accepts_21 (p : Program) (l : Launch) (e : Env) (s : State) (m : MethodId) (args : Array Value) (below : List Frame) (meth : Method) (c : Code) (Q : State → Prop) (H : Heap) (locs : List Loc) (t : Nat → Nat) (q1 : Nat)  (i2 : Int) (i3 : Int) : Prop := ∀ ls : Array Slot, lv_has ls 4 [(1, .ref q1), (2, .int (zi i2)), (3, .int (zi i3))] → W p l e zr_X2_accepts s m args below meth c H locs 0 0 Q (F0 m 21 ls [])
def zA_X2_accepts (p : Program) (l : Launch) (e : Env) (s : State) (m : MethodId) (args : Array Value) (below : List Frame) (meth : Method) (c : Code) (Q : State → Prop) (H : Heap) (locs : List Loc) (t : Nat → Nat) (q1 : Nat)  (st : zS_X2_accepts) : Prop := match st with
  | (lab, i2, i3) => if lab = 0 then zA_X2_accepts_0 p l e s m args below meth c Q H locs t q1  i2 i3 else if lab = 21 then zA_X2_accepts_21 p l e s m args below meth c Q H locs t q1  i2 i3 else True
set_option maxHeartbeats 4000000 in
set_option maxRecDepth 100000 in
theorem zs_X2_accepts_0 {p : Program} {l : Launch} {e : Env} {s : State} {m : MethodId} {args : Array Value} {below : List Frame} {meth : Method} {c : Code} {Q : State → Prop} {D : va_G} {κ : Nat → ClassId} {H : Heap} {locs : List Loc} (t : Nat → Nat) (q1 : Nat) (t_size : Int) (t_numbers : Nat) (q1_c : Nat)  (hx : p.tables.exec = Jvm.exec) (hb : c.code = cX2_accepts) (hml : c.maxLocals = 4) (hown : s.vm.findClass RX2 = some m.cls) (hts : ∀ w ∈ wsX2_accepts, w.before args s = true) (hK : va_K D vwCl (zTY κ) s) (hP : va_P D vwCl ([((t 0), .inr (2, [.ref (t 1), .int (zi t_size)])), ((t 1), .inl (κ 1, 10, .inl (zc t_numbers))), (q1, .inl (κ 1, 10, .inl (zc q1_c)))]) H) (i2 : Int) (i3 : Int) (hg : Go (GoE (zA_X2_accepts p l e s m args below meth c Q H locs t q1 ) (zQ_X2_accepts p l e s m args below meth c Q H locs)) (zg_X2_accepts_0 q1_c i2 i3)) : zA_X2_accepts_0 p l e s m args below meth c Q H locs t q1  i2 i3 := by
  intro ls hl
  unfold zg_X2_accepts_0 at hg
  refine lv_iload_n hx hb dX2_accepts_0 rfl (lv_at hl 2 rfl) ?_
  refine zv_iconst hx hb dX2_accepts_1 ?_
  obtain ⟨b1, hg⟩ := Go_n hg
  refine zv_icmp_lt (tgt := 17) hx hb dX2_accepts_2 (by decide) b1 (by decide) (fun c4 => ?_) (fun c4 => ?_)
  · have hg := Go_t c4 hg
    refine zv_iconst hx hb dX2_accepts_17 ?_
    exact (Go_s hg) _ _ dX2_accepts_18
  · have hg := Go_f c4 hg
    refine lv_iload_n hx hb dX2_accepts_5 rfl (lv_at hl 2 rfl) ?_
    refine zv_bipush hx hb dX2_accepts_6 (by decide) ?_
    refine zv_icmp_gt (tgt := 17) hx hb dX2_accepts_8 (by decide) b1 (by decide) (fun c3 => ?_) (fun c3 => ?_)
    · have hg := Go_t c3 hg
      refine zv_iconst hx hb dX2_accepts_17 ?_
      exact (Go_s hg) _ _ dX2_accepts_18
    · have hg := Go_f c3 hg
      refine lv_iload_n hx hb dX2_accepts_11 rfl (lv_at hl 2 rfl) ?_
      refine lv_aload_n hx hb dX2_accepts_12 rfl (lv_at hl 1 rfl) ?_
      refine va_alen (v := zi (10 : Int)) hx hb hK hP 2 1 rfl rfl rfl dX2_accepts_13 ?_
      refine zv_icmp_le (tgt := 19) hx hb dX2_accepts_14 (by decide) b1 (by decide) (fun c2 => ?_) (fun c2 => ?_)
      · have hg := Go_t c2 hg
        refine zv_iconst hx hb dX2_accepts_19 ?_
        refine lv_istore_n (lv' := [(3, .int (zi (0 : Int))), (0, .ref (t 0)), (1, .ref q1), (2, .int (zi i2))]) hx hb dX2_accepts_20 rfl hl (by decide) rfl (fun ls hl => ?_)
        exact (Go_s hg) ls (lv_sub hl [2, 3, 0] rfl)
      · have hg := Go_f c2 hg
        refine zv_iconst hx hb dX2_accepts_17 ?_
        exact (Go_s hg) _ _ dX2_accepts_18
set_option maxHeartbeats 4000000 in
set_option maxRecDepth 100000 in
theorem zs_X2_accepts_21 {p : Program} {l : Launch} {e : Env} {s : State} {m : MethodId} {args : Array Value} {below : List Frame} {meth : Method} {c : Code} {Q : State → Prop} {D : va_G} {κ : Nat → ClassId} {H : Heap} {locs : List Loc} (t : Nat → Nat) (q1 : Nat) (t_size : Int) (t_numbers : Nat) (q1_c : Nat)  (hx : p.tables.exec = Jvm.exec) (hb : c.code = cX2_accepts) (hml : c.maxLocals = 4) (hown : s.vm.findClass RX2 = some m.cls) (hts : ∀ w ∈ wsX2_accepts, w.before args s = true) (hK : va_K D vwCl (zTY κ) s) (hP : va_P D vwCl ([((t 0), .inr (2, [.ref (t 1), .int (zi t_size)])), ((t 1), .inl (κ 1, 10, .inl (zc t_numbers))), (q1, .inl (κ 1, 10, .inl (zc q1_c)))]) H) (i2 : Int) (i3 : Int) (hg : Go (GoE (zA_X2_accepts p l e s m args below meth c Q H locs t q1 ) (zQ_X2_accepts p l e s m args below meth c Q H locs)) (zg_X2_accepts_21 q1_c i2 i3)) : zA_X2_accepts_21 p l e s m args below meth c Q H locs t q1  i2 i3 := by
  intro ls hl
  unfold zg_X2_accepts_21 at hg
  refine lv_iload_n hx hb dX2_accepts_21 rfl (lv_at hl 2 rfl) ?_
  refine lv_iload_n hx hb dX2_accepts_22 rfl (lv_at hl 1 rfl) ?_
  obtain ⟨b5, hg⟩ := Go_n hg
  obtain ⟨b6, hg⟩ := Go_n hg
  refine zv_icmp_ge (tgt := 49) hx hb dX2_accepts_23 (by decide) b5 b6 (fun c10 => ?_) (fun c10 => ?_)
  · have hg := Go_t c10 hg
    refine zv_iconst hx hb dX2_accepts_49 ?_
    exact (Go_s hg) _ _ dX2_accepts_50
  · have hg := Go_f c10 hg
    refine lv_aload_n hx hb dX2_accepts_26 rfl (lv_at hl 0 rfl) ?_
    refine lv_iload_n hx hb dX2_accepts_27 rfl (lv_at hl 2 rfl) ?_
    obtain ⟨n7, hg⟩ := Go_n hg
    refine zv_iald hx hb hK hP 2 1 rfl rfl (by decide) n7 dX2_accepts_28 ?_
    refine zv_iconst hx hb dX2_accepts_29 ?_
    refine zv_icmp_lt (tgt := 41) hx hb dX2_accepts_30 (by decide) (zget_in _ _) (by decide) (fun c9 => ?_) (fun c9 => ?_)
    · have hg := Go_t c9 hg
      refine zv_iconst hx hb dX2_accepts_41 ?_
      exact (Go_s hg) _ _ dX2_accepts_42
    · have hg := Go_f c9 hg
      refine lv_aload_n hx hb dX2_accepts_33 rfl (lv_at hl 0 rfl) ?_
      refine lv_iload_n hx hb dX2_accepts_34 rfl (lv_at hl 2 rfl) ?_
      refine zv_iald hx hb hK hP 2 1 rfl rfl (by decide) n7 dX2_accepts_35 ?_
      refine zv_bipush hx hb dX2_accepts_36 (by decide) ?_
      refine zv_icmp_le (tgt := 43) hx hb dX2_accepts_38 (by decide) (zget_in _ _) (by decide) (fun c8 => ?_) (fun c8 => ?_)
      · have hg := Go_t c8 hg
        refine lv_iinc (v := zi (i3 + (1 : Int))) (lv' := [(3, .int (zi (i3 + (1 : Int)))), (1, .ref q1), (2, .int (zi i2))]) hx hb dX2_accepts_43 hl (k := 2) rfl (zi_add i3 _) (by decide) rfl (fun ls hl => ?_)
        refine lv_goto (tgt := 21) hx hb dX2_accepts_46 (by decide) ?_
        exact (Go_s hg) ls (lv_sub hl [1, 2, 0] rfl)
      · have hg := Go_f c8 hg
        refine zv_iconst hx hb dX2_accepts_41 ?_
        exact (Go_s hg) _ _ dX2_accepts_42
set_option maxHeartbeats 4000000 in
set_option maxRecDepth 100000 in
theorem zw_X2_accepts {p : Program} {l : Launch} {e : Env} {s : State} {m : MethodId} {args : Array Value} {below : List Frame} {meth : Method} {c : Code} {Q : State → Prop} {D : va_G} {κ : Nat → ClassId} {H : Heap} {locs : List Loc} (t : Nat → Nat) (q1 : Nat) (t_size : Int) (t_numbers : Nat) (q1_c : Nat)  (i2 : Int) (hx : p.tables.exec = Jvm.exec) (hb : c.code = cX2_accepts) (hml : c.maxLocals = 4) (hown : s.vm.findClass RX2 = some m.cls) (hts : ∀ w ∈ wsX2_accepts, w.before args s = true) (hK : va_K D vwCl (zTY κ) s) (hP : va_P D vwCl ([((t 0), .inr (2, [.ref (t 1), .int (zi t_size)])), ((t 1), .inl (κ 1, 10, .inl (zc t_numbers))), (q1, .inl (κ 1, 10, .inl (zc q1_c)))]) H) (out : Bool) (h : zf_X2_accepts q1_c i2 = some out) (hq : zQ_X2_accepts p l e s m args below meth c Q H locs out) : zA_X2_accepts_0 p l e s m args below meth c Q H locs t q1  i2 0 := by
  have hst : ∀ st : zS_X2_accepts, Go (GoE (zA_X2_accepts p l e s m args below meth c Q H locs t q1 ) (zQ_X2_accepts p l e s m args below meth c Q H locs)) (zg_X2_accepts q1_c st) → zA_X2_accepts p l e s m args below meth c Q H locs t q1  st := by
    intro st hg
    obtain ⟨lab, i2, i3⟩ := st
    by_cases h0 : lab = 0
    · subst h0
      exact zs_X2_accepts_0 t q1 t_size t_numbers q1_c  hx hb hml hown hts hK hP i2 i3 hg
    by_cases h21 : lab = 21
    · subst h21
      exact zs_X2_accepts_21 t q1 t_size t_numbers q1_c  hx hb hml hown hts hK hP i2 i3 hg
    have hz : zg_X2_accepts q1_c (lab, i2, i3) = none := by simp [zg_X2_accepts, h0, h21]
    rw [hz] at hg
    obtain ⟨a, h1, -⟩ := hg
    cases h1
  exact jwalk (At := zA_X2_accepts p l e s m args below meth c Q H locs t q1 ) (Ret := zQ_X2_accepts p l e s m args below meth c Q H locs) hst _ _ _ h hq
set_option maxHeartbeats 4000000 in
set_option maxRecDepth 100000 in
theorem zc_X2_accepts (l : Launch) (D : va_G) (κ : Nat → ClassId) (t : Nat → Nat) (q1 : Nat) (t_size : Int) (t_numbers : Nat) (q1_c : Nat) (i2 : Int) (out : Bool) (h : zf_X2_accepts q1_c i2 = some out) : Met l yX2_accepts wsX2_accepts zr_X2_accepts (va_Pc [.ref (t 0), .ref q1, .int (zi i2)] (zR D κ ([((t 0), .inr (2, [.ref (t 1), .int (zi t_size)])), ((t 1), .inl (κ 1, 10, .inl (zc t_numbers))), (q1, .inl (κ 1, 10, .inl (zc q1_c)))]))) (vp_Si (fun x => x = zi (bI out))) 0 0 (fun _ => False) := by
  refine Met.ofW (cc := cX2_accepts) (maxL := 4) (ret := (some .boolean)) (by decide +kernel) rfl ?_
  intro p e s m args below meth c s₁ B hml hv
  obtain ⟨rfl, hP, hK⟩ := hv
  have hx := B.exec
  have hb := B.bytes
  have hr := B.returns
  have hts := atoms_spec (ws := wsX2_accepts) B.pre
  have hown : s.vm.findClass RX2 = some m.cls := findClass_of_methodNamed B.named
  have hlocks := B.notSynchronized
  have hl := lv_entry ([.ref (t 0), .ref q1, .int (zi i2)]) (n := 4) (Nat.le_of_ble_eq_true rfl)
  rw [lg_entry_eq]
  generalize (lg_sl ([.ref (t 0), .ref q1, .int (zi i2)]) ++ List.replicate (4 - (lg_sl ([.ref (t 0), .ref q1, .int (zi i2)])).length) Slot.unset).toArray = ls at hl ⊢
  have hl : lv_has ls 4 [(0, .ref (t 0)), (1, .ref q1), (2, .int (zi i2))] := hl
  refine (zw_X2_accepts t q1 t_size t_numbers q1_c  i2 hx hb hml hown hts hK hP out h ?_) ls (lv_sub hl [0, 1, 2] rfl)
  exact fun ls pc hd => W.zret hx hb hr (bI_nar _) (fun t ht hW => ⟨_, rfl, rfl, ht⟩) (fun _ h => by cases h) hd
/-! DiamondRows$Endless.become([II)I -/
abbrev zr_X2_become : Room := { frames := 1, cells := 0, slots := 0, locals := 30 }
abbrev zS_X2_become : Type := Nat × Int × Int × Int × Nat
abbrev zO_X2_become : Type := Int × Int × Nat
noncomputable def zg_X2_become_0  (q1_c : Nat) (i2 : Int) (i3 : Int) (t_size : Int) (t_numbers : Nat) : Option (zO_X2_become ⊕ zS_X2_become) :=
  if zout i2 then none else
  some (.inr (12, i2, (0 : Int), (zmin i2 (10 : Int)), t_numbers))
noncomputable def zg_X2_become_12  (q1_c : Nat) (i2 : Int) (i3 : Int) (t_size : Int) (t_numbers : Nat) : Option (zO_X2_become ⊕ zS_X2_become) :=
  if zout i3 then none else
  if zout t_size then none else
  if t_size ≤ i3 then
  some (.inl (t_size, t_size, t_numbers))
  else
  if (10 : Int) ≤ i3 then
  some (.inl (t_size, t_size, t_numbers))
  else
  if i3 < 0 ∨ 10 ≤ i3 then none else
  some (.inr (12, 0, (i3 + (1 : Int)), t_size, (zset t_numbers (Int.toNat i3) (zget q1_c (Int.toNat i3)))))
noncomputable def zg_X2_become  (q1_c : Nat) (st : zS_X2_become) : Option (zO_X2_become ⊕ zS_X2_become) := match st with
  | (lab, i2, i3, t_size, t_numbers) => if lab = 0 then zg_X2_become_0 q1_c i2 i3 t_size t_numbers else if lab = 12 then zg_X2_become_12 q1_c i2 i3 t_size t_numbers else none
noncomputable def zf_X2_become  (t_size : Int) (t_numbers : Nat) (q1_c : Nat) (i2 : Int) : Option (Int × Int × Nat) := jrun (zg_X2_become q1_c) jfuel (0, i2, 0, t_size, t_numbers)
theorem zi_X2_become_X2 : ∀ w ∈ u_ws RX2 TX2 2, w ∈ wsX2_become := by decide +kernel
theorem zl_X2_become_11 : Cond.fieldLink RX2 11 "DiamondRows$Endless" "numbers" "[I" ∈ wsX2_become := by decide +kernel
theorem zl_X2_become_15 : Cond.fieldLink RX2 15 "DiamondRows$Endless" "size" "I" ∈ wsX2_become := by decide +kernel
def zQ_X2_become (p : Program) (l : Launch) (e : Env) (s : State) (m : MethodId) (args : Array Value) (below : List Frame) (meth : Method) (c : Code) (Q : State → Prop) (D : va_G) (κ : Nat → ClassId) (A : Nat → Prop) (H0 : Heap) (t : Nat → Nat) (q1 : Nat) (q1_c : Nat) (o : Int × Int × Nat) : Prop := ∀ (H : Heap) (locs : List Loc) (ls : Array Slot) (pc : Nat), va_P D vwCl ([((t 0), .inr (2, [.ref (t 1), .int (zi (o.2.1))])), ((t 1), .inl (κ 1, 10, .inl (zc (o.2.2)))), (q1, .inl (κ 1, 10, .inl (zc q1_c)))]) H → va_D A ([((t 0), .inr (2, [.ref (t 1), .int (zi (o.2.1))])), ((t 1), .inl (κ 1, 10, .inl (zc (o.2.2)))), (q1, .inl (κ 1, 10, .inl (zc q1_c)))]) → va_S A H0 H locs → decode cX2_become pc = .ok (.ireturn, 1) → W p l e zr_X2_become s m args below meth c H locs 0 0 Q (F0 m pc ls [.int (zi (o.1))])
def zA_X2_become_0 (p : Program) (l : Launch) (e : Env) (s : State) (m : MethodId) (args : Array Value) (below : List Frame) (meth : Method) (c : Code) (Q : State → Prop) (D : va_G) (κ : Nat → ClassId) (A : Nat → Prop) (H0 : Heap) (t : Nat → Nat) (q1 : Nat) (q1_c : Nat) (i2 : Int) (i3 : Int) (t_size : Int) (t_numbers : Nat) : Prop := ∀ (H : Heap) (locs : List Loc) (ls : Array Slot), va_P D vwCl ([((t 0), .inr (2, [.ref (t 1), .int (zi t_size)])), ((t 1), .inl (κ 1, 10, .inl (zc t_numbers))), (q1, .inl (κ 1, 10, .inl (zc q1_c)))]) H → va_D A ([((t 0), .inr (2, [.ref (t 1), .int (zi t_size)])), ((t 1), .inl (κ 1, 10, .inl (zc t_numbers))), (q1, .inl (κ 1, 10, .inl (zc q1_c)))]) → va_S A H0 H locs → lv_has ls 4 [(0, .ref (t 0)), (1, .ref q1), (2, .int (zi i2))] → W p l e zr_X2_become s m args below meth c H locs 0 0 Q (F0 m 0 ls [])
def zA_X2_become_12 (p : Program) (l : Launch) (e : Env) (s : State) (m : MethodId) (args : Array Value) (below : List Frame) (meth : Method) (c : Code) (Q : State → Prop) (D : va_G) (κ : Nat → ClassId) (A : Nat → Prop) (H0 : Heap) (t : Nat → Nat) (q1 : Nat) (q1_c : Nat) (i2 : Int) (i3 : Int) (t_size : Int) (t_numbers : Nat) : Prop := ∀ (H : Heap) (locs : List Loc) (ls : Array Slot), va_P D vwCl ([((t 0), .inr (2, [.ref (t 1), .int (zi t_size)])), ((t 1), .inl (κ 1, 10, .inl (zc t_numbers))), (q1, .inl (κ 1, 10, .inl (zc q1_c)))]) H → va_D A ([((t 0), .inr (2, [.ref (t 1), .int (zi t_size)])), ((t 1), .inl (κ 1, 10, .inl (zc t_numbers))), (q1, .inl (κ 1, 10, .inl (zc q1_c)))]) → va_S A H0 H locs → lv_has ls 4 [(0, .ref (t 0)), (1, .ref q1), (3, .int (zi i3))] → W p l e zr_X2_become s m args below meth c H locs 0 0 Q (F0 m 12 ls [])
def zA_X2_become (p : Program) (l : Launch) (e : Env) (s : State) (m : MethodId) (args : Array Value) (below : List Frame) (meth : Method) (c : Code) (Q : State → Prop) (D : va_G) (κ : Nat → ClassId) (A : Nat → Prop) (H0 : Heap) (t : Nat → Nat) (q1 : Nat) (q1_c : Nat) (st : zS_X2_become) : Prop := match st with
  | (lab, i2, i3, t_size, t_numbers) => if lab = 0 then zA_X2_become_0 p l e s m args below meth c Q D κ A H0 t q1 q1_c i2 i3 t_size t_numbers else if lab = 12 then zA_X2_become_12 p l e s m args below meth c Q D κ A H0 t q1 q1_c i2 i3 t_size t_numbers else True
set_option maxHeartbeats 4000000 in
set_option maxRecDepth 100000 in
theorem zs_X2_become_0 {p : Program} {l : Launch} {e : Env} {s : State} {m : MethodId} {args : Array Value} {below : List Frame} {meth : Method} {c : Code} {Q : State → Prop} {D : va_G} {κ : Nat → ClassId} {A : Nat → Prop} {H0 : Heap} (t : Nat → Nat) (q1 : Nat) (q1_c : Nat) (hx : p.tables.exec = Jvm.exec) (hb : c.code = cX2_become) (hml : c.maxLocals = 4) (hown : s.vm.findClass RX2 = some m.cls) (hts : ∀ w ∈ wsX2_become, w.before args s = true) (hK : va_K D vwCl (zTY κ) s) (hA : ∀ q : Nat, H0.size ≤ q → A q) (i2 : Int) (i3 : Int) (t_size : Int) (t_numbers : Nat) (hg : Go (GoE (zA_X2_become p l e s m args below meth c Q D κ A H0 t q1 q1_c) (zQ_X2_become p l e s m args below meth c Q D κ A H0 t q1 q1_c)) (zg_X2_become_0 q1_c i2 i3 t_size t_numbers)) : zA_X2_become_0 p l e s m args below meth c Q D κ A H0 t q1 q1_c i2 i3 t_size t_numbers := by
  intro H locs ls hP hD hS hl
  unfold zg_X2_become_0 at hg
  refine lv_aload_n hx hb dX2_become_0 rfl (lv_at hl 0 rfl) ?_
  refine lv_iload_n hx hb dX2_become_1 rfl (lv_at hl 2 rfl) ?_
  refine zv_bipush hx hb dX2_become_2 (by decide) ?_
  obtain ⟨b1, hg⟩ := Go_n hg
  refine va_mmin hx hb (by rw [hml]; exact hl.1.symm) hown (hts (.methodLink RX2 19 Lib.Math.min.name) (by decide +kernel)) (hts (.static Lib.Math.min.name) (by decide +kernel)) (hts (.initialized "java/lang/Math") (by decide +kernel)) (hts (.code Lib.Math.min.name Lib.Math.min.code 2 (some .int)) (by decide +kernel)) (Nat.le_of_ble_eq_true rfl) (Nat.le_of_ble_eq_true rfl) (Nat.zero_le _) (Nat.zero_le _) dX2_become_4 ?_
  rw [zi_min b1 (by decide)]
  refine va_put (D := D) (ci := 2) (v := .int (zi (zmin i2 (10 : Int)))) (ty := .int) (C := RX2) (T := TX2) (N := 2) hx hb hts zi_X2_become_X2 tyX2 tyX2_ok nmX2 hown hK hP hD hS 0 rfl rfl 1 (by decide) (hts (.fieldLink RX2 15 "DiamondRows$Endless" "size" "I") zl_X2_become_15) (fun _ h9 => h9) rfl (by decide +kernel) rfl rfl (Nat.le_of_ble_eq_true rfl) dX2_become_7 (fun H locs hP hD hS => ?_)
  have hP : va_P D vwCl ([((t 0), .inr (2, [.ref (t 1), .int (zi (zmin i2 (10 : Int)))])), ((t 1), .inl (κ 1, 10, .inl (zc t_numbers))), (q1, .inl (κ 1, 10, .inl (zc q1_c)))]) H := hP
  have hD : va_D A ([((t 0), .inr (2, [.ref (t 1), .int (zi (zmin i2 (10 : Int)))])), ((t 1), .inl (κ 1, 10, .inl (zc t_numbers))), (q1, .inl (κ 1, 10, .inl (zc q1_c)))]) := hD
  refine zv_iconst hx hb dX2_become_10 ?_
  refine lv_istore_n (lv' := [(3, .int (zi (0 : Int))), (0, .ref (t 0)), (1, .ref q1), (2, .int (zi i2))]) hx hb dX2_become_11 rfl hl (by decide) rfl (fun ls hl => ?_)
  exact (Go_s hg) H locs ls hP hD hS (lv_sub hl [1, 2, 0] rfl)
set_option maxHeartbeats 4000000 in
set_option maxRecDepth 100000 in
theorem zs_X2_become_12 {p : Program} {l : Launch} {e : Env} {s : State} {m : MethodId} {args : Array Value} {below : List Frame} {meth : Method} {c : Code} {Q : State → Prop} {D : va_G} {κ : Nat → ClassId} {A : Nat → Prop} {H0 : Heap} (t : Nat → Nat) (q1 : Nat) (q1_c : Nat) (hx : p.tables.exec = Jvm.exec) (hb : c.code = cX2_become) (hml : c.maxLocals = 4) (hown : s.vm.findClass RX2 = some m.cls) (hts : ∀ w ∈ wsX2_become, w.before args s = true) (hK : va_K D vwCl (zTY κ) s) (hA : ∀ q : Nat, H0.size ≤ q → A q) (i2 : Int) (i3 : Int) (t_size : Int) (t_numbers : Nat) (hg : Go (GoE (zA_X2_become p l e s m args below meth c Q D κ A H0 t q1 q1_c) (zQ_X2_become p l e s m args below meth c Q D κ A H0 t q1 q1_c)) (zg_X2_become_12 q1_c i2 i3 t_size t_numbers)) : zA_X2_become_12 p l e s m args below meth c Q D κ A H0 t q1 q1_c i2 i3 t_size t_numbers := by
  intro H locs ls hP hD hS hl
  unfold zg_X2_become_12 at hg
  refine lv_iload_n hx hb dX2_become_12 rfl (lv_at hl 2 rfl) ?_
  refine lv_aload_n hx hb dX2_become_13 rfl (lv_at hl 0 rfl) ?_
  refine va_get (D := D) (ci := 2) (v := .int (zi t_size)) (C := RX2) (T := TX2) (N := 2) hx hb hts zi_X2_become_X2 hown hK hP 0 rfl rfl 1 (by decide) (hts (.fieldLink RX2 15 "DiamondRows$Endless" "size" "I") zl_X2_become_15) (fun _ h9 => h9) rfl dX2_become_14 ?_
  obtain ⟨b2, hg⟩ := Go_n hg
  obtain ⟨b3, hg⟩ := Go_n hg
  refine zv_icmp_ge (tgt := 41) hx hb dX2_become_17 (by decide) b2 b3 (fun c6 => ?_) (fun c6 => ?_)
  · have hg := Go_t c6 hg
    refine lv_aload_n hx hb dX2_become_41 rfl (lv_at hl 0 rfl) ?_
    refine va_get (D := D) (ci := 2) (v := .int (zi t_size)) (C := RX2) (T := TX2) (N := 2) hx hb hts zi_X2_become_X2 hown hK hP 0 rfl rfl 1 (by decide) (hts (.fieldLink RX2 15 "DiamondRows$Endless" "size" "I") zl_X2_become_15) (fun _ h9 => h9) rfl dX2_become_42 ?_
    exact (Go_s hg) _ _ _ _ hP hD hS dX2_become_45
  · have hg := Go_f c6 hg
    refine lv_iload_n hx hb dX2_become_20 rfl (lv_at hl 2 rfl) ?_
    refine lv_aload_n hx hb dX2_become_21 rfl (lv_at hl 1 rfl) ?_
    refine va_alen (v := zi (10 : Int)) hx hb hK hP 2 1 rfl rfl rfl dX2_become_22 ?_
    refine zv_icmp_ge (tgt := 41) hx hb dX2_become_23 (by decide) b2 (by decide) (fun c5 => ?_) (fun c5 => ?_)
    · have hg := Go_t c5 hg
      refine lv_aload_n hx hb dX2_become_41 rfl (lv_at hl 0 rfl) ?_
      refine va_get (D := D) (ci := 2) (v := .int (zi t_size)) (C := RX2) (T := TX2) (N := 2) hx hb hts zi_X2_become_X2 hown hK hP 0 rfl rfl 1 (by decide) (hts (.fieldLink RX2 15 "DiamondRows$Endless" "size" "I") zl_X2_become_15) (fun _ h9 => h9) rfl dX2_become_42 ?_
      exact (Go_s hg) _ _ _ _ hP hD hS dX2_become_45
    · have hg := Go_f c5 hg
      refine lv_aload_n hx hb dX2_become_26 rfl (lv_at hl 0 rfl) ?_
      refine va_get (D := D) (ci := 2) (v := .ref (t 1)) (C := RX2) (T := TX2) (N := 2) hx hb hts zi_X2_become_X2 hown hK hP 0 rfl rfl 0 (by decide) (hts (.fieldLink RX2 11 "DiamondRows$Endless" "numbers" "[I") zl_X2_become_11) (fun _ h9 => h9) rfl dX2_become_27 ?_
      refine lv_iload_n hx hb dX2_become_30 rfl (lv_at hl 2 rfl) ?_
      refine lv_aload_n hx hb dX2_become_31 rfl (lv_at hl 1 rfl) ?_
      refine lv_iload_n hx hb dX2_become_32 rfl (lv_at hl 2 rfl) ?_
      obtain ⟨n4, hg⟩ := Go_n hg
      refine zv_iald hx hb hK hP 2 1 rfl rfl (by decide) n4 dX2_become_33 ?_
      refine zv_iast hx hb hK hP hD hS 1 1 rfl rfl (by decide) n4 dX2_become_34 (fun H locs hP hD hS => ?_)
      have hP : va_P D vwCl ([((t 0), .inr (2, [.ref (t 1), .int (zi t_size)])), ((t 1), .inl (κ 1, 10, .inl (zc (zset t_numbers (Int.toNat i3) (zget q1_c (Int.toNat i3)))))), (q1, .inl (κ 1, 10, .inl (zc q1_c)))]) H := hP
      have hD : va_D A ([((t 0), .inr (2, [.ref (t 1), .int (zi t_size)])), ((t 1), .inl (κ 1, 10, .inl (zc (zset t_numbers (Int.toNat i3) (zget q1_c (Int.toNat i3)))))), (q1, .inl (κ 1, 10, .inl (zc q1_c)))]) := hD
      refine lv_iinc (v := zi (i3 + (1 : Int))) (lv' := [(3, .int (zi (i3 + (1 : Int)))), (0, .ref (t 0)), (1, .ref q1)]) hx hb dX2_become_35 hl (k := 2) rfl (zi_add i3 _) (by decide) rfl (fun ls hl => ?_)
      refine lv_goto (tgt := 12) hx hb dX2_become_38 (by decide) ?_
      exact (Go_s hg) H locs ls hP hD hS (lv_sub hl [1, 2, 0] rfl)
set_option maxHeartbeats 4000000 in
set_option maxRecDepth 100000 in
theorem zw_X2_become {p : Program} {l : Launch} {e : Env} {s : State} {m : MethodId} {args : Array Value} {below : List Frame} {meth : Method} {c : Code} {Q : State → Prop} {D : va_G} {κ : Nat → ClassId} {A : Nat → Prop} {H0 : Heap} (t : Nat → Nat) (q1 : Nat) (q1_c : Nat) (t_size : Int) (t_numbers : Nat) (i2 : Int) (hx : p.tables.exec = Jvm.exec) (hb : c.code = cX2_become) (hml : c.maxLocals = 4) (hown : s.vm.findClass RX2 = some m.cls) (hts : ∀ w ∈ wsX2_become, w.before args s = true) (hK : va_K D vwCl (zTY κ) s) (hA : ∀ q : Nat, H0.size ≤ q → A q) (out : Int × Int × Nat) (h : zf_X2_become t_size t_numbers q1_c i2 = some out) (hq : zQ_X2_become p l e s m args below meth c Q D κ A H0 t q1 q1_c out) : zA_X2_become_0 p l e s m args below meth c Q D κ A H0 t q1 q1_c i2 0 t_size t_numbers := by
  have hst : ∀ st : zS_X2_become, Go (GoE (zA_X2_become p l e s m args below meth c Q D κ A H0 t q1 q1_c) (zQ_X2_become p l e s m args below meth c Q D κ A H0 t q1 q1_c)) (zg_X2_become q1_c st) → zA_X2_become p l e s m args below meth c Q D κ A H0 t q1 q1_c st := by
    intro st hg
    obtain ⟨lab, i2, i3, t_size, t_numbers⟩ := st
    by_cases h0 : lab = 0
    · subst h0
      exact zs_X2_become_0 t q1 q1_c hx hb hml hown hts hK hA i2 i3 t_size t_numbers hg
    by_cases h12 : lab = 12
    · subst h12
      exact zs_X2_become_12 t q1 q1_c hx hb hml hown hts hK hA i2 i3 t_size t_numbers hg
    have hz : zg_X2_become q1_c (lab, i2, i3, t_size, t_numbers) = none := by simp [zg_X2_become, h0, h12]
    rw [hz] at hg
    obtain ⟨a, h1, -⟩ := hg
    cases h1
  exact jwalk (At := zA_X2_become p l e s m args below meth c Q D κ A H0 t q1 q1_c) (Ret := zQ_X2_become p l e s m args below meth c Q D κ A H0 t q1 q1_c) hst _ _ _ h hq
set_option maxHeartbeats 4000000 in
set_option maxRecDepth 100000 in
theorem zc_X2_become (l : Launch) (D : va_G) (κ : Nat → ClassId) (t : Nat → Nat) (q1 : Nat) (sz : Nat) (t_size : Int) (t_numbers : Nat) (q1_c : Nat) (i2 : Int) (out : Int × Int × Nat) (h : zf_X2_become t_size t_numbers q1_c i2 = some out) : Met l yX2_become wsX2_become zr_X2_become (va_Pc [.ref (t 0), .ref q1, .int (zi i2)] (zW D κ ([((t 0), .inr (2, [.ref (t 1), .int (zi t_size)])), ((t 1), .inl (κ 1, 10, .inl (zc t_numbers))), (q1, .inl (κ 1, 10, .inl (zc q1_c)))]) sz)) (va_Qi (fun r (_ : Unit) => r = zi (out.1)) (fun _ => zB D κ (va_A ([((t 0), .inr (2, [.ref (t 1), .int (zi t_size)])), ((t 1), .inl (κ 1, 10, .inl (zc t_numbers))), (q1, .inl (κ 1, 10, .inl (zc q1_c)))]) sz) ([((t 0), .inr (2, [.ref (t 1), .int (zi (out.2.1))])), ((t 1), .inl (κ 1, 10, .inl (zc (out.2.2)))), (q1, .inl (κ 1, 10, .inl (zc q1_c)))])) (va_A ([((t 0), .inr (2, [.ref (t 1), .int (zi t_size)])), ((t 1), .inl (κ 1, 10, .inl (zc t_numbers))), (q1, .inl (κ 1, 10, .inl (zc q1_c)))]) sz)) 0 0 (va_A ([((t 0), .inr (2, [.ref (t 1), .int (zi t_size)])), ((t 1), .inl (κ 1, 10, .inl (zc t_numbers))), (q1, .inl (κ 1, 10, .inl (zc q1_c)))]) sz) := by
  refine Met.ofW (cc := cX2_become) (maxL := 4) (ret := (some .int)) (by decide +kernel) rfl ?_
  intro p e s m args below meth c s₁ B hml hv
  obtain ⟨rfl, hsz, hP, hK, hD0⟩ := hv
  have hx := B.exec
  have hb := B.bytes
  have hr := B.returns
  have hts := atoms_spec (ws := wsX2_become) B.pre
  have hown : s.vm.findClass RX2 = some m.cls := findClass_of_methodNamed B.named
  have hlocks := B.notSynchronized
  subst hsz
  have hD := hD0.self (sz := s.heap.size)
  generalize hAe : va_A ([((t 0), .inr (2, [.ref (t 1), .int (zi t_size)])), ((t 1), .inl (κ 1, 10, .inl (zc t_numbers))), (q1, .inl (κ 1, 10, .inl (zc q1_c)))]) s.heap.size = A at hD ⊢
  have hA : ∀ q : Nat, s.heap.size ≤ q → A q := fun q h => by rw [← hAe]; exact Or.inr h
  have hS : va_S A s.heap s.heap [] := va_S.rf
  have hl := lv_entry ([.ref (t 0), .ref q1, .int (zi i2)]) (n := 4) (Nat.le_of_ble_eq_true rfl)
  rw [lg_entry_eq]
  generalize (lg_sl ([.ref (t 0), .ref q1, .int (zi i2)]) ++ List.replicate (4 - (lg_sl ([.ref (t 0), .ref q1, .int (zi i2)])).length) Slot.unset).toArray = ls at hl ⊢
  have hl : lv_has ls 4 [(0, .ref (t 0)), (1, .ref q1), (2, .int (zi i2))] := hl
  refine (zw_X2_become t q1 q1_c t_size t_numbers i2 hx hb hml hown hts hK hA out h ?_) s.heap [] ls hP hD hS (lv_sub hl [0, 1, 2] rfl)
  exact fun H locs ls pc hP hD hS hd => W.iret hx hb hr (fun t ht hW => ⟨⟨_, (), rfl, rfl, by rw [ht]; exact hP, va_K.moved hW.alike hK, hD⟩, hS.F ht⟩) hS.2.2 hd
/-! DiamondRows$Endless.wrapped(I)I -/
abbrev zr_X2_wrapped : Room := { frames := 1, cells := 0, slots := 0, locals := 22 }
noncomputable def zf_X2_wrapped  (t_size : Int) (i1 : Int) : Option (Int) :=
  if zout t_size then none else
  if t_size ≤ 0 then
  some ((0 : Int))
  else
  Option.bind (zf_J9_floorMod_7cf53 i1 t_size) (fun o2 =>
  some (o2))
theorem zi_X2_wrapped_X2 : ∀ w ∈ u_ws RX2 TX2 2, w ∈ wsX2_wrapped := by decide +kernel
theorem zl_X2_wrapped_15 : Cond.fieldLink RX2 15 "DiamondRows$Endless" "size" "I" ∈ wsX2_wrapped := by decide +kernel
def zQ_X2_wrapped (p : Program) (l : Launch) (e : Env) (s : State) (m : MethodId) (args : Array Value) (below : List Frame) (meth : Method) (c : Code) (Q : State → Prop) (H : Heap) (locs : List Loc)  (o : Int) : Prop := ∀ (ls : Array Slot) (pc : Nat), decode cX2_wrapped pc = .ok (.ireturn, 1) → W p l e zr_X2_wrapped s m args below meth c H locs 0 0 Q (F0 m pc ls [.int (zi o)])
set_option maxHeartbeats 4000000 in
set_option maxRecDepth 100000 in
theorem zs_X2_wrapped {p : Program} {l : Launch} {e : Env} {s : State} {m : MethodId} {args : Array Value} {below : List Frame} {meth : Method} {c : Code} {Q : State → Prop} {D : va_G} {κ : Nat → ClassId} {H : Heap} {locs : List Loc} (t : Nat → Nat) (t_size : Int) (t_numbers : Nat) (i1 : Int) (hx : p.tables.exec = Jvm.exec) (hb : c.code = cX2_wrapped) (hml : c.maxLocals = 2) (hown : s.vm.findClass RX2 = some m.cls) (hts : ∀ w ∈ wsX2_wrapped, w.before args s = true) (hK : va_K D vwCl (zTY κ) s) (hP : va_P D vwCl ([((t 0), .inr (2, [.ref (t 1), .int (zi t_size)])), ((t 1), .inl (κ 1, 10, .inl (zc t_numbers)))]) H) (ls : Array Slot) (hl : lv_has ls 2 [(0, .ref (t 0)), (1, .int (zi i1))]) (hg : Go (zQ_X2_wrapped p l e s m args below meth c Q H locs) (zf_X2_wrapped t_size i1)) : W p l e zr_X2_wrapped s m args below meth c H locs 0 0 Q (F0 m 0 ls []) := by
  unfold zf_X2_wrapped at hg
  refine lv_aload_n hx hb dX2_wrapped_0 rfl (lv_at hl 0 rfl) ?_
  refine va_get (D := D) (ci := 2) (v := .int (zi t_size)) (C := RX2) (T := TX2) (N := 2) hx hb hts zi_X2_wrapped_X2 hown hK hP 0 rfl rfl 1 (by decide) (hts (.fieldLink RX2 15 "DiamondRows$Endless" "size" "I") zl_X2_wrapped_15) (fun _ h9 => h9) rfl dX2_wrapped_1 ?_
  obtain ⟨b1, hg⟩ := Go_n hg
  refine zv_if_le (tgt := 18) hx hb dX2_wrapped_4 (by decide) b1 (fun c3 => ?_) (fun c3 => ?_)
  · have hg := Go_t c3 hg
    refine zv_iconst hx hb dX2_wrapped_18 ?_
    exact (Go_s hg) _ _ dX2_wrapped_19
  · have hg := Go_f c3 hg
    refine lv_iload_n hx hb dX2_wrapped_7 rfl (lv_at hl 1 rfl) ?_
    refine lv_aload_n hx hb dX2_wrapped_8 rfl (lv_at hl 0 rfl) ?_
    refine va_get (D := D) (ci := 2) (v := .int (zi t_size)) (C := RX2) (T := TX2) (N := 2) hx hb hts zi_X2_wrapped_X2 hown hK hP 0 rfl rfl 1 (by decide) (hts (.fieldLink RX2 15 "DiamondRows$Endless" "size" "I") zl_X2_wrapped_15) (fun _ h9 => h9) rfl dX2_wrapped_9 ?_
    obtain ⟨o2, ho2, hg⟩ := Go_b hg
    refine zc_si (rest := []) ⟨hx, hb, hml, hown, hts⟩ (zc_J9_floorMod_7cf53 l D κ i1 t_size o2 ho2) (va_cwS 2 hts gX2_wrapped_J9_floorMod_7cf53 rfl rfl rfl (by decide +kernel) ⟨Nat.le_of_ble_eq_true rfl, Nat.le_of_ble_eq_true rfl⟩) (zpreS hK (hP.sub [] rfl)) rfl hl.1 rfl (Nat.le_of_ble_eq_true rfl) dX2_wrapped_12 ⟨Nat.zero_le _, Nat.zero_le _⟩ ?_
    refine lv_goto (tgt := 19) hx hb dX2_wrapped_15 (by decide) ?_
    exact (Go_s hg) _ _ dX2_wrapped_19
set_option maxHeartbeats 4000000 in
set_option maxRecDepth 100000 in
theorem zc_X2_wrapped (l : Launch) (D : va_G) (κ : Nat → ClassId) (t : Nat → Nat) (t_size : Int) (t_numbers : Nat) (i1 : Int) (out : Int) (h : zf_X2_wrapped t_size i1 = some out) : Met l yX2_wrapped wsX2_wrapped zr_X2_wrapped (va_Pc [.ref (t 0), .int (zi i1)] (zR D κ ([((t 0), .inr (2, [.ref (t 1), .int (zi t_size)])), ((t 1), .inl (κ 1, 10, .inl (zc t_numbers)))]))) (vp_Si (fun x => x = zi out)) 0 0 (fun _ => False) := by
  refine Met.ofW (cc := cX2_wrapped) (maxL := 2) (ret := (some .int)) (by decide +kernel) rfl ?_
  intro p e s m args below meth c s₁ B hml hv
  obtain ⟨rfl, hP, hK⟩ := hv
  have hx := B.exec
  have hb := B.bytes
  have hr := B.returns
  have hts := atoms_spec (ws := wsX2_wrapped) B.pre
  have hown : s.vm.findClass RX2 = some m.cls := findClass_of_methodNamed B.named
  have hlocks := B.notSynchronized
  have hl := lv_entry ([.ref (t 0), .int (zi i1)]) (n := 2) (Nat.le_of_ble_eq_true rfl)
  rw [lg_entry_eq]
  generalize (lg_sl ([.ref (t 0), .int (zi i1)]) ++ List.replicate (2 - (lg_sl ([.ref (t 0), .int (zi i1)])).length) Slot.unset).toArray = ls at hl ⊢
  have hl : lv_has ls 2 [(0, .ref (t 0)), (1, .int (zi i1))] := hl
  refine zs_X2_wrapped t t_size t_numbers i1 hx hb hml hown hts hK hP ls hl ⟨out, h, ?_⟩
  exact fun ls pc hd => W.iret hx hb hr (fun t ht hW => ⟨_, rfl, rfl, ht⟩) (fun _ h => by cases h) hd
/-! DiamondRows$Endless.at(I)I -/
abbrev zr_X2_at : Room := { frames := 2, cells := 0, slots := 0, locals := 43 }
noncomputable def zf_X2_at  (t_size : Int) (t_numbers : Nat) (i1 : Int) : Option (Int) :=
  Option.bind (zf_X2_wrapped t_size i1) (fun o1 =>
  if o1 < 0 ∨ 10 ≤ o1 then none else
  some ((zget t_numbers (Int.toNat o1))))
theorem zi_X2_at_X2 : ∀ w ∈ u_ws RX2 TX2 2, w ∈ wsX2_at := by decide +kernel
theorem zl_X2_at_11 : Cond.fieldLink RX2 11 "DiamondRows$Endless" "numbers" "[I" ∈ wsX2_at := by decide +kernel
def zQ_X2_at (p : Program) (l : Launch) (e : Env) (s : State) (m : MethodId) (args : Array Value) (below : List Frame) (meth : Method) (c : Code) (Q : State → Prop) (H : Heap) (locs : List Loc)  (o : Int) : Prop := ∀ (ls : Array Slot) (pc : Nat), decode cX2_at pc = .ok (.ireturn, 1) → W p l e zr_X2_at s m args below meth c H locs 0 0 Q (F0 m pc ls [.int (zi o)])
set_option maxHeartbeats 4000000 in
set_option maxRecDepth 100000 in
theorem zs_X2_at {p : Program} {l : Launch} {e : Env} {s : State} {m : MethodId} {args : Array Value} {below : List Frame} {meth : Method} {c : Code} {Q : State → Prop} {D : va_G} {κ : Nat → ClassId} {H : Heap} {locs : List Loc} (t : Nat → Nat) (t_size : Int) (t_numbers : Nat) (i1 : Int) (hx : p.tables.exec = Jvm.exec) (hb : c.code = cX2_at) (hml : c.maxLocals = 2) (hown : s.vm.findClass RX2 = some m.cls) (hts : ∀ w ∈ wsX2_at, w.before args s = true) (hK : va_K D vwCl (zTY κ) s) (hP : va_P D vwCl ([((t 0), .inr (2, [.ref (t 1), .int (zi t_size)])), ((t 1), .inl (κ 1, 10, .inl (zc t_numbers)))]) H) (ls : Array Slot) (hl : lv_has ls 2 [(0, .ref (t 0)), (1, .int (zi i1))]) (hg : Go (zQ_X2_at p l e s m args below meth c Q H locs) (zf_X2_at t_size t_numbers i1)) : W p l e zr_X2_at s m args below meth c H locs 0 0 Q (F0 m 0 ls []) := by
  unfold zf_X2_at at hg
  refine lv_aload_n hx hb dX2_at_0 rfl (lv_at hl 0 rfl) ?_
  refine va_get (D := D) (ci := 2) (v := .ref (t 1)) (C := RX2) (T := TX2) (N := 2) hx hb hts zi_X2_at_X2 hown hK hP 0 rfl rfl 0 (by decide) (hts (.fieldLink RX2 11 "DiamondRows$Endless" "numbers" "[I") zl_X2_at_11) (fun _ h9 => h9) rfl dX2_at_1 ?_
  refine lv_aload_n hx hb dX2_at_4 rfl (lv_at hl 0 rfl) ?_
  refine lv_iload_n hx hb dX2_at_5 rfl (lv_at hl 1 rfl) ?_
  obtain ⟨o1, ho1, hg⟩ := Go_b hg
  refine zc_vi (rest := [.ref (t 1)]) ⟨hx, hb, hml, hown, hts⟩ (zc_X2_wrapped l D κ t t_size t_numbers i1 o1 ho1) (cwV 1 hts gX2_at_X2_wrapped rfl rfl rfl (by decide +kernel) ⟨Nat.le_of_ble_eq_true rfl, Nat.le_of_ble_eq_true rfl⟩) (zpreV hK (hP.sub [0, 1] rfl) 2 0 rfl rfl) rfl hl.1 rfl (Nat.le_of_ble_eq_true rfl) dX2_at_6 ⟨Nat.zero_le _, Nat.zero_le _⟩ ?_
  obtain ⟨n2, hg⟩ := Go_n hg
  refine zv_iald hx hb hK hP 1 1 rfl rfl (by decide) n2 dX2_at_9 ?_
  exact (Go_s hg) _ _ dX2_at_10
set_option maxHeartbeats 4000000 in
set_option maxRecDepth 100000 in
theorem zc_X2_at (l : Launch) (D : va_G) (κ : Nat → ClassId) (t : Nat → Nat) (t_size : Int) (t_numbers : Nat) (i1 : Int) (out : Int) (h : zf_X2_at t_size t_numbers i1 = some out) : Met l yX2_at wsX2_at zr_X2_at (va_Pc [.ref (t 0), .int (zi i1)] (zR D κ ([((t 0), .inr (2, [.ref (t 1), .int (zi t_size)])), ((t 1), .inl (κ 1, 10, .inl (zc t_numbers)))]))) (vp_Si (fun x => x = zi out)) 0 0 (fun _ => False) := by
  refine Met.ofW (cc := cX2_at) (maxL := 2) (ret := (some .int)) (by decide +kernel) rfl ?_
  intro p e s m args below meth c s₁ B hml hv
  obtain ⟨rfl, hP, hK⟩ := hv
  have hx := B.exec
  have hb := B.bytes
  have hr := B.returns
  have hts := atoms_spec (ws := wsX2_at) B.pre
  have hown : s.vm.findClass RX2 = some m.cls := findClass_of_methodNamed B.named
  have hlocks := B.notSynchronized
  have hl := lv_entry ([.ref (t 0), .int (zi i1)]) (n := 2) (Nat.le_of_ble_eq_true rfl)
  rw [lg_entry_eq]
  generalize (lg_sl ([.ref (t 0), .int (zi i1)]) ++ List.replicate (2 - (lg_sl ([.ref (t 0), .int (zi i1)])).length) Slot.unset).toArray = ls at hl ⊢
  have hl : lv_has ls 2 [(0, .ref (t 0)), (1, .int (zi i1))] := hl
  refine zs_X2_at t t_size t_numbers i1 hx hb hml hown hts hK hP ls hl ⟨out, h, ?_⟩
  exact fun ls pc hd => W.iret hx hb hr (fun t ht hW => ⟨_, rfl, rfl, ht⟩) (fun _ h => by cases h) hd
/-! DiamondRows$Endless.entryAt(II)J -/
abbrev zr_X2_entryAt : Room := { frames := 3, cells := 0, slots := 0, locals := 64 }
abbrev zS_X2_entryAt : Type := Nat × Int × Int × Int × Int × Int
abbrev zO_X2_entryAt : Type := Int
noncomputable def zg_X2_entryAt_0  (t_size : Int) (t_numbers : Nat) (i1 : Int) (i2 : Int) (i3 : Int) (i5 : Int) (i7 : Int) : Option (zO_X2_entryAt ⊕ zS_X2_entryAt) :=
  if zout i2 then none else
  if 0 < i2 then
  some (.inr (14, i1, i2, (0 : Int), (1 : Int), (1 : Int)))
  else
  some (.inl ((0 : Int)))
noncomputable def zg_X2_entryAt_14  (t_size : Int) (t_numbers : Nat) (i1 : Int) (i2 : Int) (i3 : Int) (i5 : Int) (i7 : Int) : Option (zO_X2_entryAt ⊕ zS_X2_entryAt) :=
  if zout i7 then none else
  if zout i2 then none else
  if i2 ≤ i7 then
  some (.inl (i5))
  else
  if (12 : Int) ≤ i7 then
  some (.inl (i5))
  else
  Option.bind (zf_X2_at t_size t_numbers (i1 + i7)) (fun o5 =>
  if zout o5 then none else
  some (.inr (14, i1, i2, i5, ((o5 * i5) - i3), (i7 + (1 : Int)))))
noncomputable def zg_X2_entryAt  (t_size : Int) (t_numbers : Nat) (st : zS_X2_entryAt) : Option (zO_X2_entryAt ⊕ zS_X2_entryAt) := match st with
  | (lab, i1, i2, i3, i5, i7) => if lab = 0 then zg_X2_entryAt_0 t_size t_numbers i1 i2 i3 i5 i7 else if lab = 14 then zg_X2_entryAt_14 t_size t_numbers i1 i2 i3 i5 i7 else none
noncomputable def zf_X2_entryAt  (t_size : Int) (t_numbers : Nat) (i1 : Int) (i2 : Int) : Option (Int) := jrun (zg_X2_entryAt t_size t_numbers) jfuel (0, i1, i2, 0, 0, 0)
def zQ_X2_entryAt (p : Program) (l : Launch) (e : Env) (s : State) (m : MethodId) (args : Array Value) (below : List Frame) (meth : Method) (c : Code) (Q : State → Prop) (H : Heap) (locs : List Loc)  (o : Int) : Prop := ∀ (ls : Array Slot) (pc : Nat), decode cX2_entryAt pc = .ok (.lreturn, 1) → W p l e zr_X2_entryAt s m args below meth c H locs 0 0 Q (F0 m pc ls [.long (zl o)])
def zA_X2_entryAt_0 (p : Program) (l : Launch) (e : Env) (s : State) (m : MethodId) (args : Array Value) (below : List Frame) (meth : Method) (c : Code) (Q : State → Prop) (H : Heap) (locs : List Loc) (t : Nat → Nat)  (i1 : Int) (i2 : Int) (i3 : Int) (i5 : Int) (i7 : Int) : Prop := ∀ ls : Array Slot, lv_has ls 10 [(0, .ref (t 0)), (1, .int (zi i1)), (2, .int (zi i2))] → W p l e zr_X2_entryAt s m args below meth c H locs 0 0 Q (F0 m 0 ls [])
def zA_X2_entryAt_14 (p : Program) (l : Launch) (e : Env) (s : State) (m : MethodId) (args : Array Value) (below : List Frame) (meth : Method) (c : Code) (Q : State → Prop) (H : Heap) (locs : List Loc) (t : Nat → Nat)  (i1 : Int) (i2 : Int) (i3 : Int) (i5 : Int) (i7 : Int) : Prop := ∀ ls : Array Slot, lv_has ls 10 [(0, .ref (t 0)), (1, .int (zi i1)), (2, .int (zi i2)), (3, .long (zl i3)), (5, .long (zl i5)), (7, .int (zi i7))] → W p l e zr_X2_entryAt s m args below meth c H locs 0 0 Q (F0 m 14 ls [])
def zA_X2_entryAt (p : Program) (l : Launch) (e : Env) (s : State) (m : MethodId) (args : Array Value) (below : List Frame) (meth : Method) (c : Code) (Q : State → Prop) (H : Heap) (locs : List Loc) (t : Nat → Nat)  (st : zS_X2_entryAt) : Prop := match st with
  | (lab, i1, i2, i3, i5, i7) => if lab = 0 then zA_X2_entryAt_0 p l e s m args below meth c Q H locs t  i1 i2 i3 i5 i7 else if lab = 14 then zA_X2_entryAt_14 p l e s m args below meth c Q H locs t  i1 i2 i3 i5 i7 else True
set_option maxHeartbeats 4000000 in
set_option maxRecDepth 100000 in
theorem zs_X2_entryAt_0 {p : Program} {l : Launch} {e : Env} {s : State} {m : MethodId} {args : Array Value} {below : List Frame} {meth : Method} {c : Code} {Q : State → Prop} {D : va_G} {κ : Nat → ClassId} {H : Heap} {locs : List Loc} (t : Nat → Nat) (t_size : Int) (t_numbers : Nat)  (hx : p.tables.exec = Jvm.exec) (hb : c.code = cX2_entryAt) (hml : c.maxLocals = 10) (hown : s.vm.findClass RX2 = some m.cls) (hts : ∀ w ∈ wsX2_entryAt, w.before args s = true) (hK : va_K D vwCl (zTY κ) s) (hP : va_P D vwCl ([((t 0), .inr (2, [.ref (t 1), .int (zi t_size)])), ((t 1), .inl (κ 1, 10, .inl (zc t_numbers)))]) H) (i1 : Int) (i2 : Int) (i3 : Int) (i5 : Int) (i7 : Int) (hg : Go (GoE (zA_X2_entryAt p l e s m args below meth c Q H locs t ) (zQ_X2_entryAt p l e s m args below meth c Q H locs)) (zg_X2_entryAt_0 t_size t_numbers i1 i2 i3 i5 i7)) : zA_X2_entryAt_0 p l e s m args below meth c Q H locs t  i1 i2 i3 i5 i7 := by
  intro ls hl
  unfold zg_X2_entryAt_0 at hg
  refine lv_iload_n hx hb dX2_entryAt_0 rfl (lv_at hl 2 rfl) ?_
  obtain ⟨b1, hg⟩ := Go_n hg
  refine zv_if_gt (tgt := 6) hx hb dX2_entryAt_1 (by decide) b1 (fun c2 => ?_) (fun c2 => ?_)
  · have hg := Go_t c2 hg
    refine lv_lconst (v := zl (0 : Int)) hx hb dX2_entryAt_6 (by decide) ?_
    refine lv_lstore_n (lv' := [(3, .long (zl (0 : Int))), (0, .ref (t 0)), (1, .int (zi i1)), (2, .int (zi i2))]) hx hb dX2_entryAt_7 rfl hl (by decide) rfl (fun ls hl => ?_)
    refine lv_lconst (v := zl (1 : Int)) hx hb dX2_entryAt_8 (by decide) ?_
    refine lv_lstore (lv' := [(5, .long (zl (1 : Int))), (3, .long (zl (0 : Int))), (0, .ref (t 0)), (1, .int (zi i1)), (2, .int (zi i2))]) hx hb dX2_entryAt_9 hl (by decide) rfl (fun ls hl => ?_)
    refine zv_iconst hx hb dX2_entryAt_11 ?_
    refine lv_istore (lv' := [(7, .int (zi (1 : Int))), (5, .long (zl (1 : Int))), (3, .long (zl (0 : Int))), (0, .ref (t 0)), (1, .int (zi i1)), (2, .int (zi i2))]) hx hb dX2_entryAt_12 hl (by decide) rfl (fun ls hl => ?_)
    exact (Go_s hg) ls (lv_sub hl [3, 4, 5, 2, 1, 0] rfl)
  · have hg := Go_f c2 hg
    refine lv_lconst (v := zl (0 : Int)) hx hb dX2_entryAt_4 (by decide) ?_
    exact (Go_s hg) _ _ dX2_entryAt_5
set_option maxHeartbeats 4000000 in
set_option maxRecDepth 100000 in
theorem zs_X2_entryAt_14 {p : Program} {l : Launch} {e : Env} {s : State} {m : MethodId} {args : Array Value} {below : List Frame} {meth : Method} {c : Code} {Q : State → Prop} {D : va_G} {κ : Nat → ClassId} {H : Heap} {locs : List Loc} (t : Nat → Nat) (t_size : Int) (t_numbers : Nat)  (hx : p.tables.exec = Jvm.exec) (hb : c.code = cX2_entryAt) (hml : c.maxLocals = 10) (hown : s.vm.findClass RX2 = some m.cls) (hts : ∀ w ∈ wsX2_entryAt, w.before args s = true) (hK : va_K D vwCl (zTY κ) s) (hP : va_P D vwCl ([((t 0), .inr (2, [.ref (t 1), .int (zi t_size)])), ((t 1), .inl (κ 1, 10, .inl (zc t_numbers)))]) H) (i1 : Int) (i2 : Int) (i3 : Int) (i5 : Int) (i7 : Int) (hg : Go (GoE (zA_X2_entryAt p l e s m args below meth c Q H locs t ) (zQ_X2_entryAt p l e s m args below meth c Q H locs)) (zg_X2_entryAt_14 t_size t_numbers i1 i2 i3 i5 i7)) : zA_X2_entryAt_14 p l e s m args below meth c Q H locs t  i1 i2 i3 i5 i7 := by
  intro ls hl
  unfold zg_X2_entryAt_14 at hg
  refine lv_iload hx hb dX2_entryAt_14 (lv_at hl 5 rfl) ?_
  refine lv_iload_n hx hb dX2_entryAt_16 rfl (lv_at hl 2 rfl) ?_
  obtain ⟨b3, hg⟩ := Go_n hg
  obtain ⟨b4, hg⟩ := Go_n hg
  refine zv_icmp_ge (tgt := 56) hx hb dX2_entryAt_17 (by decide) b3 b4 (fun c8 => ?_) (fun c8 => ?_)
  · have hg := Go_t c8 hg
    refine lv_lload hx hb dX2_entryAt_56 (lv_at hl 4 rfl) ?_
    exact (Go_s hg) _ _ dX2_entryAt_58
  · have hg := Go_f c8 hg
    refine lv_iload hx hb dX2_entryAt_20 (lv_at hl 5 rfl) ?_
    refine zv_bipush hx hb dX2_entryAt_22 (by decide) ?_
    refine zv_icmp_ge (tgt := 56) hx hb dX2_entryAt_24 (by decide) b3 (by decide) (fun c7 => ?_) (fun c7 => ?_)
    · have hg := Go_t c7 hg
      refine lv_lload hx hb dX2_entryAt_56 (lv_at hl 4 rfl) ?_
      exact (Go_s hg) _ _ dX2_entryAt_58
    · have hg := Go_f c7 hg
      refine lv_aload_n hx hb dX2_entryAt_27 rfl (lv_at hl 0 rfl) ?_
      refine lv_iload_n hx hb dX2_entryAt_28 rfl (lv_at hl 1 rfl) ?_
      refine lv_iload hx hb dX2_entryAt_29 (lv_at hl 5 rfl) ?_
      refine zv_iadd hx hb dX2_entryAt_31 ?_
      obtain ⟨o5, ho5, hg⟩ := Go_b hg
      refine zc_vi (rest := []) ⟨hx, hb, hml, hown, hts⟩ (zc_X2_at l D κ t t_size t_numbers (i1 + i7) o5 ho5) (cwV 1 hts gX2_entryAt_X2_at rfl rfl rfl (by decide +kernel) ⟨Nat.le_of_ble_eq_true rfl, Nat.le_of_ble_eq_true rfl⟩) (zpreV hK (hP.sub [0, 1] rfl) 2 0 rfl rfl) rfl hl.1 rfl (Nat.le_of_ble_eq_true rfl) dX2_entryAt_32 ⟨Nat.zero_le _, Nat.zero_le _⟩ ?_
      obtain ⟨b6, hg⟩ := Go_n hg
      refine zv_i2l hx hb b6 dX2_entryAt_35 ?_
      refine lv_lload hx hb dX2_entryAt_36 (lv_at hl 4 rfl) ?_
      refine zv_lmul hx hb dX2_entryAt_38 ?_
      refine lv_lload_n hx hb dX2_entryAt_39 rfl (lv_at hl 3 rfl) ?_
      refine zv_lsub hx hb dX2_entryAt_40 ?_
      refine lv_lstore (lv' := [(8, .long (zl ((o5 * i5) - i3))), (0, .ref (t 0)), (1, .int (zi i1)), (2, .int (zi i2)), (3, .long (zl i3)), (5, .long (zl i5)), (7, .int (zi i7))]) hx hb dX2_entryAt_41 hl (by decide) rfl (fun ls hl => ?_)
      refine lv_lload hx hb dX2_entryAt_43 (lv_at hl 5 rfl) ?_
      refine lv_lstore_n (lv' := [(3, .long (zl i5)), (8, .long (zl ((o5 * i5) - i3))), (0, .ref (t 0)), (1, .int (zi i1)), (2, .int (zi i2)), (5, .long (zl i5)), (7, .int (zi i7))]) hx hb dX2_entryAt_45 rfl hl (by decide) rfl (fun ls hl => ?_)
      refine lv_lload hx hb dX2_entryAt_46 (lv_at hl 1 rfl) ?_
      refine lv_lstore (lv' := [(5, .long (zl ((o5 * i5) - i3))), (3, .long (zl i5)), (8, .long (zl ((o5 * i5) - i3))), (0, .ref (t 0)), (1, .int (zi i1)), (2, .int (zi i2)), (7, .int (zi i7))]) hx hb dX2_entryAt_48 hl (by decide) rfl (fun ls hl => ?_)
      refine lv_iinc (v := zi (i7 + (1 : Int))) (lv' := [(7, .int (zi (i7 + (1 : Int)))), (5, .long (zl ((o5 * i5) - i3))), (3, .long (zl i5)), (8, .long (zl ((o5 * i5) - i3))), (0, .ref (t 0)), (1, .int (zi i1)), (2, .int (zi i2))]) hx hb dX2_entryAt_50 hl (k := 6) rfl (zi_add i7 _) (by decide) rfl (fun ls hl => ?_)
      refine lv_goto (tgt := 14) hx hb dX2_entryAt_53 (by decide) ?_
      exact (Go_s hg) ls (lv_sub hl [4, 5, 6, 2, 1, 0] rfl)
set_option maxHeartbeats 4000000 in
set_option maxRecDepth 100000 in
theorem zw_X2_entryAt {p : Program} {l : Launch} {e : Env} {s : State} {m : MethodId} {args : Array Value} {below : List Frame} {meth : Method} {c : Code} {Q : State → Prop} {D : va_G} {κ : Nat → ClassId} {H : Heap} {locs : List Loc} (t : Nat → Nat) (t_size : Int) (t_numbers : Nat)  (i1 : Int) (i2 : Int) (hx : p.tables.exec = Jvm.exec) (hb : c.code = cX2_entryAt) (hml : c.maxLocals = 10) (hown : s.vm.findClass RX2 = some m.cls) (hts : ∀ w ∈ wsX2_entryAt, w.before args s = true) (hK : va_K D vwCl (zTY κ) s) (hP : va_P D vwCl ([((t 0), .inr (2, [.ref (t 1), .int (zi t_size)])), ((t 1), .inl (κ 1, 10, .inl (zc t_numbers)))]) H) (out : Int) (h : zf_X2_entryAt t_size t_numbers i1 i2 = some out) (hq : zQ_X2_entryAt p l e s m args below meth c Q H locs out) : zA_X2_entryAt_0 p l e s m args below meth c Q H locs t  i1 i2 0 0 0 := by
  have hst : ∀ st : zS_X2_entryAt, Go (GoE (zA_X2_entryAt p l e s m args below meth c Q H locs t ) (zQ_X2_entryAt p l e s m args below meth c Q H locs)) (zg_X2_entryAt t_size t_numbers st) → zA_X2_entryAt p l e s m args below meth c Q H locs t  st := by
    intro st hg
    obtain ⟨lab, i1, i2, i3, i5, i7⟩ := st
    by_cases h0 : lab = 0
    · subst h0
      exact zs_X2_entryAt_0 t t_size t_numbers  hx hb hml hown hts hK hP i1 i2 i3 i5 i7 hg
    by_cases h14 : lab = 14
    · subst h14
      exact zs_X2_entryAt_14 t t_size t_numbers  hx hb hml hown hts hK hP i1 i2 i3 i5 i7 hg
    have hz : zg_X2_entryAt t_size t_numbers (lab, i1, i2, i3, i5, i7) = none := by simp [zg_X2_entryAt, h0, h14]
    rw [hz] at hg
    obtain ⟨a, h1, -⟩ := hg
    cases h1
  exact jwalk (At := zA_X2_entryAt p l e s m args below meth c Q H locs t ) (Ret := zQ_X2_entryAt p l e s m args below meth c Q H locs) hst _ _ _ h hq
set_option maxHeartbeats 4000000 in
set_option maxRecDepth 100000 in
theorem zc_X2_entryAt (l : Launch) (D : va_G) (κ : Nat → ClassId) (t : Nat → Nat) (t_size : Int) (t_numbers : Nat) (i1 : Int) (i2 : Int) (out : Int) (h : zf_X2_entryAt t_size t_numbers i1 i2 = some out) : Met l yX2_entryAt wsX2_entryAt zr_X2_entryAt (va_Pc [.ref (t 0), .int (zi i1), .int (zi i2)] (zR D κ ([((t 0), .inr (2, [.ref (t 1), .int (zi t_size)])), ((t 1), .inl (κ 1, 10, .inl (zc t_numbers)))]))) (vp_Sl (fun x => x = zl out)) 0 0 (fun _ => False) := by
  refine Met.ofW (cc := cX2_entryAt) (maxL := 10) (ret := (some .long)) (by decide +kernel) rfl ?_
  intro p e s m args below meth c s₁ B hml hv
  obtain ⟨rfl, hP, hK⟩ := hv
  have hx := B.exec
  have hb := B.bytes
  have hr := B.returns
  have hts := atoms_spec (ws := wsX2_entryAt) B.pre
  have hown : s.vm.findClass RX2 = some m.cls := findClass_of_methodNamed B.named
  have hlocks := B.notSynchronized
  have hl := lv_entry ([.ref (t 0), .int (zi i1), .int (zi i2)]) (n := 10) (Nat.le_of_ble_eq_true rfl)
  rw [lg_entry_eq]
  generalize (lg_sl ([.ref (t 0), .int (zi i1), .int (zi i2)]) ++ List.replicate (10 - (lg_sl ([.ref (t 0), .int (zi i1), .int (zi i2)])).length) Slot.unset).toArray = ls at hl ⊢
  have hl : lv_has ls 10 [(0, .ref (t 0)), (1, .int (zi i1)), (2, .int (zi i2))] := hl
  refine (zw_X2_entryAt t t_size t_numbers  i1 i2 hx hb hml hown hts hK hP out h ?_) ls (lv_sub hl [0, 1, 2] rfl)
  exact fun ls pc hd => W.lret hx hb hr (fun t ht hW => ⟨_, rfl, rfl, ht⟩) (fun _ h => by cases h) hd
/-! DiamondRows$Endless.breakPlace(I)I -/
abbrev zr_X2_breakPlace : Room := { frames := 4, cells := 0, slots := 0, locals := 93 }
abbrev zS_X2_breakPlace : Type := Nat × Int × Int
abbrev zO_X2_breakPlace : Type := Int
noncomputable def zg_X2_breakPlace_0  (t_size : Int) (t_numbers : Nat) (i1 : Int) (i2 : Int) : Option (zO_X2_breakPlace ⊕ zS_X2_breakPlace) :=
  some (.inr (2, i1, (0 : Int)))
noncomputable def zg_X2_breakPlace_2  (t_size : Int) (t_numbers : Nat) (i1 : Int) (i2 : Int) : Option (zO_X2_breakPlace ⊕ zS_X2_breakPlace) :=
  if zout i2 then none else
  if zout t_size then none else
  if t_size ≤ i2 then
  some (.inl ((-1 : Int)))
  else
  Option.bind (zf_X2_entryAt t_size t_numbers i2 i1) (fun o3 =>
  if zoutL o3 then none else
  if (0 : Int) < o3 then
  some (.inr (2, i1, (i2 + (1 : Int))))
  else
  some (.inl (i2)))
noncomputable def zg_X2_breakPlace  (t_size : Int) (t_numbers : Nat) (st : zS_X2_breakPlace) : Option (zO_X2_breakPlace ⊕ zS_X2_breakPlace) := match st with
  | (lab, i1, i2) => if lab = 0 then zg_X2_breakPlace_0 t_size t_numbers i1 i2 else if lab = 2 then zg_X2_breakPlace_2 t_size t_numbers i1 i2 else none
noncomputable def zf_X2_breakPlace  (t_size : Int) (t_numbers : Nat) (i1 : Int) : Option (Int) := jrun (zg_X2_breakPlace t_size t_numbers) jfuel (0, i1, 0)
theorem zi_X2_breakPlace_X2 : ∀ w ∈ u_ws RX2 TX2 2, w ∈ wsX2_breakPlace := by decide +kernel
theorem zl_X2_breakPlace_15 : Cond.fieldLink RX2 15 "DiamondRows$Endless" "size" "I" ∈ wsX2_breakPlace := by decide +kernel
def zQ_X2_breakPlace (p : Program) (l : Launch) (e : Env) (s : State) (m : MethodId) (args : Array Value) (below : List Frame) (meth : Method) (c : Code) (Q : State → Prop) (H : Heap) (locs : List Loc)  (o : Int) : Prop := ∀ (ls : Array Slot) (pc : Nat), decode cX2_breakPlace pc = .ok (.ireturn, 1) → W p l e zr_X2_breakPlace s m args below meth c H locs 0 0 Q (F0 m pc ls [.int (zi o)])
def zA_X2_breakPlace_0 (p : Program) (l : Launch) (e : Env) (s : State) (m : MethodId) (args : Array Value) (below : List Frame) (meth : Method) (c : Code) (Q : State → Prop) (H : Heap) (locs : List Loc) (t : Nat → Nat)  (i1 : Int) (i2 : Int) : Prop := ∀ ls : Array Slot, lv_has ls 3 [(0, .ref (t 0)), (1, .int (zi i1))] → W p l e zr_X2_breakPlace s m args below meth c H locs 0 0 Q (F0 m 0 ls [])
def zA_X2_breakPlace_2 (p : Program) (l : Launch) (e : Env) (s : State) (m : MethodId) (args : Array Value) (below : List Frame) (meth : Method) (c : Code) (Q : State → Prop) (H : Heap) (locs : List Loc) (t : Nat → Nat)  (i1 : Int) (i2 : Int) : Prop := ∀ ls : Array Slot, lv_has ls 3 [(0, .ref (t 0)), (1, .int (zi i1)), (2, .int (zi i2))] → W p l e zr_X2_breakPlace s m args below meth c H locs 0 0 Q (F0 m 2 ls [])
def zA_X2_breakPlace (p : Program) (l : Launch) (e : Env) (s : State) (m : MethodId) (args : Array Value) (below : List Frame) (meth : Method) (c : Code) (Q : State → Prop) (H : Heap) (locs : List Loc) (t : Nat → Nat)  (st : zS_X2_breakPlace) : Prop := match st with
  | (lab, i1, i2) => if lab = 0 then zA_X2_breakPlace_0 p l e s m args below meth c Q H locs t  i1 i2 else if lab = 2 then zA_X2_breakPlace_2 p l e s m args below meth c Q H locs t  i1 i2 else True
set_option maxHeartbeats 4000000 in
set_option maxRecDepth 100000 in
theorem zs_X2_breakPlace_0 {p : Program} {l : Launch} {e : Env} {s : State} {m : MethodId} {args : Array Value} {below : List Frame} {meth : Method} {c : Code} {Q : State → Prop} {D : va_G} {κ : Nat → ClassId} {H : Heap} {locs : List Loc} (t : Nat → Nat) (t_size : Int) (t_numbers : Nat)  (hx : p.tables.exec = Jvm.exec) (hb : c.code = cX2_breakPlace) (hml : c.maxLocals = 3) (hown : s.vm.findClass RX2 = some m.cls) (hts : ∀ w ∈ wsX2_breakPlace, w.before args s = true) (hK : va_K D vwCl (zTY κ) s) (hP : va_P D vwCl ([((t 0), .inr (2, [.ref (t 1), .int (zi t_size)])), ((t 1), .inl (κ 1, 10, .inl (zc t_numbers)))]) H) (i1 : Int) (i2 : Int) (hg : Go (GoE (zA_X2_breakPlace p l e s m args below meth c Q H locs t ) (zQ_X2_breakPlace p l e s m args below meth c Q H locs)) (zg_X2_breakPlace_0 t_size t_numbers i1 i2)) : zA_X2_breakPlace_0 p l e s m args below meth c Q H locs t  i1 i2 := by
  intro ls hl
  unfold zg_X2_breakPlace_0 at hg
  refine zv_iconst hx hb dX2_breakPlace_0 ?_
  refine lv_istore_n (lv' := [(2, .int (zi (0 : Int))), (0, .ref (t 0)), (1, .int (zi i1))]) hx hb dX2_breakPlace_1 rfl hl (by decide) rfl (fun ls hl => ?_)
  exact (Go_s hg) ls (lv_sub hl [1, 2, 0] rfl)
set_option maxHeartbeats 4000000 in
set_option maxRecDepth 100000 in
theorem zs_X2_breakPlace_2 {p : Program} {l : Launch} {e : Env} {s : State} {m : MethodId} {args : Array Value} {below : List Frame} {meth : Method} {c : Code} {Q : State → Prop} {D : va_G} {κ : Nat → ClassId} {H : Heap} {locs : List Loc} (t : Nat → Nat) (t_size : Int) (t_numbers : Nat)  (hx : p.tables.exec = Jvm.exec) (hb : c.code = cX2_breakPlace) (hml : c.maxLocals = 3) (hown : s.vm.findClass RX2 = some m.cls) (hts : ∀ w ∈ wsX2_breakPlace, w.before args s = true) (hK : va_K D vwCl (zTY κ) s) (hP : va_P D vwCl ([((t 0), .inr (2, [.ref (t 1), .int (zi t_size)])), ((t 1), .inl (κ 1, 10, .inl (zc t_numbers)))]) H) (i1 : Int) (i2 : Int) (hg : Go (GoE (zA_X2_breakPlace p l e s m args below meth c Q H locs t ) (zQ_X2_breakPlace p l e s m args below meth c Q H locs)) (zg_X2_breakPlace_2 t_size t_numbers i1 i2)) : zA_X2_breakPlace_2 p l e s m args below meth c Q H locs t  i1 i2 := by
  intro ls hl
  unfold zg_X2_breakPlace_2 at hg
  refine lv_iload_n hx hb dX2_breakPlace_2 rfl (lv_at hl 2 rfl) ?_
  refine lv_aload_n hx hb dX2_breakPlace_3 rfl (lv_at hl 0 rfl) ?_
  refine va_get (D := D) (ci := 2) (v := .int (zi t_size)) (C := RX2) (T := TX2) (N := 2) hx hb hts zi_X2_breakPlace_X2 hown hK hP 0 rfl rfl 1 (by decide) (hts (.fieldLink RX2 15 "DiamondRows$Endless" "size" "I") zl_X2_breakPlace_15) (fun _ h9 => h9) rfl dX2_breakPlace_4 ?_
  obtain ⟨b1, hg⟩ := Go_n hg
  obtain ⟨b2, hg⟩ := Go_n hg
  refine zv_icmp_ge (tgt := 29) hx hb dX2_breakPlace_7 (by decide) b1 b2 (fun c6 => ?_) (fun c6 => ?_)
  · have hg := Go_t c6 hg
    refine zv_iconst hx hb dX2_breakPlace_29 ?_
    exact (Go_s hg) _ _ dX2_breakPlace_30
  · have hg := Go_f c6 hg
    refine lv_aload_n hx hb dX2_breakPlace_10 rfl (lv_at hl 0 rfl) ?_
    refine lv_iload_n hx hb dX2_breakPlace_11 rfl (lv_at hl 2 rfl) ?_
    refine lv_iload_n hx hb dX2_breakPlace_12 rfl (lv_at hl 1 rfl) ?_
    obtain ⟨o3, ho3, hg⟩ := Go_b hg
    refine zc_vl (rest := []) ⟨hx, hb, hml, hown, hts⟩ (zc_X2_entryAt l D κ t t_size t_numbers i2 i1 o3 ho3) (cwV 2 hts gX2_breakPlace_X2_entryAt rfl rfl rfl (by decide +kernel) ⟨Nat.le_of_ble_eq_true rfl, Nat.le_of_ble_eq_true rfl⟩) (zpreV hK (hP.sub [0, 1] rfl) 2 0 rfl rfl) rfl hl.1 rfl (Nat.le_of_ble_eq_true rfl) dX2_breakPlace_13 ⟨Nat.zero_le _, Nat.zero_le _⟩ ?_
    refine lv_lconst (v := zl (0 : Int)) hx hb dX2_breakPlace_16 (by decide) ?_
    obtain ⟨b4, hg⟩ := Go_n hg
    refine zv_lif_gt (tgt := 23) hx hb dX2_breakPlace_17 dX2_breakPlace_18 (by decide) b4 (by decide) (fun c5 => ?_) (fun c5 => ?_)
    · have hg := Go_t c5 hg
      refine lv_iinc (v := zi (i2 + (1 : Int))) (lv' := [(2, .int (zi (i2 + (1 : Int)))), (0, .ref (t 0)), (1, .int (zi i1))]) hx hb dX2_breakPlace_23 hl (k := 2) rfl (zi_add i2 _) (by decide) rfl (fun ls hl => ?_)
      refine lv_goto (tgt := 2) hx hb dX2_breakPlace_26 (by decide) ?_
      exact (Go_s hg) ls (lv_sub hl [1, 2, 0] rfl)
    · have hg := Go_f c5 hg
      refine lv_iload_n hx hb dX2_breakPlace_21 rfl (lv_at hl 2 rfl) ?_
      exact (Go_s hg) _ _ dX2_breakPlace_22
set_option maxHeartbeats 4000000 in
set_option maxRecDepth 100000 in
theorem zw_X2_breakPlace {p : Program} {l : Launch} {e : Env} {s : State} {m : MethodId} {args : Array Value} {below : List Frame} {meth : Method} {c : Code} {Q : State → Prop} {D : va_G} {κ : Nat → ClassId} {H : Heap} {locs : List Loc} (t : Nat → Nat) (t_size : Int) (t_numbers : Nat)  (i1 : Int) (hx : p.tables.exec = Jvm.exec) (hb : c.code = cX2_breakPlace) (hml : c.maxLocals = 3) (hown : s.vm.findClass RX2 = some m.cls) (hts : ∀ w ∈ wsX2_breakPlace, w.before args s = true) (hK : va_K D vwCl (zTY κ) s) (hP : va_P D vwCl ([((t 0), .inr (2, [.ref (t 1), .int (zi t_size)])), ((t 1), .inl (κ 1, 10, .inl (zc t_numbers)))]) H) (out : Int) (h : zf_X2_breakPlace t_size t_numbers i1 = some out) (hq : zQ_X2_breakPlace p l e s m args below meth c Q H locs out) : zA_X2_breakPlace_0 p l e s m args below meth c Q H locs t  i1 0 := by
  have hst : ∀ st : zS_X2_breakPlace, Go (GoE (zA_X2_breakPlace p l e s m args below meth c Q H locs t ) (zQ_X2_breakPlace p l e s m args below meth c Q H locs)) (zg_X2_breakPlace t_size t_numbers st) → zA_X2_breakPlace p l e s m args below meth c Q H locs t  st := by
    intro st hg
    obtain ⟨lab, i1, i2⟩ := st
    by_cases h0 : lab = 0
    · subst h0
      exact zs_X2_breakPlace_0 t t_size t_numbers  hx hb hml hown hts hK hP i1 i2 hg
    by_cases h2 : lab = 2
    · subst h2
      exact zs_X2_breakPlace_2 t t_size t_numbers  hx hb hml hown hts hK hP i1 i2 hg
    have hz : zg_X2_breakPlace t_size t_numbers (lab, i1, i2) = none := by simp [zg_X2_breakPlace, h0, h2]
    rw [hz] at hg
    obtain ⟨a, h1, -⟩ := hg
    cases h1
  exact jwalk (At := zA_X2_breakPlace p l e s m args below meth c Q H locs t ) (Ret := zQ_X2_breakPlace p l e s m args below meth c Q H locs) hst _ _ _ h hq
set_option maxHeartbeats 4000000 in
set_option maxRecDepth 100000 in
theorem zc_X2_breakPlace (l : Launch) (D : va_G) (κ : Nat → ClassId) (t : Nat → Nat) (t_size : Int) (t_numbers : Nat) (i1 : Int) (out : Int) (h : zf_X2_breakPlace t_size t_numbers i1 = some out) : Met l yX2_breakPlace wsX2_breakPlace zr_X2_breakPlace (va_Pc [.ref (t 0), .int (zi i1)] (zR D κ ([((t 0), .inr (2, [.ref (t 1), .int (zi t_size)])), ((t 1), .inl (κ 1, 10, .inl (zc t_numbers)))]))) (vp_Si (fun x => x = zi out)) 0 0 (fun _ => False) := by
  refine Met.ofW (cc := cX2_breakPlace) (maxL := 3) (ret := (some .int)) (by decide +kernel) rfl ?_
  intro p e s m args below meth c s₁ B hml hv
  obtain ⟨rfl, hP, hK⟩ := hv
  have hx := B.exec
  have hb := B.bytes
  have hr := B.returns
  have hts := atoms_spec (ws := wsX2_breakPlace) B.pre
  have hown : s.vm.findClass RX2 = some m.cls := findClass_of_methodNamed B.named
  have hlocks := B.notSynchronized
  have hl := lv_entry ([.ref (t 0), .int (zi i1)]) (n := 3) (Nat.le_of_ble_eq_true rfl)
  rw [lg_entry_eq]
  generalize (lg_sl ([.ref (t 0), .int (zi i1)]) ++ List.replicate (3 - (lg_sl ([.ref (t 0), .int (zi i1)])).length) Slot.unset).toArray = ls at hl ⊢
  have hl : lv_has ls 3 [(0, .ref (t 0)), (1, .int (zi i1))] := hl
  refine (zw_X2_breakPlace t t_size t_numbers  i1 hx hb hml hown hts hK hP out h ?_) ls (lv_sub hl [0, 1] rfl)
  exact fun ls pc hd => W.iret hx hb hr (fun t ht hW => ⟨_, rfl, rfl, ht⟩) (fun _ h => by cases h) hd
/-! DiamondRows$Endless.breakLength()I -/
abbrev zr_X2_breakLength : Room := { frames := 5, cells := 0, slots := 0, locals := 115 }
abbrev zS_X2_breakLength : Type := Nat × Int
abbrev zO_X2_breakLength : Type := Int
noncomputable def zg_X2_breakLength_0  (t_size : Int) (t_numbers : Nat) (i1 : Int) : Option (zO_X2_breakLength ⊕ zS_X2_breakLength) :=
  some (.inr (2, (2 : Int)))
noncomputable def zg_X2_breakLength_2  (t_size : Int) (t_numbers : Nat) (i1 : Int) : Option (zO_X2_breakLength ⊕ zS_X2_breakLength) :=
  if zout i1 then none else
  if (12 : Int) < i1 then
  some (.inl ((-1 : Int)))
  else
  Option.bind (zf_X2_breakPlace t_size t_numbers i1) (fun o2 =>
  if zout o2 then none else
  if o2 = (-1 : Int) then
  some (.inr (2, (i1 + (1 : Int))))
  else
  some (.inl (i1)))
noncomputable def zg_X2_breakLength  (t_size : Int) (t_numbers : Nat) (st : zS_X2_breakLength) : Option (zO_X2_breakLength ⊕ zS_X2_breakLength) := match st with
  | (lab, i1) => if lab = 0 then zg_X2_breakLength_0 t_size t_numbers i1 else if lab = 2 then zg_X2_breakLength_2 t_size t_numbers i1 else none
noncomputable def zf_X2_breakLength  (t_size : Int) (t_numbers : Nat)  : Option (Int) := jrun (zg_X2_breakLength t_size t_numbers) jfuel (0, 0)
def zQ_X2_breakLength (p : Program) (l : Launch) (e : Env) (s : State) (m : MethodId) (args : Array Value) (below : List Frame) (meth : Method) (c : Code) (Q : State → Prop) (H : Heap) (locs : List Loc)  (o : Int) : Prop := ∀ (ls : Array Slot) (pc : Nat), decode cX2_breakLength pc = .ok (.ireturn, 1) → W p l e zr_X2_breakLength s m args below meth c H locs 0 0 Q (F0 m pc ls [.int (zi o)])
def zA_X2_breakLength_0 (p : Program) (l : Launch) (e : Env) (s : State) (m : MethodId) (args : Array Value) (below : List Frame) (meth : Method) (c : Code) (Q : State → Prop) (H : Heap) (locs : List Loc) (t : Nat → Nat)  (i1 : Int) : Prop := ∀ ls : Array Slot, lv_has ls 2 [(0, .ref (t 0))] → W p l e zr_X2_breakLength s m args below meth c H locs 0 0 Q (F0 m 0 ls [])
def zA_X2_breakLength_2 (p : Program) (l : Launch) (e : Env) (s : State) (m : MethodId) (args : Array Value) (below : List Frame) (meth : Method) (c : Code) (Q : State → Prop) (H : Heap) (locs : List Loc) (t : Nat → Nat)  (i1 : Int) : Prop := ∀ ls : Array Slot, lv_has ls 2 [(0, .ref (t 0)), (1, .int (zi i1))] → W p l e zr_X2_breakLength s m args below meth c H locs 0 0 Q (F0 m 2 ls [])
def zA_X2_breakLength (p : Program) (l : Launch) (e : Env) (s : State) (m : MethodId) (args : Array Value) (below : List Frame) (meth : Method) (c : Code) (Q : State → Prop) (H : Heap) (locs : List Loc) (t : Nat → Nat)  (st : zS_X2_breakLength) : Prop := match st with
  | (lab, i1) => if lab = 0 then zA_X2_breakLength_0 p l e s m args below meth c Q H locs t  i1 else if lab = 2 then zA_X2_breakLength_2 p l e s m args below meth c Q H locs t  i1 else True
set_option maxHeartbeats 4000000 in
set_option maxRecDepth 100000 in
theorem zs_X2_breakLength_0 {p : Program} {l : Launch} {e : Env} {s : State} {m : MethodId} {args : Array Value} {below : List Frame} {meth : Method} {c : Code} {Q : State → Prop} {D : va_G} {κ : Nat → ClassId} {H : Heap} {locs : List Loc} (t : Nat → Nat) (t_size : Int) (t_numbers : Nat)  (hx : p.tables.exec = Jvm.exec) (hb : c.code = cX2_breakLength) (hml : c.maxLocals = 2) (hown : s.vm.findClass RX2 = some m.cls) (hts : ∀ w ∈ wsX2_breakLength, w.before args s = true) (hK : va_K D vwCl (zTY κ) s) (hP : va_P D vwCl ([((t 0), .inr (2, [.ref (t 1), .int (zi t_size)])), ((t 1), .inl (κ 1, 10, .inl (zc t_numbers)))]) H) (i1 : Int) (hg : Go (GoE (zA_X2_breakLength p l e s m args below meth c Q H locs t ) (zQ_X2_breakLength p l e s m args below meth c Q H locs)) (zg_X2_breakLength_0 t_size t_numbers i1)) : zA_X2_breakLength_0 p l e s m args below meth c Q H locs t  i1 := by
  intro ls hl
  unfold zg_X2_breakLength_0 at hg
  refine zv_iconst hx hb dX2_breakLength_0 ?_
  refine lv_istore_n (lv' := [(1, .int (zi (2 : Int))), (0, .ref (t 0))]) hx hb dX2_breakLength_1 rfl hl (by decide) rfl (fun ls hl => ?_)
  exact (Go_s hg) ls (lv_sub hl [1, 0] rfl)
set_option maxHeartbeats 4000000 in
set_option maxRecDepth 100000 in
theorem zs_X2_breakLength_2 {p : Program} {l : Launch} {e : Env} {s : State} {m : MethodId} {args : Array Value} {below : List Frame} {meth : Method} {c : Code} {Q : State → Prop} {D : va_G} {κ : Nat → ClassId} {H : Heap} {locs : List Loc} (t : Nat → Nat) (t_size : Int) (t_numbers : Nat)  (hx : p.tables.exec = Jvm.exec) (hb : c.code = cX2_breakLength) (hml : c.maxLocals = 2) (hown : s.vm.findClass RX2 = some m.cls) (hts : ∀ w ∈ wsX2_breakLength, w.before args s = true) (hK : va_K D vwCl (zTY κ) s) (hP : va_P D vwCl ([((t 0), .inr (2, [.ref (t 1), .int (zi t_size)])), ((t 1), .inl (κ 1, 10, .inl (zc t_numbers)))]) H) (i1 : Int) (hg : Go (GoE (zA_X2_breakLength p l e s m args below meth c Q H locs t ) (zQ_X2_breakLength p l e s m args below meth c Q H locs)) (zg_X2_breakLength_2 t_size t_numbers i1)) : zA_X2_breakLength_2 p l e s m args below meth c Q H locs t  i1 := by
  intro ls hl
  unfold zg_X2_breakLength_2 at hg
  refine lv_iload_n hx hb dX2_breakLength_2 rfl (lv_at hl 1 rfl) ?_
  refine zv_bipush hx hb dX2_breakLength_3 (by decide) ?_
  obtain ⟨b1, hg⟩ := Go_n hg
  refine zv_icmp_gt (tgt := 25) hx hb dX2_breakLength_5 (by decide) b1 (by decide) (fun c5 => ?_) (fun c5 => ?_)
  · have hg := Go_t c5 hg
    refine zv_iconst hx hb dX2_breakLength_25 ?_
    exact (Go_s hg) _ _ dX2_breakLength_26
  · have hg := Go_f c5 hg
    refine lv_aload_n hx hb dX2_breakLength_8 rfl (lv_at hl 0 rfl) ?_
    refine lv_iload_n hx hb dX2_breakLength_9 rfl (lv_at hl 1 rfl) ?_
    obtain ⟨o2, ho2, hg⟩ := Go_b hg
    refine zc_vi (rest := []) ⟨hx, hb, hml, hown, hts⟩ (zc_X2_breakPlace l D κ t t_size t_numbers i1 o2 ho2) (cwV 1 hts gX2_breakLength_X2_breakPlace rfl rfl rfl (by decide +kernel) ⟨Nat.le_of_ble_eq_true rfl, Nat.le_of_ble_eq_true rfl⟩) (zpreV hK (hP.sub [0, 1] rfl) 2 0 rfl rfl) rfl hl.1 rfl (Nat.le_of_ble_eq_true rfl) dX2_breakLength_10 ⟨Nat.zero_le _, Nat.zero_le _⟩ ?_
    refine zv_iconst hx hb dX2_breakLength_13 ?_
    obtain ⟨b3, hg⟩ := Go_n hg
    refine zv_icmp_eq (tgt := 19) hx hb dX2_breakLength_14 (by decide) b3 (by decide) (fun c4 => ?_) (fun c4 => ?_)
    · have hg := Go_t c4 hg
      refine lv_iinc (v := zi (i1 + (1 : Int))) (lv' := [(1, .int (zi (i1 + (1 : Int)))), (0, .ref (t 0))]) hx hb dX2_breakLength_19 hl (k := 1) rfl (zi_add i1 _) (by decide) rfl (fun ls hl => ?_)
      refine lv_goto (tgt := 2) hx hb dX2_breakLength_22 (by decide) ?_
      exact (Go_s hg) ls (lv_sub hl [1, 0] rfl)
    · have hg := Go_f c4 hg
      refine lv_iload_n hx hb dX2_breakLength_17 rfl (lv_at hl 1 rfl) ?_
      exact (Go_s hg) _ _ dX2_breakLength_18
set_option maxHeartbeats 4000000 in
set_option maxRecDepth 100000 in
theorem zw_X2_breakLength {p : Program} {l : Launch} {e : Env} {s : State} {m : MethodId} {args : Array Value} {below : List Frame} {meth : Method} {c : Code} {Q : State → Prop} {D : va_G} {κ : Nat → ClassId} {H : Heap} {locs : List Loc} (t : Nat → Nat) (t_size : Int) (t_numbers : Nat)   (hx : p.tables.exec = Jvm.exec) (hb : c.code = cX2_breakLength) (hml : c.maxLocals = 2) (hown : s.vm.findClass RX2 = some m.cls) (hts : ∀ w ∈ wsX2_breakLength, w.before args s = true) (hK : va_K D vwCl (zTY κ) s) (hP : va_P D vwCl ([((t 0), .inr (2, [.ref (t 1), .int (zi t_size)])), ((t 1), .inl (κ 1, 10, .inl (zc t_numbers)))]) H) (out : Int) (h : zf_X2_breakLength t_size t_numbers  = some out) (hq : zQ_X2_breakLength p l e s m args below meth c Q H locs out) : zA_X2_breakLength_0 p l e s m args below meth c Q H locs t  0 := by
  have hst : ∀ st : zS_X2_breakLength, Go (GoE (zA_X2_breakLength p l e s m args below meth c Q H locs t ) (zQ_X2_breakLength p l e s m args below meth c Q H locs)) (zg_X2_breakLength t_size t_numbers st) → zA_X2_breakLength p l e s m args below meth c Q H locs t  st := by
    intro st hg
    obtain ⟨lab, i1⟩ := st
    by_cases h0 : lab = 0
    · subst h0
      exact zs_X2_breakLength_0 t t_size t_numbers  hx hb hml hown hts hK hP i1 hg
    by_cases h2 : lab = 2
    · subst h2
      exact zs_X2_breakLength_2 t t_size t_numbers  hx hb hml hown hts hK hP i1 hg
    have hz : zg_X2_breakLength t_size t_numbers (lab, i1) = none := by simp [zg_X2_breakLength, h0, h2]
    rw [hz] at hg
    obtain ⟨a, h1, -⟩ := hg
    cases h1
  exact jwalk (At := zA_X2_breakLength p l e s m args below meth c Q H locs t ) (Ret := zQ_X2_breakLength p l e s m args below meth c Q H locs) hst _ _ _ h hq
set_option maxHeartbeats 4000000 in
set_option maxRecDepth 100000 in
theorem zc_X2_breakLength (l : Launch) (D : va_G) (κ : Nat → ClassId) (t : Nat → Nat) (t_size : Int) (t_numbers : Nat)  (out : Int) (h : zf_X2_breakLength t_size t_numbers  = some out) : Met l yX2_breakLength wsX2_breakLength zr_X2_breakLength (va_Pc [.ref (t 0)] (zR D κ ([((t 0), .inr (2, [.ref (t 1), .int (zi t_size)])), ((t 1), .inl (κ 1, 10, .inl (zc t_numbers)))]))) (vp_Si (fun x => x = zi out)) 0 0 (fun _ => False) := by
  refine Met.ofW (cc := cX2_breakLength) (maxL := 2) (ret := (some .int)) (by decide +kernel) rfl ?_
  intro p e s m args below meth c s₁ B hml hv
  obtain ⟨rfl, hP, hK⟩ := hv
  have hx := B.exec
  have hb := B.bytes
  have hr := B.returns
  have hts := atoms_spec (ws := wsX2_breakLength) B.pre
  have hown : s.vm.findClass RX2 = some m.cls := findClass_of_methodNamed B.named
  have hlocks := B.notSynchronized
  have hl := lv_entry ([.ref (t 0)]) (n := 2) (Nat.le_of_ble_eq_true rfl)
  rw [lg_entry_eq]
  generalize (lg_sl ([.ref (t 0)]) ++ List.replicate (2 - (lg_sl ([.ref (t 0)])).length) Slot.unset).toArray = ls at hl ⊢
  have hl : lv_has ls 2 [(0, .ref (t 0))] := hl
  refine (zw_X2_breakLength t t_size t_numbers   hx hb hml hown hts hK hP out h ?_) ls (lv_sub hl [0] rfl)
  exact fun ls pc hd => W.iret hx hb hr (fun t ht hW => ⟨_, rfl, rfl, ht⟩) (fun _ h => by cases h) hd
/-! DiamondRows$Endless.allAre(IJ)Z -/
abbrev zr_X2_allAre : Room := { frames := 4, cells := 0, slots := 0, locals := 93 }
abbrev zS_X2_allAre : Type := Nat × Int × Int × Int
abbrev zO_X2_allAre : Type := Bool
noncomputable def zg_X2_allAre_0  (t_size : Int) (t_numbers : Nat) (i1 : Int) (i2 : Int) (i4 : Int) : Option (zO_X2_allAre ⊕ zS_X2_allAre) :=
  some (.inr (3, i1, i2, (0 : Int)))
noncomputable def zg_X2_allAre_3  (t_size : Int) (t_numbers : Nat) (i1 : Int) (i2 : Int) (i4 : Int) : Option (zO_X2_allAre ⊕ zS_X2_allAre) :=
  if zout i4 then none else
  if zout t_size then none else
  if t_size ≤ i4 then
  some (.inl (true))
  else
  Option.bind (zf_X2_entryAt t_size t_numbers i4 i1) (fun o3 =>
  if zoutL o3 then none else
  if zoutL i2 then none else
  if o3 = i2 then
  some (.inr (3, i1, i2, (i4 + (1 : Int))))
  else
  some (.inl (false)))
noncomputable def zg_X2_allAre  (t_size : Int) (t_numbers : Nat) (st : zS_X2_allAre) : Option (zO_X2_allAre ⊕ zS_X2_allAre) := match st with
  | (lab, i1, i2, i4) => if lab = 0 then zg_X2_allAre_0 t_size t_numbers i1 i2 i4 else if lab = 3 then zg_X2_allAre_3 t_size t_numbers i1 i2 i4 else none
noncomputable def zf_X2_allAre  (t_size : Int) (t_numbers : Nat) (i1 : Int) (i2 : Int) : Option (Bool) := jrun (zg_X2_allAre t_size t_numbers) jfuel (0, i1, i2, 0)
theorem zi_X2_allAre_X2 : ∀ w ∈ u_ws RX2 TX2 2, w ∈ wsX2_allAre := by decide +kernel
theorem zl_X2_allAre_15 : Cond.fieldLink RX2 15 "DiamondRows$Endless" "size" "I" ∈ wsX2_allAre := by decide +kernel
def zQ_X2_allAre (p : Program) (l : Launch) (e : Env) (s : State) (m : MethodId) (args : Array Value) (below : List Frame) (meth : Method) (c : Code) (Q : State → Prop) (H : Heap) (locs : List Loc)  (o : Bool) : Prop := ∀ (ls : Array Slot) (pc : Nat), decode cX2_allAre pc = .ok (.ireturn, 1) → W p l e zr_X2_allAre s m args below meth c H locs 0 0 Q (F0 m pc ls [.int (zi (bI o))])
def zA_X2_allAre_0 (p : Program) (l : Launch) (e : Env) (s : State) (m : MethodId) (args : Array Value) (below : List Frame) (meth : Method) (c : Code) (Q : State → Prop) (H : Heap) (locs : List Loc) (t : Nat → Nat)  (i1 : Int) (i2 : Int) (i4 : Int) : Prop := ∀ ls : Array Slot, lv_has ls 5 [(0, .ref (t 0)), (1, .int (zi i1)), (2, .long (zl i2))] → W p l e zr_X2_allAre s m args below meth c H locs 0 0 Q (F0 m 0 ls [])
def zA_X2_allAre_3 (p : Program) (l : Launch) (e : Env) (s : State) (m : MethodId) (args : Array Value) (below : List Frame) (meth : Method) (c : Code) (Q : State → Prop) (H : Heap) (locs : List Loc) (t : Nat → Nat)  (i1 : Int) (i2 : Int) (i4 : Int) : Prop := ∀ ls : Array Slot, lv_has ls 5 [(0, .ref (t 0)), (1, .int (zi i1)), (2, .long (zl i2)), (4, .int (zi i4))] → W p l e zr_X2_allAre s m args below meth c H locs 0 0 Q (F0 m 3 ls [])
def zA_X2_allAre (p : Program) (l : Launch) (e : Env) (s : State) (m : MethodId) (args : Array Value) (below : List Frame) (meth : Method) (c : Code) (Q : State → Prop) (H : Heap) (locs : List Loc) (t : Nat → Nat)  (st : zS_X2_allAre) : Prop := match st with
  | (lab, i1, i2, i4) => if lab = 0 then zA_X2_allAre_0 p l e s m args below meth c Q H locs t  i1 i2 i4 else if lab = 3 then zA_X2_allAre_3 p l e s m args below meth c Q H locs t  i1 i2 i4 else True
set_option maxHeartbeats 4000000 in
set_option maxRecDepth 100000 in
theorem zs_X2_allAre_0 {p : Program} {l : Launch} {e : Env} {s : State} {m : MethodId} {args : Array Value} {below : List Frame} {meth : Method} {c : Code} {Q : State → Prop} {D : va_G} {κ : Nat → ClassId} {H : Heap} {locs : List Loc} (t : Nat → Nat) (t_size : Int) (t_numbers : Nat)  (hx : p.tables.exec = Jvm.exec) (hb : c.code = cX2_allAre) (hml : c.maxLocals = 5) (hown : s.vm.findClass RX2 = some m.cls) (hts : ∀ w ∈ wsX2_allAre, w.before args s = true) (hK : va_K D vwCl (zTY κ) s) (hP : va_P D vwCl ([((t 0), .inr (2, [.ref (t 1), .int (zi t_size)])), ((t 1), .inl (κ 1, 10, .inl (zc t_numbers)))]) H) (i1 : Int) (i2 : Int) (i4 : Int) (hg : Go (GoE (zA_X2_allAre p l e s m args below meth c Q H locs t ) (zQ_X2_allAre p l e s m args below meth c Q H locs)) (zg_X2_allAre_0 t_size t_numbers i1 i2 i4)) : zA_X2_allAre_0 p l e s m args below meth c Q H locs t  i1 i2 i4 := by
  intro ls hl
  unfold zg_X2_allAre_0 at hg
  refine zv_iconst hx hb dX2_allAre_0 ?_
  refine lv_istore (lv' := [(4, .int (zi (0 : Int))), (0, .ref (t 0)), (1, .int (zi i1)), (2, .long (zl i2))]) hx hb dX2_allAre_1 hl (by decide) rfl (fun ls hl => ?_)
  exact (Go_s hg) ls (lv_sub hl [1, 2, 3, 0] rfl)
set_option maxHeartbeats 4000000 in
set_option maxRecDepth 100000 in
theorem zs_X2_allAre_3 {p : Program} {l : Launch} {e : Env} {s : State} {m : MethodId} {args : Array Value} {below : List Frame} {meth : Method} {c : Code} {Q : State → Prop} {D : va_G} {κ : Nat → ClassId} {H : Heap} {locs : List Loc} (t : Nat → Nat) (t_size : Int) (t_numbers : Nat)  (hx : p.tables.exec = Jvm.exec) (hb : c.code = cX2_allAre) (hml : c.maxLocals = 5) (hown : s.vm.findClass RX2 = some m.cls) (hts : ∀ w ∈ wsX2_allAre, w.before args s = true) (hK : va_K D vwCl (zTY κ) s) (hP : va_P D vwCl ([((t 0), .inr (2, [.ref (t 1), .int (zi t_size)])), ((t 1), .inl (κ 1, 10, .inl (zc t_numbers)))]) H) (i1 : Int) (i2 : Int) (i4 : Int) (hg : Go (GoE (zA_X2_allAre p l e s m args below meth c Q H locs t ) (zQ_X2_allAre p l e s m args below meth c Q H locs)) (zg_X2_allAre_3 t_size t_numbers i1 i2 i4)) : zA_X2_allAre_3 p l e s m args below meth c Q H locs t  i1 i2 i4 := by
  intro ls hl
  unfold zg_X2_allAre_3 at hg
  refine lv_iload hx hb dX2_allAre_3 (lv_at hl 3 rfl) ?_
  refine lv_aload_n hx hb dX2_allAre_5 rfl (lv_at hl 0 rfl) ?_
  refine va_get (D := D) (ci := 2) (v := .int (zi t_size)) (C := RX2) (T := TX2) (N := 2) hx hb hts zi_X2_allAre_X2 hown hK hP 0 rfl rfl 1 (by decide) (hts (.fieldLink RX2 15 "DiamondRows$Endless" "size" "I") zl_X2_allAre_15) (fun _ h9 => h9) rfl dX2_allAre_6 ?_
  obtain ⟨b1, hg⟩ := Go_n hg
  obtain ⟨b2, hg⟩ := Go_n hg
  refine zv_icmp_ge (tgt := 32) hx hb dX2_allAre_9 (by decide) b1 b2 (fun c7 => ?_) (fun c7 => ?_)
  · have hg := Go_t c7 hg
    refine zv_iconst hx hb dX2_allAre_32 ?_
    exact (Go_s hg) _ _ dX2_allAre_33
  · have hg := Go_f c7 hg
    refine lv_aload_n hx hb dX2_allAre_12 rfl (lv_at hl 0 rfl) ?_
    refine lv_iload hx hb dX2_allAre_13 (lv_at hl 3 rfl) ?_
    refine lv_iload_n hx hb dX2_allAre_15 rfl (lv_at hl 1 rfl) ?_
    obtain ⟨o3, ho3, hg⟩ := Go_b hg
    refine zc_vl (rest := []) ⟨hx, hb, hml, hown, hts⟩ (zc_X2_entryAt l D κ t t_size t_numbers i4 i1 o3 ho3) (cwV 2 hts gX2_allAre_X2_entryAt rfl rfl rfl (by decide +kernel) ⟨Nat.le_of_ble_eq_true rfl, Nat.le_of_ble_eq_true rfl⟩) (zpreV hK (hP.sub [0, 1] rfl) 2 0 rfl rfl) rfl hl.1 rfl (Nat.le_of_ble_eq_true rfl) dX2_allAre_16 ⟨Nat.zero_le _, Nat.zero_le _⟩ ?_
    refine lv_lload_n hx hb dX2_allAre_19 rfl (lv_at hl 2 rfl) ?_
    obtain ⟨b4, hg⟩ := Go_n hg
    obtain ⟨b5, hg⟩ := Go_n hg
    refine zv_lif_eq (tgt := 26) hx hb dX2_allAre_20 dX2_allAre_21 (by decide) b4 b5 (fun c6 => ?_) (fun c6 => ?_)
    · have hg := Go_t c6 hg
      refine lv_iinc (v := zi (i4 + (1 : Int))) (lv' := [(4, .int (zi (i4 + (1 : Int)))), (0, .ref (t 0)), (1, .int (zi i1)), (2, .long (zl i2))]) hx hb dX2_allAre_26 hl (k := 3) rfl (zi_add i4 _) (by decide) rfl (fun ls hl => ?_)
      refine lv_goto (tgt := 3) hx hb dX2_allAre_29 (by decide) ?_
      exact (Go_s hg) ls (lv_sub hl [1, 2, 3, 0] rfl)
    · have hg := Go_f c6 hg
      refine zv_iconst hx hb dX2_allAre_24 ?_
      exact (Go_s hg) _ _ dX2_allAre_25
set_option maxHeartbeats 4000000 in
set_option maxRecDepth 100000 in
theorem zw_X2_allAre {p : Program} {l : Launch} {e : Env} {s : State} {m : MethodId} {args : Array Value} {below : List Frame} {meth : Method} {c : Code} {Q : State → Prop} {D : va_G} {κ : Nat → ClassId} {H : Heap} {locs : List Loc} (t : Nat → Nat) (t_size : Int) (t_numbers : Nat)  (i1 : Int) (i2 : Int) (hx : p.tables.exec = Jvm.exec) (hb : c.code = cX2_allAre) (hml : c.maxLocals = 5) (hown : s.vm.findClass RX2 = some m.cls) (hts : ∀ w ∈ wsX2_allAre, w.before args s = true) (hK : va_K D vwCl (zTY κ) s) (hP : va_P D vwCl ([((t 0), .inr (2, [.ref (t 1), .int (zi t_size)])), ((t 1), .inl (κ 1, 10, .inl (zc t_numbers)))]) H) (out : Bool) (h : zf_X2_allAre t_size t_numbers i1 i2 = some out) (hq : zQ_X2_allAre p l e s m args below meth c Q H locs out) : zA_X2_allAre_0 p l e s m args below meth c Q H locs t  i1 i2 0 := by
  have hst : ∀ st : zS_X2_allAre, Go (GoE (zA_X2_allAre p l e s m args below meth c Q H locs t ) (zQ_X2_allAre p l e s m args below meth c Q H locs)) (zg_X2_allAre t_size t_numbers st) → zA_X2_allAre p l e s m args below meth c Q H locs t  st := by
    intro st hg
    obtain ⟨lab, i1, i2, i4⟩ := st
    by_cases h0 : lab = 0
    · subst h0
      exact zs_X2_allAre_0 t t_size t_numbers  hx hb hml hown hts hK hP i1 i2 i4 hg
    by_cases h3 : lab = 3
    · subst h3
      exact zs_X2_allAre_3 t t_size t_numbers  hx hb hml hown hts hK hP i1 i2 i4 hg
    have hz : zg_X2_allAre t_size t_numbers (lab, i1, i2, i4) = none := by simp [zg_X2_allAre, h0, h3]
    rw [hz] at hg
    obtain ⟨a, h1, -⟩ := hg
    cases h1
  exact jwalk (At := zA_X2_allAre p l e s m args below meth c Q H locs t ) (Ret := zQ_X2_allAre p l e s m args below meth c Q H locs) hst _ _ _ h hq
set_option maxHeartbeats 4000000 in
set_option maxRecDepth 100000 in
theorem zc_X2_allAre (l : Launch) (D : va_G) (κ : Nat → ClassId) (t : Nat → Nat) (t_size : Int) (t_numbers : Nat) (i1 : Int) (i2 : Int) (out : Bool) (h : zf_X2_allAre t_size t_numbers i1 i2 = some out) : Met l yX2_allAre wsX2_allAre zr_X2_allAre (va_Pc [.ref (t 0), .int (zi i1), .long (zl i2)] (zR D κ ([((t 0), .inr (2, [.ref (t 1), .int (zi t_size)])), ((t 1), .inl (κ 1, 10, .inl (zc t_numbers)))]))) (vp_Si (fun x => x = zi (bI out))) 0 0 (fun _ => False) := by
  refine Met.ofW (cc := cX2_allAre) (maxL := 5) (ret := (some .boolean)) (by decide +kernel) rfl ?_
  intro p e s m args below meth c s₁ B hml hv
  obtain ⟨rfl, hP, hK⟩ := hv
  have hx := B.exec
  have hb := B.bytes
  have hr := B.returns
  have hts := atoms_spec (ws := wsX2_allAre) B.pre
  have hown : s.vm.findClass RX2 = some m.cls := findClass_of_methodNamed B.named
  have hlocks := B.notSynchronized
  have hl := lv_entry ([.ref (t 0), .int (zi i1), .long (zl i2)]) (n := 5) (Nat.le_of_ble_eq_true rfl)
  rw [lg_entry_eq]
  generalize (lg_sl ([.ref (t 0), .int (zi i1), .long (zl i2)]) ++ List.replicate (5 - (lg_sl ([.ref (t 0), .int (zi i1), .long (zl i2)])).length) Slot.unset).toArray = ls at hl ⊢
  have hl : lv_has ls 5 [(0, .ref (t 0)), (1, .int (zi i1)), (2, .long (zl i2))] := hl
  refine (zw_X2_allAre t t_size t_numbers  i1 i2 hx hb hml hown hts hK hP out h ?_) ls (lv_sub hl [0, 1, 2] rfl)
  exact fun ls pc hd => W.zret hx hb hr (bI_nar _) (fun t ht hW => ⟨_, rfl, rfl, ht⟩) (fun _ h => by cases h) hd
/-! DiamondRows$Endless.comesBack(I)Z -/
abbrev zr_X2_comesBack : Room := { frames := 5, cells := 0, slots := 0, locals := 117 }
noncomputable def zf_X2_comesBack  (t_size : Int) (t_numbers : Nat) (i1 : Int) : Option (Bool) :=
  Option.bind (zf_X2_allAre t_size t_numbers i1 (0 : Int)) (fun o1 =>
  if o1 = false then
  some (false)
  else
  if zout i1 then none else
  if i1 = (12 : Int) then
  some (true)
  else
  Option.bind (zf_X2_allAre t_size t_numbers (i1 + (1 : Int)) (-1 : Int)) (fun o3 =>
  if o3 = false then
  some (false)
  else
  some (true)))
def zQ_X2_comesBack (p : Program) (l : Launch) (e : Env) (s : State) (m : MethodId) (args : Array Value) (below : List Frame) (meth : Method) (c : Code) (Q : State → Prop) (H : Heap) (locs : List Loc)  (o : Bool) : Prop := ∀ (ls : Array Slot) (pc : Nat), decode cX2_comesBack pc = .ok (.ireturn, 1) → W p l e zr_X2_comesBack s m args below meth c H locs 0 0 Q (F0 m pc ls [.int (zi (bI o))])
set_option maxHeartbeats 4000000 in
set_option maxRecDepth 100000 in
theorem zs_X2_comesBack {p : Program} {l : Launch} {e : Env} {s : State} {m : MethodId} {args : Array Value} {below : List Frame} {meth : Method} {c : Code} {Q : State → Prop} {D : va_G} {κ : Nat → ClassId} {H : Heap} {locs : List Loc} (t : Nat → Nat) (t_size : Int) (t_numbers : Nat) (i1 : Int) (hx : p.tables.exec = Jvm.exec) (hb : c.code = cX2_comesBack) (hml : c.maxLocals = 2) (hown : s.vm.findClass RX2 = some m.cls) (hts : ∀ w ∈ wsX2_comesBack, w.before args s = true) (hK : va_K D vwCl (zTY κ) s) (hP : va_P D vwCl ([((t 0), .inr (2, [.ref (t 1), .int (zi t_size)])), ((t 1), .inl (κ 1, 10, .inl (zc t_numbers)))]) H) (ls : Array Slot) (hl : lv_has ls 2 [(0, .ref (t 0)), (1, .int (zi i1))]) (hg : Go (zQ_X2_comesBack p l e s m args below meth c Q H locs) (zf_X2_comesBack t_size t_numbers i1)) : W p l e zr_X2_comesBack s m args below meth c H locs 0 0 Q (F0 m 0 ls []) := by
  unfold zf_X2_comesBack at hg
  refine lv_aload_n hx hb dX2_comesBack_0 rfl (lv_at hl 0 rfl) ?_
  refine lv_iload_n hx hb dX2_comesBack_1 rfl (lv_at hl 1 rfl) ?_
  refine lv_lconst (v := zl (0 : Int)) hx hb dX2_comesBack_2 (by decide) ?_
  obtain ⟨o1, ho1, hg⟩ := Go_b hg
  refine zc_vi (rest := []) ⟨hx, hb, hml, hown, hts⟩ (zc_X2_allAre l D κ t t_size t_numbers i1 (0 : Int) o1 ho1) (cwV 2 hts gX2_comesBack_X2_allAre rfl rfl rfl (by decide +kernel) ⟨Nat.le_of_ble_eq_true rfl, Nat.le_of_ble_eq_true rfl⟩) (zpreV hK (hP.sub [0, 1] rfl) 2 0 rfl rfl) rfl hl.1 rfl (Nat.le_of_ble_eq_true rfl) dX2_comesBack_3 ⟨Nat.zero_le _, Nat.zero_le _⟩ ?_
  refine zv_ifb_eq (tgt := 32) hx hb dX2_comesBack_6 (by decide) (fun c6 => ?_) (fun c6 => ?_)
  · have hg := Go_t c6 hg
    refine zv_iconst hx hb dX2_comesBack_32 ?_
    exact (Go_s hg) _ _ dX2_comesBack_33
  · have hg := Go_f c6 hg
    refine lv_iload_n hx hb dX2_comesBack_9 rfl (lv_at hl 1 rfl) ?_
    refine zv_bipush hx hb dX2_comesBack_10 (by decide) ?_
    obtain ⟨b2, hg⟩ := Go_n hg
    refine zv_icmp_eq (tgt := 28) hx hb dX2_comesBack_12 (by decide) b2 (by decide) (fun c5 => ?_) (fun c5 => ?_)
    · have hg := Go_t c5 hg
      refine zv_iconst hx hb dX2_comesBack_28 ?_
      refine lv_goto (tgt := 33) hx hb dX2_comesBack_29 (by decide) ?_
      exact (Go_s hg) _ _ dX2_comesBack_33
    · have hg := Go_f c5 hg
      refine lv_aload_n hx hb dX2_comesBack_15 rfl (lv_at hl 0 rfl) ?_
      refine lv_iload_n hx hb dX2_comesBack_16 rfl (lv_at hl 1 rfl) ?_
      refine zv_iconst hx hb dX2_comesBack_17 ?_
      refine zv_iadd hx hb dX2_comesBack_18 ?_
      refine lv_ldc2 (v := zl (-1 : Int)) hx hb hown (hts (.constantLong RX2 46 (-1)) (by decide +kernel)) dX2_comesBack_19 ?_
      obtain ⟨o3, ho3, hg⟩ := Go_b hg
      refine zc_vi (rest := []) ⟨hx, hb, hml, hown, hts⟩ (zc_X2_allAre l D κ t t_size t_numbers (i1 + (1 : Int)) (-1 : Int) o3 ho3) (cwV 2 hts gX2_comesBack_X2_allAre rfl rfl rfl (by decide +kernel) ⟨Nat.le_of_ble_eq_true rfl, Nat.le_of_ble_eq_true rfl⟩) (zpreV hK (hP.sub [0, 1] rfl) 2 0 rfl rfl) rfl hl.1 rfl (Nat.le_of_ble_eq_true rfl) dX2_comesBack_22 ⟨Nat.zero_le _, Nat.zero_le _⟩ ?_
      refine zv_ifb_eq (tgt := 32) hx hb dX2_comesBack_25 (by decide) (fun c4 => ?_) (fun c4 => ?_)
      · have hg := Go_t c4 hg
        refine zv_iconst hx hb dX2_comesBack_32 ?_
        exact (Go_s hg) _ _ dX2_comesBack_33
      · have hg := Go_f c4 hg
        refine zv_iconst hx hb dX2_comesBack_28 ?_
        refine lv_goto (tgt := 33) hx hb dX2_comesBack_29 (by decide) ?_
        exact (Go_s hg) _ _ dX2_comesBack_33
set_option maxHeartbeats 4000000 in
set_option maxRecDepth 100000 in
theorem zc_X2_comesBack (l : Launch) (D : va_G) (κ : Nat → ClassId) (t : Nat → Nat) (t_size : Int) (t_numbers : Nat) (i1 : Int) (out : Bool) (h : zf_X2_comesBack t_size t_numbers i1 = some out) : Met l yX2_comesBack wsX2_comesBack zr_X2_comesBack (va_Pc [.ref (t 0), .int (zi i1)] (zR D κ ([((t 0), .inr (2, [.ref (t 1), .int (zi t_size)])), ((t 1), .inl (κ 1, 10, .inl (zc t_numbers)))]))) (vp_Si (fun x => x = zi (bI out))) 0 0 (fun _ => False) := by
  refine Met.ofW (cc := cX2_comesBack) (maxL := 2) (ret := (some .boolean)) (by decide +kernel) rfl ?_
  intro p e s m args below meth c s₁ B hml hv
  obtain ⟨rfl, hP, hK⟩ := hv
  have hx := B.exec
  have hb := B.bytes
  have hr := B.returns
  have hts := atoms_spec (ws := wsX2_comesBack) B.pre
  have hown : s.vm.findClass RX2 = some m.cls := findClass_of_methodNamed B.named
  have hlocks := B.notSynchronized
  have hl := lv_entry ([.ref (t 0), .int (zi i1)]) (n := 2) (Nat.le_of_ble_eq_true rfl)
  rw [lg_entry_eq]
  generalize (lg_sl ([.ref (t 0), .int (zi i1)]) ++ List.replicate (2 - (lg_sl ([.ref (t 0), .int (zi i1)])).length) Slot.unset).toArray = ls at hl ⊢
  have hl : lv_has ls 2 [(0, .ref (t 0)), (1, .int (zi i1))] := hl
  refine zs_X2_comesBack t t_size t_numbers i1 hx hb hml hown hts hK hP ls hl ⟨out, h, ?_⟩
  exact fun ls pc hd => W.zret hx hb hr (bI_nar _) (fun t ht hW => ⟨_, rfl, rfl, ht⟩) (fun _ h => by cases h) hd
/-! DiamondRows$Endless.growthOfRound()J -/
abbrev zr_X2_growthOfRound : Room := { frames := 4, cells := 0, slots := 0, locals := 93 }
noncomputable def zf_X2_growthOfRound  (t_size : Int) (t_numbers : Nat)  : Option (Int) :=
  Option.bind (zf_X2_entryAt t_size t_numbers (0 : Int) (t_size + (1 : Int))) (fun o1 =>
  Option.bind (zf_X2_entryAt t_size t_numbers (1 : Int) (t_size - (1 : Int))) (fun o2 =>
  some ((o1 - o2))))
theorem zi_X2_growthOfRound_X2 : ∀ w ∈ u_ws RX2 TX2 2, w ∈ wsX2_growthOfRound := by decide +kernel
theorem zl_X2_growthOfRound_15 : Cond.fieldLink RX2 15 "DiamondRows$Endless" "size" "I" ∈ wsX2_growthOfRound := by decide +kernel
def zQ_X2_growthOfRound (p : Program) (l : Launch) (e : Env) (s : State) (m : MethodId) (args : Array Value) (below : List Frame) (meth : Method) (c : Code) (Q : State → Prop) (H : Heap) (locs : List Loc)  (o : Int) : Prop := ∀ (ls : Array Slot) (pc : Nat), decode cX2_growthOfRound pc = .ok (.lreturn, 1) → W p l e zr_X2_growthOfRound s m args below meth c H locs 0 0 Q (F0 m pc ls [.long (zl o)])
set_option maxHeartbeats 4000000 in
set_option maxRecDepth 100000 in
theorem zs_X2_growthOfRound {p : Program} {l : Launch} {e : Env} {s : State} {m : MethodId} {args : Array Value} {below : List Frame} {meth : Method} {c : Code} {Q : State → Prop} {D : va_G} {κ : Nat → ClassId} {H : Heap} {locs : List Loc} (t : Nat → Nat) (t_size : Int) (t_numbers : Nat)  (hx : p.tables.exec = Jvm.exec) (hb : c.code = cX2_growthOfRound) (hml : c.maxLocals = 1) (hown : s.vm.findClass RX2 = some m.cls) (hts : ∀ w ∈ wsX2_growthOfRound, w.before args s = true) (hK : va_K D vwCl (zTY κ) s) (hP : va_P D vwCl ([((t 0), .inr (2, [.ref (t 1), .int (zi t_size)])), ((t 1), .inl (κ 1, 10, .inl (zc t_numbers)))]) H) (ls : Array Slot) (hl : lv_has ls 1 [(0, .ref (t 0))]) (hg : Go (zQ_X2_growthOfRound p l e s m args below meth c Q H locs) (zf_X2_growthOfRound t_size t_numbers )) : W p l e zr_X2_growthOfRound s m args below meth c H locs 0 0 Q (F0 m 0 ls []) := by
  unfold zf_X2_growthOfRound at hg
  refine lv_aload_n hx hb dX2_growthOfRound_0 rfl (lv_at hl 0 rfl) ?_
  refine zv_iconst hx hb dX2_growthOfRound_1 ?_
  refine lv_aload_n hx hb dX2_growthOfRound_2 rfl (lv_at hl 0 rfl) ?_
  refine va_get (D := D) (ci := 2) (v := .int (zi t_size)) (C := RX2) (T := TX2) (N := 2) hx hb hts zi_X2_growthOfRound_X2 hown hK hP 0 rfl rfl 1 (by decide) (hts (.fieldLink RX2 15 "DiamondRows$Endless" "size" "I") zl_X2_growthOfRound_15) (fun _ h9 => h9) rfl dX2_growthOfRound_3 ?_
  refine zv_iconst hx hb dX2_growthOfRound_6 ?_
  refine zv_iadd hx hb dX2_growthOfRound_7 ?_
  obtain ⟨o1, ho1, hg⟩ := Go_b hg
  refine zc_vl (rest := []) ⟨hx, hb, hml, hown, hts⟩ (zc_X2_entryAt l D κ t t_size t_numbers (0 : Int) (t_size + (1 : Int)) o1 ho1) (cwV 2 hts gX2_growthOfRound_X2_entryAt rfl rfl rfl (by decide +kernel) ⟨Nat.le_of_ble_eq_true rfl, Nat.le_of_ble_eq_true rfl⟩) (zpreV hK (hP.sub [0, 1] rfl) 2 0 rfl rfl) rfl hl.1 rfl (Nat.le_of_ble_eq_true rfl) dX2_growthOfRound_8 ⟨Nat.zero_le _, Nat.zero_le _⟩ ?_
  refine lv_aload_n hx hb dX2_growthOfRound_11 rfl (lv_at hl 0 rfl) ?_
  refine zv_iconst hx hb dX2_growthOfRound_12 ?_
  refine lv_aload_n hx hb dX2_growthOfRound_13 rfl (lv_at hl 0 rfl) ?_
  refine va_get (D := D) (ci := 2) (v := .int (zi t_size)) (C := RX2) (T := TX2) (N := 2) hx hb hts zi_X2_growthOfRound_X2 hown hK hP 0 rfl rfl 1 (by decide) (hts (.fieldLink RX2 15 "DiamondRows$Endless" "size" "I") zl_X2_growthOfRound_15) (fun _ h9 => h9) rfl dX2_growthOfRound_14 ?_
  refine zv_iconst hx hb dX2_growthOfRound_17 ?_
  refine zv_isub hx hb dX2_growthOfRound_18 ?_
  obtain ⟨o2, ho2, hg⟩ := Go_b hg
  refine zc_vl (rest := [.long (zl o1)]) ⟨hx, hb, hml, hown, hts⟩ (zc_X2_entryAt l D κ t t_size t_numbers (1 : Int) (t_size - (1 : Int)) o2 ho2) (cwV 2 hts gX2_growthOfRound_X2_entryAt rfl rfl rfl (by decide +kernel) ⟨Nat.le_of_ble_eq_true rfl, Nat.le_of_ble_eq_true rfl⟩) (zpreV hK (hP.sub [0, 1] rfl) 2 0 rfl rfl) rfl hl.1 rfl (Nat.le_of_ble_eq_true rfl) dX2_growthOfRound_19 ⟨Nat.zero_le _, Nat.zero_le _⟩ ?_
  refine zv_lsub hx hb dX2_growthOfRound_22 ?_
  exact (Go_s hg) _ _ dX2_growthOfRound_23
set_option maxHeartbeats 4000000 in
set_option maxRecDepth 100000 in
theorem zc_X2_growthOfRound (l : Launch) (D : va_G) (κ : Nat → ClassId) (t : Nat → Nat) (t_size : Int) (t_numbers : Nat)  (out : Int) (h : zf_X2_growthOfRound t_size t_numbers  = some out) : Met l yX2_growthOfRound wsX2_growthOfRound zr_X2_growthOfRound (va_Pc [.ref (t 0)] (zR D κ ([((t 0), .inr (2, [.ref (t 1), .int (zi t_size)])), ((t 1), .inl (κ 1, 10, .inl (zc t_numbers)))]))) (vp_Sl (fun x => x = zl out)) 0 0 (fun _ => False) := by
  refine Met.ofW (cc := cX2_growthOfRound) (maxL := 1) (ret := (some .long)) (by decide +kernel) rfl ?_
  intro p e s m args below meth c s₁ B hml hv
  obtain ⟨rfl, hP, hK⟩ := hv
  have hx := B.exec
  have hb := B.bytes
  have hr := B.returns
  have hts := atoms_spec (ws := wsX2_growthOfRound) B.pre
  have hown : s.vm.findClass RX2 = some m.cls := findClass_of_methodNamed B.named
  have hlocks := B.notSynchronized
  have hl := lv_entry ([.ref (t 0)]) (n := 1) (Nat.le_of_ble_eq_true rfl)
  rw [lg_entry_eq]
  generalize (lg_sl ([.ref (t 0)]) ++ List.replicate (1 - (lg_sl ([.ref (t 0)])).length) Slot.unset).toArray = ls at hl ⊢
  have hl : lv_has ls 1 [(0, .ref (t 0))] := hl
  refine zs_X2_growthOfRound t t_size t_numbers  hx hb hml hown hts hK hP ls hl ⟨out, h, ?_⟩
  exact fun ls pc hd => W.lret hx hb hr (fun t ht hW => ⟨_, rfl, rfl, ht⟩) (fun _ h => by cases h) hd
/-! DiamondRows$Endless.canGlue(I)Z -/
abbrev zr_X2_canGlue : Room := { frames := 3, cells := 0, slots := 0, locals := 64 }
noncomputable def zf_X2_canGlue  (t_size : Int) (t_numbers : Nat) (i1 : Int) : Option (Bool) :=
  if zout t_size then none else
  if t_size < (10 : Int) then
  if t_size = (1 : Int) then
  Option.bind (zf_X2_at t_size t_numbers i1) (fun o8 =>
  if zout (o8 + (2 : Int)) then none else
  if (20 : Int) < (o8 + (2 : Int)) then
  some (false)
  else
  Option.bind (zf_X2_at t_size t_numbers (i1 + (1 : Int))) (fun o10 =>
  if zout (o10 + (2 : Int)) then none else
  if (20 : Int) < (o10 + (2 : Int)) then
  some (false)
  else
  some (true)))
  else
  Option.bind (zf_X2_at t_size t_numbers i1) (fun o2 =>
  if zout (o2 + (1 : Int)) then none else
  if (20 : Int) < (o2 + (1 : Int)) then
  some (false)
  else
  Option.bind (zf_X2_at t_size t_numbers (i1 + (1 : Int))) (fun o4 =>
  if zout (o4 + (1 : Int)) then none else
  if (20 : Int) < (o4 + (1 : Int)) then
  some (false)
  else
  some (true)))
  else
  some (false)
theorem zi_X2_canGlue_X2 : ∀ w ∈ u_ws RX2 TX2 2, w ∈ wsX2_canGlue := by decide +kernel
theorem zl_X2_canGlue_15 : Cond.fieldLink RX2 15 "DiamondRows$Endless" "size" "I" ∈ wsX2_canGlue := by decide +kernel
def zQ_X2_canGlue (p : Program) (l : Launch) (e : Env) (s : State) (m : MethodId) (args : Array Value) (below : List Frame) (meth : Method) (c : Code) (Q : State → Prop) (H : Heap) (locs : List Loc)  (o : Bool) : Prop := ∀ (ls : Array Slot) (pc : Nat), decode cX2_canGlue pc = .ok (.ireturn, 1) → W p l e zr_X2_canGlue s m args below meth c H locs 0 0 Q (F0 m pc ls [.int (zi (bI o))])
set_option maxHeartbeats 4000000 in
set_option maxRecDepth 100000 in
theorem zs_X2_canGlue {p : Program} {l : Launch} {e : Env} {s : State} {m : MethodId} {args : Array Value} {below : List Frame} {meth : Method} {c : Code} {Q : State → Prop} {D : va_G} {κ : Nat → ClassId} {H : Heap} {locs : List Loc} (t : Nat → Nat) (t_size : Int) (t_numbers : Nat) (i1 : Int) (hx : p.tables.exec = Jvm.exec) (hb : c.code = cX2_canGlue) (hml : c.maxLocals = 3) (hown : s.vm.findClass RX2 = some m.cls) (hts : ∀ w ∈ wsX2_canGlue, w.before args s = true) (hK : va_K D vwCl (zTY κ) s) (hP : va_P D vwCl ([((t 0), .inr (2, [.ref (t 1), .int (zi t_size)])), ((t 1), .inl (κ 1, 10, .inl (zc t_numbers)))]) H) (ls : Array Slot) (hl : lv_has ls 3 [(0, .ref (t 0)), (1, .int (zi i1))]) (hg : Go (zQ_X2_canGlue p l e s m args below meth c Q H locs) (zf_X2_canGlue t_size t_numbers i1)) : W p l e zr_X2_canGlue s m args below meth c H locs 0 0 Q (F0 m 0 ls []) := by
  unfold zf_X2_canGlue at hg
  refine lv_aload_n hx hb dX2_canGlue_0 rfl (lv_at hl 0 rfl) ?_
  refine va_get (D := D) (ci := 2) (v := .int (zi t_size)) (C := RX2) (T := TX2) (N := 2) hx hb hts zi_X2_canGlue_X2 hown hK hP 0 rfl rfl 1 (by decide) (hts (.fieldLink RX2 15 "DiamondRows$Endless" "size" "I") zl_X2_canGlue_15) (fun _ h9 => h9) rfl dX2_canGlue_1 ?_
  refine zv_bipush hx hb dX2_canGlue_4 (by decide) ?_
  obtain ⟨b1, hg⟩ := Go_n hg
  refine zv_icmp_lt (tgt := 11) hx hb dX2_canGlue_6 (by decide) b1 (by decide) (fun c15 => ?_) (fun c15 => ?_)
  · have hg := Go_t c15 hg
    refine lv_aload_n hx hb dX2_canGlue_11 rfl (lv_at hl 0 rfl) ?_
    refine va_get (D := D) (ci := 2) (v := .int (zi t_size)) (C := RX2) (T := TX2) (N := 2) hx hb hts zi_X2_canGlue_X2 hown hK hP 0 rfl rfl 1 (by decide) (hts (.fieldLink RX2 15 "DiamondRows$Endless" "size" "I") zl_X2_canGlue_15) (fun _ h9 => h9) rfl dX2_canGlue_12 ?_
    refine zv_iconst hx hb dX2_canGlue_15 ?_
    refine zv_icmp_ne (tgt := 23) hx hb dX2_canGlue_16 (by decide) b1 (by decide) (fun c14 => ?_) (fun c14 => ?_)
    · have hg := Go_f c14 hg
      refine zv_iconst hx hb dX2_canGlue_23 ?_
      refine lv_istore_n (lv' := [(2, .int (zi (1 : Int))), (0, .ref (t 0)), (1, .int (zi i1))]) hx hb dX2_canGlue_24 rfl hl (by decide) rfl (fun ls hl => ?_)
      refine lv_aload_n hx hb dX2_canGlue_25 rfl (lv_at hl 1 rfl) ?_
      refine lv_iload_n hx hb dX2_canGlue_26 rfl (lv_at hl 2 rfl) ?_
      obtain ⟨o2, ho2, hg⟩ := Go_b hg
      refine zc_vi (rest := []) ⟨hx, hb, hml, hown, hts⟩ (zc_X2_at l D κ t t_size t_numbers i1 o2 ho2) (cwV 1 hts gX2_canGlue_X2_at rfl rfl rfl (by decide +kernel) ⟨Nat.le_of_ble_eq_true rfl, Nat.le_of_ble_eq_true rfl⟩) (zpreV hK (hP.sub [0, 1] rfl) 2 0 rfl rfl) rfl hl.1 rfl (Nat.le_of_ble_eq_true rfl) dX2_canGlue_27 ⟨Nat.zero_le _, Nat.zero_le _⟩ ?_
      refine lv_iload_n hx hb dX2_canGlue_30 rfl (lv_at hl 0 rfl) ?_
      refine zv_iadd hx hb dX2_canGlue_31 ?_
      refine zv_bipush hx hb dX2_canGlue_32 (by decide) ?_
      obtain ⟨b3, hg⟩ := Go_n hg
      refine zv_icmp_gt (tgt := 55) hx hb dX2_canGlue_34 (by decide) b3 (by decide) (fun c7 => ?_) (fun c7 => ?_)
      · have hg := Go_t c7 hg
        refine zv_iconst hx hb dX2_canGlue_55 ?_
        exact (Go_s hg) _ _ dX2_canGlue_56
      · have hg := Go_f c7 hg
        refine lv_aload_n hx hb dX2_canGlue_37 rfl (lv_at hl 1 rfl) ?_
        refine lv_iload_n hx hb dX2_canGlue_38 rfl (lv_at hl 2 rfl) ?_
        refine zv_iconst hx hb dX2_canGlue_39 ?_
        refine zv_iadd hx hb dX2_canGlue_40 ?_
        obtain ⟨o4, ho4, hg⟩ := Go_b hg
        refine zc_vi (rest := []) ⟨hx, hb, hml, hown, hts⟩ (zc_X2_at l D κ t t_size t_numbers (i1 + (1 : Int)) o4 ho4) (cwV 1 hts gX2_canGlue_X2_at rfl rfl rfl (by decide +kernel) ⟨Nat.le_of_ble_eq_true rfl, Nat.le_of_ble_eq_true rfl⟩) (zpreV hK (hP.sub [0, 1] rfl) 2 0 rfl rfl) rfl hl.1 rfl (Nat.le_of_ble_eq_true rfl) dX2_canGlue_41 ⟨Nat.zero_le _, Nat.zero_le _⟩ ?_
        refine lv_iload_n hx hb dX2_canGlue_44 rfl (lv_at hl 0 rfl) ?_
        refine zv_iadd hx hb dX2_canGlue_45 ?_
        refine zv_bipush hx hb dX2_canGlue_46 (by decide) ?_
        obtain ⟨b5, hg⟩ := Go_n hg
        refine zv_icmp_gt (tgt := 55) hx hb dX2_canGlue_48 (by decide) b5 (by decide) (fun c6 => ?_) (fun c6 => ?_)
        · have hg := Go_t c6 hg
          refine zv_iconst hx hb dX2_canGlue_55 ?_
          exact (Go_s hg) _ _ dX2_canGlue_56
        · have hg := Go_f c6 hg
          refine zv_iconst hx hb dX2_canGlue_51 ?_
          refine lv_goto (tgt := 56) hx hb dX2_canGlue_52 (by decide) ?_
          exact (Go_s hg) _ _ dX2_canGlue_56
    · have hg := Go_t c14 hg
      refine zv_iconst hx hb dX2_canGlue_19 ?_
      refine lv_goto (tgt := 24) hx hb dX2_canGlue_20 (by decide) ?_
      refine lv_istore_n (lv' := [(2, .int (zi (2 : Int))), (0, .ref (t 0)), (1, .int (zi i1))]) hx hb dX2_canGlue_24 rfl hl (by decide) rfl (fun ls hl => ?_)
      refine lv_aload_n hx hb dX2_canGlue_25 rfl (lv_at hl 1 rfl) ?_
      refine lv_iload_n hx hb dX2_canGlue_26 rfl (lv_at hl 2 rfl) ?_
      obtain ⟨o8, ho8, hg⟩ := Go_b hg
      refine zc_vi (rest := []) ⟨hx, hb, hml, hown, hts⟩ (zc_X2_at l D κ t t_size t_numbers i1 o8 ho8) (cwV 1 hts gX2_canGlue_X2_at rfl rfl rfl (by decide +kernel) ⟨Nat.le_of_ble_eq_true rfl, Nat.le_of_ble_eq_true rfl⟩) (zpreV hK (hP.sub [0, 1] rfl) 2 0 rfl rfl) rfl hl.1 rfl (Nat.le_of_ble_eq_true rfl) dX2_canGlue_27 ⟨Nat.zero_le _, Nat.zero_le _⟩ ?_
      refine lv_iload_n hx hb dX2_canGlue_30 rfl (lv_at hl 0 rfl) ?_
      refine zv_iadd hx hb dX2_canGlue_31 ?_
      refine zv_bipush hx hb dX2_canGlue_32 (by decide) ?_
      obtain ⟨b9, hg⟩ := Go_n hg
      refine zv_icmp_gt (tgt := 55) hx hb dX2_canGlue_34 (by decide) b9 (by decide) (fun c13 => ?_) (fun c13 => ?_)
      · have hg := Go_t c13 hg
        refine zv_iconst hx hb dX2_canGlue_55 ?_
        exact (Go_s hg) _ _ dX2_canGlue_56
      · have hg := Go_f c13 hg
        refine lv_aload_n hx hb dX2_canGlue_37 rfl (lv_at hl 1 rfl) ?_
        refine lv_iload_n hx hb dX2_canGlue_38 rfl (lv_at hl 2 rfl) ?_
        refine zv_iconst hx hb dX2_canGlue_39 ?_
        refine zv_iadd hx hb dX2_canGlue_40 ?_
        obtain ⟨o10, ho10, hg⟩ := Go_b hg
        refine zc_vi (rest := []) ⟨hx, hb, hml, hown, hts⟩ (zc_X2_at l D κ t t_size t_numbers (i1 + (1 : Int)) o10 ho10) (cwV 1 hts gX2_canGlue_X2_at rfl rfl rfl (by decide +kernel) ⟨Nat.le_of_ble_eq_true rfl, Nat.le_of_ble_eq_true rfl⟩) (zpreV hK (hP.sub [0, 1] rfl) 2 0 rfl rfl) rfl hl.1 rfl (Nat.le_of_ble_eq_true rfl) dX2_canGlue_41 ⟨Nat.zero_le _, Nat.zero_le _⟩ ?_
        refine lv_iload_n hx hb dX2_canGlue_44 rfl (lv_at hl 0 rfl) ?_
        refine zv_iadd hx hb dX2_canGlue_45 ?_
        refine zv_bipush hx hb dX2_canGlue_46 (by decide) ?_
        obtain ⟨b11, hg⟩ := Go_n hg
        refine zv_icmp_gt (tgt := 55) hx hb dX2_canGlue_48 (by decide) b11 (by decide) (fun c12 => ?_) (fun c12 => ?_)
        · have hg := Go_t c12 hg
          refine zv_iconst hx hb dX2_canGlue_55 ?_
          exact (Go_s hg) _ _ dX2_canGlue_56
        · have hg := Go_f c12 hg
          refine zv_iconst hx hb dX2_canGlue_51 ?_
          refine lv_goto (tgt := 56) hx hb dX2_canGlue_52 (by decide) ?_
          exact (Go_s hg) _ _ dX2_canGlue_56
  · have hg := Go_f c15 hg
    refine zv_iconst hx hb dX2_canGlue_9 ?_
    exact (Go_s hg) _ _ dX2_canGlue_10
set_option maxHeartbeats 4000000 in
set_option maxRecDepth 100000 in
theorem zc_X2_canGlue (l : Launch) (D : va_G) (κ : Nat → ClassId) (t : Nat → Nat) (t_size : Int) (t_numbers : Nat) (i1 : Int) (out : Bool) (h : zf_X2_canGlue t_size t_numbers i1 = some out) : Met l yX2_canGlue wsX2_canGlue zr_X2_canGlue (va_Pc [.ref (t 0), .int (zi i1)] (zR D κ ([((t 0), .inr (2, [.ref (t 1), .int (zi t_size)])), ((t 1), .inl (κ 1, 10, .inl (zc t_numbers)))]))) (vp_Si (fun x => x = zi (bI out))) 0 0 (fun _ => False) := by
  refine Met.ofW (cc := cX2_canGlue) (maxL := 3) (ret := (some .boolean)) (by decide +kernel) rfl ?_
  intro p e s m args below meth c s₁ B hml hv
  obtain ⟨rfl, hP, hK⟩ := hv
  have hx := B.exec
  have hb := B.bytes
  have hr := B.returns
  have hts := atoms_spec (ws := wsX2_canGlue) B.pre
  have hown : s.vm.findClass RX2 = some m.cls := findClass_of_methodNamed B.named
  have hlocks := B.notSynchronized
  have hl := lv_entry ([.ref (t 0), .int (zi i1)]) (n := 3) (Nat.le_of_ble_eq_true rfl)
  rw [lg_entry_eq]
  generalize (lg_sl ([.ref (t 0), .int (zi i1)]) ++ List.replicate (3 - (lg_sl ([.ref (t 0), .int (zi i1)])).length) Slot.unset).toArray = ls at hl ⊢
  have hl : lv_has ls 3 [(0, .ref (t 0)), (1, .int (zi i1))] := hl
  refine zs_X2_canGlue t t_size t_numbers i1 hx hb hml hown hts hK hP ls hl ⟨out, h, ?_⟩
  exact fun ls pc hd => W.zret hx hb hr (bI_nar _) (fun t ht hW => ⟨_, rfl, rfl, ht⟩) (fun _ h => by cases h) hd
/-! DiamondRows$Endless.glueBehind(I)I -/
abbrev zr_X2_glueBehind : Room := { frames := 4, cells := 0, slots := 0, locals := 86 }
abbrev zS_X2_glueBehind : Type := Nat × Int × Int × Int × Nat
abbrev zO_X2_glueBehind : Type := Int × Int × Nat
noncomputable def zg_X2_glueBehind_0   (i1 : Int) (i2 : Int) (t_size : Int) (t_numbers : Nat) : Option (zO_X2_glueBehind ⊕ zS_X2_glueBehind) :=
  Option.bind (zf_X2_hasPlace t_size i1) (fun o1 =>
  if o1 = false then
  some (.inl (t_size, t_size, t_numbers))
  else
  Option.bind (zf_X2_canGlue t_size t_numbers i1) (fun o2 =>
  if o2 = false then
  some (.inl (t_size, t_size, t_numbers))
  else
  if i1 < 0 ∨ 10 ≤ i1 then none else
  Option.bind (zf_X2_wrapped t_size (i1 + (1 : Int))) (fun o4 =>
  if o4 < 0 ∨ 10 ≤ o4 then none else
  some (.inr (52, i1, t_size, t_size, (zset (zset t_numbers (Int.toNat i1) ((zget t_numbers (Int.toNat i1)) + (1 : Int))) (Int.toNat o4) ((zget (zset t_numbers (Int.toNat i1) ((zget t_numbers (Int.toNat i1)) + (1 : Int))) (Int.toNat o4)) + (1 : Int))))))))
noncomputable def zg_X2_glueBehind_52   (i1 : Int) (i2 : Int) (t_size : Int) (t_numbers : Nat) : Option (zO_X2_glueBehind ⊕ zS_X2_glueBehind) :=
  if zout i2 then none else
  if zout (i1 + (1 : Int)) then none else
  if i2 ≤ (i1 + (1 : Int)) then
  if (i1 + (1 : Int)) < 0 ∨ 10 ≤ (i1 + (1 : Int)) then none else
  some (.inl ((t_size + (1 : Int)), (t_size + (1 : Int)), (zset t_numbers (Int.toNat (i1 + (1 : Int))) (1 : Int))))
  else
  if (i2 - (1 : Int)) < 0 ∨ 10 ≤ (i2 - (1 : Int)) then none else
  if i2 < 0 ∨ 10 ≤ i2 then none else
  some (.inr (52, i1, (i2 + (-1 : Int)), t_size, (zset t_numbers (Int.toNat i2) (zget t_numbers (Int.toNat (i2 - (1 : Int)))))))
noncomputable def zg_X2_glueBehind   (st : zS_X2_glueBehind) : Option (zO_X2_glueBehind ⊕ zS_X2_glueBehind) := match st with
  | (lab, i1, i2, t_size, t_numbers) => if lab = 0 then zg_X2_glueBehind_0  i1 i2 t_size t_numbers else if lab = 52 then zg_X2_glueBehind_52  i1 i2 t_size t_numbers else none
noncomputable def zf_X2_glueBehind  (t_size : Int) (t_numbers : Nat) (i1 : Int) : Option (Int × Int × Nat) := jrun (zg_X2_glueBehind ) jfuel (0, i1, 0, t_size, t_numbers)
theorem zi_X2_glueBehind_X2 : ∀ w ∈ u_ws RX2 TX2 2, w ∈ wsX2_glueBehind := by decide +kernel
theorem zl_X2_glueBehind_11 : Cond.fieldLink RX2 11 "DiamondRows$Endless" "numbers" "[I" ∈ wsX2_glueBehind := by decide +kernel
theorem zl_X2_glueBehind_15 : Cond.fieldLink RX2 15 "DiamondRows$Endless" "size" "I" ∈ wsX2_glueBehind := by decide +kernel
def zQ_X2_glueBehind (p : Program) (l : Launch) (e : Env) (s : State) (m : MethodId) (args : Array Value) (below : List Frame) (meth : Method) (c : Code) (Q : State → Prop) (D : va_G) (κ : Nat → ClassId) (A : Nat → Prop) (H0 : Heap) (t : Nat → Nat)  (o : Int × Int × Nat) : Prop := ∀ (H : Heap) (locs : List Loc) (ls : Array Slot) (pc : Nat), va_P D vwCl ([((t 0), .inr (2, [.ref (t 1), .int (zi (o.2.1))])), ((t 1), .inl (κ 1, 10, .inl (zc (o.2.2))))]) H → va_D A ([((t 0), .inr (2, [.ref (t 1), .int (zi (o.2.1))])), ((t 1), .inl (κ 1, 10, .inl (zc (o.2.2))))]) → va_S A H0 H locs → decode cX2_glueBehind pc = .ok (.ireturn, 1) → W p l e zr_X2_glueBehind s m args below meth c H locs 0 0 Q (F0 m pc ls [.int (zi (o.1))])
def zA_X2_glueBehind_0 (p : Program) (l : Launch) (e : Env) (s : State) (m : MethodId) (args : Array Value) (below : List Frame) (meth : Method) (c : Code) (Q : State → Prop) (D : va_G) (κ : Nat → ClassId) (A : Nat → Prop) (H0 : Heap) (t : Nat → Nat)  (i1 : Int) (i2 : Int) (t_size : Int) (t_numbers : Nat) : Prop := ∀ (H : Heap) (locs : List Loc) (ls : Array Slot), va_P D vwCl ([((t 0), .inr (2, [.ref (t 1), .int (zi t_size)])), ((t 1), .inl (κ 1, 10, .inl (zc t_numbers)))]) H → va_D A ([((t 0), .inr (2, [.ref (t 1), .int (zi t_size)])), ((t 1), .inl (κ 1, 10, .inl (zc t_numbers)))]) → va_S A H0 H locs → lv_has ls 3 [(0, .ref (t 0)), (1, .int (zi i1))] → W p l e zr_X2_glueBehind s m args below meth c H locs 0 0 Q (F0 m 0 ls [])
def zA_X2_glueBehind_52 (p : Program) (l : Launch) (e : Env) (s : State) (m : MethodId) (args : Array Value) (below : List Frame) (meth : Method) (c : Code) (Q : State → Prop) (D : va_G) (κ : Nat → ClassId) (A : Nat → Prop) (H0 : Heap) (t : Nat → Nat)  (i1 : Int) (i2 : Int) (t_size : Int) (t_numbers : Nat) : Prop := ∀ (H : Heap) (locs : List Loc) (ls : Array Slot), va_P D vwCl ([((t 0), .inr (2, [.ref (t 1), .int (zi t_size)])), ((t 1), .inl (κ 1, 10, .inl (zc t_numbers)))]) H → va_D A ([((t 0), .inr (2, [.ref (t 1), .int (zi t_size)])), ((t 1), .inl (κ 1, 10, .inl (zc t_numbers)))]) → va_S A H0 H locs → lv_has ls 3 [(0, .ref (t 0)), (1, .int (zi i1)), (2, .int (zi i2))] → W p l e zr_X2_glueBehind s m args below meth c H locs 0 0 Q (F0 m 52 ls [])
def zA_X2_glueBehind (p : Program) (l : Launch) (e : Env) (s : State) (m : MethodId) (args : Array Value) (below : List Frame) (meth : Method) (c : Code) (Q : State → Prop) (D : va_G) (κ : Nat → ClassId) (A : Nat → Prop) (H0 : Heap) (t : Nat → Nat)  (st : zS_X2_glueBehind) : Prop := match st with
  | (lab, i1, i2, t_size, t_numbers) => if lab = 0 then zA_X2_glueBehind_0 p l e s m args below meth c Q D κ A H0 t  i1 i2 t_size t_numbers else if lab = 52 then zA_X2_glueBehind_52 p l e s m args below meth c Q D κ A H0 t  i1 i2 t_size t_numbers else True
set_option maxHeartbeats 4000000 in
set_option maxRecDepth 100000 in
theorem zs_X2_glueBehind_0 {p : Program} {l : Launch} {e : Env} {s : State} {m : MethodId} {args : Array Value} {below : List Frame} {meth : Method} {c : Code} {Q : State → Prop} {D : va_G} {κ : Nat → ClassId} {A : Nat → Prop} {H0 : Heap} (t : Nat → Nat)  (hx : p.tables.exec = Jvm.exec) (hb : c.code = cX2_glueBehind) (hml : c.maxLocals = 3) (hown : s.vm.findClass RX2 = some m.cls) (hts : ∀ w ∈ wsX2_glueBehind, w.before args s = true) (hK : va_K D vwCl (zTY κ) s) (hA : ∀ q : Nat, H0.size ≤ q → A q) (i1 : Int) (i2 : Int) (t_size : Int) (t_numbers : Nat) (hg : Go (GoE (zA_X2_glueBehind p l e s m args below meth c Q D κ A H0 t ) (zQ_X2_glueBehind p l e s m args below meth c Q D κ A H0 t )) (zg_X2_glueBehind_0  i1 i2 t_size t_numbers)) : zA_X2_glueBehind_0 p l e s m args below meth c Q D κ A H0 t  i1 i2 t_size t_numbers := by
  intro H locs ls hP hD hS hl
  unfold zg_X2_glueBehind_0 at hg
  refine lv_aload_n hx hb dX2_glueBehind_0 rfl (lv_at hl 0 rfl) ?_
  refine lv_iload_n hx hb dX2_glueBehind_1 rfl (lv_at hl 1 rfl) ?_
  obtain ⟨o1, ho1, hg⟩ := Go_b hg
  refine zc_vi (rest := []) ⟨hx, hb, hml, hown, hts⟩ (zc_X2_hasPlace l D κ t t_size t_numbers i1 o1 ho1) (cwV 1 hts gX2_glueBehind_X2_hasPlace rfl rfl rfl (by decide +kernel) ⟨Nat.le_of_ble_eq_true rfl, Nat.le_of_ble_eq_true rfl⟩) (zpreV hK (hP.sub [0, 1] rfl) 2 0 rfl rfl) rfl hl.1 rfl (Nat.le_of_ble_eq_true rfl) dX2_glueBehind_2 ⟨Nat.zero_le _, Nat.zero_le _⟩ ?_
  refine zv_ifb_eq (tgt := 16) hx hb dX2_glueBehind_5 (by decide) (fun c7 => ?_) (fun c7 => ?_)
  · have hg := Go_t c7 hg
    refine lv_aload_n hx hb dX2_glueBehind_16 rfl (lv_at hl 0 rfl) ?_
    refine va_get (D := D) (ci := 2) (v := .int (zi t_size)) (C := RX2) (T := TX2) (N := 2) hx hb hts zi_X2_glueBehind_X2 hown hK hP 0 rfl rfl 1 (by decide) (hts (.fieldLink RX2 15 "DiamondRows$Endless" "size" "I") zl_X2_glueBehind_15) (fun _ h9 => h9) rfl dX2_glueBehind_17 ?_
    exact (Go_s hg) _ _ _ _ hP hD hS dX2_glueBehind_20
  · have hg := Go_f c7 hg
    refine lv_aload_n hx hb dX2_glueBehind_8 rfl (lv_at hl 0 rfl) ?_
    refine lv_iload_n hx hb dX2_glueBehind_9 rfl (lv_at hl 1 rfl) ?_
    obtain ⟨o2, ho2, hg⟩ := Go_b hg
    refine zc_vi (rest := []) ⟨hx, hb, hml, hown, hts⟩ (zc_X2_canGlue l D κ t t_size t_numbers i1 o2 ho2) (cwV 1 hts gX2_glueBehind_X2_canGlue rfl rfl rfl (by decide +kernel) ⟨Nat.le_of_ble_eq_true rfl, Nat.le_of_ble_eq_true rfl⟩) (zpreV hK (hP.sub [0, 1] rfl) 2 0 rfl rfl) rfl hl.1 rfl (Nat.le_of_ble_eq_true rfl) dX2_glueBehind_10 ⟨Nat.zero_le _, Nat.zero_le _⟩ ?_
    refine zv_ifb_ne (tgt := 21) hx hb dX2_glueBehind_13 (by decide) (fun c6 => ?_) (fun c6 => ?_)
    · have hg := Go_f c6 hg
      refine lv_aload_n hx hb dX2_glueBehind_21 rfl (lv_at hl 0 rfl) ?_
      refine va_get (D := D) (ci := 2) (v := .ref (t 1)) (C := RX2) (T := TX2) (N := 2) hx hb hts zi_X2_glueBehind_X2 hown hK hP 0 rfl rfl 0 (by decide) (hts (.fieldLink RX2 11 "DiamondRows$Endless" "numbers" "[I") zl_X2_glueBehind_11) (fun _ h9 => h9) rfl dX2_glueBehind_22 ?_
      refine lv_iload_n hx hb dX2_glueBehind_25 rfl (lv_at hl 1 rfl) ?_
      refine lv_dup2_11 hx hb dX2_glueBehind_26 rfl rfl ?_
      obtain ⟨n3, hg⟩ := Go_n hg
      refine zv_iald hx hb hK hP 1 1 rfl rfl (by decide) n3 dX2_glueBehind_27 ?_
      refine zv_iconst hx hb dX2_glueBehind_28 ?_
      refine zv_iadd hx hb dX2_glueBehind_29 ?_
      refine zv_iast hx hb hK hP hD hS 1 1 rfl rfl (by decide) n3 dX2_glueBehind_30 (fun H locs hP hD hS => ?_)
      have hP : va_P D vwCl ([((t 0), .inr (2, [.ref (t 1), .int (zi t_size)])), ((t 1), .inl (κ 1, 10, .inl (zc (zset t_numbers (Int.toNat i1) ((zget t_numbers (Int.toNat i1)) + (1 : Int))))))]) H := hP
      have hD : va_D A ([((t 0), .inr (2, [.ref (t 1), .int (zi t_size)])), ((t 1), .inl (κ 1, 10, .inl (zc (zset t_numbers (Int.toNat i1) ((zget t_numbers (Int.toNat i1)) + (1 : Int))))))]) := hD
      refine lv_aload_n hx hb dX2_glueBehind_31 rfl (lv_at hl 0 rfl) ?_
      refine va_get (D := D) (ci := 2) (v := .ref (t 1)) (C := RX2) (T := TX2) (N := 2) hx hb hts zi_X2_glueBehind_X2 hown hK hP 0 rfl rfl 0 (by decide) (hts (.fieldLink RX2 11 "DiamondRows$Endless" "numbers" "[I") zl_X2_glueBehind_11) (fun _ h9 => h9) rfl dX2_glueBehind_32 ?_
      refine lv_aload_n hx hb dX2_glueBehind_35 rfl (lv_at hl 0 rfl) ?_
      refine lv_iload_n hx hb dX2_glueBehind_36 rfl (lv_at hl 1 rfl) ?_
      refine zv_iconst hx hb dX2_glueBehind_37 ?_
      refine zv_iadd hx hb dX2_glueBehind_38 ?_
      obtain ⟨o4, ho4, hg⟩ := Go_b hg
      refine zc_vi (rest := [.ref (t 1)]) ⟨hx, hb, hml, hown, hts⟩ (zc_X2_wrapped l D κ t t_size (zset t_numbers (Int.toNat i1) ((zget t_numbers (Int.toNat i1)) + (1 : Int))) (i1 + (1 : Int)) o4 ho4) (cwV 1 hts gX2_glueBehind_X2_wrapped rfl rfl rfl (by decide +kernel) ⟨Nat.le_of_ble_eq_true rfl, Nat.le_of_ble_eq_true rfl⟩) (zpreV hK (hP.sub [0, 1] rfl) 2 0 rfl rfl) rfl hl.1 rfl (Nat.le_of_ble_eq_true rfl) dX2_glueBehind_39 ⟨Nat.zero_le _, Nat.zero_le _⟩ ?_
      refine lv_dup2_11 hx hb dX2_glueBehind_42 rfl rfl ?_
      obtain ⟨n5, hg⟩ := Go_n hg
      refine zv_iald hx hb hK hP 1 1 rfl rfl (by decide) n5 dX2_glueBehind_43 ?_
      refine zv_iconst hx hb dX2_glueBehind_44 ?_
      refine zv_iadd hx hb dX2_glueBehind_45 ?_
      refine zv_iast hx hb hK hP hD hS 1 1 rfl rfl (by decide) n5 dX2_glueBehind_46 (fun H locs hP hD hS => ?_)
      have hP : va_P D vwCl ([((t 0), .inr (2, [.ref (t 1), .int (zi t_size)])), ((t 1), .inl (κ 1, 10, .inl (zc (zset (zset t_numbers (Int.toNat i1) ((zget t_numbers (Int.toNat i1)) + (1 : Int))) (Int.toNat o4) ((zget (zset t_numbers (Int.toNat i1) ((zget t_numbers (Int.toNat i1)) + (1 : Int))) (Int.toNat o4)) + (1 : Int))))))]) H := hP
      have hD : va_D A ([((t 0), .inr (2, [.ref (t 1), .int (zi t_size)])), ((t 1), .inl (κ 1, 10, .inl (zc (zset (zset t_numbers (Int.toNat i1) ((zget t_numbers (Int.toNat i1)) + (1 : Int))) (Int.toNat o4) ((zget (zset t_numbers (Int.toNat i1) ((zget t_numbers (Int.toNat i1)) + (1 : Int))) (Int.toNat o4)) + (1 : Int))))))]) := hD
      refine lv_aload_n hx hb dX2_glueBehind_47 rfl (lv_at hl 0 rfl) ?_
      refine va_get (D := D) (ci := 2) (v := .int (zi t_size)) (C := RX2) (T := TX2) (N := 2) hx hb hts zi_X2_glueBehind_X2 hown hK hP 0 rfl rfl 1 (by decide) (hts (.fieldLink RX2 15 "DiamondRows$Endless" "size" "I") zl_X2_glueBehind_15) (fun _ h9 => h9) rfl dX2_glueBehind_48 ?_
      refine lv_istore_n (lv' := [(2, .int (zi t_size)), (0, .ref (t 0)), (1, .int (zi i1))]) hx hb dX2_glueBehind_51 rfl hl (by decide) rfl (fun ls hl => ?_)
      exact (Go_s hg) H locs ls hP hD hS (lv_sub hl [1, 2, 0] rfl)
    · have hg := Go_t c6 hg
      refine lv_aload_n hx hb dX2_glueBehind_16 rfl (lv_at hl 0 rfl) ?_
      refine va_get (D := D) (ci := 2) (v := .int (zi t_size)) (C := RX2) (T := TX2) (N := 2) hx hb hts zi_X2_glueBehind_X2 hown hK hP 0 rfl rfl 1 (by decide) (hts (.fieldLink RX2 15 "DiamondRows$Endless" "size" "I") zl_X2_glueBehind_15) (fun _ h9 => h9) rfl dX2_glueBehind_17 ?_
      exact (Go_s hg) _ _ _ _ hP hD hS dX2_glueBehind_20
set_option maxHeartbeats 4000000 in
set_option maxRecDepth 100000 in
theorem zs_X2_glueBehind_52 {p : Program} {l : Launch} {e : Env} {s : State} {m : MethodId} {args : Array Value} {below : List Frame} {meth : Method} {c : Code} {Q : State → Prop} {D : va_G} {κ : Nat → ClassId} {A : Nat → Prop} {H0 : Heap} (t : Nat → Nat)  (hx : p.tables.exec = Jvm.exec) (hb : c.code = cX2_glueBehind) (hml : c.maxLocals = 3) (hown : s.vm.findClass RX2 = some m.cls) (hts : ∀ w ∈ wsX2_glueBehind, w.before args s = true) (hK : va_K D vwCl (zTY κ) s) (hA : ∀ q : Nat, H0.size ≤ q → A q) (i1 : Int) (i2 : Int) (t_size : Int) (t_numbers : Nat) (hg : Go (GoE (zA_X2_glueBehind p l e s m args below meth c Q D κ A H0 t ) (zQ_X2_glueBehind p l e s m args below meth c Q D κ A H0 t )) (zg_X2_glueBehind_52  i1 i2 t_size t_numbers)) : zA_X2_glueBehind_52 p l e s m args below meth c Q D κ A H0 t  i1 i2 t_size t_numbers := by
  intro H locs ls hP hD hS hl
  unfold zg_X2_glueBehind_52 at hg
  refine lv_iload_n hx hb dX2_glueBehind_52 rfl (lv_at hl 2 rfl) ?_
  refine lv_iload_n hx hb dX2_glueBehind_53 rfl (lv_at hl 1 rfl) ?_
  refine zv_iconst hx hb dX2_glueBehind_54 ?_
  refine zv_iadd hx hb dX2_glueBehind_55 ?_
  obtain ⟨b8, hg⟩ := Go_n hg
  obtain ⟨b9, hg⟩ := Go_n hg
  refine zv_icmp_le (tgt := 79) hx hb dX2_glueBehind_56 (by decide) b8 b9 (fun c13 => ?_) (fun c13 => ?_)
  · have hg := Go_t c13 hg
    refine lv_aload_n hx hb dX2_glueBehind_79 rfl (lv_at hl 0 rfl) ?_
    refine va_get (D := D) (ci := 2) (v := .ref (t 1)) (C := RX2) (T := TX2) (N := 2) hx hb hts zi_X2_glueBehind_X2 hown hK hP 0 rfl rfl 0 (by decide) (hts (.fieldLink RX2 11 "DiamondRows$Endless" "numbers" "[I") zl_X2_glueBehind_11) (fun _ h9 => h9) rfl dX2_glueBehind_80 ?_
    refine lv_iload_n hx hb dX2_glueBehind_83 rfl (lv_at hl 1 rfl) ?_
    refine zv_iconst hx hb dX2_glueBehind_84 ?_
    refine zv_iadd hx hb dX2_glueBehind_85 ?_
    refine zv_iconst hx hb dX2_glueBehind_86 ?_
    obtain ⟨n10, hg⟩ := Go_n hg
    refine zv_iast hx hb hK hP hD hS 1 1 rfl rfl (by decide) n10 dX2_glueBehind_87 (fun H locs hP hD hS => ?_)
    have hP : va_P D vwCl ([((t 0), .inr (2, [.ref (t 1), .int (zi t_size)])), ((t 1), .inl (κ 1, 10, .inl (zc (zset t_numbers (Int.toNat (i1 + (1 : Int))) (1 : Int)))))]) H := hP
    have hD : va_D A ([((t 0), .inr (2, [.ref (t 1), .int (zi t_size)])), ((t 1), .inl (κ 1, 10, .inl (zc (zset t_numbers (Int.toNat (i1 + (1 : Int))) (1 : Int)))))]) := hD
    refine lv_aload_n hx hb dX2_glueBehind_88 rfl (lv_at hl 0 rfl) ?_
    refine lv_dup hx hb dX2_glueBehind_89 rfl ?_
    refine va_get (D := D) (ci := 2) (v := .int (zi t_size)) (C := RX2) (T := TX2) (N := 2) hx hb hts zi_X2_glueBehind_X2 hown hK hP 0 rfl rfl 1 (by decide) (hts (.fieldLink RX2 15 "DiamondRows$Endless" "size" "I") zl_X2_glueBehind_15) (fun _ h9 => h9) rfl dX2_glueBehind_90 ?_
    refine zv_iconst hx hb dX2_glueBehind_93 ?_
    refine zv_iadd hx hb dX2_glueBehind_94 ?_
    refine va_put (D := D) (ci := 2) (v := .int (zi (t_size + (1 : Int)))) (ty := .int) (C := RX2) (T := TX2) (N := 2) hx hb hts zi_X2_glueBehind_X2 tyX2 tyX2_ok nmX2 hown hK hP hD hS 0 rfl rfl 1 (by decide) (hts (.fieldLink RX2 15 "DiamondRows$Endless" "size" "I") zl_X2_glueBehind_15) (fun _ h9 => h9) rfl (by decide +kernel) rfl rfl (Nat.le_of_ble_eq_true rfl) dX2_glueBehind_95 (fun H locs hP hD hS => ?_)
    have hP : va_P D vwCl ([((t 0), .inr (2, [.ref (t 1), .int (zi (t_size + (1 : Int)))])), ((t 1), .inl (κ 1, 10, .inl (zc (zset t_numbers (Int.toNat (i1 + (1 : Int))) (1 : Int)))))]) H := hP
    have hD : va_D A ([((t 0), .inr (2, [.ref (t 1), .int (zi (t_size + (1 : Int)))])), ((t 1), .inl (κ 1, 10, .inl (zc (zset t_numbers (Int.toNat (i1 + (1 : Int))) (1 : Int)))))]) := hD
    refine lv_aload_n hx hb dX2_glueBehind_98 rfl (lv_at hl 0 rfl) ?_
    refine va_get (D := D) (ci := 2) (v := .int (zi (t_size + (1 : Int)))) (C := RX2) (T := TX2) (N := 2) hx hb hts zi_X2_glueBehind_X2 hown hK hP 0 rfl rfl 1 (by decide) (hts (.fieldLink RX2 15 "DiamondRows$Endless" "size" "I") zl_X2_glueBehind_15) (fun _ h9 => h9) rfl dX2_glueBehind_99 ?_
    exact (Go_s hg) _ _ _ _ hP hD hS dX2_glueBehind_102
  · have hg := Go_f c13 hg
    refine lv_aload_n hx hb dX2_glueBehind_59 rfl (lv_at hl 0 rfl) ?_
    refine va_get (D := D) (ci := 2) (v := .ref (t 1)) (C := RX2) (T := TX2) (N := 2) hx hb hts zi_X2_glueBehind_X2 hown hK hP 0 rfl rfl 0 (by decide) (hts (.fieldLink RX2 11 "DiamondRows$Endless" "numbers" "[I") zl_X2_glueBehind_11) (fun _ h9 => h9) rfl dX2_glueBehind_60 ?_
    refine lv_iload_n hx hb dX2_glueBehind_63 rfl (lv_at hl 2 rfl) ?_
    refine lv_aload_n hx hb dX2_glueBehind_64 rfl (lv_at hl 0 rfl) ?_
    refine va_get (D := D) (ci := 2) (v := .ref (t 1)) (C := RX2) (T := TX2) (N := 2) hx hb hts zi_X2_glueBehind_X2 hown hK hP 0 rfl rfl 0 (by decide) (hts (.fieldLink RX2 11 "DiamondRows$Endless" "numbers" "[I") zl_X2_glueBehind_11) (fun _ h9 => h9) rfl dX2_glueBehind_65 ?_
    refine lv_iload_n hx hb dX2_glueBehind_68 rfl (lv_at hl 2 rfl) ?_
    refine zv_iconst hx hb dX2_glueBehind_69 ?_
    refine zv_isub hx hb dX2_glueBehind_70 ?_
    obtain ⟨n11, hg⟩ := Go_n hg
    refine zv_iald hx hb hK hP 1 1 rfl rfl (by decide) n11 dX2_glueBehind_71 ?_
    obtain ⟨n12, hg⟩ := Go_n hg
    refine zv_iast hx hb hK hP hD hS 1 1 rfl rfl (by decide) n12 dX2_glueBehind_72 (fun H locs hP hD hS => ?_)
    have hP : va_P D vwCl ([((t 0), .inr (2, [.ref (t 1), .int (zi t_size)])), ((t 1), .inl (κ 1, 10, .inl (zc (zset t_numbers (Int.toNat i2) (zget t_numbers (Int.toNat (i2 - (1 : Int))))))))]) H := hP
    have hD : va_D A ([((t 0), .inr (2, [.ref (t 1), .int (zi t_size)])), ((t 1), .inl (κ 1, 10, .inl (zc (zset t_numbers (Int.toNat i2) (zget t_numbers (Int.toNat (i2 - (1 : Int))))))))]) := hD
    refine lv_iinc (v := zi (i2 + (-1 : Int))) (lv' := [(2, .int (zi (i2 + (-1 : Int)))), (0, .ref (t 0)), (1, .int (zi i1))]) hx hb dX2_glueBehind_73 hl (k := 2) rfl (zi_add i2 _) (by decide) rfl (fun ls hl => ?_)
    refine lv_goto (tgt := 52) hx hb dX2_glueBehind_76 (by decide) ?_
    exact (Go_s hg) H locs ls hP hD hS (lv_sub hl [1, 2, 0] rfl)
set_option maxHeartbeats 4000000 in
set_option maxRecDepth 100000 in
theorem zw_X2_glueBehind {p : Program} {l : Launch} {e : Env} {s : State} {m : MethodId} {args : Array Value} {below : List Frame} {meth : Method} {c : Code} {Q : State → Prop} {D : va_G} {κ : Nat → ClassId} {A : Nat → Prop} {H0 : Heap} (t : Nat → Nat)  (t_size : Int) (t_numbers : Nat) (i1 : Int) (hx : p.tables.exec = Jvm.exec) (hb : c.code = cX2_glueBehind) (hml : c.maxLocals = 3) (hown : s.vm.findClass RX2 = some m.cls) (hts : ∀ w ∈ wsX2_glueBehind, w.before args s = true) (hK : va_K D vwCl (zTY κ) s) (hA : ∀ q : Nat, H0.size ≤ q → A q) (out : Int × Int × Nat) (h : zf_X2_glueBehind t_size t_numbers i1 = some out) (hq : zQ_X2_glueBehind p l e s m args below meth c Q D κ A H0 t  out) : zA_X2_glueBehind_0 p l e s m args below meth c Q D κ A H0 t  i1 0 t_size t_numbers := by
  have hst : ∀ st : zS_X2_glueBehind, Go (GoE (zA_X2_glueBehind p l e s m args below meth c Q D κ A H0 t ) (zQ_X2_glueBehind p l e s m args below meth c Q D κ A H0 t )) (zg_X2_glueBehind  st) → zA_X2_glueBehind p l e s m args below meth c Q D κ A H0 t  st := by
    intro st hg
    obtain ⟨lab, i1, i2, t_size, t_numbers⟩ := st
    by_cases h0 : lab = 0
    · subst h0
      exact zs_X2_glueBehind_0 t  hx hb hml hown hts hK hA i1 i2 t_size t_numbers hg
    by_cases h52 : lab = 52
    · subst h52
      exact zs_X2_glueBehind_52 t  hx hb hml hown hts hK hA i1 i2 t_size t_numbers hg
    have hz : zg_X2_glueBehind  (lab, i1, i2, t_size, t_numbers) = none := by simp [zg_X2_glueBehind, h0, h52]
    rw [hz] at hg
    obtain ⟨a, h1, -⟩ := hg
    cases h1
  exact jwalk (At := zA_X2_glueBehind p l e s m args below meth c Q D κ A H0 t ) (Ret := zQ_X2_glueBehind p l e s m args below meth c Q D κ A H0 t ) hst _ _ _ h hq
set_option maxHeartbeats 4000000 in
set_option maxRecDepth 100000 in
theorem zc_X2_glueBehind (l : Launch) (D : va_G) (κ : Nat → ClassId) (t : Nat → Nat) (sz : Nat) (t_size : Int) (t_numbers : Nat) (i1 : Int) (out : Int × Int × Nat) (h : zf_X2_glueBehind t_size t_numbers i1 = some out) : Met l yX2_glueBehind wsX2_glueBehind zr_X2_glueBehind (va_Pc [.ref (t 0), .int (zi i1)] (zW D κ ([((t 0), .inr (2, [.ref (t 1), .int (zi t_size)])), ((t 1), .inl (κ 1, 10, .inl (zc t_numbers)))]) sz)) (va_Qi (fun r (_ : Unit) => r = zi (out.1)) (fun _ => zB D κ (va_A ([((t 0), .inr (2, [.ref (t 1), .int (zi t_size)])), ((t 1), .inl (κ 1, 10, .inl (zc t_numbers)))]) sz) ([((t 0), .inr (2, [.ref (t 1), .int (zi (out.2.1))])), ((t 1), .inl (κ 1, 10, .inl (zc (out.2.2))))])) (va_A ([((t 0), .inr (2, [.ref (t 1), .int (zi t_size)])), ((t 1), .inl (κ 1, 10, .inl (zc t_numbers)))]) sz)) 0 0 (va_A ([((t 0), .inr (2, [.ref (t 1), .int (zi t_size)])), ((t 1), .inl (κ 1, 10, .inl (zc t_numbers)))]) sz) := by
  refine Met.ofW (cc := cX2_glueBehind) (maxL := 3) (ret := (some .int)) (by decide +kernel) rfl ?_
  intro p e s m args below meth c s₁ B hml hv
  obtain ⟨rfl, hsz, hP, hK, hD0⟩ := hv
  have hx := B.exec
  have hb := B.bytes
  have hr := B.returns
  have hts := atoms_spec (ws := wsX2_glueBehind) B.pre
  have hown : s.vm.findClass RX2 = some m.cls := findClass_of_methodNamed B.named
  have hlocks := B.notSynchronized
  subst hsz
  have hD := hD0.self (sz := s.heap.size)
  generalize hAe : va_A ([((t 0), .inr (2, [.ref (t 1), .int (zi t_size)])), ((t 1), .inl (κ 1, 10, .inl (zc t_numbers)))]) s.heap.size = A at hD ⊢
  have hA : ∀ q : Nat, s.heap.size ≤ q → A q := fun q h => by rw [← hAe]; exact Or.inr h
  have hS : va_S A s.heap s.heap [] := va_S.rf
  have hl := lv_entry ([.ref (t 0), .int (zi i1)]) (n := 3) (Nat.le_of_ble_eq_true rfl)
  rw [lg_entry_eq]
  generalize (lg_sl ([.ref (t 0), .int (zi i1)]) ++ List.replicate (3 - (lg_sl ([.ref (t 0), .int (zi i1)])).length) Slot.unset).toArray = ls at hl ⊢
  have hl : lv_has ls 3 [(0, .ref (t 0)), (1, .int (zi i1))] := hl
  refine (zw_X2_glueBehind t  t_size t_numbers i1 hx hb hml hown hts hK hA out h ?_) s.heap [] ls hP hD hS (lv_sub hl [0, 1] rfl)
  exact fun H locs ls pc hP hD hS hd => W.iret hx hb hr (fun t ht hW => ⟨⟨_, (), rfl, rfl, by rw [ht]; exact hP, va_K.moved hW.alike hK, hD⟩, hS.F ht⟩) hS.2.2 hd
/-! DiamondRows$Endless.canLose(I)Z -/
abbrev zr_X2_canLose : Room := { frames := 3, cells := 0, slots := 0, locals := 64 }
noncomputable def zf_X2_canLose  (t_size : Int) (t_numbers : Nat) (i1 : Int) : Option (Bool) :=
  if zout t_size then none else
  if t_size < (3 : Int) then
  some (false)
  else
  Option.bind (zf_X2_at t_size t_numbers i1) (fun o2 =>
  if zout o2 then none else
  if o2 = (1 : Int) then
  Option.bind (zf_X2_at t_size t_numbers (i1 - (1 : Int))) (fun o4 =>
  if zout o4 then none else
  if o4 ≤ (1 : Int) then
  some (false)
  else
  Option.bind (zf_X2_at t_size t_numbers (i1 + (1 : Int))) (fun o6 =>
  if zout o6 then none else
  if o6 ≤ (1 : Int) then
  some (false)
  else
  some (true)))
  else
  some (false))
theorem zi_X2_canLose_X2 : ∀ w ∈ u_ws RX2 TX2 2, w ∈ wsX2_canLose := by decide +kernel
theorem zl_X2_canLose_15 : Cond.fieldLink RX2 15 "DiamondRows$Endless" "size" "I" ∈ wsX2_canLose := by decide +kernel
def zQ_X2_canLose (p : Program) (l : Launch) (e : Env) (s : State) (m : MethodId) (args : Array Value) (below : List Frame) (meth : Method) (c : Code) (Q : State → Prop) (H : Heap) (locs : List Loc)  (o : Bool) : Prop := ∀ (ls : Array Slot) (pc : Nat), decode cX2_canLose pc = .ok (.ireturn, 1) → W p l e zr_X2_canLose s m args below meth c H locs 0 0 Q (F0 m pc ls [.int (zi (bI o))])
set_option maxHeartbeats 4000000 in
set_option maxRecDepth 100000 in
theorem zs_X2_canLose {p : Program} {l : Launch} {e : Env} {s : State} {m : MethodId} {args : Array Value} {below : List Frame} {meth : Method} {c : Code} {Q : State → Prop} {D : va_G} {κ : Nat → ClassId} {H : Heap} {locs : List Loc} (t : Nat → Nat) (t_size : Int) (t_numbers : Nat) (i1 : Int) (hx : p.tables.exec = Jvm.exec) (hb : c.code = cX2_canLose) (hml : c.maxLocals = 2) (hown : s.vm.findClass RX2 = some m.cls) (hts : ∀ w ∈ wsX2_canLose, w.before args s = true) (hK : va_K D vwCl (zTY κ) s) (hP : va_P D vwCl ([((t 0), .inr (2, [.ref (t 1), .int (zi t_size)])), ((t 1), .inl (κ 1, 10, .inl (zc t_numbers)))]) H) (ls : Array Slot) (hl : lv_has ls 2 [(0, .ref (t 0)), (1, .int (zi i1))]) (hg : Go (zQ_X2_canLose p l e s m args below meth c Q H locs) (zf_X2_canLose t_size t_numbers i1)) : W p l e zr_X2_canLose s m args below meth c H locs 0 0 Q (F0 m 0 ls []) := by
  unfold zf_X2_canLose at hg
  refine lv_aload_n hx hb dX2_canLose_0 rfl (lv_at hl 0 rfl) ?_
  refine va_get (D := D) (ci := 2) (v := .int (zi t_size)) (C := RX2) (T := TX2) (N := 2) hx hb hts zi_X2_canLose_X2 hown hK hP 0 rfl rfl 1 (by decide) (hts (.fieldLink RX2 15 "DiamondRows$Endless" "size" "I") zl_X2_canLose_15) (fun _ h9 => h9) rfl dX2_canLose_1 ?_
  refine zv_iconst hx hb dX2_canLose_4 ?_
  obtain ⟨b1, hg⟩ := Go_n hg
  refine zv_icmp_lt (tgt := 43) hx hb dX2_canLose_5 (by decide) b1 (by decide) (fun c11 => ?_) (fun c11 => ?_)
  · have hg := Go_t c11 hg
    refine zv_iconst hx hb dX2_canLose_43 ?_
    exact (Go_s hg) _ _ dX2_canLose_44
  · have hg := Go_f c11 hg
    refine lv_aload_n hx hb dX2_canLose_8 rfl (lv_at hl 0 rfl) ?_
    refine lv_iload_n hx hb dX2_canLose_9 rfl (lv_at hl 1 rfl) ?_
    obtain ⟨o2, ho2, hg⟩ := Go_b hg
    refine zc_vi (rest := []) ⟨hx, hb, hml, hown, hts⟩ (zc_X2_at l D κ t t_size t_numbers i1 o2 ho2) (cwV 1 hts gX2_canLose_X2_at rfl rfl rfl (by decide +kernel) ⟨Nat.le_of_ble_eq_true rfl, Nat.le_of_ble_eq_true rfl⟩) (zpreV hK (hP.sub [0, 1] rfl) 2 0 rfl rfl) rfl hl.1 rfl (Nat.le_of_ble_eq_true rfl) dX2_canLose_10 ⟨Nat.zero_le _, Nat.zero_le _⟩ ?_
    refine zv_iconst hx hb dX2_canLose_13 ?_
    obtain ⟨b3, hg⟩ := Go_n hg
    refine zv_icmp_ne (tgt := 43) hx hb dX2_canLose_14 (by decide) b3 (by decide) (fun c10 => ?_) (fun c10 => ?_)
    · have hg := Go_f c10 hg
      refine zv_iconst hx hb dX2_canLose_43 ?_
      exact (Go_s hg) _ _ dX2_canLose_44
    · have hg := Go_t c10 hg
      refine lv_aload_n hx hb dX2_canLose_17 rfl (lv_at hl 0 rfl) ?_
      refine lv_iload_n hx hb dX2_canLose_18 rfl (lv_at hl 1 rfl) ?_
      refine zv_iconst hx hb dX2_canLose_19 ?_
      refine zv_isub hx hb dX2_canLose_20 ?_
      obtain ⟨o4, ho4, hg⟩ := Go_b hg
      refine zc_vi (rest := []) ⟨hx, hb, hml, hown, hts⟩ (zc_X2_at l D κ t t_size t_numbers (i1 - (1 : Int)) o4 ho4) (cwV 1 hts gX2_canLose_X2_at rfl rfl rfl (by decide +kernel) ⟨Nat.le_of_ble_eq_true rfl, Nat.le_of_ble_eq_true rfl⟩) (zpreV hK (hP.sub [0, 1] rfl) 2 0 rfl rfl) rfl hl.1 rfl (Nat.le_of_ble_eq_true rfl) dX2_canLose_21 ⟨Nat.zero_le _, Nat.zero_le _⟩ ?_
      refine zv_iconst hx hb dX2_canLose_24 ?_
      obtain ⟨b5, hg⟩ := Go_n hg
      refine zv_icmp_le (tgt := 43) hx hb dX2_canLose_25 (by decide) b5 (by decide) (fun c9 => ?_) (fun c9 => ?_)
      · have hg := Go_t c9 hg
        refine zv_iconst hx hb dX2_canLose_43 ?_
        exact (Go_s hg) _ _ dX2_canLose_44
      · have hg := Go_f c9 hg
        refine lv_aload_n hx hb dX2_canLose_28 rfl (lv_at hl 0 rfl) ?_
        refine lv_iload_n hx hb dX2_canLose_29 rfl (lv_at hl 1 rfl) ?_
        refine zv_iconst hx hb dX2_canLose_30 ?_
        refine zv_iadd hx hb dX2_canLose_31 ?_
        obtain ⟨o6, ho6, hg⟩ := Go_b hg
        refine zc_vi (rest := []) ⟨hx, hb, hml, hown, hts⟩ (zc_X2_at l D κ t t_size t_numbers (i1 + (1 : Int)) o6 ho6) (cwV 1 hts gX2_canLose_X2_at rfl rfl rfl (by decide +kernel) ⟨Nat.le_of_ble_eq_true rfl, Nat.le_of_ble_eq_true rfl⟩) (zpreV hK (hP.sub [0, 1] rfl) 2 0 rfl rfl) rfl hl.1 rfl (Nat.le_of_ble_eq_true rfl) dX2_canLose_32 ⟨Nat.zero_le _, Nat.zero_le _⟩ ?_
        refine zv_iconst hx hb dX2_canLose_35 ?_
        obtain ⟨b7, hg⟩ := Go_n hg
        refine zv_icmp_le (tgt := 43) hx hb dX2_canLose_36 (by decide) b7 (by decide) (fun c8 => ?_) (fun c8 => ?_)
        · have hg := Go_t c8 hg
          refine zv_iconst hx hb dX2_canLose_43 ?_
          exact (Go_s hg) _ _ dX2_canLose_44
        · have hg := Go_f c8 hg
          refine zv_iconst hx hb dX2_canLose_39 ?_
          refine lv_goto (tgt := 44) hx hb dX2_canLose_40 (by decide) ?_
          exact (Go_s hg) _ _ dX2_canLose_44
set_option maxHeartbeats 4000000 in
set_option maxRecDepth 100000 in
theorem zc_X2_canLose (l : Launch) (D : va_G) (κ : Nat → ClassId) (t : Nat → Nat) (t_size : Int) (t_numbers : Nat) (i1 : Int) (out : Bool) (h : zf_X2_canLose t_size t_numbers i1 = some out) : Met l yX2_canLose wsX2_canLose zr_X2_canLose (va_Pc [.ref (t 0), .int (zi i1)] (zR D κ ([((t 0), .inr (2, [.ref (t 1), .int (zi t_size)])), ((t 1), .inl (κ 1, 10, .inl (zc t_numbers)))]))) (vp_Si (fun x => x = zi (bI out))) 0 0 (fun _ => False) := by
  refine Met.ofW (cc := cX2_canLose) (maxL := 2) (ret := (some .boolean)) (by decide +kernel) rfl ?_
  intro p e s m args below meth c s₁ B hml hv
  obtain ⟨rfl, hP, hK⟩ := hv
  have hx := B.exec
  have hb := B.bytes
  have hr := B.returns
  have hts := atoms_spec (ws := wsX2_canLose) B.pre
  have hown : s.vm.findClass RX2 = some m.cls := findClass_of_methodNamed B.named
  have hlocks := B.notSynchronized
  have hl := lv_entry ([.ref (t 0), .int (zi i1)]) (n := 2) (Nat.le_of_ble_eq_true rfl)
  rw [lg_entry_eq]
  generalize (lg_sl ([.ref (t 0), .int (zi i1)]) ++ List.replicate (2 - (lg_sl ([.ref (t 0), .int (zi i1)])).length) Slot.unset).toArray = ls at hl ⊢
  have hl : lv_has ls 2 [(0, .ref (t 0)), (1, .int (zi i1))] := hl
  refine zs_X2_canLose t t_size t_numbers i1 hx hb hml hown hts hK hP ls hl ⟨out, h, ?_⟩
  exact fun ls pc hd => W.zret hx hb hr (bI_nar _) (fun t ht hW => ⟨_, rfl, rfl, ht⟩) (fun _ h => by cases h) hd
/-! DiamondRows$Endless.lose(I)I -/
abbrev zr_X2_lose : Room := { frames := 4, cells := 0, slots := 0, locals := 85 }
abbrev zS_X2_lose : Type := Nat × Int × Int × Int × Nat
abbrev zO_X2_lose : Type := Int × Int × Nat
noncomputable def zg_X2_lose_0   (i1 : Int) (i2 : Int) (t_size : Int) (t_numbers : Nat) : Option (zO_X2_lose ⊕ zS_X2_lose) :=
  Option.bind (zf_X2_hasPlace t_size i1) (fun o1 =>
  if o1 = false then
  some (.inl (t_size, t_size, t_numbers))
  else
  Option.bind (zf_X2_canLose t_size t_numbers i1) (fun o2 =>
  if o2 = false then
  some (.inl (t_size, t_size, t_numbers))
  else
  Option.bind (zf_X2_wrapped t_size (i1 - (1 : Int))) (fun o3 =>
  if o3 < 0 ∨ 10 ≤ o3 then none else
  Option.bind (zf_X2_wrapped t_size (i1 + (1 : Int))) (fun o5 =>
  if o5 < 0 ∨ 10 ≤ o5 then none else
  some (.inr (55, i1, i1, t_size, (zset (zset t_numbers (Int.toNat o3) ((zget t_numbers (Int.toNat o3)) - (1 : Int))) (Int.toNat o5) ((zget (zset t_numbers (Int.toNat o3) ((zget t_numbers (Int.toNat o3)) - (1 : Int))) (Int.toNat o5)) - (1 : Int)))))))))
noncomputable def zg_X2_lose_55   (i1 : Int) (i2 : Int) (t_size : Int) (t_numbers : Nat) : Option (zO_X2_lose ⊕ zS_X2_lose) :=
  if zout (i2 + (1 : Int)) then none else
  if zout t_size then none else
  if t_size ≤ (i2 + (1 : Int)) then
  some (.inl ((t_size - (1 : Int)), (t_size - (1 : Int)), t_numbers))
  else
  if (i2 + (1 : Int)) < 0 ∨ 10 ≤ (i2 + (1 : Int)) then none else
  if i2 < 0 ∨ 10 ≤ i2 then none else
  some (.inr (55, 0, (i2 + (1 : Int)), t_size, (zset t_numbers (Int.toNat i2) (zget t_numbers (Int.toNat (i2 + (1 : Int)))))))
noncomputable def zg_X2_lose   (st : zS_X2_lose) : Option (zO_X2_lose ⊕ zS_X2_lose) := match st with
  | (lab, i1, i2, t_size, t_numbers) => if lab = 0 then zg_X2_lose_0  i1 i2 t_size t_numbers else if lab = 55 then zg_X2_lose_55  i1 i2 t_size t_numbers else none
noncomputable def zf_X2_lose  (t_size : Int) (t_numbers : Nat) (i1 : Int) : Option (Int × Int × Nat) := jrun (zg_X2_lose ) jfuel (0, i1, 0, t_size, t_numbers)
theorem zi_X2_lose_X2 : ∀ w ∈ u_ws RX2 TX2 2, w ∈ wsX2_lose := by decide +kernel
theorem zl_X2_lose_11 : Cond.fieldLink RX2 11 "DiamondRows$Endless" "numbers" "[I" ∈ wsX2_lose := by decide +kernel
theorem zl_X2_lose_15 : Cond.fieldLink RX2 15 "DiamondRows$Endless" "size" "I" ∈ wsX2_lose := by decide +kernel
def zQ_X2_lose (p : Program) (l : Launch) (e : Env) (s : State) (m : MethodId) (args : Array Value) (below : List Frame) (meth : Method) (c : Code) (Q : State → Prop) (D : va_G) (κ : Nat → ClassId) (A : Nat → Prop) (H0 : Heap) (t : Nat → Nat)  (o : Int × Int × Nat) : Prop := ∀ (H : Heap) (locs : List Loc) (ls : Array Slot) (pc : Nat), va_P D vwCl ([((t 0), .inr (2, [.ref (t 1), .int (zi (o.2.1))])), ((t 1), .inl (κ 1, 10, .inl (zc (o.2.2))))]) H → va_D A ([((t 0), .inr (2, [.ref (t 1), .int (zi (o.2.1))])), ((t 1), .inl (κ 1, 10, .inl (zc (o.2.2))))]) → va_S A H0 H locs → decode cX2_lose pc = .ok (.ireturn, 1) → W p l e zr_X2_lose s m args below meth c H locs 0 0 Q (F0 m pc ls [.int (zi (o.1))])
def zA_X2_lose_0 (p : Program) (l : Launch) (e : Env) (s : State) (m : MethodId) (args : Array Value) (below : List Frame) (meth : Method) (c : Code) (Q : State → Prop) (D : va_G) (κ : Nat → ClassId) (A : Nat → Prop) (H0 : Heap) (t : Nat → Nat)  (i1 : Int) (i2 : Int) (t_size : Int) (t_numbers : Nat) : Prop := ∀ (H : Heap) (locs : List Loc) (ls : Array Slot), va_P D vwCl ([((t 0), .inr (2, [.ref (t 1), .int (zi t_size)])), ((t 1), .inl (κ 1, 10, .inl (zc t_numbers)))]) H → va_D A ([((t 0), .inr (2, [.ref (t 1), .int (zi t_size)])), ((t 1), .inl (κ 1, 10, .inl (zc t_numbers)))]) → va_S A H0 H locs → lv_has ls 3 [(0, .ref (t 0)), (1, .int (zi i1))] → W p l e zr_X2_lose s m args below meth c H locs 0 0 Q (F0 m 0 ls [])
def zA_X2_lose_55 (p : Program) (l : Launch) (e : Env) (s : State) (m : MethodId) (args : Array Value) (below : List Frame) (meth : Method) (c : Code) (Q : State → Prop) (D : va_G) (κ : Nat → ClassId) (A : Nat → Prop) (H0 : Heap) (t : Nat → Nat)  (i1 : Int) (i2 : Int) (t_size : Int) (t_numbers : Nat) : Prop := ∀ (H : Heap) (locs : List Loc) (ls : Array Slot), va_P D vwCl ([((t 0), .inr (2, [.ref (t 1), .int (zi t_size)])), ((t 1), .inl (κ 1, 10, .inl (zc t_numbers)))]) H → va_D A ([((t 0), .inr (2, [.ref (t 1), .int (zi t_size)])), ((t 1), .inl (κ 1, 10, .inl (zc t_numbers)))]) → va_S A H0 H locs → lv_has ls 3 [(0, .ref (t 0)), (2, .int (zi i2))] → W p l e zr_X2_lose s m args below meth c H locs 0 0 Q (F0 m 55 ls [])
def zA_X2_lose (p : Program) (l : Launch) (e : Env) (s : State) (m : MethodId) (args : Array Value) (below : List Frame) (meth : Method) (c : Code) (Q : State → Prop) (D : va_G) (κ : Nat → ClassId) (A : Nat → Prop) (H0 : Heap) (t : Nat → Nat)  (st : zS_X2_lose) : Prop := match st with
  | (lab, i1, i2, t_size, t_numbers) => if lab = 0 then zA_X2_lose_0 p l e s m args below meth c Q D κ A H0 t  i1 i2 t_size t_numbers else if lab = 55 then zA_X2_lose_55 p l e s m args below meth c Q D κ A H0 t  i1 i2 t_size t_numbers else True
set_option maxHeartbeats 4000000 in
set_option maxRecDepth 100000 in
theorem zs_X2_lose_0 {p : Program} {l : Launch} {e : Env} {s : State} {m : MethodId} {args : Array Value} {below : List Frame} {meth : Method} {c : Code} {Q : State → Prop} {D : va_G} {κ : Nat → ClassId} {A : Nat → Prop} {H0 : Heap} (t : Nat → Nat)  (hx : p.tables.exec = Jvm.exec) (hb : c.code = cX2_lose) (hml : c.maxLocals = 3) (hown : s.vm.findClass RX2 = some m.cls) (hts : ∀ w ∈ wsX2_lose, w.before args s = true) (hK : va_K D vwCl (zTY κ) s) (hA : ∀ q : Nat, H0.size ≤ q → A q) (i1 : Int) (i2 : Int) (t_size : Int) (t_numbers : Nat) (hg : Go (GoE (zA_X2_lose p l e s m args below meth c Q D κ A H0 t ) (zQ_X2_lose p l e s m args below meth c Q D κ A H0 t )) (zg_X2_lose_0  i1 i2 t_size t_numbers)) : zA_X2_lose_0 p l e s m args below meth c Q D κ A H0 t  i1 i2 t_size t_numbers := by
  intro H locs ls hP hD hS hl
  unfold zg_X2_lose_0 at hg
  refine lv_aload_n hx hb dX2_lose_0 rfl (lv_at hl 0 rfl) ?_
  refine lv_iload_n hx hb dX2_lose_1 rfl (lv_at hl 1 rfl) ?_
  obtain ⟨o1, ho1, hg⟩ := Go_b hg
  refine zc_vi (rest := []) ⟨hx, hb, hml, hown, hts⟩ (zc_X2_hasPlace l D κ t t_size t_numbers i1 o1 ho1) (cwV 1 hts gX2_lose_X2_hasPlace rfl rfl rfl (by decide +kernel) ⟨Nat.le_of_ble_eq_true rfl, Nat.le_of_ble_eq_true rfl⟩) (zpreV hK (hP.sub [0, 1] rfl) 2 0 rfl rfl) rfl hl.1 rfl (Nat.le_of_ble_eq_true rfl) dX2_lose_2 ⟨Nat.zero_le _, Nat.zero_le _⟩ ?_
  refine zv_ifb_eq (tgt := 16) hx hb dX2_lose_5 (by decide) (fun c8 => ?_) (fun c8 => ?_)
  · have hg := Go_t c8 hg
    refine lv_aload_n hx hb dX2_lose_16 rfl (lv_at hl 0 rfl) ?_
    refine va_get (D := D) (ci := 2) (v := .int (zi t_size)) (C := RX2) (T := TX2) (N := 2) hx hb hts zi_X2_lose_X2 hown hK hP 0 rfl rfl 1 (by decide) (hts (.fieldLink RX2 15 "DiamondRows$Endless" "size" "I") zl_X2_lose_15) (fun _ h9 => h9) rfl dX2_lose_17 ?_
    exact (Go_s hg) _ _ _ _ hP hD hS dX2_lose_20
  · have hg := Go_f c8 hg
    refine lv_aload_n hx hb dX2_lose_8 rfl (lv_at hl 0 rfl) ?_
    refine lv_iload_n hx hb dX2_lose_9 rfl (lv_at hl 1 rfl) ?_
    obtain ⟨o2, ho2, hg⟩ := Go_b hg
    refine zc_vi (rest := []) ⟨hx, hb, hml, hown, hts⟩ (zc_X2_canLose l D κ t t_size t_numbers i1 o2 ho2) (cwV 1 hts gX2_lose_X2_canLose rfl rfl rfl (by decide +kernel) ⟨Nat.le_of_ble_eq_true rfl, Nat.le_of_ble_eq_true rfl⟩) (zpreV hK (hP.sub [0, 1] rfl) 2 0 rfl rfl) rfl hl.1 rfl (Nat.le_of_ble_eq_true rfl) dX2_lose_10 ⟨Nat.zero_le _, Nat.zero_le _⟩ ?_
    refine zv_ifb_ne (tgt := 21) hx hb dX2_lose_13 (by decide) (fun c7 => ?_) (fun c7 => ?_)
    · have hg := Go_f c7 hg
      refine lv_aload_n hx hb dX2_lose_21 rfl (lv_at hl 0 rfl) ?_
      refine va_get (D := D) (ci := 2) (v := .ref (t 1)) (C := RX2) (T := TX2) (N := 2) hx hb hts zi_X2_lose_X2 hown hK hP 0 rfl rfl 0 (by decide) (hts (.fieldLink RX2 11 "DiamondRows$Endless" "numbers" "[I") zl_X2_lose_11) (fun _ h9 => h9) rfl dX2_lose_22 ?_
      refine lv_aload_n hx hb dX2_lose_25 rfl (lv_at hl 0 rfl) ?_
      refine lv_iload_n hx hb dX2_lose_26 rfl (lv_at hl 1 rfl) ?_
      refine zv_iconst hx hb dX2_lose_27 ?_
      refine zv_isub hx hb dX2_lose_28 ?_
      obtain ⟨o3, ho3, hg⟩ := Go_b hg
      refine zc_vi (rest := [.ref (t 1)]) ⟨hx, hb, hml, hown, hts⟩ (zc_X2_wrapped l D κ t t_size t_numbers (i1 - (1 : Int)) o3 ho3) (cwV 1 hts gX2_lose_X2_wrapped rfl rfl rfl (by decide +kernel) ⟨Nat.le_of_ble_eq_true rfl, Nat.le_of_ble_eq_true rfl⟩) (zpreV hK (hP.sub [0, 1] rfl) 2 0 rfl rfl) rfl hl.1 rfl (Nat.le_of_ble_eq_true rfl) dX2_lose_29 ⟨Nat.zero_le _, Nat.zero_le _⟩ ?_
      refine lv_dup2_11 hx hb dX2_lose_32 rfl rfl ?_
      obtain ⟨n4, hg⟩ := Go_n hg
      refine zv_iald hx hb hK hP 1 1 rfl rfl (by decide) n4 dX2_lose_33 ?_
      refine zv_iconst hx hb dX2_lose_34 ?_
      refine zv_isub hx hb dX2_lose_35 ?_
      refine zv_iast hx hb hK hP hD hS 1 1 rfl rfl (by decide) n4 dX2_lose_36 (fun H locs hP hD hS => ?_)
      have hP : va_P D vwCl ([((t 0), .inr (2, [.ref (t 1), .int (zi t_size)])), ((t 1), .inl (κ 1, 10, .inl (zc (zset t_numbers (Int.toNat o3) ((zget t_numbers (Int.toNat o3)) - (1 : Int))))))]) H := hP
      have hD : va_D A ([((t 0), .inr (2, [.ref (t 1), .int (zi t_size)])), ((t 1), .inl (κ 1, 10, .inl (zc (zset t_numbers (Int.toNat o3) ((zget t_numbers (Int.toNat o3)) - (1 : Int))))))]) := hD
      refine lv_aload_n hx hb dX2_lose_37 rfl (lv_at hl 0 rfl) ?_
      refine va_get (D := D) (ci := 2) (v := .ref (t 1)) (C := RX2) (T := TX2) (N := 2) hx hb hts zi_X2_lose_X2 hown hK hP 0 rfl rfl 0 (by decide) (hts (.fieldLink RX2 11 "DiamondRows$Endless" "numbers" "[I") zl_X2_lose_11) (fun _ h9 => h9) rfl dX2_lose_38 ?_
      refine lv_aload_n hx hb dX2_lose_41 rfl (lv_at hl 0 rfl) ?_
      refine lv_iload_n hx hb dX2_lose_42 rfl (lv_at hl 1 rfl) ?_
      refine zv_iconst hx hb dX2_lose_43 ?_
      refine zv_iadd hx hb dX2_lose_44 ?_
      obtain ⟨o5, ho5, hg⟩ := Go_b hg
      refine zc_vi (rest := [.ref (t 1)]) ⟨hx, hb, hml, hown, hts⟩ (zc_X2_wrapped l D κ t t_size (zset t_numbers (Int.toNat o3) ((zget t_numbers (Int.toNat o3)) - (1 : Int))) (i1 + (1 : Int)) o5 ho5) (cwV 1 hts gX2_lose_X2_wrapped rfl rfl rfl (by decide +kernel) ⟨Nat.le_of_ble_eq_true rfl, Nat.le_of_ble_eq_true rfl⟩) (zpreV hK (hP.sub [0, 1] rfl) 2 0 rfl rfl) rfl hl.1 rfl (Nat.le_of_ble_eq_true rfl) dX2_lose_45 ⟨Nat.zero_le _, Nat.zero_le _⟩ ?_
      refine lv_dup2_11 hx hb dX2_lose_48 rfl rfl ?_
      obtain ⟨n6, hg⟩ := Go_n hg
      refine zv_iald hx hb hK hP 1 1 rfl rfl (by decide) n6 dX2_lose_49 ?_
      refine zv_iconst hx hb dX2_lose_50 ?_
      refine zv_isub hx hb dX2_lose_51 ?_
      refine zv_iast hx hb hK hP hD hS 1 1 rfl rfl (by decide) n6 dX2_lose_52 (fun H locs hP hD hS => ?_)
      have hP : va_P D vwCl ([((t 0), .inr (2, [.ref (t 1), .int (zi t_size)])), ((t 1), .inl (κ 1, 10, .inl (zc (zset (zset t_numbers (Int.toNat o3) ((zget t_numbers (Int.toNat o3)) - (1 : Int))) (Int.toNat o5) ((zget (zset t_numbers (Int.toNat o3) ((zget t_numbers (Int.toNat o3)) - (1 : Int))) (Int.toNat o5)) - (1 : Int))))))]) H := hP
      have hD : va_D A ([((t 0), .inr (2, [.ref (t 1), .int (zi t_size)])), ((t 1), .inl (κ 1, 10, .inl (zc (zset (zset t_numbers (Int.toNat o3) ((zget t_numbers (Int.toNat o3)) - (1 : Int))) (Int.toNat o5) ((zget (zset t_numbers (Int.toNat o3) ((zget t_numbers (Int.toNat o3)) - (1 : Int))) (Int.toNat o5)) - (1 : Int))))))]) := hD
      refine lv_iload_n hx hb dX2_lose_53 rfl (lv_at hl 1 rfl) ?_
      refine lv_istore_n (lv' := [(2, .int (zi i1)), (0, .ref (t 0)), (1, .int (zi i1))]) hx hb dX2_lose_54 rfl hl (by decide) rfl (fun ls hl => ?_)
      exact (Go_s hg) H locs ls hP hD hS (lv_sub hl [1, 0] rfl)
    · have hg := Go_t c7 hg
      refine lv_aload_n hx hb dX2_lose_16 rfl (lv_at hl 0 rfl) ?_
      refine va_get (D := D) (ci := 2) (v := .int (zi t_size)) (C := RX2) (T := TX2) (N := 2) hx hb hts zi_X2_lose_X2 hown hK hP 0 rfl rfl 1 (by decide) (hts (.fieldLink RX2 15 "DiamondRows$Endless" "size" "I") zl_X2_lose_15) (fun _ h9 => h9) rfl dX2_lose_17 ?_
      exact (Go_s hg) _ _ _ _ hP hD hS dX2_lose_20
set_option maxHeartbeats 4000000 in
set_option maxRecDepth 100000 in
theorem zs_X2_lose_55 {p : Program} {l : Launch} {e : Env} {s : State} {m : MethodId} {args : Array Value} {below : List Frame} {meth : Method} {c : Code} {Q : State → Prop} {D : va_G} {κ : Nat → ClassId} {A : Nat → Prop} {H0 : Heap} (t : Nat → Nat)  (hx : p.tables.exec = Jvm.exec) (hb : c.code = cX2_lose) (hml : c.maxLocals = 3) (hown : s.vm.findClass RX2 = some m.cls) (hts : ∀ w ∈ wsX2_lose, w.before args s = true) (hK : va_K D vwCl (zTY κ) s) (hA : ∀ q : Nat, H0.size ≤ q → A q) (i1 : Int) (i2 : Int) (t_size : Int) (t_numbers : Nat) (hg : Go (GoE (zA_X2_lose p l e s m args below meth c Q D κ A H0 t ) (zQ_X2_lose p l e s m args below meth c Q D κ A H0 t )) (zg_X2_lose_55  i1 i2 t_size t_numbers)) : zA_X2_lose_55 p l e s m args below meth c Q D κ A H0 t  i1 i2 t_size t_numbers := by
  intro H locs ls hP hD hS hl
  unfold zg_X2_lose_55 at hg
  refine lv_iload_n hx hb dX2_lose_55 rfl (lv_at hl 1 rfl) ?_
  refine zv_iconst hx hb dX2_lose_56 ?_
  refine zv_iadd hx hb dX2_lose_57 ?_
  refine lv_aload_n hx hb dX2_lose_58 rfl (lv_at hl 0 rfl) ?_
  refine va_get (D := D) (ci := 2) (v := .int (zi t_size)) (C := RX2) (T := TX2) (N := 2) hx hb hts zi_X2_lose_X2 hown hK hP 0 rfl rfl 1 (by decide) (hts (.fieldLink RX2 15 "DiamondRows$Endless" "size" "I") zl_X2_lose_15) (fun _ h9 => h9) rfl dX2_lose_59 ?_
  obtain ⟨b9, hg⟩ := Go_n hg
  obtain ⟨b10, hg⟩ := Go_n hg
  refine zv_icmp_ge (tgt := 85) hx hb dX2_lose_62 (by decide) b9 b10 (fun c13 => ?_) (fun c13 => ?_)
  · have hg := Go_t c13 hg
    refine lv_aload_n hx hb dX2_lose_85 rfl (lv_at hl 0 rfl) ?_
    refine lv_dup hx hb dX2_lose_86 rfl ?_
    refine va_get (D := D) (ci := 2) (v := .int (zi t_size)) (C := RX2) (T := TX2) (N := 2) hx hb hts zi_X2_lose_X2 hown hK hP 0 rfl rfl 1 (by decide) (hts (.fieldLink RX2 15 "DiamondRows$Endless" "size" "I") zl_X2_lose_15) (fun _ h9 => h9) rfl dX2_lose_87 ?_
    refine zv_iconst hx hb dX2_lose_90 ?_
    refine zv_isub hx hb dX2_lose_91 ?_
    refine va_put (D := D) (ci := 2) (v := .int (zi (t_size - (1 : Int)))) (ty := .int) (C := RX2) (T := TX2) (N := 2) hx hb hts zi_X2_lose_X2 tyX2 tyX2_ok nmX2 hown hK hP hD hS 0 rfl rfl 1 (by decide) (hts (.fieldLink RX2 15 "DiamondRows$Endless" "size" "I") zl_X2_lose_15) (fun _ h9 => h9) rfl (by decide +kernel) rfl rfl (Nat.le_of_ble_eq_true rfl) dX2_lose_92 (fun H locs hP hD hS => ?_)
    have hP : va_P D vwCl ([((t 0), .inr (2, [.ref (t 1), .int (zi (t_size - (1 : Int)))])), ((t 1), .inl (κ 1, 10, .inl (zc t_numbers)))]) H := hP
    have hD : va_D A ([((t 0), .inr (2, [.ref (t 1), .int (zi (t_size - (1 : Int)))])), ((t 1), .inl (κ 1, 10, .inl (zc t_numbers)))]) := hD
    refine lv_aload_n hx hb dX2_lose_95 rfl (lv_at hl 0 rfl) ?_
    refine va_get (D := D) (ci := 2) (v := .int (zi (t_size - (1 : Int)))) (C := RX2) (T := TX2) (N := 2) hx hb hts zi_X2_lose_X2 hown hK hP 0 rfl rfl 1 (by decide) (hts (.fieldLink RX2 15 "DiamondRows$Endless" "size" "I") zl_X2_lose_15) (fun _ h9 => h9) rfl dX2_lose_96 ?_
    exact (Go_s hg) _ _ _ _ hP hD hS dX2_lose_99
  · have hg := Go_f c13 hg
    refine lv_aload_n hx hb dX2_lose_65 rfl (lv_at hl 0 rfl) ?_
    refine va_get (D := D) (ci := 2) (v := .ref (t 1)) (C := RX2) (T := TX2) (N := 2) hx hb hts zi_X2_lose_X2 hown hK hP 0 rfl rfl 0 (by decide) (hts (.fieldLink RX2 11 "DiamondRows$Endless" "numbers" "[I") zl_X2_lose_11) (fun _ h9 => h9) rfl dX2_lose_66 ?_
    refine lv_iload_n hx hb dX2_lose_69 rfl (lv_at hl 1 rfl) ?_
    refine lv_aload_n hx hb dX2_lose_70 rfl (lv_at hl 0 rfl) ?_
    refine va_get (D := D) (ci := 2) (v := .ref (t 1)) (C := RX2) (T := TX2) (N := 2) hx hb hts zi_X2_lose_X2 hown hK hP 0 rfl rfl 0 (by decide) (hts (.fieldLink RX2 11 "DiamondRows$Endless" "numbers" "[I") zl_X2_lose_11) (fun _ h9 => h9) rfl dX2_lose_71 ?_
    refine lv_iload_n hx hb dX2_lose_74 rfl (lv_at hl 1 rfl) ?_
    refine zv_iconst hx hb dX2_lose_75 ?_
    refine zv_iadd hx hb dX2_lose_76 ?_
    obtain ⟨n11, hg⟩ := Go_n hg
    refine zv_iald hx hb hK hP 1 1 rfl rfl (by decide) n11 dX2_lose_77 ?_
    obtain ⟨n12, hg⟩ := Go_n hg
    refine zv_iast hx hb hK hP hD hS 1 1 rfl rfl (by decide) n12 dX2_lose_78 (fun H locs hP hD hS => ?_)
    have hP : va_P D vwCl ([((t 0), .inr (2, [.ref (t 1), .int (zi t_size)])), ((t 1), .inl (κ 1, 10, .inl (zc (zset t_numbers (Int.toNat i2) (zget t_numbers (Int.toNat (i2 + (1 : Int))))))))]) H := hP
    have hD : va_D A ([((t 0), .inr (2, [.ref (t 1), .int (zi t_size)])), ((t 1), .inl (κ 1, 10, .inl (zc (zset t_numbers (Int.toNat i2) (zget t_numbers (Int.toNat (i2 + (1 : Int))))))))]) := hD
    refine lv_iinc (v := zi (i2 + (1 : Int))) (lv' := [(2, .int (zi (i2 + (1 : Int)))), (0, .ref (t 0))]) hx hb dX2_lose_79 hl (k := 1) rfl (zi_add i2 _) (by decide) rfl (fun ls hl => ?_)
    refine lv_goto (tgt := 55) hx hb dX2_lose_82 (by decide) ?_
    exact (Go_s hg) H locs ls hP hD hS (lv_sub hl [1, 0] rfl)
set_option maxHeartbeats 4000000 in
set_option maxRecDepth 100000 in
theorem zw_X2_lose {p : Program} {l : Launch} {e : Env} {s : State} {m : MethodId} {args : Array Value} {below : List Frame} {meth : Method} {c : Code} {Q : State → Prop} {D : va_G} {κ : Nat → ClassId} {A : Nat → Prop} {H0 : Heap} (t : Nat → Nat)  (t_size : Int) (t_numbers : Nat) (i1 : Int) (hx : p.tables.exec = Jvm.exec) (hb : c.code = cX2_lose) (hml : c.maxLocals = 3) (hown : s.vm.findClass RX2 = some m.cls) (hts : ∀ w ∈ wsX2_lose, w.before args s = true) (hK : va_K D vwCl (zTY κ) s) (hA : ∀ q : Nat, H0.size ≤ q → A q) (out : Int × Int × Nat) (h : zf_X2_lose t_size t_numbers i1 = some out) (hq : zQ_X2_lose p l e s m args below meth c Q D κ A H0 t  out) : zA_X2_lose_0 p l e s m args below meth c Q D κ A H0 t  i1 0 t_size t_numbers := by
  have hst : ∀ st : zS_X2_lose, Go (GoE (zA_X2_lose p l e s m args below meth c Q D κ A H0 t ) (zQ_X2_lose p l e s m args below meth c Q D κ A H0 t )) (zg_X2_lose  st) → zA_X2_lose p l e s m args below meth c Q D κ A H0 t  st := by
    intro st hg
    obtain ⟨lab, i1, i2, t_size, t_numbers⟩ := st
    by_cases h0 : lab = 0
    · subst h0
      exact zs_X2_lose_0 t  hx hb hml hown hts hK hA i1 i2 t_size t_numbers hg
    by_cases h55 : lab = 55
    · subst h55
      exact zs_X2_lose_55 t  hx hb hml hown hts hK hA i1 i2 t_size t_numbers hg
    have hz : zg_X2_lose  (lab, i1, i2, t_size, t_numbers) = none := by simp [zg_X2_lose, h0, h55]
    rw [hz] at hg
    obtain ⟨a, h1, -⟩ := hg
    cases h1
  exact jwalk (At := zA_X2_lose p l e s m args below meth c Q D κ A H0 t ) (Ret := zQ_X2_lose p l e s m args below meth c Q D κ A H0 t ) hst _ _ _ h hq
set_option maxHeartbeats 4000000 in
set_option maxRecDepth 100000 in
theorem zc_X2_lose (l : Launch) (D : va_G) (κ : Nat → ClassId) (t : Nat → Nat) (sz : Nat) (t_size : Int) (t_numbers : Nat) (i1 : Int) (out : Int × Int × Nat) (h : zf_X2_lose t_size t_numbers i1 = some out) : Met l yX2_lose wsX2_lose zr_X2_lose (va_Pc [.ref (t 0), .int (zi i1)] (zW D κ ([((t 0), .inr (2, [.ref (t 1), .int (zi t_size)])), ((t 1), .inl (κ 1, 10, .inl (zc t_numbers)))]) sz)) (va_Qi (fun r (_ : Unit) => r = zi (out.1)) (fun _ => zB D κ (va_A ([((t 0), .inr (2, [.ref (t 1), .int (zi t_size)])), ((t 1), .inl (κ 1, 10, .inl (zc t_numbers)))]) sz) ([((t 0), .inr (2, [.ref (t 1), .int (zi (out.2.1))])), ((t 1), .inl (κ 1, 10, .inl (zc (out.2.2))))])) (va_A ([((t 0), .inr (2, [.ref (t 1), .int (zi t_size)])), ((t 1), .inl (κ 1, 10, .inl (zc t_numbers)))]) sz)) 0 0 (va_A ([((t 0), .inr (2, [.ref (t 1), .int (zi t_size)])), ((t 1), .inl (κ 1, 10, .inl (zc t_numbers)))]) sz) := by
  refine Met.ofW (cc := cX2_lose) (maxL := 3) (ret := (some .int)) (by decide +kernel) rfl ?_
  intro p e s m args below meth c s₁ B hml hv
  obtain ⟨rfl, hsz, hP, hK, hD0⟩ := hv
  have hx := B.exec
  have hb := B.bytes
  have hr := B.returns
  have hts := atoms_spec (ws := wsX2_lose) B.pre
  have hown : s.vm.findClass RX2 = some m.cls := findClass_of_methodNamed B.named
  have hlocks := B.notSynchronized
  subst hsz
  have hD := hD0.self (sz := s.heap.size)
  generalize hAe : va_A ([((t 0), .inr (2, [.ref (t 1), .int (zi t_size)])), ((t 1), .inl (κ 1, 10, .inl (zc t_numbers)))]) s.heap.size = A at hD ⊢
  have hA : ∀ q : Nat, s.heap.size ≤ q → A q := fun q h => by rw [← hAe]; exact Or.inr h
  have hS : va_S A s.heap s.heap [] := va_S.rf
  have hl := lv_entry ([.ref (t 0), .int (zi i1)]) (n := 3) (Nat.le_of_ble_eq_true rfl)
  rw [lg_entry_eq]
  generalize (lg_sl ([.ref (t 0), .int (zi i1)]) ++ List.replicate (3 - (lg_sl ([.ref (t 0), .int (zi i1)])).length) Slot.unset).toArray = ls at hl ⊢
  have hl : lv_has ls 3 [(0, .ref (t 0)), (1, .int (zi i1))] := hl
  refine (zw_X2_lose t  t_size t_numbers i1 hx hb hml hown hts hK hA out h ?_) s.heap [] ls hP hD hS (lv_sub hl [0, 1] rfl)
  exact fun H locs ls pc hP hD hS hd => W.iret hx hb hr (fun t ht hW => ⟨⟨_, (), rfl, rfl, by rw [ht]; exact hP, va_K.moved hW.alike hK, hD⟩, hS.F ht⟩) hS.2.2 hd
/-! DiamondRows$Endless.firstOne()I -/
abbrev zr_X2_firstOne : Room := { frames := 0, cells := 0, slots := 0, locals := 0 }
abbrev zS_X2_firstOne : Type := Nat × Int
abbrev zO_X2_firstOne : Type := Int
noncomputable def zg_X2_firstOne_0  (t_size : Int) (t_numbers : Nat) (i1 : Int) : Option (zO_X2_firstOne ⊕ zS_X2_firstOne) :=
  some (.inr (2, (0 : Int)))
noncomputable def zg_X2_firstOne_2  (t_size : Int) (t_numbers : Nat) (i1 : Int) : Option (zO_X2_firstOne ⊕ zS_X2_firstOne) :=
  if zout i1 then none else
  if zout t_size then none else
  if t_size ≤ i1 then
  some (.inl ((-1 : Int)))
  else
  if i1 < 0 ∨ 10 ≤ i1 then none else
  if (zget t_numbers (Int.toNat i1)) = (1 : Int) then
  some (.inl (i1))
  else
  some (.inr (2, (i1 + (1 : Int))))
noncomputable def zg_X2_firstOne  (t_size : Int) (t_numbers : Nat) (st : zS_X2_firstOne) : Option (zO_X2_firstOne ⊕ zS_X2_firstOne) := match st with
  | (lab, i1) => if lab = 0 then zg_X2_firstOne_0 t_size t_numbers i1 else if lab = 2 then zg_X2_firstOne_2 t_size t_numbers i1 else none
noncomputable def zf_X2_firstOne  (t_size : Int) (t_numbers : Nat)  : Option (Int) := jrun (zg_X2_firstOne t_size t_numbers) jfuel (0, 0)
theorem zi_X2_firstOne_X2 : ∀ w ∈ u_ws RX2 TX2 2, w ∈ wsX2_firstOne := by decide +kernel
theorem zl_X2_firstOne_11 : Cond.fieldLink RX2 11 "DiamondRows$Endless" "numbers" "[I" ∈ wsX2_firstOne := by decide +kernel
theorem zl_X2_firstOne_15 : Cond.fieldLink RX2 15 "DiamondRows$Endless" "size" "I" ∈ wsX2_firstOne := by decide +kernel
def zQ_X2_firstOne (p : Program) (l : Launch) (e : Env) (s : State) (m : MethodId) (args : Array Value) (below : List Frame) (meth : Method) (c : Code) (Q : State → Prop) (H : Heap) (locs : List Loc)  (o : Int) : Prop := ∀ (ls : Array Slot) (pc : Nat), decode cX2_firstOne pc = .ok (.ireturn, 1) → W p l e zr_X2_firstOne s m args below meth c H locs 0 0 Q (F0 m pc ls [.int (zi o)])
def zA_X2_firstOne_0 (p : Program) (l : Launch) (e : Env) (s : State) (m : MethodId) (args : Array Value) (below : List Frame) (meth : Method) (c : Code) (Q : State → Prop) (H : Heap) (locs : List Loc) (t : Nat → Nat)  (i1 : Int) : Prop := ∀ ls : Array Slot, lv_has ls 2 [(0, .ref (t 0))] → W p l e zr_X2_firstOne s m args below meth c H locs 0 0 Q (F0 m 0 ls [])
def zA_X2_firstOne_2 (p : Program) (l : Launch) (e : Env) (s : State) (m : MethodId) (args : Array Value) (below : List Frame) (meth : Method) (c : Code) (Q : State → Prop) (H : Heap) (locs : List Loc) (t : Nat → Nat)  (i1 : Int) : Prop := ∀ ls : Array Slot, lv_has ls 2 [(0, .ref (t 0)), (1, .int (zi i1))] → W p l e zr_X2_firstOne s m args below meth c H locs 0 0 Q (F0 m 2 ls [])
def zA_X2_firstOne (p : Program) (l : Launch) (e : Env) (s : State) (m : MethodId) (args : Array Value) (below : List Frame) (meth : Method) (c : Code) (Q : State → Prop) (H : Heap) (locs : List Loc) (t : Nat → Nat)  (st : zS_X2_firstOne) : Prop := match st with
  | (lab, i1) => if lab = 0 then zA_X2_firstOne_0 p l e s m args below meth c Q H locs t  i1 else if lab = 2 then zA_X2_firstOne_2 p l e s m args below meth c Q H locs t  i1 else True
set_option maxHeartbeats 4000000 in
set_option maxRecDepth 100000 in
theorem zs_X2_firstOne_0 {p : Program} {l : Launch} {e : Env} {s : State} {m : MethodId} {args : Array Value} {below : List Frame} {meth : Method} {c : Code} {Q : State → Prop} {D : va_G} {κ : Nat → ClassId} {H : Heap} {locs : List Loc} (t : Nat → Nat) (t_size : Int) (t_numbers : Nat)  (hx : p.tables.exec = Jvm.exec) (hb : c.code = cX2_firstOne) (hml : c.maxLocals = 2) (hown : s.vm.findClass RX2 = some m.cls) (hts : ∀ w ∈ wsX2_firstOne, w.before args s = true) (hK : va_K D vwCl (zTY κ) s) (hP : va_P D vwCl ([((t 0), .inr (2, [.ref (t 1), .int (zi t_size)])), ((t 1), .inl (κ 1, 10, .inl (zc t_numbers)))]) H) (i1 : Int) (hg : Go (GoE (zA_X2_firstOne p l e s m args below meth c Q H locs t ) (zQ_X2_firstOne p l e s m args below meth c Q H locs)) (zg_X2_firstOne_0 t_size t_numbers i1)) : zA_X2_firstOne_0 p l e s m args below meth c Q H locs t  i1 := by
  intro ls hl
  unfold zg_X2_firstOne_0 at hg
  refine zv_iconst hx hb dX2_firstOne_0 ?_
  refine lv_istore_n (lv' := [(1, .int (zi (0 : Int))), (0, .ref (t 0))]) hx hb dX2_firstOne_1 rfl hl (by decide) rfl (fun ls hl => ?_)
  exact (Go_s hg) ls (lv_sub hl [1, 0] rfl)
set_option maxHeartbeats 4000000 in
set_option maxRecDepth 100000 in
theorem zs_X2_firstOne_2 {p : Program} {l : Launch} {e : Env} {s : State} {m : MethodId} {args : Array Value} {below : List Frame} {meth : Method} {c : Code} {Q : State → Prop} {D : va_G} {κ : Nat → ClassId} {H : Heap} {locs : List Loc} (t : Nat → Nat) (t_size : Int) (t_numbers : Nat)  (hx : p.tables.exec = Jvm.exec) (hb : c.code = cX2_firstOne) (hml : c.maxLocals = 2) (hown : s.vm.findClass RX2 = some m.cls) (hts : ∀ w ∈ wsX2_firstOne, w.before args s = true) (hK : va_K D vwCl (zTY κ) s) (hP : va_P D vwCl ([((t 0), .inr (2, [.ref (t 1), .int (zi t_size)])), ((t 1), .inl (κ 1, 10, .inl (zc t_numbers)))]) H) (i1 : Int) (hg : Go (GoE (zA_X2_firstOne p l e s m args below meth c Q H locs t ) (zQ_X2_firstOne p l e s m args below meth c Q H locs)) (zg_X2_firstOne_2 t_size t_numbers i1)) : zA_X2_firstOne_2 p l e s m args below meth c Q H locs t  i1 := by
  intro ls hl
  unfold zg_X2_firstOne_2 at hg
  refine lv_iload_n hx hb dX2_firstOne_2 rfl (lv_at hl 1 rfl) ?_
  refine lv_aload_n hx hb dX2_firstOne_3 rfl (lv_at hl 0 rfl) ?_
  refine va_get (D := D) (ci := 2) (v := .int (zi t_size)) (C := RX2) (T := TX2) (N := 2) hx hb hts zi_X2_firstOne_X2 hown hK hP 0 rfl rfl 1 (by decide) (hts (.fieldLink RX2 15 "DiamondRows$Endless" "size" "I") zl_X2_firstOne_15) (fun _ h9 => h9) rfl dX2_firstOne_4 ?_
  obtain ⟨b1, hg⟩ := Go_n hg
  obtain ⟨b2, hg⟩ := Go_n hg
  refine zv_icmp_ge (tgt := 28) hx hb dX2_firstOne_7 (by decide) b1 b2 (fun c5 => ?_) (fun c5 => ?_)
  · have hg := Go_t c5 hg
    refine zv_iconst hx hb dX2_firstOne_28 ?_
    exact (Go_s hg) _ _ dX2_firstOne_29
  · have hg := Go_f c5 hg
    refine lv_aload_n hx hb dX2_firstOne_10 rfl (lv_at hl 0 rfl) ?_
    refine va_get (D := D) (ci := 2) (v := .ref (t 1)) (C := RX2) (T := TX2) (N := 2) hx hb hts zi_X2_firstOne_X2 hown hK hP 0 rfl rfl 0 (by decide) (hts (.fieldLink RX2 11 "DiamondRows$Endless" "numbers" "[I") zl_X2_firstOne_11) (fun _ h9 => h9) rfl dX2_firstOne_11 ?_
    refine lv_iload_n hx hb dX2_firstOne_14 rfl (lv_at hl 1 rfl) ?_
    obtain ⟨n3, hg⟩ := Go_n hg
    refine zv_iald hx hb hK hP 1 1 rfl rfl (by decide) n3 dX2_firstOne_15 ?_
    refine zv_iconst hx hb dX2_firstOne_16 ?_
    refine zv_icmp_ne (tgt := 22) hx hb dX2_firstOne_17 (by decide) (zget_in _ _) (by decide) (fun c4 => ?_) (fun c4 => ?_)
    · have hg := Go_f c4 hg
      refine lv_iinc (v := zi (i1 + (1 : Int))) (lv' := [(1, .int (zi (i1 + (1 : Int)))), (0, .ref (t 0))]) hx hb dX2_firstOne_22 hl (k := 1) rfl (zi_add i1 _) (by decide) rfl (fun ls hl => ?_)
      refine lv_goto (tgt := 2) hx hb dX2_firstOne_25 (by decide) ?_
      exact (Go_s hg) ls (lv_sub hl [1, 0] rfl)
    · have hg := Go_t c4 hg
      refine lv_iload_n hx hb dX2_firstOne_20 rfl (lv_at hl 1 rfl) ?_
      exact (Go_s hg) _ _ dX2_firstOne_21
set_option maxHeartbeats 4000000 in
set_option maxRecDepth 100000 in
theorem zw_X2_firstOne {p : Program} {l : Launch} {e : Env} {s : State} {m : MethodId} {args : Array Value} {below : List Frame} {meth : Method} {c : Code} {Q : State → Prop} {D : va_G} {κ : Nat → ClassId} {H : Heap} {locs : List Loc} (t : Nat → Nat) (t_size : Int) (t_numbers : Nat)   (hx : p.tables.exec = Jvm.exec) (hb : c.code = cX2_firstOne) (hml : c.maxLocals = 2) (hown : s.vm.findClass RX2 = some m.cls) (hts : ∀ w ∈ wsX2_firstOne, w.before args s = true) (hK : va_K D vwCl (zTY κ) s) (hP : va_P D vwCl ([((t 0), .inr (2, [.ref (t 1), .int (zi t_size)])), ((t 1), .inl (κ 1, 10, .inl (zc t_numbers)))]) H) (out : Int) (h : zf_X2_firstOne t_size t_numbers  = some out) (hq : zQ_X2_firstOne p l e s m args below meth c Q H locs out) : zA_X2_firstOne_0 p l e s m args below meth c Q H locs t  0 := by
  have hst : ∀ st : zS_X2_firstOne, Go (GoE (zA_X2_firstOne p l e s m args below meth c Q H locs t ) (zQ_X2_firstOne p l e s m args below meth c Q H locs)) (zg_X2_firstOne t_size t_numbers st) → zA_X2_firstOne p l e s m args below meth c Q H locs t  st := by
    intro st hg
    obtain ⟨lab, i1⟩ := st
    by_cases h0 : lab = 0
    · subst h0
      exact zs_X2_firstOne_0 t t_size t_numbers  hx hb hml hown hts hK hP i1 hg
    by_cases h2 : lab = 2
    · subst h2
      exact zs_X2_firstOne_2 t t_size t_numbers  hx hb hml hown hts hK hP i1 hg
    have hz : zg_X2_firstOne t_size t_numbers (lab, i1) = none := by simp [zg_X2_firstOne, h0, h2]
    rw [hz] at hg
    obtain ⟨a, h1, -⟩ := hg
    cases h1
  exact jwalk (At := zA_X2_firstOne p l e s m args below meth c Q H locs t ) (Ret := zQ_X2_firstOne p l e s m args below meth c Q H locs) hst _ _ _ h hq
set_option maxHeartbeats 4000000 in
set_option maxRecDepth 100000 in
theorem zc_X2_firstOne (l : Launch) (D : va_G) (κ : Nat → ClassId) (t : Nat → Nat) (t_size : Int) (t_numbers : Nat)  (out : Int) (h : zf_X2_firstOne t_size t_numbers  = some out) : Met l yX2_firstOne wsX2_firstOne zr_X2_firstOne (va_Pc [.ref (t 0)] (zR D κ ([((t 0), .inr (2, [.ref (t 1), .int (zi t_size)])), ((t 1), .inl (κ 1, 10, .inl (zc t_numbers)))]))) (vp_Si (fun x => x = zi out)) 0 0 (fun _ => False) := by
  refine Met.ofW (cc := cX2_firstOne) (maxL := 2) (ret := (some .int)) (by decide +kernel) rfl ?_
  intro p e s m args below meth c s₁ B hml hv
  obtain ⟨rfl, hP, hK⟩ := hv
  have hx := B.exec
  have hb := B.bytes
  have hr := B.returns
  have hts := atoms_spec (ws := wsX2_firstOne) B.pre
  have hown : s.vm.findClass RX2 = some m.cls := findClass_of_methodNamed B.named
  have hlocks := B.notSynchronized
  have hl := lv_entry ([.ref (t 0)]) (n := 2) (Nat.le_of_ble_eq_true rfl)
  rw [lg_entry_eq]
  generalize (lg_sl ([.ref (t 0)]) ++ List.replicate (2 - (lg_sl ([.ref (t 0)])).length) Slot.unset).toArray = ls at hl ⊢
  have hl : lv_has ls 2 [(0, .ref (t 0))] := hl
  refine (zw_X2_firstOne t t_size t_numbers   hx hb hml hown hts hK hP out h ?_) ls (lv_sub hl [0] rfl)
  exact fun ls pc hd => W.iret hx hb hr (fun t ht hW => ⟨_, rfl, rfl, ht⟩) (fun _ h => by cases h) hd
/-! DiamondRows$Endless.loseAll()I -/
abbrev zr_X2_loseAll : Room := { frames := 5, cells := 0, slots := 0, locals := 107 }
abbrev zS_X2_loseAll : Type := Nat × Int × Int × Int × Nat
abbrev zO_X2_loseAll : Type := Int × Int × Nat
noncomputable def zg_X2_loseAll_0   (i1 : Int) (i2 : Int) (t_size : Int) (t_numbers : Nat) : Option (zO_X2_loseAll ⊕ zS_X2_loseAll) :=
  some (.inr (4, (0 : Int), (0 : Int), t_size, t_numbers))
noncomputable def zg_X2_loseAll_4   (i1 : Int) (i2 : Int) (t_size : Int) (t_numbers : Nat) : Option (zO_X2_loseAll ⊕ zS_X2_loseAll) :=
  if zout i2 then none else
  if (10 : Int) ≤ i2 then
  some (.inl (i1, t_size, t_numbers))
  else
  Option.bind (zf_X2_firstOne t_size t_numbers) (fun o2 =>
  if zout o2 then none else
  if o2 = (-1 : Int) then
  some (.inl (i1, t_size, t_numbers))
  else
  Option.bind (zf_X2_canLose t_size t_numbers o2) (fun o4 =>
  if o4 = false then
  some (.inl (i1, t_size, t_numbers))
  else
  Option.bind (zf_X2_lose t_size t_numbers o2) (fun o5 =>
  some (.inr (4, (i1 + (1 : Int)), (i2 + (1 : Int)), (o5.2.1), (o5.2.2))))))
noncomputable def zg_X2_loseAll   (st : zS_X2_loseAll) : Option (zO_X2_loseAll ⊕ zS_X2_loseAll) := match st with
  | (lab, i1, i2, t_size, t_numbers) => if lab = 0 then zg_X2_loseAll_0  i1 i2 t_size t_numbers else if lab = 4 then zg_X2_loseAll_4  i1 i2 t_size t_numbers else none
noncomputable def zf_X2_loseAll  (t_size : Int) (t_numbers : Nat)  : Option (Int × Int × Nat) := jrun (zg_X2_loseAll ) jfuel (0, 0, 0, t_size, t_numbers)
def zQ_X2_loseAll (p : Program) (l : Launch) (e : Env) (s : State) (m : MethodId) (args : Array Value) (below : List Frame) (meth : Method) (c : Code) (Q : State → Prop) (D : va_G) (κ : Nat → ClassId) (A : Nat → Prop) (H0 : Heap) (t : Nat → Nat)  (o : Int × Int × Nat) : Prop := ∀ (H : Heap) (locs : List Loc) (ls : Array Slot) (pc : Nat), va_P D vwCl ([((t 0), .inr (2, [.ref (t 1), .int (zi (o.2.1))])), ((t 1), .inl (κ 1, 10, .inl (zc (o.2.2))))]) H → va_D A ([((t 0), .inr (2, [.ref (t 1), .int (zi (o.2.1))])), ((t 1), .inl (κ 1, 10, .inl (zc (o.2.2))))]) → va_S A H0 H locs → decode cX2_loseAll pc = .ok (.ireturn, 1) → W p l e zr_X2_loseAll s m args below meth c H locs 0 0 Q (F0 m pc ls [.int (zi (o.1))])
def zA_X2_loseAll_0 (p : Program) (l : Launch) (e : Env) (s : State) (m : MethodId) (args : Array Value) (below : List Frame) (meth : Method) (c : Code) (Q : State → Prop) (D : va_G) (κ : Nat → ClassId) (A : Nat → Prop) (H0 : Heap) (t : Nat → Nat)  (i1 : Int) (i2 : Int) (t_size : Int) (t_numbers : Nat) : Prop := ∀ (H : Heap) (locs : List Loc) (ls : Array Slot), va_P D vwCl ([((t 0), .inr (2, [.ref (t 1), .int (zi t_size)])), ((t 1), .inl (κ 1, 10, .inl (zc t_numbers)))]) H → va_D A ([((t 0), .inr (2, [.ref (t 1), .int (zi t_size)])), ((t 1), .inl (κ 1, 10, .inl (zc t_numbers)))]) → va_S A H0 H locs → lv_has ls 4 [(0, .ref (t 0))] → W p l e zr_X2_loseAll s m args below meth c H locs 0 0 Q (F0 m 0 ls [])
def zA_X2_loseAll_4 (p : Program) (l : Launch) (e : Env) (s : State) (m : MethodId) (args : Array Value) (below : List Frame) (meth : Method) (c : Code) (Q : State → Prop) (D : va_G) (κ : Nat → ClassId) (A : Nat → Prop) (H0 : Heap) (t : Nat → Nat)  (i1 : Int) (i2 : Int) (t_size : Int) (t_numbers : Nat) : Prop := ∀ (H : Heap) (locs : List Loc) (ls : Array Slot), va_P D vwCl ([((t 0), .inr (2, [.ref (t 1), .int (zi t_size)])), ((t 1), .inl (κ 1, 10, .inl (zc t_numbers)))]) H → va_D A ([((t 0), .inr (2, [.ref (t 1), .int (zi t_size)])), ((t 1), .inl (κ 1, 10, .inl (zc t_numbers)))]) → va_S A H0 H locs → lv_has ls 4 [(0, .ref (t 0)), (1, .int (zi i1)), (2, .int (zi i2))] → W p l e zr_X2_loseAll s m args below meth c H locs 0 0 Q (F0 m 4 ls [])
def zA_X2_loseAll (p : Program) (l : Launch) (e : Env) (s : State) (m : MethodId) (args : Array Value) (below : List Frame) (meth : Method) (c : Code) (Q : State → Prop) (D : va_G) (κ : Nat → ClassId) (A : Nat → Prop) (H0 : Heap) (t : Nat → Nat)  (st : zS_X2_loseAll) : Prop := match st with
  | (lab, i1, i2, t_size, t_numbers) => if lab = 0 then zA_X2_loseAll_0 p l e s m args below meth c Q D κ A H0 t  i1 i2 t_size t_numbers else if lab = 4 then zA_X2_loseAll_4 p l e s m args below meth c Q D κ A H0 t  i1 i2 t_size t_numbers else True
set_option maxHeartbeats 4000000 in
set_option maxRecDepth 100000 in
theorem zs_X2_loseAll_0 {p : Program} {l : Launch} {e : Env} {s : State} {m : MethodId} {args : Array Value} {below : List Frame} {meth : Method} {c : Code} {Q : State → Prop} {D : va_G} {κ : Nat → ClassId} {A : Nat → Prop} {H0 : Heap} (t : Nat → Nat)  (hx : p.tables.exec = Jvm.exec) (hb : c.code = cX2_loseAll) (hml : c.maxLocals = 4) (hown : s.vm.findClass RX2 = some m.cls) (hts : ∀ w ∈ wsX2_loseAll, w.before args s = true) (hK : va_K D vwCl (zTY κ) s) (hA : ∀ q : Nat, H0.size ≤ q → A q) (i1 : Int) (i2 : Int) (t_size : Int) (t_numbers : Nat) (hg : Go (GoE (zA_X2_loseAll p l e s m args below meth c Q D κ A H0 t ) (zQ_X2_loseAll p l e s m args below meth c Q D κ A H0 t )) (zg_X2_loseAll_0  i1 i2 t_size t_numbers)) : zA_X2_loseAll_0 p l e s m args below meth c Q D κ A H0 t  i1 i2 t_size t_numbers := by
  intro H locs ls hP hD hS hl
  unfold zg_X2_loseAll_0 at hg
  refine zv_iconst hx hb dX2_loseAll_0 ?_
  refine lv_istore_n (lv' := [(1, .int (zi (0 : Int))), (0, .ref (t 0))]) hx hb dX2_loseAll_1 rfl hl (by decide) rfl (fun ls hl => ?_)
  refine zv_iconst hx hb dX2_loseAll_2 ?_
  refine lv_istore_n (lv' := [(2, .int (zi (0 : Int))), (1, .int (zi (0 : Int))), (0, .ref (t 0))]) hx hb dX2_loseAll_3 rfl hl (by decide) rfl (fun ls hl => ?_)
  exact (Go_s hg) H locs ls hP hD hS (lv_sub hl [2, 1, 0] rfl)
set_option maxHeartbeats 4000000 in
set_option maxRecDepth 100000 in
theorem zs_X2_loseAll_4 {p : Program} {l : Launch} {e : Env} {s : State} {m : MethodId} {args : Array Value} {below : List Frame} {meth : Method} {c : Code} {Q : State → Prop} {D : va_G} {κ : Nat → ClassId} {A : Nat → Prop} {H0 : Heap} (t : Nat → Nat)  (hx : p.tables.exec = Jvm.exec) (hb : c.code = cX2_loseAll) (hml : c.maxLocals = 4) (hown : s.vm.findClass RX2 = some m.cls) (hts : ∀ w ∈ wsX2_loseAll, w.before args s = true) (hK : va_K D vwCl (zTY κ) s) (hA : ∀ q : Nat, H0.size ≤ q → A q) (i1 : Int) (i2 : Int) (t_size : Int) (t_numbers : Nat) (hg : Go (GoE (zA_X2_loseAll p l e s m args below meth c Q D κ A H0 t ) (zQ_X2_loseAll p l e s m args below meth c Q D κ A H0 t )) (zg_X2_loseAll_4  i1 i2 t_size t_numbers)) : zA_X2_loseAll_4 p l e s m args below meth c Q D κ A H0 t  i1 i2 t_size t_numbers := by
  intro H locs ls hP hD hS hl
  unfold zg_X2_loseAll_4 at hg
  refine lv_iload_n hx hb dX2_loseAll_4 rfl (lv_at hl 2 rfl) ?_
  refine zv_bipush hx hb dX2_loseAll_5 (by decide) ?_
  obtain ⟨b1, hg⟩ := Go_n hg
  refine zv_icmp_ge (tgt := 46) hx hb dX2_loseAll_7 (by decide) b1 (by decide) (fun c8 => ?_) (fun c8 => ?_)
  · have hg := Go_t c8 hg
    refine lv_iload_n hx hb dX2_loseAll_46 rfl (lv_at hl 1 rfl) ?_
    exact (Go_s hg) _ _ _ _ hP hD hS dX2_loseAll_47
  · have hg := Go_f c8 hg
    refine lv_aload_n hx hb dX2_loseAll_10 rfl (lv_at hl 0 rfl) ?_
    obtain ⟨o2, ho2, hg⟩ := Go_b hg
    refine zc_vi (rest := []) ⟨hx, hb, hml, hown, hts⟩ (zc_X2_firstOne l D κ t t_size t_numbers o2 ho2) (cwV 0 hts gX2_loseAll_X2_firstOne rfl rfl rfl (by decide +kernel) ⟨Nat.le_of_ble_eq_true rfl, Nat.le_of_ble_eq_true rfl⟩) (zpreV hK (hP.sub [0, 1] rfl) 2 0 rfl rfl) rfl hl.1 rfl (Nat.le_of_ble_eq_true rfl) dX2_loseAll_11 ⟨Nat.zero_le _, Nat.zero_le _⟩ ?_
    refine lv_istore_n (lv' := [(3, .int (zi o2)), (0, .ref (t 0)), (1, .int (zi i1)), (2, .int (zi i2))]) hx hb dX2_loseAll_14 rfl hl (by decide) rfl (fun ls hl => ?_)
    refine lv_iload_n hx hb dX2_loseAll_15 rfl (lv_at hl 0 rfl) ?_
    refine zv_iconst hx hb dX2_loseAll_16 ?_
    obtain ⟨b3, hg⟩ := Go_n hg
    refine zv_icmp_eq (tgt := 46) hx hb dX2_loseAll_17 (by decide) b3 (by decide) (fun c7 => ?_) (fun c7 => ?_)
    · have hg := Go_t c7 hg
      refine lv_iload_n hx hb dX2_loseAll_46 rfl (lv_at hl 2 rfl) ?_
      exact (Go_s hg) _ _ _ _ hP hD hS dX2_loseAll_47
    · have hg := Go_f c7 hg
      refine lv_aload_n hx hb dX2_loseAll_20 rfl (lv_at hl 1 rfl) ?_
      refine lv_iload_n hx hb dX2_loseAll_21 rfl (lv_at hl 0 rfl) ?_
      obtain ⟨o4, ho4, hg⟩ := Go_b hg
      refine zc_vi (rest := []) ⟨hx, hb, hml, hown, hts⟩ (zc_X2_canLose l D κ t t_size t_numbers o2 o4 ho4) (cwV 1 hts gX2_loseAll_X2_canLose rfl rfl rfl (by decide +kernel) ⟨Nat.le_of_ble_eq_true rfl, Nat.le_of_ble_eq_true rfl⟩) (zpreV hK (hP.sub [0, 1] rfl) 2 0 rfl rfl) rfl hl.1 rfl (Nat.le_of_ble_eq_true rfl) dX2_loseAll_22 ⟨Nat.zero_le _, Nat.zero_le _⟩ ?_
      refine zv_ifb_ne (tgt := 31) hx hb dX2_loseAll_25 (by decide) (fun c6 => ?_) (fun c6 => ?_)
      · have hg := Go_f c6 hg
        refine lv_aload_n hx hb dX2_loseAll_31 rfl (lv_at hl 1 rfl) ?_
        refine lv_iload_n hx hb dX2_loseAll_32 rfl (lv_at hl 0 rfl) ?_
        obtain ⟨o5, ho5, hg⟩ := Go_b hg
        refine zj_i (wr := []) (ws1 := [((t 0), .inr (2, [.ref (t 1), .int (zi (o5.2.1))])), ((t 1), .inl (κ 1, 10, .inl (zc (o5.2.2))))]) (va_runV (rest := []) ⟨hx, hb, hml, hown, hts⟩ (zc_X2_lose l D κ t H.size t_size t_numbers o2 o5 ho5) (cwV 1 hts gX2_loseAll_X2_lose rfl rfl rfl (by decide +kernel) ⟨Nat.le_of_ble_eq_true rfl, Nat.le_of_ble_eq_true rfl⟩) (zpreWV hK (hP.sub [0, 1] rfl) (hD.sub [0, 1] (by decide) rfl) 2 0 rfl rfl) rfl rfl hl.1 rfl (lv_room (Nat.le_of_ble_eq_true rfl)) dX2_loseAll_33 ⟨Nat.zero_le _, Nat.zero_le _⟩) hP hD hS hA [0, 1] [] [0, 1] rfl rfl (by decide) (by decide) rfl rfl (by decide) (fun H locs hP hD hS => ?_)
        refine lv_pop hx hb dX2_loseAll_36 rfl ?_
        refine lv_iinc (v := zi (i1 + (1 : Int))) (lv' := [(1, .int (zi (i1 + (1 : Int)))), (3, .int (zi o2)), (0, .ref (t 0)), (2, .int (zi i2))]) hx hb dX2_loseAll_37 hl (k := 2) rfl (zi_add i1 _) (by decide) rfl (fun ls hl => ?_)
        refine lv_iinc (v := zi (i2 + (1 : Int))) (lv' := [(2, .int (zi (i2 + (1 : Int)))), (1, .int (zi (i1 + (1 : Int)))), (3, .int (zi o2)), (0, .ref (t 0))]) hx hb dX2_loseAll_40 hl (k := 3) rfl (zi_add i2 _) (by decide) rfl (fun ls hl => ?_)
        refine lv_goto (tgt := 4) hx hb dX2_loseAll_43 (by decide) ?_
        exact (Go_s hg) H locs ls hP hD hS (lv_sub hl [3, 1, 0] rfl)
      · have hg := Go_t c6 hg
        refine lv_goto (tgt := 46) hx hb dX2_loseAll_28 (by decide) ?_
        refine lv_iload_n hx hb dX2_loseAll_46 rfl (lv_at hl 2 rfl) ?_
        exact (Go_s hg) _ _ _ _ hP hD hS dX2_loseAll_47
set_option maxHeartbeats 4000000 in
set_option maxRecDepth 100000 in
theorem zw_X2_loseAll {p : Program} {l : Launch} {e : Env} {s : State} {m : MethodId} {args : Array Value} {below : List Frame} {meth : Method} {c : Code} {Q : State → Prop} {D : va_G} {κ : Nat → ClassId} {A : Nat → Prop} {H0 : Heap} (t : Nat → Nat)  (t_size : Int) (t_numbers : Nat)  (hx : p.tables.exec = Jvm.exec) (hb : c.code = cX2_loseAll) (hml : c.maxLocals = 4) (hown : s.vm.findClass RX2 = some m.cls) (hts : ∀ w ∈ wsX2_loseAll, w.before args s = true) (hK : va_K D vwCl (zTY κ) s) (hA : ∀ q : Nat, H0.size ≤ q → A q) (out : Int × Int × Nat) (h : zf_X2_loseAll t_size t_numbers  = some out) (hq : zQ_X2_loseAll p l e s m args below meth c Q D κ A H0 t  out) : zA_X2_loseAll_0 p l e s m args below meth c Q D κ A H0 t  0 0 t_size t_numbers := by
  have hst : ∀ st : zS_X2_loseAll, Go (GoE (zA_X2_loseAll p l e s m args below meth c Q D κ A H0 t ) (zQ_X2_loseAll p l e s m args below meth c Q D κ A H0 t )) (zg_X2_loseAll  st) → zA_X2_loseAll p l e s m args below meth c Q D κ A H0 t  st := by
    intro st hg
    obtain ⟨lab, i1, i2, t_size, t_numbers⟩ := st
    by_cases h0 : lab = 0
    · subst h0
      exact zs_X2_loseAll_0 t  hx hb hml hown hts hK hA i1 i2 t_size t_numbers hg
    by_cases h4 : lab = 4
    · subst h4
      exact zs_X2_loseAll_4 t  hx hb hml hown hts hK hA i1 i2 t_size t_numbers hg
    have hz : zg_X2_loseAll  (lab, i1, i2, t_size, t_numbers) = none := by simp [zg_X2_loseAll, h0, h4]
    rw [hz] at hg
    obtain ⟨a, h1, -⟩ := hg
    cases h1
  exact jwalk (At := zA_X2_loseAll p l e s m args below meth c Q D κ A H0 t ) (Ret := zQ_X2_loseAll p l e s m args below meth c Q D κ A H0 t ) hst _ _ _ h hq
set_option maxHeartbeats 4000000 in
set_option maxRecDepth 100000 in
theorem zc_X2_loseAll (l : Launch) (D : va_G) (κ : Nat → ClassId) (t : Nat → Nat) (sz : Nat) (t_size : Int) (t_numbers : Nat)  (out : Int × Int × Nat) (h : zf_X2_loseAll t_size t_numbers  = some out) : Met l yX2_loseAll wsX2_loseAll zr_X2_loseAll (va_Pc [.ref (t 0)] (zW D κ ([((t 0), .inr (2, [.ref (t 1), .int (zi t_size)])), ((t 1), .inl (κ 1, 10, .inl (zc t_numbers)))]) sz)) (va_Qi (fun r (_ : Unit) => r = zi (out.1)) (fun _ => zB D κ (va_A ([((t 0), .inr (2, [.ref (t 1), .int (zi t_size)])), ((t 1), .inl (κ 1, 10, .inl (zc t_numbers)))]) sz) ([((t 0), .inr (2, [.ref (t 1), .int (zi (out.2.1))])), ((t 1), .inl (κ 1, 10, .inl (zc (out.2.2))))])) (va_A ([((t 0), .inr (2, [.ref (t 1), .int (zi t_size)])), ((t 1), .inl (κ 1, 10, .inl (zc t_numbers)))]) sz)) 0 0 (va_A ([((t 0), .inr (2, [.ref (t 1), .int (zi t_size)])), ((t 1), .inl (κ 1, 10, .inl (zc t_numbers)))]) sz) := by
  refine Met.ofW (cc := cX2_loseAll) (maxL := 4) (ret := (some .int)) (by decide +kernel) rfl ?_
  intro p e s m args below meth c s₁ B hml hv
  obtain ⟨rfl, hsz, hP, hK, hD0⟩ := hv
  have hx := B.exec
  have hb := B.bytes
  have hr := B.returns
  have hts := atoms_spec (ws := wsX2_loseAll) B.pre
  have hown : s.vm.findClass RX2 = some m.cls := findClass_of_methodNamed B.named
  have hlocks := B.notSynchronized
  subst hsz
  have hD := hD0.self (sz := s.heap.size)
  generalize hAe : va_A ([((t 0), .inr (2, [.ref (t 1), .int (zi t_size)])), ((t 1), .inl (κ 1, 10, .inl (zc t_numbers)))]) s.heap.size = A at hD ⊢
  have hA : ∀ q : Nat, s.heap.size ≤ q → A q := fun q h => by rw [← hAe]; exact Or.inr h
  have hS : va_S A s.heap s.heap [] := va_S.rf
  have hl := lv_entry ([.ref (t 0)]) (n := 4) (Nat.le_of_ble_eq_true rfl)
  rw [lg_entry_eq]
  generalize (lg_sl ([.ref (t 0)]) ++ List.replicate (4 - (lg_sl ([.ref (t 0)])).length) Slot.unset).toArray = ls at hl ⊢
  have hl : lv_has ls 4 [(0, .ref (t 0))] := hl
  refine (zw_X2_loseAll t  t_size t_numbers  hx hb hml hown hts hK hA out h ?_) s.heap [] ls hP hD hS (lv_sub hl [0] rfl)
  exact fun H locs ls pc hP hD hS hd => W.iret hx hb hr (fun t ht hW => ⟨⟨_, (), rfl, rfl, by rw [ht]; exact hP, va_K.moved hW.alike hK, hD⟩, hS.F ht⟩) hS.2.2 hd
