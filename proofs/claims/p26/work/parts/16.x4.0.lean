/-! DiamondRows$Flips.comeTo(II)V -/
abbrev zr_X4_comeTo : Room := { frames := 0, cells := 0, slots := 0, locals := 0 }
noncomputable def zf_X4_comeTo  (t_queued : Int) (t_steps : Nat) (t_queue : Nat) (i1 : Int) (i2 : Int) : Option (Int × Nat × Nat) :=
  if zout i1 then none else
  if i1 < 0 then
  some (t_queued, t_steps, t_queue)
  else
  if (429 : Int) ≤ i1 then
  some (t_queued, t_steps, t_queue)
  else
  if i1 < 0 ∨ 429 ≤ i1 then none else
  if (zget t_steps (Int.toNat i1)) = (-1 : Int) then
  if zout t_queued then none else
  if (429 : Int) ≤ t_queued then
  some (t_queued, t_steps, t_queue)
  else
  if t_queued < 0 ∨ 429 ≤ t_queued then none else
  some ((t_queued + (1 : Int)), (zset t_steps (Int.toNat i1) i2), (zset t_queue (Int.toNat t_queued) i1))
  else
  some (t_queued, t_steps, t_queue)
theorem zi_X4_comeTo_X4 : ∀ w ∈ u_ws RX4 TX4 5, w ∈ wsX4_comeTo := by decide +kernel
theorem zl_X4_comeTo_9 : Cond.fieldLink RX4 9 "DiamondRows$Flips" "steps" "[I" ∈ wsX4_comeTo := by decide +kernel
theorem zl_X4_comeTo_15 : Cond.fieldLink RX4 15 "DiamondRows$Flips" "queue" "[I" ∈ wsX4_comeTo := by decide +kernel
theorem zl_X4_comeTo_21 : Cond.fieldLink RX4 21 "DiamondRows$Flips" "queued" "I" ∈ wsX4_comeTo := by decide +kernel
def zQ_X4_comeTo (p : Program) (l : Launch) (e : Env) (s : State) (m : MethodId) (args : Array Value) (below : List Frame) (meth : Method) (c : Code) (Q : State → Prop) (D : va_G) (κ : Nat → ClassId) (A : Nat → Prop) (H0 : Heap) (t : Nat → Nat) (t_wayLength : Int) (t_way : Nat) (o : Int × Nat × Nat) : Prop := ∀ (H : Heap) (locs : List Loc) (ls : Array Slot) (pc : Nat), va_P D vwCl ([((t 0), .inr (4, [.ref (t 1), .ref (t 2), .ref (t 3), .int (zi t_wayLength), .int (zi (o.1))])), ((t 1), .inl (κ 1, 429, .inl (zc (o.2.1)))), ((t 2), .inl (κ 1, 429, .inl (zc (o.2.2)))), ((t 3), .inl (κ 1, 429, .inl (zc t_way)))]) H → va_D A ([((t 0), .inr (4, [.ref (t 1), .ref (t 2), .ref (t 3), .int (zi t_wayLength), .int (zi (o.1))])), ((t 1), .inl (κ 1, 429, .inl (zc (o.2.1)))), ((t 2), .inl (κ 1, 429, .inl (zc (o.2.2)))), ((t 3), .inl (κ 1, 429, .inl (zc t_way)))]) → va_S A H0 H locs → decode cX4_comeTo pc = .ok (.return_, 1) → W p l e zr_X4_comeTo s m args below meth c H locs 0 0 Q (F0 m pc ls [])
set_option maxHeartbeats 4000000 in
set_option maxRecDepth 100000 in
theorem zs_X4_comeTo {p : Program} {l : Launch} {e : Env} {s : State} {m : MethodId} {args : Array Value} {below : List Frame} {meth : Method} {c : Code} {Q : State → Prop} {D : va_G} {κ : Nat → ClassId} {A : Nat → Prop} {H0 : Heap} (t : Nat → Nat) (t_wayLength : Int) (t_queued : Int) (t_steps : Nat) (t_queue : Nat) (t_way : Nat) (i1 : Int) (i2 : Int) (hx : p.tables.exec = Jvm.exec) (hb : c.code = cX4_comeTo) (hml : c.maxLocals = 3) (hown : s.vm.findClass RX4 = some m.cls) (hts : ∀ w ∈ wsX4_comeTo, w.before args s = true) (hK : va_K D vwCl (zTY κ) s) (hA : ∀ q : Nat, H0.size ≤ q → A q) (H : Heap) (locs : List Loc) (ls : Array Slot) (hP : va_P D vwCl ([((t 0), .inr (4, [.ref (t 1), .ref (t 2), .ref (t 3), .int (zi t_wayLength), .int (zi t_queued)])), ((t 1), .inl (κ 1, 429, .inl (zc t_steps))), ((t 2), .inl (κ 1, 429, .inl (zc t_queue))), ((t 3), .inl (κ 1, 429, .inl (zc t_way)))]) H) (hD : va_D A ([((t 0), .inr (4, [.ref (t 1), .ref (t 2), .ref (t 3), .int (zi t_wayLength), .int (zi t_queued)])), ((t 1), .inl (κ 1, 429, .inl (zc t_steps))), ((t 2), .inl (κ 1, 429, .inl (zc t_queue))), ((t 3), .inl (κ 1, 429, .inl (zc t_way)))])) (hS : va_S A H0 H locs) (hl : lv_has ls 3 [(0, .ref (t 0)), (1, .int (zi i1)), (2, .int (zi i2))]) (hg : Go (zQ_X4_comeTo p l e s m args below meth c Q D κ A H0 t t_wayLength t_way) (zf_X4_comeTo t_queued t_steps t_queue i1 i2)) : W p l e zr_X4_comeTo s m args below meth c H locs 0 0 Q (F0 m 0 ls []) := by
  unfold zf_X4_comeTo at hg
  refine lv_iload_n hx hb dX4_comeTo_0 rfl (lv_at hl 1 rfl) ?_
  obtain ⟨b1, hg⟩ := Go_n hg
  refine zv_if_lt (tgt := 58) hx hb dX4_comeTo_1 (by decide) b1 (fun c8 => ?_) (fun c8 => ?_)
  · have hg := Go_t c8 hg
    exact (Go_s hg) _ _ _ _ hP hD hS dX4_comeTo_58
  · have hg := Go_f c8 hg
    refine lv_iload_n hx hb dX4_comeTo_4 rfl (lv_at hl 1 rfl) ?_
    refine zv_sipush hx hb dX4_comeTo_5 (by decide) ?_
    refine zv_icmp_ge (tgt := 58) hx hb dX4_comeTo_8 (by decide) b1 (by decide) (fun c7 => ?_) (fun c7 => ?_)
    · have hg := Go_t c7 hg
      exact (Go_s hg) _ _ _ _ hP hD hS dX4_comeTo_58
    · have hg := Go_f c7 hg
      refine lv_aload_n hx hb dX4_comeTo_11 rfl (lv_at hl 0 rfl) ?_
      refine va_get (D := D) (ci := 4) (v := .ref (t 1)) (C := RX4) (T := TX4) (N := 5) hx hb hts zi_X4_comeTo_X4 hown hK hP 0 rfl rfl 0 (by decide) (hts (.fieldLink RX4 9 "DiamondRows$Flips" "steps" "[I") zl_X4_comeTo_9) (fun _ h9 => h9) rfl dX4_comeTo_12 ?_
      refine lv_iload_n hx hb dX4_comeTo_15 rfl (lv_at hl 1 rfl) ?_
      obtain ⟨n2, hg⟩ := Go_n hg
      refine zv_iald hx hb hK hP 1 1 rfl rfl (by decide) n2 dX4_comeTo_16 ?_
      refine zv_iconst hx hb dX4_comeTo_17 ?_
      refine zv_icmp_ne (tgt := 58) hx hb dX4_comeTo_18 (by decide) (zget_in _ _) (by decide) (fun c6 => ?_) (fun c6 => ?_)
      · have hg := Go_f c6 hg
        exact (Go_s hg) _ _ _ _ hP hD hS dX4_comeTo_58
      · have hg := Go_t c6 hg
        refine lv_aload_n hx hb dX4_comeTo_21 rfl (lv_at hl 0 rfl) ?_
        refine va_get (D := D) (ci := 4) (v := .int (zi t_queued)) (C := RX4) (T := TX4) (N := 5) hx hb hts zi_X4_comeTo_X4 hown hK hP 0 rfl rfl 4 (by decide) (hts (.fieldLink RX4 21 "DiamondRows$Flips" "queued" "I") zl_X4_comeTo_21) (fun _ h9 => h9) rfl dX4_comeTo_22 ?_
        refine zv_sipush hx hb dX4_comeTo_25 (by decide) ?_
        obtain ⟨b3, hg⟩ := Go_n hg
        refine zv_icmp_ge (tgt := 58) hx hb dX4_comeTo_28 (by decide) b3 (by decide) (fun c5 => ?_) (fun c5 => ?_)
        · have hg := Go_t c5 hg
          exact (Go_s hg) _ _ _ _ hP hD hS dX4_comeTo_58
        · have hg := Go_f c5 hg
          refine lv_aload_n hx hb dX4_comeTo_31 rfl (lv_at hl 0 rfl) ?_
          refine va_get (D := D) (ci := 4) (v := .ref (t 1)) (C := RX4) (T := TX4) (N := 5) hx hb hts zi_X4_comeTo_X4 hown hK hP 0 rfl rfl 0 (by decide) (hts (.fieldLink RX4 9 "DiamondRows$Flips" "steps" "[I") zl_X4_comeTo_9) (fun _ h9 => h9) rfl dX4_comeTo_32 ?_
          refine lv_iload_n hx hb dX4_comeTo_35 rfl (lv_at hl 1 rfl) ?_
          refine lv_iload_n hx hb dX4_comeTo_36 rfl (lv_at hl 2 rfl) ?_
          refine zv_iast hx hb hK hP hD hS 1 1 rfl rfl (by decide) n2 dX4_comeTo_37 (fun H locs hP hD hS => ?_)
          have hP : va_P D vwCl ([((t 0), .inr (4, [.ref (t 1), .ref (t 2), .ref (t 3), .int (zi t_wayLength), .int (zi t_queued)])), ((t 1), .inl (κ 1, 429, .inl (zc (zset t_steps (Int.toNat i1) i2)))), ((t 2), .inl (κ 1, 429, .inl (zc t_queue))), ((t 3), .inl (κ 1, 429, .inl (zc t_way)))]) H := hP
          have hD : va_D A ([((t 0), .inr (4, [.ref (t 1), .ref (t 2), .ref (t 3), .int (zi t_wayLength), .int (zi t_queued)])), ((t 1), .inl (κ 1, 429, .inl (zc (zset t_steps (Int.toNat i1) i2)))), ((t 2), .inl (κ 1, 429, .inl (zc t_queue))), ((t 3), .inl (κ 1, 429, .inl (zc t_way)))]) := hD
          refine lv_aload_n hx hb dX4_comeTo_38 rfl (lv_at hl 0 rfl) ?_
          refine va_get (D := D) (ci := 4) (v := .ref (t 2)) (C := RX4) (T := TX4) (N := 5) hx hb hts zi_X4_comeTo_X4 hown hK hP 0 rfl rfl 1 (by decide) (hts (.fieldLink RX4 15 "DiamondRows$Flips" "queue" "[I") zl_X4_comeTo_15) (fun _ h9 => h9) rfl dX4_comeTo_39 ?_
          refine lv_aload_n hx hb dX4_comeTo_42 rfl (lv_at hl 0 rfl) ?_
          refine va_get (D := D) (ci := 4) (v := .int (zi t_queued)) (C := RX4) (T := TX4) (N := 5) hx hb hts zi_X4_comeTo_X4 hown hK hP 0 rfl rfl 4 (by decide) (hts (.fieldLink RX4 21 "DiamondRows$Flips" "queued" "I") zl_X4_comeTo_21) (fun _ h9 => h9) rfl dX4_comeTo_43 ?_
          refine lv_iload_n hx hb dX4_comeTo_46 rfl (lv_at hl 1 rfl) ?_
          obtain ⟨n4, hg⟩ := Go_n hg
          refine zv_iast hx hb hK hP hD hS 2 1 rfl rfl (by decide) n4 dX4_comeTo_47 (fun H locs hP hD hS => ?_)
          have hP : va_P D vwCl ([((t 0), .inr (4, [.ref (t 1), .ref (t 2), .ref (t 3), .int (zi t_wayLength), .int (zi t_queued)])), ((t 1), .inl (κ 1, 429, .inl (zc (zset t_steps (Int.toNat i1) i2)))), ((t 2), .inl (κ 1, 429, .inl (zc (zset t_queue (Int.toNat t_queued) i1)))), ((t 3), .inl (κ 1, 429, .inl (zc t_way)))]) H := hP
          have hD : va_D A ([((t 0), .inr (4, [.ref (t 1), .ref (t 2), .ref (t 3), .int (zi t_wayLength), .int (zi t_queued)])), ((t 1), .inl (κ 1, 429, .inl (zc (zset t_steps (Int.toNat i1) i2)))), ((t 2), .inl (κ 1, 429, .inl (zc (zset t_queue (Int.toNat t_queued) i1)))), ((t 3), .inl (κ 1, 429, .inl (zc t_way)))]) := hD
          refine lv_aload_n hx hb dX4_comeTo_48 rfl (lv_at hl 0 rfl) ?_
          refine lv_dup hx hb dX4_comeTo_49 rfl ?_
          refine va_get (D := D) (ci := 4) (v := .int (zi t_queued)) (C := RX4) (T := TX4) (N := 5) hx hb hts zi_X4_comeTo_X4 hown hK hP 0 rfl rfl 4 (by decide) (hts (.fieldLink RX4 21 "DiamondRows$Flips" "queued" "I") zl_X4_comeTo_21) (fun _ h9 => h9) rfl dX4_comeTo_50 ?_
          refine zv_iconst hx hb dX4_comeTo_53 ?_
          refine zv_iadd hx hb dX4_comeTo_54 ?_
          refine va_put (D := D) (ci := 4) (v := .int (zi (t_queued + (1 : Int)))) (ty := .int) (C := RX4) (T := TX4) (N := 5) hx hb hts zi_X4_comeTo_X4 tyX4 tyX4_ok nmX4 hown hK hP hD hS 0 rfl rfl 4 (by decide) (hts (.fieldLink RX4 21 "DiamondRows$Flips" "queued" "I") zl_X4_comeTo_21) (fun _ h9 => h9) rfl (by decide +kernel) rfl rfl (Nat.le_of_ble_eq_true rfl) dX4_comeTo_55 (fun H locs hP hD hS => ?_)
          have hP : va_P D vwCl ([((t 0), .inr (4, [.ref (t 1), .ref (t 2), .ref (t 3), .int (zi t_wayLength), .int (zi (t_queued + (1 : Int)))])), ((t 1), .inl (κ 1, 429, .inl (zc (zset t_steps (Int.toNat i1) i2)))), ((t 2), .inl (κ 1, 429, .inl (zc (zset t_queue (Int.toNat t_queued) i1)))), ((t 3), .inl (κ 1, 429, .inl (zc t_way)))]) H := hP
          have hD : va_D A ([((t 0), .inr (4, [.ref (t 1), .ref (t 2), .ref (t 3), .int (zi t_wayLength), .int (zi (t_queued + (1 : Int)))])), ((t 1), .inl (κ 1, 429, .inl (zc (zset t_steps (Int.toNat i1) i2)))), ((t 2), .inl (κ 1, 429, .inl (zc (zset t_queue (Int.toNat t_queued) i1)))), ((t 3), .inl (κ 1, 429, .inl (zc t_way)))]) := hD
          exact (Go_s hg) _ _ _ _ hP hD hS dX4_comeTo_58
set_option maxHeartbeats 4000000 in
set_option maxRecDepth 100000 in
theorem zc_X4_comeTo (l : Launch) (D : va_G) (κ : Nat → ClassId) (t : Nat → Nat) (sz : Nat) (t_wayLength : Int) (t_queued : Int) (t_steps : Nat) (t_queue : Nat) (t_way : Nat) (i1 : Int) (i2 : Int) (out : Int × Nat × Nat) (h : zf_X4_comeTo t_queued t_steps t_queue i1 i2 = some out) : Met l yX4_comeTo wsX4_comeTo zr_X4_comeTo (va_Pc [.ref (t 0), .int (zi i1), .int (zi i2)] (zW D κ ([((t 0), .inr (4, [.ref (t 1), .ref (t 2), .ref (t 3), .int (zi t_wayLength), .int (zi t_queued)])), ((t 1), .inl (κ 1, 429, .inl (zc t_steps))), ((t 2), .inl (κ 1, 429, .inl (zc t_queue))), ((t 3), .inl (κ 1, 429, .inl (zc t_way)))]) sz)) (va_Qv (fun (_ : Unit) => True) (fun _ => zB D κ (va_A ([((t 0), .inr (4, [.ref (t 1), .ref (t 2), .ref (t 3), .int (zi t_wayLength), .int (zi t_queued)])), ((t 1), .inl (κ 1, 429, .inl (zc t_steps))), ((t 2), .inl (κ 1, 429, .inl (zc t_queue))), ((t 3), .inl (κ 1, 429, .inl (zc t_way)))]) sz) ([((t 0), .inr (4, [.ref (t 1), .ref (t 2), .ref (t 3), .int (zi t_wayLength), .int (zi (out.1))])), ((t 1), .inl (κ 1, 429, .inl (zc (out.2.1)))), ((t 2), .inl (κ 1, 429, .inl (zc (out.2.2)))), ((t 3), .inl (κ 1, 429, .inl (zc t_way)))])) (va_A ([((t 0), .inr (4, [.ref (t 1), .ref (t 2), .ref (t 3), .int (zi t_wayLength), .int (zi t_queued)])), ((t 1), .inl (κ 1, 429, .inl (zc t_steps))), ((t 2), .inl (κ 1, 429, .inl (zc t_queue))), ((t 3), .inl (κ 1, 429, .inl (zc t_way)))]) sz)) 0 0 (va_A ([((t 0), .inr (4, [.ref (t 1), .ref (t 2), .ref (t 3), .int (zi t_wayLength), .int (zi t_queued)])), ((t 1), .inl (κ 1, 429, .inl (zc t_steps))), ((t 2), .inl (κ 1, 429, .inl (zc t_queue))), ((t 3), .inl (κ 1, 429, .inl (zc t_way)))]) sz) := by
  refine Met.ofW (cc := cX4_comeTo) (maxL := 3) (ret := none) (by decide +kernel) rfl ?_
  intro p e s m args below meth c s₁ B hml hv
  obtain ⟨rfl, hsz, hP, hK, hD0⟩ := hv
  have hx := B.exec
  have hb := B.bytes
  have hr := B.returns
  have hts := atoms_spec (ws := wsX4_comeTo) B.pre
  have hown : s.vm.findClass RX4 = some m.cls := findClass_of_methodNamed B.named
  have hlocks := B.notSynchronized
  subst hsz
  have hD := hD0.self (sz := s.heap.size)
  generalize hAe : va_A ([((t 0), .inr (4, [.ref (t 1), .ref (t 2), .ref (t 3), .int (zi t_wayLength), .int (zi t_queued)])), ((t 1), .inl (κ 1, 429, .inl (zc t_steps))), ((t 2), .inl (κ 1, 429, .inl (zc t_queue))), ((t 3), .inl (κ 1, 429, .inl (zc t_way)))]) s.heap.size = A at hD ⊢
  have hA : ∀ q : Nat, s.heap.size ≤ q → A q := fun q h => by rw [← hAe]; exact Or.inr h
  have hS : va_S A s.heap s.heap [] := va_S.rf
  have hl := lv_entry ([.ref (t 0), .int (zi i1), .int (zi i2)]) (n := 3) (Nat.le_of_ble_eq_true rfl)
  rw [lg_entry_eq]
  generalize (lg_sl ([.ref (t 0), .int (zi i1), .int (zi i2)]) ++ List.replicate (3 - (lg_sl ([.ref (t 0), .int (zi i1), .int (zi i2)])).length) Slot.unset).toArray = ls at hl ⊢
  have hl : lv_has ls 3 [(0, .ref (t 0)), (1, .int (zi i1)), (2, .int (zi i2))] := hl
  refine zs_X4_comeTo t t_wayLength t_queued t_steps t_queue t_way i1 i2 hx hb hml hown hts hK hA s.heap [] ls hP hD hS hl ⟨out, h, ?_⟩
  exact fun H locs ls pc hP hD hS hd => W.vret hx hb hr (fun t ht hW => ⟨⟨(), rfl, trivial, by rw [ht]; exact hP, va_K.moved hW.alike hK, hD⟩, hS.F ht⟩) hS.2.2 hd
/-! DiamondRows$Flips.stepsTo(I)I -/
abbrev zr_X4_stepsTo : Room := { frames := 0, cells := 0, slots := 0, locals := 0 }
noncomputable def zf_X4_stepsTo  (t_steps : Nat) (i1 : Int) : Option (Int) :=
  if zout i1 then none else
  if i1 < 0 then
  some ((-1 : Int))
  else
  if (429 : Int) ≤ i1 then
  some ((-1 : Int))
  else
  if i1 < 0 ∨ 429 ≤ i1 then none else
  some ((zget t_steps (Int.toNat i1)))
theorem zi_X4_stepsTo_X4 : ∀ w ∈ u_ws RX4 TX4 5, w ∈ wsX4_stepsTo := by decide +kernel
theorem zl_X4_stepsTo_9 : Cond.fieldLink RX4 9 "DiamondRows$Flips" "steps" "[I" ∈ wsX4_stepsTo := by decide +kernel
def zQ_X4_stepsTo (p : Program) (l : Launch) (e : Env) (s : State) (m : MethodId) (args : Array Value) (below : List Frame) (meth : Method) (c : Code) (Q : State → Prop) (H : Heap) (locs : List Loc)  (o : Int) : Prop := ∀ (ls : Array Slot) (pc : Nat), decode cX4_stepsTo pc = .ok (.ireturn, 1) → W p l e zr_X4_stepsTo s m args below meth c H locs 0 0 Q (F0 m pc ls [.int (zi o)])
set_option maxHeartbeats 4000000 in
set_option maxRecDepth 100000 in
theorem zs_X4_stepsTo {p : Program} {l : Launch} {e : Env} {s : State} {m : MethodId} {args : Array Value} {below : List Frame} {meth : Method} {c : Code} {Q : State → Prop} {D : va_G} {κ : Nat → ClassId} {H : Heap} {locs : List Loc} (t : Nat → Nat) (t_wayLength : Int) (t_queued : Int) (t_steps : Nat) (t_queue : Nat) (t_way : Nat) (i1 : Int) (hx : p.tables.exec = Jvm.exec) (hb : c.code = cX4_stepsTo) (hml : c.maxLocals = 2) (hown : s.vm.findClass RX4 = some m.cls) (hts : ∀ w ∈ wsX4_stepsTo, w.before args s = true) (hK : va_K D vwCl (zTY κ) s) (hP : va_P D vwCl ([((t 0), .inr (4, [.ref (t 1), .ref (t 2), .ref (t 3), .int (zi t_wayLength), .int (zi t_queued)])), ((t 1), .inl (κ 1, 429, .inl (zc t_steps))), ((t 2), .inl (κ 1, 429, .inl (zc t_queue))), ((t 3), .inl (κ 1, 429, .inl (zc t_way)))]) H) (ls : Array Slot) (hl : lv_has ls 2 [(0, .ref (t 0)), (1, .int (zi i1))]) (hg : Go (zQ_X4_stepsTo p l e s m args below meth c Q H locs) (zf_X4_stepsTo t_steps i1)) : W p l e zr_X4_stepsTo s m args below meth c H locs 0 0 Q (F0 m 0 ls []) := by
  unfold zf_X4_stepsTo at hg
  refine lv_iload_n hx hb dX4_stepsTo_0 rfl (lv_at hl 1 rfl) ?_
  obtain ⟨b1, hg⟩ := Go_n hg
  refine zv_if_lt (tgt := 20) hx hb dX4_stepsTo_1 (by decide) b1 (fun c4 => ?_) (fun c4 => ?_)
  · have hg := Go_t c4 hg
    refine zv_iconst hx hb dX4_stepsTo_20 ?_
    exact (Go_s hg) _ _ dX4_stepsTo_21
  · have hg := Go_f c4 hg
    refine lv_iload_n hx hb dX4_stepsTo_4 rfl (lv_at hl 1 rfl) ?_
    refine zv_sipush hx hb dX4_stepsTo_5 (by decide) ?_
    refine zv_icmp_ge (tgt := 20) hx hb dX4_stepsTo_8 (by decide) b1 (by decide) (fun c3 => ?_) (fun c3 => ?_)
    · have hg := Go_t c3 hg
      refine zv_iconst hx hb dX4_stepsTo_20 ?_
      exact (Go_s hg) _ _ dX4_stepsTo_21
    · have hg := Go_f c3 hg
      refine lv_aload_n hx hb dX4_stepsTo_11 rfl (lv_at hl 0 rfl) ?_
      refine va_get (D := D) (ci := 4) (v := .ref (t 1)) (C := RX4) (T := TX4) (N := 5) hx hb hts zi_X4_stepsTo_X4 hown hK hP 0 rfl rfl 0 (by decide) (hts (.fieldLink RX4 9 "DiamondRows$Flips" "steps" "[I") zl_X4_stepsTo_9) (fun _ h9 => h9) rfl dX4_stepsTo_12 ?_
      refine lv_iload_n hx hb dX4_stepsTo_15 rfl (lv_at hl 1 rfl) ?_
      obtain ⟨n2, hg⟩ := Go_n hg
      refine zv_iald hx hb hK hP 1 1 rfl rfl (by decide) n2 dX4_stepsTo_16 ?_
      refine lv_goto (tgt := 21) hx hb dX4_stepsTo_17 (by decide) ?_
      exact (Go_s hg) _ _ dX4_stepsTo_21
set_option maxHeartbeats 4000000 in
set_option maxRecDepth 100000 in
theorem zc_X4_stepsTo (l : Launch) (D : va_G) (κ : Nat → ClassId) (t : Nat → Nat) (t_wayLength : Int) (t_queued : Int) (t_steps : Nat) (t_queue : Nat) (t_way : Nat) (i1 : Int) (out : Int) (h : zf_X4_stepsTo t_steps i1 = some out) : Met l yX4_stepsTo wsX4_stepsTo zr_X4_stepsTo (va_Pc [.ref (t 0), .int (zi i1)] (zR D κ ([((t 0), .inr (4, [.ref (t 1), .ref (t 2), .ref (t 3), .int (zi t_wayLength), .int (zi t_queued)])), ((t 1), .inl (κ 1, 429, .inl (zc t_steps))), ((t 2), .inl (κ 1, 429, .inl (zc t_queue))), ((t 3), .inl (κ 1, 429, .inl (zc t_way)))]))) (vp_Si (fun x => x = zi out)) 0 0 (fun _ => False) := by
  refine Met.ofW (cc := cX4_stepsTo) (maxL := 2) (ret := (some .int)) (by decide +kernel) rfl ?_
  intro p e s m args below meth c s₁ B hml hv
  obtain ⟨rfl, hP, hK⟩ := hv
  have hx := B.exec
  have hb := B.bytes
  have hr := B.returns
  have hts := atoms_spec (ws := wsX4_stepsTo) B.pre
  have hown : s.vm.findClass RX4 = some m.cls := findClass_of_methodNamed B.named
  have hlocks := B.notSynchronized
  have hl := lv_entry ([.ref (t 0), .int (zi i1)]) (n := 2) (Nat.le_of_ble_eq_true rfl)
  rw [lg_entry_eq]
  generalize (lg_sl ([.ref (t 0), .int (zi i1)]) ++ List.replicate (2 - (lg_sl ([.ref (t 0), .int (zi i1)])).length) Slot.unset).toArray = ls at hl ⊢
  have hl : lv_has ls 2 [(0, .ref (t 0)), (1, .int (zi i1))] := hl
  refine zs_X4_stepsTo t t_wayLength t_queued t_steps t_queue t_way i1 hx hb hml hown hts hK hP ls hl ⟨out, h, ?_⟩
  exact fun ls pc hd => W.iret hx hb hr (fun t ht hW => ⟨_, rfl, rfl, ht⟩) (fun _ h => by cases h) hd
/-! DiamondRows$Flips.measure(LDiamondRows$Polygon;I)V -/
abbrev zr_X4_measure : Room := { frames := 3, cells := 0, slots := 0, locals := 65 }
abbrev zS_X4_measure : Type := Nat × Int × Int × Int × Int × Int × Nat × Nat
abbrev zO_X4_measure : Type := Int × Nat × Nat
noncomputable def zg_X4_measure_0 (mk : Nat) (n1 : Nat) (i2 : Int) (i3 : Int) (i4 : Int) (i5 : Int) (t_queued : Int) (t_steps : Nat) (t_queue : Nat) : Option (zO_X4_measure ⊕ zS_X4_measure) :=
  some (.inr (2, i2, (0 : Int), 0, 0, t_queued, t_steps, t_queue))
noncomputable def zg_X4_measure_2 (mk : Nat) (n1 : Nat) (i2 : Int) (i3 : Int) (i4 : Int) (i5 : Int) (t_queued : Int) (t_steps : Nat) (t_queue : Nat) : Option (zO_X4_measure ⊕ zS_X4_measure) :=
  if zout i3 then none else
  if (429 : Int) ≤ i3 then
  Option.bind (zf_X4_comeTo (0 : Int) t_steps t_queue i2 (0 : Int)) (fun o2 =>
  some (.inr (35, i2, (0 : Int), 0, 0, (o2.1), (o2.2.1), (o2.2.2))))
  else
  if i3 < 0 ∨ 429 ≤ i3 then none else
  some (.inr (2, i2, (i3 + (1 : Int)), 0, 0, t_queued, (zset t_steps (Int.toNat i3) (-1 : Int)), t_queue))
noncomputable def zg_X4_measure_35 (mk : Nat) (n1 : Nat) (i2 : Int) (i3 : Int) (i4 : Int) (i5 : Int) (t_queued : Int) (t_steps : Nat) (t_queue : Nat) : Option (zO_X4_measure ⊕ zS_X4_measure) :=
  if zout i3 then none else
  if zout t_queued then none else
  if t_queued ≤ i3 then
  some (.inl (t_queued, t_steps, t_queue))
  else
  if (429 : Int) ≤ i3 then
  some (.inl (t_queued, t_steps, t_queue))
  else
  if i3 < 0 ∨ 429 ≤ i3 then none else
  if zno mk n1 then none else
  Option.bind (zf_X5_cutAt n1 (zget t_queue (Int.toNat i3))) (fun o9 =>
  some (.inr (65, 0, i3, o9, (0 : Int), t_queued, t_steps, t_queue)))
noncomputable def zg_X4_measure_65 (mk : Nat) (n1 : Nat) (i2 : Int) (i3 : Int) (i4 : Int) (i5 : Int) (t_queued : Int) (t_steps : Nat) (t_queue : Nat) : Option (zO_X4_measure ⊕ zS_X4_measure) :=
  if zno mk n1 then none else
  Option.bind (zf_X5_lineCount n1) (fun o13 =>
  if zout i5 then none else
  if zout o13 then none else
  if o13 ≤ i5 then
  some (.inr (35, 0, (i3 + (1 : Int)), i4, i5, t_queued, t_steps, t_queue))
  else
  Option.bind (zf_X5_neighbourWith n1 i4 i5) (fun o16 =>
  if i3 < 0 ∨ 429 ≤ i3 then none else
  Option.bind (zf_X4_stepsTo t_steps (zget t_queue (Int.toNat i3))) (fun o18 =>
  Option.bind (zf_X4_comeTo t_queued t_steps t_queue o16 (o18 + (1 : Int))) (fun o19 =>
  some (.inr (65, 0, i3, i4, (i5 + (1 : Int)), (o19.1), (o19.2.1), (o19.2.2)))))))
noncomputable def zg_X4_measure (mk : Nat) (n1 : Nat) (st : zS_X4_measure) : Option (zO_X4_measure ⊕ zS_X4_measure) := match st with
  | (lab, i2, i3, i4, i5, t_queued, t_steps, t_queue) => if lab = 0 then zg_X4_measure_0 mk n1 i2 i3 i4 i5 t_queued t_steps t_queue else if lab = 2 then zg_X4_measure_2 mk n1 i2 i3 i4 i5 t_queued t_steps t_queue else if lab = 35 then zg_X4_measure_35 mk n1 i2 i3 i4 i5 t_queued t_steps t_queue else if lab = 65 then zg_X4_measure_65 mk n1 i2 i3 i4 i5 t_queued t_steps t_queue else none
noncomputable def zf_X4_measure (mk : Nat) (t_queued : Int) (t_steps : Nat) (t_queue : Nat) (n1 : Nat) (i2 : Int) : Option (Int × Nat × Nat) := jrun (zg_X4_measure mk n1) jfuel (0, i2, 0, 0, 0, t_queued, t_steps, t_queue)
theorem zi_X4_measure_X4 : ∀ w ∈ u_ws RX4 TX4 5, w ∈ wsX4_measure := by decide +kernel
theorem zl_X4_measure_9 : Cond.fieldLink RX4 9 "DiamondRows$Flips" "steps" "[I" ∈ wsX4_measure := by decide +kernel
theorem zl_X4_measure_15 : Cond.fieldLink RX4 15 "DiamondRows$Flips" "queue" "[I" ∈ wsX4_measure := by decide +kernel
theorem zl_X4_measure_21 : Cond.fieldLink RX4 21 "DiamondRows$Flips" "queued" "I" ∈ wsX4_measure := by decide +kernel
def zQ_X4_measure (p : Program) (l : Launch) (e : Env) (s : State) (m : MethodId) (args : Array Value) (below : List Frame) (meth : Method) (c : Code) (Q : State → Prop) (D : va_G) (κ : Nat → ClassId) (A : Nat → Prop) (H0 : Heap) (t : Nat → Nat) (mk : Nat) (ad : Nat → Nat → Nat) (t_wayLength : Int) (t_way : Nat) (n1 : Nat) (o : Int × Nat × Nat) : Prop := ∀ (H : Heap) (locs : List Loc) (ls : Array Slot) (pc : Nat), va_P D vwCl ([((t 0), .inr (4, [.ref (t 1), .ref (t 2), .ref (t 3), .int (zi t_wayLength), .int (zi (o.1))])), ((t 1), .inl (κ 1, 429, .inl (zc (o.2.1)))), ((t 2), .inl (κ 1, 429, .inl (zc (o.2.2)))), ((t 3), .inl (κ 1, 429, .inl (zc t_way)))]) H → va_D A ([((t 0), .inr (4, [.ref (t 1), .ref (t 2), .ref (t 3), .int (zi t_wayLength), .int (zi (o.1))])), ((t 1), .inl (κ 1, 429, .inl (zc (o.2.1)))), ((t 2), .inl (κ 1, 429, .inl (zc (o.2.2)))), ((t 3), .inl (κ 1, 429, .inl (zc t_way)))]) → va_S A H0 H locs → decode cX4_measure pc = .ok (.return_, 1) → W p l e zr_X4_measure s m args below meth c H locs 0 0 Q (F0 m pc ls [])
def zA_X4_measure_0 (p : Program) (l : Launch) (e : Env) (s : State) (m : MethodId) (args : Array Value) (below : List Frame) (meth : Method) (c : Code) (Q : State → Prop) (D : va_G) (κ : Nat → ClassId) (A : Nat → Prop) (H0 : Heap) (t : Nat → Nat) (mk : Nat) (ad : Nat → Nat → Nat) (t_wayLength : Int) (t_way : Nat) (n1 : Nat) (i2 : Int) (i3 : Int) (i4 : Int) (i5 : Int) (t_queued : Int) (t_steps : Nat) (t_queue : Nat) : Prop := ∀ (H : Heap) (locs : List Loc) (ls : Array Slot), va_P D vwCl ([((t 0), .inr (4, [.ref (t 1), .ref (t 2), .ref (t 3), .int (zi t_wayLength), .int (zi t_queued)])), ((t 1), .inl (κ 1, 429, .inl (zc t_steps))), ((t 2), .inl (κ 1, 429, .inl (zc t_queue))), ((t 3), .inl (κ 1, 429, .inl (zc t_way)))]) H → va_D A ([((t 0), .inr (4, [.ref (t 1), .ref (t 2), .ref (t 3), .int (zi t_wayLength), .int (zi t_queued)])), ((t 1), .inl (κ 1, 429, .inl (zc t_steps))), ((t 2), .inl (κ 1, 429, .inl (zc t_queue))), ((t 3), .inl (κ 1, 429, .inl (zc t_way)))]) → va_S A H0 H locs → lv_has ls 6 [(0, .ref (t 0)), (1, .ref (ad n1 0)), (2, .int (zi i2))] → W p l e zr_X4_measure s m args below meth c H locs 0 0 Q (F0 m 0 ls [])
def zA_X4_measure_2 (p : Program) (l : Launch) (e : Env) (s : State) (m : MethodId) (args : Array Value) (below : List Frame) (meth : Method) (c : Code) (Q : State → Prop) (D : va_G) (κ : Nat → ClassId) (A : Nat → Prop) (H0 : Heap) (t : Nat → Nat) (mk : Nat) (ad : Nat → Nat → Nat) (t_wayLength : Int) (t_way : Nat) (n1 : Nat) (i2 : Int) (i3 : Int) (i4 : Int) (i5 : Int) (t_queued : Int) (t_steps : Nat) (t_queue : Nat) : Prop := ∀ (H : Heap) (locs : List Loc) (ls : Array Slot), va_P D vwCl ([((t 0), .inr (4, [.ref (t 1), .ref (t 2), .ref (t 3), .int (zi t_wayLength), .int (zi t_queued)])), ((t 1), .inl (κ 1, 429, .inl (zc t_steps))), ((t 2), .inl (κ 1, 429, .inl (zc t_queue))), ((t 3), .inl (κ 1, 429, .inl (zc t_way)))]) H → va_D A ([((t 0), .inr (4, [.ref (t 1), .ref (t 2), .ref (t 3), .int (zi t_wayLength), .int (zi t_queued)])), ((t 1), .inl (κ 1, 429, .inl (zc t_steps))), ((t 2), .inl (κ 1, 429, .inl (zc t_queue))), ((t 3), .inl (κ 1, 429, .inl (zc t_way)))]) → va_S A H0 H locs → lv_has ls 6 [(0, .ref (t 0)), (1, .ref (ad n1 0)), (2, .int (zi i2)), (3, .int (zi i3))] → W p l e zr_X4_measure s m args below meth c H locs 0 0 Q (F0 m 2 ls [])
def zA_X4_measure_35 (p : Program) (l : Launch) (e : Env) (s : State) (m : MethodId) (args : Array Value) (below : List Frame) (meth : Method) (c : Code) (Q : State → Prop) (D : va_G) (κ : Nat → ClassId) (A : Nat → Prop) (H0 : Heap) (t : Nat → Nat) (mk : Nat) (ad : Nat → Nat → Nat) (t_wayLength : Int) (t_way : Nat) (n1 : Nat) (i2 : Int) (i3 : Int) (i4 : Int) (i5 : Int) (t_queued : Int) (t_steps : Nat) (t_queue : Nat) : Prop := ∀ (H : Heap) (locs : List Loc) (ls : Array Slot), va_P D vwCl ([((t 0), .inr (4, [.ref (t 1), .ref (t 2), .ref (t 3), .int (zi t_wayLength), .int (zi t_queued)])), ((t 1), .inl (κ 1, 429, .inl (zc t_steps))), ((t 2), .inl (κ 1, 429, .inl (zc t_queue))), ((t 3), .inl (κ 1, 429, .inl (zc t_way)))]) H → va_D A ([((t 0), .inr (4, [.ref (t 1), .ref (t 2), .ref (t 3), .int (zi t_wayLength), .int (zi t_queued)])), ((t 1), .inl (κ 1, 429, .inl (zc t_steps))), ((t 2), .inl (κ 1, 429, .inl (zc t_queue))), ((t 3), .inl (κ 1, 429, .inl (zc t_way)))]) → va_S A H0 H locs → lv_has ls 6 [(0, .ref (t 0)), (1, .ref (ad n1 0)), (3, .int (zi i3))] → W p l e zr_X4_measure s m args below meth c H locs 0 0 Q (F0 m 35 ls [])
def zA_X4_measure_65 (p : Program) (l : Launch) (e : Env) (s : State) (m : MethodId) (args : Array Value) (below : List Frame) (meth : Method) (c : Code) (Q : State → Prop) (D : va_G) (κ : Nat → ClassId) (A : Nat → Prop) (H0 : Heap) (t : Nat → Nat) (mk : Nat) (ad : Nat → Nat → Nat) (t_wayLength : Int) (t_way : Nat) (n1 : Nat) (i2 : Int) (i3 : Int) (i4 : Int) (i5 : Int) (t_queued : Int) (t_steps : Nat) (t_queue : Nat) : Prop := ∀ (H : Heap) (locs : List Loc) (ls : Array Slot), va_P D vwCl ([((t 0), .inr (4, [.ref (t 1), .ref (t 2), .ref (t 3), .int (zi t_wayLength), .int (zi t_queued)])), ((t 1), .inl (κ 1, 429, .inl (zc t_steps))), ((t 2), .inl (κ 1, 429, .inl (zc t_queue))), ((t 3), .inl (κ 1, 429, .inl (zc t_way)))]) H → va_D A ([((t 0), .inr (4, [.ref (t 1), .ref (t 2), .ref (t 3), .int (zi t_wayLength), .int (zi t_queued)])), ((t 1), .inl (κ 1, 429, .inl (zc t_steps))), ((t 2), .inl (κ 1, 429, .inl (zc t_queue))), ((t 3), .inl (κ 1, 429, .inl (zc t_way)))]) → va_S A H0 H locs → lv_has ls 6 [(0, .ref (t 0)), (1, .ref (ad n1 0)), (3, .int (zi i3)), (4, .int (zi i4)), (5, .int (zi i5))] → W p l e zr_X4_measure s m args below meth c H locs 0 0 Q (F0 m 65 ls [])
def zA_X4_measure (p : Program) (l : Launch) (e : Env) (s : State) (m : MethodId) (args : Array Value) (below : List Frame) (meth : Method) (c : Code) (Q : State → Prop) (D : va_G) (κ : Nat → ClassId) (A : Nat → Prop) (H0 : Heap) (t : Nat → Nat) (mk : Nat) (ad : Nat → Nat → Nat) (t_wayLength : Int) (t_way : Nat) (n1 : Nat) (st : zS_X4_measure) : Prop := match st with
  | (lab, i2, i3, i4, i5, t_queued, t_steps, t_queue) => if lab = 0 then zA_X4_measure_0 p l e s m args below meth c Q D κ A H0 t mk ad t_wayLength t_way n1 i2 i3 i4 i5 t_queued t_steps t_queue else if lab = 2 then zA_X4_measure_2 p l e s m args below meth c Q D κ A H0 t mk ad t_wayLength t_way n1 i2 i3 i4 i5 t_queued t_steps t_queue else if lab = 35 then zA_X4_measure_35 p l e s m args below meth c Q D κ A H0 t mk ad t_wayLength t_way n1 i2 i3 i4 i5 t_queued t_steps t_queue else if lab = 65 then zA_X4_measure_65 p l e s m args below meth c Q D κ A H0 t mk ad t_wayLength t_way n1 i2 i3 i4 i5 t_queued t_steps t_queue else True
set_option maxHeartbeats 4000000 in
set_option maxRecDepth 100000 in
theorem zs_X4_measure_0 {p : Program} {l : Launch} {e : Env} {s : State} {m : MethodId} {args : Array Value} {below : List Frame} {meth : Method} {c : Code} {Q : State → Prop} {D : va_G} {κ : Nat → ClassId} {A : Nat → Prop} {H0 : Heap} (t : Nat → Nat) (mk : Nat) (ad : Nat → Nat → Nat) (t_wayLength : Int) (t_way : Nat) (n1 : Nat) (hx : p.tables.exec = Jvm.exec) (hb : c.code = cX4_measure) (hml : c.maxLocals = 6) (hown : s.vm.findClass RX4 = some m.cls) (hts : ∀ w ∈ wsX4_measure, w.before args s = true) (hK : va_K D vwCl (zTY κ) s) (hA : ∀ q : Nat, H0.size ≤ q → A q) (hB : zAmb D κ mk ad H0) (hBA : zApt mk ad A H0.size) (i2 : Int) (i3 : Int) (i4 : Int) (i5 : Int) (t_queued : Int) (t_steps : Nat) (t_queue : Nat) (hg : Go (GoE (zA_X4_measure p l e s m args below meth c Q D κ A H0 t mk ad t_wayLength t_way n1) (zQ_X4_measure p l e s m args below meth c Q D κ A H0 t mk ad t_wayLength t_way n1)) (zg_X4_measure_0 mk n1 i2 i3 i4 i5 t_queued t_steps t_queue)) : zA_X4_measure_0 p l e s m args below meth c Q D κ A H0 t mk ad t_wayLength t_way n1 i2 i3 i4 i5 t_queued t_steps t_queue := by
  intro H locs ls hP hD hS hl
  unfold zg_X4_measure_0 at hg
  refine zv_iconst hx hb dX4_measure_0 ?_
  refine lv_istore_n (lv' := [(3, .int (zi (0 : Int))), (0, .ref (t 0)), (1, .ref (ad n1 0)), (2, .int (zi i2))]) hx hb dX4_measure_1 rfl hl (by decide) rfl (fun ls hl => ?_)
  exact (Go_s hg) H locs ls hP hD hS (lv_sub hl [1, 2, 3, 0] rfl)
set_option maxHeartbeats 4000000 in
set_option maxRecDepth 100000 in
theorem zs_X4_measure_2 {p : Program} {l : Launch} {e : Env} {s : State} {m : MethodId} {args : Array Value} {below : List Frame} {meth : Method} {c : Code} {Q : State → Prop} {D : va_G} {κ : Nat → ClassId} {A : Nat → Prop} {H0 : Heap} (t : Nat → Nat) (mk : Nat) (ad : Nat → Nat → Nat) (t_wayLength : Int) (t_way : Nat) (n1 : Nat) (hx : p.tables.exec = Jvm.exec) (hb : c.code = cX4_measure) (hml : c.maxLocals = 6) (hown : s.vm.findClass RX4 = some m.cls) (hts : ∀ w ∈ wsX4_measure, w.before args s = true) (hK : va_K D vwCl (zTY κ) s) (hA : ∀ q : Nat, H0.size ≤ q → A q) (hB : zAmb D κ mk ad H0) (hBA : zApt mk ad A H0.size) (i2 : Int) (i3 : Int) (i4 : Int) (i5 : Int) (t_queued : Int) (t_steps : Nat) (t_queue : Nat) (hg : Go (GoE (zA_X4_measure p l e s m args below meth c Q D κ A H0 t mk ad t_wayLength t_way n1) (zQ_X4_measure p l e s m args below meth c Q D κ A H0 t mk ad t_wayLength t_way n1)) (zg_X4_measure_2 mk n1 i2 i3 i4 i5 t_queued t_steps t_queue)) : zA_X4_measure_2 p l e s m args below meth c Q D κ A H0 t mk ad t_wayLength t_way n1 i2 i3 i4 i5 t_queued t_steps t_queue := by
  intro H locs ls hP hD hS hl
  unfold zg_X4_measure_2 at hg
  refine lv_iload_n hx hb dX4_measure_2 rfl (lv_at hl 3 rfl) ?_
  refine zv_sipush hx hb dX4_measure_3 (by decide) ?_
  obtain ⟨b1, hg⟩ := Go_n hg
  refine zv_icmp_ge (tgt := 22) hx hb dX4_measure_6 (by decide) b1 (by decide) (fun c4 => ?_) (fun c4 => ?_)
  · have hg := Go_t c4 hg
    refine lv_aload_n hx hb dX4_measure_22 rfl (lv_at hl 0 rfl) ?_
    refine zv_iconst hx hb dX4_measure_23 ?_
    refine va_put (D := D) (ci := 4) (v := .int (zi (0 : Int))) (ty := .int) (C := RX4) (T := TX4) (N := 5) hx hb hts zi_X4_measure_X4 tyX4 tyX4_ok nmX4 hown hK hP hD hS 0 rfl rfl 4 (by decide) (hts (.fieldLink RX4 21 "DiamondRows$Flips" "queued" "I") zl_X4_measure_21) (fun _ h9 => h9) rfl (by decide +kernel) rfl rfl (Nat.le_of_ble_eq_true rfl) dX4_measure_24 (fun H locs hP hD hS => ?_)
    have hP : va_P D vwCl ([((t 0), .inr (4, [.ref (t 1), .ref (t 2), .ref (t 3), .int (zi t_wayLength), .int (zi (0 : Int))])), ((t 1), .inl (κ 1, 429, .inl (zc t_steps))), ((t 2), .inl (κ 1, 429, .inl (zc t_queue))), ((t 3), .inl (κ 1, 429, .inl (zc t_way)))]) H := hP
    have hD : va_D A ([((t 0), .inr (4, [.ref (t 1), .ref (t 2), .ref (t 3), .int (zi t_wayLength), .int (zi (0 : Int))])), ((t 1), .inl (κ 1, 429, .inl (zc t_steps))), ((t 2), .inl (κ 1, 429, .inl (zc t_queue))), ((t 3), .inl (κ 1, 429, .inl (zc t_way)))]) := hD
    refine lv_aload_n hx hb dX4_measure_27 rfl (lv_at hl 0 rfl) ?_
    refine lv_iload_n hx hb dX4_measure_28 rfl (lv_at hl 2 rfl) ?_
    refine zv_iconst hx hb dX4_measure_29 ?_
    obtain ⟨o2, ho2, hg⟩ := Go_b hg
    refine zj_v (wr := []) (ws1 := [((t 0), .inr (4, [.ref (t 1), .ref (t 2), .ref (t 3), .int (zi t_wayLength), .int (zi (o2.1))])), ((t 1), .inl (κ 1, 429, .inl (zc (o2.2.1)))), ((t 2), .inl (κ 1, 429, .inl (zc (o2.2.2)))), ((t 3), .inl (κ 1, 429, .inl (zc t_way)))]) (va_runV (rest := []) ⟨hx, hb, hml, hown, hts⟩ (zc_X4_comeTo l D κ t H.size t_wayLength (0 : Int) t_steps t_queue t_way i2 (0 : Int) o2 ho2) (cwV 2 hts gX4_measure_X4_comeTo rfl rfl rfl (by decide +kernel) ⟨Nat.le_of_ble_eq_true rfl, Nat.le_of_ble_eq_true rfl⟩) (zpreWV hK (hP.sub [0, 1, 2, 3] rfl) (hD.sub [0, 1, 2, 3] (by decide) rfl) 4 0 rfl rfl) rfl rfl hl.1 rfl (lv_room (Nat.le_of_ble_eq_true rfl)) dX4_measure_30 ⟨Nat.zero_le _, Nat.zero_le _⟩) hP hD hS hA [0, 1, 2, 3] [] [0, 1, 2, 3] rfl rfl (by decide) (by decide) rfl rfl (by decide) (fun H locs hP hD hS => ?_)
    refine zv_iconst hx hb dX4_measure_33 ?_
    refine lv_istore_n (lv' := [(3, .int (zi (0 : Int))), (0, .ref (t 0)), (1, .ref (ad n1 0)), (2, .int (zi i2))]) hx hb dX4_measure_34 rfl hl (by decide) rfl (fun ls hl => ?_)
    exact (Go_s hg) H locs ls hP hD hS (lv_sub hl [1, 2, 0] rfl)
  · have hg := Go_f c4 hg
    refine lv_aload_n hx hb dX4_measure_9 rfl (lv_at hl 0 rfl) ?_
    refine va_get (D := D) (ci := 4) (v := .ref (t 1)) (C := RX4) (T := TX4) (N := 5) hx hb hts zi_X4_measure_X4 hown hK hP 0 rfl rfl 0 (by decide) (hts (.fieldLink RX4 9 "DiamondRows$Flips" "steps" "[I") zl_X4_measure_9) (fun _ h9 => h9) rfl dX4_measure_10 ?_
    refine lv_iload_n hx hb dX4_measure_13 rfl (lv_at hl 3 rfl) ?_
    refine zv_iconst hx hb dX4_measure_14 ?_
    obtain ⟨n3, hg⟩ := Go_n hg
    refine zv_iast hx hb hK hP hD hS 1 1 rfl rfl (by decide) n3 dX4_measure_15 (fun H locs hP hD hS => ?_)
    have hP : va_P D vwCl ([((t 0), .inr (4, [.ref (t 1), .ref (t 2), .ref (t 3), .int (zi t_wayLength), .int (zi t_queued)])), ((t 1), .inl (κ 1, 429, .inl (zc (zset t_steps (Int.toNat i3) (-1 : Int))))), ((t 2), .inl (κ 1, 429, .inl (zc t_queue))), ((t 3), .inl (κ 1, 429, .inl (zc t_way)))]) H := hP
    have hD : va_D A ([((t 0), .inr (4, [.ref (t 1), .ref (t 2), .ref (t 3), .int (zi t_wayLength), .int (zi t_queued)])), ((t 1), .inl (κ 1, 429, .inl (zc (zset t_steps (Int.toNat i3) (-1 : Int))))), ((t 2), .inl (κ 1, 429, .inl (zc t_queue))), ((t 3), .inl (κ 1, 429, .inl (zc t_way)))]) := hD
    refine lv_iinc (v := zi (i3 + (1 : Int))) (lv' := [(3, .int (zi (i3 + (1 : Int)))), (0, .ref (t 0)), (1, .ref (ad n1 0)), (2, .int (zi i2))]) hx hb dX4_measure_16 hl (k := 3) rfl (zi_add i3 _) (by decide) rfl (fun ls hl => ?_)
    refine lv_goto (tgt := 2) hx hb dX4_measure_19 (by decide) ?_
    exact (Go_s hg) H locs ls hP hD hS (lv_sub hl [1, 2, 3, 0] rfl)
set_option maxHeartbeats 4000000 in
set_option maxRecDepth 100000 in
theorem zs_X4_measure_35 {p : Program} {l : Launch} {e : Env} {s : State} {m : MethodId} {args : Array Value} {below : List Frame} {meth : Method} {c : Code} {Q : State → Prop} {D : va_G} {κ : Nat → ClassId} {A : Nat → Prop} {H0 : Heap} (t : Nat → Nat) (mk : Nat) (ad : Nat → Nat → Nat) (t_wayLength : Int) (t_way : Nat) (n1 : Nat) (hx : p.tables.exec = Jvm.exec) (hb : c.code = cX4_measure) (hml : c.maxLocals = 6) (hown : s.vm.findClass RX4 = some m.cls) (hts : ∀ w ∈ wsX4_measure, w.before args s = true) (hK : va_K D vwCl (zTY κ) s) (hA : ∀ q : Nat, H0.size ≤ q → A q) (hB : zAmb D κ mk ad H0) (hBA : zApt mk ad A H0.size) (i2 : Int) (i3 : Int) (i4 : Int) (i5 : Int) (t_queued : Int) (t_steps : Nat) (t_queue : Nat) (hg : Go (GoE (zA_X4_measure p l e s m args below meth c Q D κ A H0 t mk ad t_wayLength t_way n1) (zQ_X4_measure p l e s m args below meth c Q D κ A H0 t mk ad t_wayLength t_way n1)) (zg_X4_measure_35 mk n1 i2 i3 i4 i5 t_queued t_steps t_queue)) : zA_X4_measure_35 p l e s m args below meth c Q D κ A H0 t mk ad t_wayLength t_way n1 i2 i3 i4 i5 t_queued t_steps t_queue := by
  intro H locs ls hP hD hS hl
  unfold zg_X4_measure_35 at hg
  refine lv_iload_n hx hb dX4_measure_35 rfl (lv_at hl 2 rfl) ?_
  refine lv_aload_n hx hb dX4_measure_36 rfl (lv_at hl 0 rfl) ?_
  refine va_get (D := D) (ci := 4) (v := .int (zi t_queued)) (C := RX4) (T := TX4) (N := 5) hx hb hts zi_X4_measure_X4 hown hK hP 0 rfl rfl 4 (by decide) (hts (.fieldLink RX4 21 "DiamondRows$Flips" "queued" "I") zl_X4_measure_21) (fun _ h9 => h9) rfl dX4_measure_37 ?_
  obtain ⟨b5, hg⟩ := Go_n hg
  obtain ⟨b6, hg⟩ := Go_n hg
  refine zv_icmp_ge (tgt := 110) hx hb dX4_measure_40 (by decide) b5 b6 (fun c11 => ?_) (fun c11 => ?_)
  · have hg := Go_t c11 hg
    exact (Go_s hg) _ _ _ _ hP hD hS dX4_measure_110
  · have hg := Go_f c11 hg
    refine lv_iload_n hx hb dX4_measure_43 rfl (lv_at hl 2 rfl) ?_
    refine zv_sipush hx hb dX4_measure_44 (by decide) ?_
    refine zv_icmp_ge (tgt := 110) hx hb dX4_measure_47 (by decide) b5 (by decide) (fun c10 => ?_) (fun c10 => ?_)
    · have hg := Go_t c10 hg
      exact (Go_s hg) _ _ _ _ hP hD hS dX4_measure_110
    · have hg := Go_f c10 hg
      refine lv_aload_n hx hb dX4_measure_50 rfl (lv_at hl 1 rfl) ?_
      refine lv_aload_n hx hb dX4_measure_51 rfl (lv_at hl 0 rfl) ?_
      refine va_get (D := D) (ci := 4) (v := .ref (t 2)) (C := RX4) (T := TX4) (N := 5) hx hb hts zi_X4_measure_X4 hown hK hP 0 rfl rfl 1 (by decide) (hts (.fieldLink RX4 15 "DiamondRows$Flips" "queue" "[I") zl_X4_measure_15) (fun _ h9 => h9) rfl dX4_measure_52 ?_
      refine lv_iload_n hx hb dX4_measure_55 rfl (lv_at hl 2 rfl) ?_
      obtain ⟨n7, hg⟩ := Go_n hg
      refine zv_iald hx hb hK hP 2 1 rfl rfl (by decide) n7 dX4_measure_56 ?_
      obtain ⟨m8, hg⟩ := Go_n hg
      obtain ⟨o9, ho9, hg⟩ := Go_b hg
      refine zc_vi (rest := []) ⟨hx, hb, hml, hown, hts⟩ (zc_X5_cutAt l D κ (ad n1) n1 (zget t_queue (Int.toNat i3)) o9 ho9) (cwV 1 hts gX4_measure_X5_cutAt rfl rfl rfl (by decide +kernel) ⟨Nat.le_of_ble_eq_true rfl, Nat.le_of_ble_eq_true rfl⟩) (zpreV hK ((zamb hB hBA hS) n1 m8) 5 0 rfl rfl) rfl hl.1 rfl (Nat.le_of_ble_eq_true rfl) dX4_measure_57 ⟨Nat.zero_le _, Nat.zero_le _⟩ ?_
      refine lv_istore (lv' := [(4, .int (zi o9)), (0, .ref (t 0)), (1, .ref (ad n1 0)), (3, .int (zi i3))]) hx hb dX4_measure_60 hl (by decide) rfl (fun ls hl => ?_)
      refine zv_iconst hx hb dX4_measure_62 ?_
      refine lv_istore (lv' := [(5, .int (zi (0 : Int))), (4, .int (zi o9)), (0, .ref (t 0)), (1, .ref (ad n1 0)), (3, .int (zi i3))]) hx hb dX4_measure_63 hl (by decide) rfl (fun ls hl => ?_)
      exact (Go_s hg) H locs ls hP hD hS (lv_sub hl [2, 3, 4, 1, 0] rfl)
set_option maxHeartbeats 4000000 in
set_option maxRecDepth 100000 in
theorem zs_X4_measure_65 {p : Program} {l : Launch} {e : Env} {s : State} {m : MethodId} {args : Array Value} {below : List Frame} {meth : Method} {c : Code} {Q : State → Prop} {D : va_G} {κ : Nat → ClassId} {A : Nat → Prop} {H0 : Heap} (t : Nat → Nat) (mk : Nat) (ad : Nat → Nat → Nat) (t_wayLength : Int) (t_way : Nat) (n1 : Nat) (hx : p.tables.exec = Jvm.exec) (hb : c.code = cX4_measure) (hml : c.maxLocals = 6) (hown : s.vm.findClass RX4 = some m.cls) (hts : ∀ w ∈ wsX4_measure, w.before args s = true) (hK : va_K D vwCl (zTY κ) s) (hA : ∀ q : Nat, H0.size ≤ q → A q) (hB : zAmb D κ mk ad H0) (hBA : zApt mk ad A H0.size) (i2 : Int) (i3 : Int) (i4 : Int) (i5 : Int) (t_queued : Int) (t_steps : Nat) (t_queue : Nat) (hg : Go (GoE (zA_X4_measure p l e s m args below meth c Q D κ A H0 t mk ad t_wayLength t_way n1) (zQ_X4_measure p l e s m args below meth c Q D κ A H0 t mk ad t_wayLength t_way n1)) (zg_X4_measure_65 mk n1 i2 i3 i4 i5 t_queued t_steps t_queue)) : zA_X4_measure_65 p l e s m args below meth c Q D κ A H0 t mk ad t_wayLength t_way n1 i2 i3 i4 i5 t_queued t_steps t_queue := by
  intro H locs ls hP hD hS hl
  unfold zg_X4_measure_65 at hg
  refine lv_iload hx hb dX4_measure_65 (lv_at hl 4 rfl) ?_
  refine lv_aload_n hx hb dX4_measure_67 rfl (lv_at hl 1 rfl) ?_
  obtain ⟨m12, hg⟩ := Go_n hg
  obtain ⟨o13, ho13, hg⟩ := Go_b hg
  refine zc_vi (rest := [.int (zi i5)]) ⟨hx, hb, hml, hown, hts⟩ (zc_X5_lineCount l D κ (ad n1) n1  o13 ho13) (cwV 0 hts gX4_measure_X5_lineCount rfl rfl rfl (by decide +kernel) ⟨Nat.le_of_ble_eq_true rfl, Nat.le_of_ble_eq_true rfl⟩) (zpreV hK ((zamb hB hBA hS) n1 m12) 5 0 rfl rfl) rfl hl.1 rfl (Nat.le_of_ble_eq_true rfl) dX4_measure_68 ⟨Nat.zero_le _, Nat.zero_le _⟩ ?_
  obtain ⟨b14, hg⟩ := Go_n hg
  obtain ⟨b15, hg⟩ := Go_n hg
  refine zv_icmp_ge (tgt := 104) hx hb dX4_measure_71 (by decide) b14 b15 (fun c20 => ?_) (fun c20 => ?_)
  · have hg := Go_t c20 hg
    refine lv_iinc (v := zi (i3 + (1 : Int))) (lv' := [(3, .int (zi (i3 + (1 : Int)))), (0, .ref (t 0)), (1, .ref (ad n1 0)), (4, .int (zi i4)), (5, .int (zi i5))]) hx hb dX4_measure_104 hl (k := 2) rfl (zi_add i3 _) (by decide) rfl (fun ls hl => ?_)
    refine lv_goto (tgt := 35) hx hb dX4_measure_107 (by decide) ?_
    exact (Go_s hg) H locs ls hP hD hS (lv_sub hl [1, 2, 0] rfl)
  · have hg := Go_f c20 hg
    refine lv_aload_n hx hb dX4_measure_74 rfl (lv_at hl 0 rfl) ?_
    refine lv_aload_n hx hb dX4_measure_75 rfl (lv_at hl 1 rfl) ?_
    refine lv_iload hx hb dX4_measure_76 (lv_at hl 3 rfl) ?_
    refine lv_iload hx hb dX4_measure_78 (lv_at hl 4 rfl) ?_
    obtain ⟨o16, ho16, hg⟩ := Go_b hg
    refine zc_vi (rest := [.ref (t 0)]) ⟨hx, hb, hml, hown, hts⟩ (zc_X5_neighbourWith l D κ (ad n1) n1 i4 i5 o16 ho16) (cwV 2 hts gX4_measure_X5_neighbourWith rfl rfl rfl (by decide +kernel) ⟨Nat.le_of_ble_eq_true rfl, Nat.le_of_ble_eq_true rfl⟩) (zpreV hK ((zamb hB hBA hS) n1 m12) 5 0 rfl rfl) rfl hl.1 rfl (Nat.le_of_ble_eq_true rfl) dX4_measure_80 ⟨Nat.zero_le _, Nat.zero_le _⟩ ?_
    refine lv_aload_n hx hb dX4_measure_83 rfl (lv_at hl 0 rfl) ?_
    refine lv_aload_n hx hb dX4_measure_84 rfl (lv_at hl 0 rfl) ?_
    refine va_get (D := D) (ci := 4) (v := .ref (t 2)) (C := RX4) (T := TX4) (N := 5) hx hb hts zi_X4_measure_X4 hown hK hP 0 rfl rfl 1 (by decide) (hts (.fieldLink RX4 15 "DiamondRows$Flips" "queue" "[I") zl_X4_measure_15) (fun _ h9 => h9) rfl dX4_measure_85 ?_
    refine lv_iload_n hx hb dX4_measure_88 rfl (lv_at hl 2 rfl) ?_
    obtain ⟨n17, hg⟩ := Go_n hg
    refine zv_iald hx hb hK hP 2 1 rfl rfl (by decide) n17 dX4_measure_89 ?_
    obtain ⟨o18, ho18, hg⟩ := Go_b hg
    refine zc_vi (rest := [.int (zi o16), .ref (t 0)]) ⟨hx, hb, hml, hown, hts⟩ (zc_X4_stepsTo l D κ t t_wayLength t_queued t_steps t_queue t_way (zget t_queue (Int.toNat i3)) o18 ho18) (cwV 1 hts gX4_measure_X4_stepsTo rfl rfl rfl (by decide +kernel) ⟨Nat.le_of_ble_eq_true rfl, Nat.le_of_ble_eq_true rfl⟩) (zpreV hK (hP.sub [0, 1, 2, 3] rfl) 4 0 rfl rfl) rfl hl.1 rfl (Nat.le_of_ble_eq_true rfl) dX4_measure_90 ⟨Nat.zero_le _, Nat.zero_le _⟩ ?_
    refine zv_iconst hx hb dX4_measure_93 ?_
    refine zv_iadd hx hb dX4_measure_94 ?_
    obtain ⟨o19, ho19, hg⟩ := Go_b hg
    refine zj_v (wr := []) (ws1 := [((t 0), .inr (4, [.ref (t 1), .ref (t 2), .ref (t 3), .int (zi t_wayLength), .int (zi (o19.1))])), ((t 1), .inl (κ 1, 429, .inl (zc (o19.2.1)))), ((t 2), .inl (κ 1, 429, .inl (zc (o19.2.2)))), ((t 3), .inl (κ 1, 429, .inl (zc t_way)))]) (va_runV (rest := []) ⟨hx, hb, hml, hown, hts⟩ (zc_X4_comeTo l D κ t H.size t_wayLength t_queued t_steps t_queue t_way o16 (o18 + (1 : Int)) o19 ho19) (cwV 2 hts gX4_measure_X4_comeTo rfl rfl rfl (by decide +kernel) ⟨Nat.le_of_ble_eq_true rfl, Nat.le_of_ble_eq_true rfl⟩) (zpreWV hK (hP.sub [0, 1, 2, 3] rfl) (hD.sub [0, 1, 2, 3] (by decide) rfl) 4 0 rfl rfl) rfl rfl hl.1 rfl (lv_room (Nat.le_of_ble_eq_true rfl)) dX4_measure_95 ⟨Nat.zero_le _, Nat.zero_le _⟩) hP hD hS hA [0, 1, 2, 3] [] [0, 1, 2, 3] rfl rfl (by decide) (by decide) rfl rfl (by decide) (fun H locs hP hD hS => ?_)
    refine lv_iinc (v := zi (i5 + (1 : Int))) (lv' := [(5, .int (zi (i5 + (1 : Int)))), (0, .ref (t 0)), (1, .ref (ad n1 0)), (3, .int (zi i3)), (4, .int (zi i4))]) hx hb dX4_measure_98 hl (k := 4) rfl (zi_add i5 _) (by decide) rfl (fun ls hl => ?_)
    refine lv_goto (tgt := 65) hx hb dX4_measure_101 (by decide) ?_
    exact (Go_s hg) H locs ls hP hD hS (lv_sub hl [1, 2, 3, 4, 0] rfl)
set_option maxHeartbeats 4000000 in
set_option maxRecDepth 100000 in
theorem zw_X4_measure {p : Program} {l : Launch} {e : Env} {s : State} {m : MethodId} {args : Array Value} {below : List Frame} {meth : Method} {c : Code} {Q : State → Prop} {D : va_G} {κ : Nat → ClassId} {A : Nat → Prop} {H0 : Heap} (t : Nat → Nat) (mk : Nat) (ad : Nat → Nat → Nat) (t_wayLength : Int) (t_way : Nat) (n1 : Nat) (t_queued : Int) (t_steps : Nat) (t_queue : Nat) (i2 : Int) (hx : p.tables.exec = Jvm.exec) (hb : c.code = cX4_measure) (hml : c.maxLocals = 6) (hown : s.vm.findClass RX4 = some m.cls) (hts : ∀ w ∈ wsX4_measure, w.before args s = true) (hK : va_K D vwCl (zTY κ) s) (hA : ∀ q : Nat, H0.size ≤ q → A q) (hB : zAmb D κ mk ad H0) (hBA : zApt mk ad A H0.size) (out : Int × Nat × Nat) (h : zf_X4_measure mk t_queued t_steps t_queue n1 i2 = some out) (hq : zQ_X4_measure p l e s m args below meth c Q D κ A H0 t mk ad t_wayLength t_way n1 out) : zA_X4_measure_0 p l e s m args below meth c Q D κ A H0 t mk ad t_wayLength t_way n1 i2 0 0 0 t_queued t_steps t_queue := by
  have hst : ∀ st : zS_X4_measure, Go (GoE (zA_X4_measure p l e s m args below meth c Q D κ A H0 t mk ad t_wayLength t_way n1) (zQ_X4_measure p l e s m args below meth c Q D κ A H0 t mk ad t_wayLength t_way n1)) (zg_X4_measure mk n1 st) → zA_X4_measure p l e s m args below meth c Q D κ A H0 t mk ad t_wayLength t_way n1 st := by
    intro st hg
    obtain ⟨lab, i2, i3, i4, i5, t_queued, t_steps, t_queue⟩ := st
    by_cases h0 : lab = 0
    · subst h0
      exact zs_X4_measure_0 t mk ad t_wayLength t_way n1 hx hb hml hown hts hK hA hB hBA i2 i3 i4 i5 t_queued t_steps t_queue hg
    by_cases h2 : lab = 2
    · subst h2
      exact zs_X4_measure_2 t mk ad t_wayLength t_way n1 hx hb hml hown hts hK hA hB hBA i2 i3 i4 i5 t_queued t_steps t_queue hg
    by_cases h35 : lab = 35
    · subst h35
      exact zs_X4_measure_35 t mk ad t_wayLength t_way n1 hx hb hml hown hts hK hA hB hBA i2 i3 i4 i5 t_queued t_steps t_queue hg
    by_cases h65 : lab = 65
    · subst h65
      exact zs_X4_measure_65 t mk ad t_wayLength t_way n1 hx hb hml hown hts hK hA hB hBA i2 i3 i4 i5 t_queued t_steps t_queue hg
    have hz : zg_X4_measure mk n1 (lab, i2, i3, i4, i5, t_queued, t_steps, t_queue) = none := by simp [zg_X4_measure, h0, h2, h35, h65]
    rw [hz] at hg
    obtain ⟨a, h1, -⟩ := hg
    cases h1
  exact jwalk (At := zA_X4_measure p l e s m args below meth c Q D κ A H0 t mk ad t_wayLength t_way n1) (Ret := zQ_X4_measure p l e s m args below meth c Q D κ A H0 t mk ad t_wayLength t_way n1) hst _ _ _ h hq
set_option maxHeartbeats 4000000 in
set_option maxRecDepth 100000 in
theorem zc_X4_measure (l : Launch) (D : va_G) (κ : Nat → ClassId) (t : Nat → Nat) (mk : Nat) (ad : Nat → Nat → Nat) (sz : Nat) (t_wayLength : Int) (t_queued : Int) (t_steps : Nat) (t_queue : Nat) (t_way : Nat) (n1 : Nat) (i2 : Int) (out : Int × Nat × Nat) (h : zf_X4_measure mk t_queued t_steps t_queue n1 i2 = some out) : Met l yX4_measure wsX4_measure zr_X4_measure (va_Pc [.ref (t 0), .ref (ad n1 0), .int (zi i2)] (zWa D κ mk ad ([((t 0), .inr (4, [.ref (t 1), .ref (t 2), .ref (t 3), .int (zi t_wayLength), .int (zi t_queued)])), ((t 1), .inl (κ 1, 429, .inl (zc t_steps))), ((t 2), .inl (κ 1, 429, .inl (zc t_queue))), ((t 3), .inl (κ 1, 429, .inl (zc t_way)))]) sz)) (va_Qv (fun (_ : Unit) => True) (fun _ => zB D κ (va_A ([((t 0), .inr (4, [.ref (t 1), .ref (t 2), .ref (t 3), .int (zi t_wayLength), .int (zi t_queued)])), ((t 1), .inl (κ 1, 429, .inl (zc t_steps))), ((t 2), .inl (κ 1, 429, .inl (zc t_queue))), ((t 3), .inl (κ 1, 429, .inl (zc t_way)))]) sz) ([((t 0), .inr (4, [.ref (t 1), .ref (t 2), .ref (t 3), .int (zi t_wayLength), .int (zi (out.1))])), ((t 1), .inl (κ 1, 429, .inl (zc (out.2.1)))), ((t 2), .inl (κ 1, 429, .inl (zc (out.2.2)))), ((t 3), .inl (κ 1, 429, .inl (zc t_way)))])) (va_A ([((t 0), .inr (4, [.ref (t 1), .ref (t 2), .ref (t 3), .int (zi t_wayLength), .int (zi t_queued)])), ((t 1), .inl (κ 1, 429, .inl (zc t_steps))), ((t 2), .inl (κ 1, 429, .inl (zc t_queue))), ((t 3), .inl (κ 1, 429, .inl (zc t_way)))]) sz)) 0 0 (va_A ([((t 0), .inr (4, [.ref (t 1), .ref (t 2), .ref (t 3), .int (zi t_wayLength), .int (zi t_queued)])), ((t 1), .inl (κ 1, 429, .inl (zc t_steps))), ((t 2), .inl (κ 1, 429, .inl (zc t_queue))), ((t 3), .inl (κ 1, 429, .inl (zc t_way)))]) sz) := by
  refine Met.ofW (cc := cX4_measure) (maxL := 6) (ret := none) (by decide +kernel) rfl ?_
  intro p e s m args below meth c s₁ B hml hv
  obtain ⟨rfl, hsz, hP, hK, hD0, hB, hBA⟩ := hv
  have hx := B.exec
  have hb := B.bytes
  have hr := B.returns
  have hts := atoms_spec (ws := wsX4_measure) B.pre
  have hown : s.vm.findClass RX4 = some m.cls := findClass_of_methodNamed B.named
  have hlocks := B.notSynchronized
  subst hsz
  have hD := hD0.self (sz := s.heap.size)
  generalize hAe : va_A ([((t 0), .inr (4, [.ref (t 1), .ref (t 2), .ref (t 3), .int (zi t_wayLength), .int (zi t_queued)])), ((t 1), .inl (κ 1, 429, .inl (zc t_steps))), ((t 2), .inl (κ 1, 429, .inl (zc t_queue))), ((t 3), .inl (κ 1, 429, .inl (zc t_way)))]) s.heap.size = A at hD hBA ⊢
  have hA : ∀ q : Nat, s.heap.size ≤ q → A q := fun q h => by rw [← hAe]; exact Or.inr h
  have hS : va_S A s.heap s.heap [] := va_S.rf
  have hl := lv_entry ([.ref (t 0), .ref (ad n1 0), .int (zi i2)]) (n := 6) (Nat.le_of_ble_eq_true rfl)
  rw [lg_entry_eq]
  generalize (lg_sl ([.ref (t 0), .ref (ad n1 0), .int (zi i2)]) ++ List.replicate (6 - (lg_sl ([.ref (t 0), .ref (ad n1 0), .int (zi i2)])).length) Slot.unset).toArray = ls at hl ⊢
  have hl : lv_has ls 6 [(0, .ref (t 0)), (1, .ref (ad n1 0)), (2, .int (zi i2))] := hl
  refine (zw_X4_measure t mk ad t_wayLength t_way n1 t_queued t_steps t_queue i2 hx hb hml hown hts hK hA hB hBA out h ?_) s.heap [] ls hP hD hS (lv_sub hl [0, 1, 2] rfl)
  exact fun H locs ls pc hP hD hS hd => W.vret hx hb hr (fun t ht hW => ⟨⟨(), rfl, trivial, by rw [ht]; exact hP, va_K.moved hW.alike hK, hD⟩, hS.F ht⟩) hS.2.2 hd
/-! DiamondRows$Flips.mostSteps(LDiamondRows$Polygon;)I -/
abbrev zr_X4_mostSteps : Room := { frames := 1, cells := 0, slots := 0, locals := 30 }
abbrev zS_X4_mostSteps : Type := Nat × Int × Int
abbrev zO_X4_mostSteps : Type := Int
noncomputable def zg_X4_mostSteps_0 (mk : Nat) (t_steps : Nat) (n1 : Nat) (i2 : Int) (i3 : Int) : Option (zO_X4_mostSteps ⊕ zS_X4_mostSteps) :=
  some (.inr (4, (0 : Int), (0 : Int)))
noncomputable def zg_X4_mostSteps_4 (mk : Nat) (t_steps : Nat) (n1 : Nat) (i2 : Int) (i3 : Int) : Option (zO_X4_mostSteps ⊕ zS_X4_mostSteps) :=
  if zno mk n1 then none else
  Option.bind (zf_X5_cutCount n1) (fun o2 =>
  if zout i3 then none else
  if zout o2 then none else
  if o2 ≤ i3 then
  some (.inl (i2))
  else
  Option.bind (zf_X4_stepsTo t_steps i3) (fun o5 =>
  if zout i2 then none else
  if zout o5 then none else
  some (.inr (4, (zmax i2 o5), (i3 + (1 : Int))))))
noncomputable def zg_X4_mostSteps (mk : Nat) (t_steps : Nat) (n1 : Nat) (st : zS_X4_mostSteps) : Option (zO_X4_mostSteps ⊕ zS_X4_mostSteps) := match st with
  | (lab, i2, i3) => if lab = 0 then zg_X4_mostSteps_0 mk t_steps n1 i2 i3 else if lab = 4 then zg_X4_mostSteps_4 mk t_steps n1 i2 i3 else none
noncomputable def zf_X4_mostSteps (mk : Nat) (t_steps : Nat) (n1 : Nat) : Option (Int) := jrun (zg_X4_mostSteps mk t_steps n1) jfuel (0, 0, 0)
def zQ_X4_mostSteps (p : Program) (l : Launch) (e : Env) (s : State) (m : MethodId) (args : Array Value) (below : List Frame) (meth : Method) (c : Code) (Q : State → Prop) (H : Heap) (locs : List Loc)  (o : Int) : Prop := ∀ (ls : Array Slot) (pc : Nat), decode cX4_mostSteps pc = .ok (.ireturn, 1) → W p l e zr_X4_mostSteps s m args below meth c H locs 0 0 Q (F0 m pc ls [.int (zi o)])
def zA_X4_mostSteps_0 (p : Program) (l : Launch) (e : Env) (s : State) (m : MethodId) (args : Array Value) (below : List Frame) (meth : Method) (c : Code) (Q : State → Prop) (H : Heap) (locs : List Loc) (t : Nat → Nat) (mk : Nat) (ad : Nat → Nat → Nat) (n1 : Nat) (i2 : Int) (i3 : Int) : Prop := ∀ ls : Array Slot, lv_has ls 4 [(0, .ref (t 0)), (1, .ref (ad n1 0))] → W p l e zr_X4_mostSteps s m args below meth c H locs 0 0 Q (F0 m 0 ls [])
def zA_X4_mostSteps_4 (p : Program) (l : Launch) (e : Env) (s : State) (m : MethodId) (args : Array Value) (below : List Frame) (meth : Method) (c : Code) (Q : State → Prop) (H : Heap) (locs : List Loc) (t : Nat → Nat) (mk : Nat) (ad : Nat → Nat → Nat) (n1 : Nat) (i2 : Int) (i3 : Int) : Prop := ∀ ls : Array Slot, lv_has ls 4 [(0, .ref (t 0)), (1, .ref (ad n1 0)), (2, .int (zi i2)), (3, .int (zi i3))] → W p l e zr_X4_mostSteps s m args below meth c H locs 0 0 Q (F0 m 4 ls [])
def zA_X4_mostSteps (p : Program) (l : Launch) (e : Env) (s : State) (m : MethodId) (args : Array Value) (below : List Frame) (meth : Method) (c : Code) (Q : State → Prop) (H : Heap) (locs : List Loc) (t : Nat → Nat) (mk : Nat) (ad : Nat → Nat → Nat) (n1 : Nat) (st : zS_X4_mostSteps) : Prop := match st with
  | (lab, i2, i3) => if lab = 0 then zA_X4_mostSteps_0 p l e s m args below meth c Q H locs t mk ad n1 i2 i3 else if lab = 4 then zA_X4_mostSteps_4 p l e s m args below meth c Q H locs t mk ad n1 i2 i3 else True
set_option maxHeartbeats 4000000 in
set_option maxRecDepth 100000 in
theorem zs_X4_mostSteps_0 {p : Program} {l : Launch} {e : Env} {s : State} {m : MethodId} {args : Array Value} {below : List Frame} {meth : Method} {c : Code} {Q : State → Prop} {D : va_G} {κ : Nat → ClassId} {H : Heap} {locs : List Loc} (t : Nat → Nat) (mk : Nat) (ad : Nat → Nat → Nat) (t_wayLength : Int) (t_queued : Int) (t_steps : Nat) (t_queue : Nat) (t_way : Nat) (n1 : Nat) (hx : p.tables.exec = Jvm.exec) (hb : c.code = cX4_mostSteps) (hml : c.maxLocals = 4) (hown : s.vm.findClass RX4 = some m.cls) (hts : ∀ w ∈ wsX4_mostSteps, w.before args s = true) (hK : va_K D vwCl (zTY κ) s) (hP : va_P D vwCl ([((t 0), .inr (4, [.ref (t 1), .ref (t 2), .ref (t 3), .int (zi t_wayLength), .int (zi t_queued)])), ((t 1), .inl (κ 1, 429, .inl (zc t_steps))), ((t 2), .inl (κ 1, 429, .inl (zc t_queue))), ((t 3), .inl (κ 1, 429, .inl (zc t_way)))]) H) (hB : zAmb D κ mk ad H) (i2 : Int) (i3 : Int) (hg : Go (GoE (zA_X4_mostSteps p l e s m args below meth c Q H locs t mk ad n1) (zQ_X4_mostSteps p l e s m args below meth c Q H locs)) (zg_X4_mostSteps_0 mk t_steps n1 i2 i3)) : zA_X4_mostSteps_0 p l e s m args below meth c Q H locs t mk ad n1 i2 i3 := by
  intro ls hl
  unfold zg_X4_mostSteps_0 at hg
  refine zv_iconst hx hb dX4_mostSteps_0 ?_
  refine lv_istore_n (lv' := [(2, .int (zi (0 : Int))), (0, .ref (t 0)), (1, .ref (ad n1 0))]) hx hb dX4_mostSteps_1 rfl hl (by decide) rfl (fun ls hl => ?_)
  refine zv_iconst hx hb dX4_mostSteps_2 ?_
  refine lv_istore_n (lv' := [(3, .int (zi (0 : Int))), (2, .int (zi (0 : Int))), (0, .ref (t 0)), (1, .ref (ad n1 0))]) hx hb dX4_mostSteps_3 rfl hl (by decide) rfl (fun ls hl => ?_)
  exact (Go_s hg) ls (lv_sub hl [2, 3, 1, 0] rfl)
set_option maxHeartbeats 4000000 in
set_option maxRecDepth 100000 in
theorem zs_X4_mostSteps_4 {p : Program} {l : Launch} {e : Env} {s : State} {m : MethodId} {args : Array Value} {below : List Frame} {meth : Method} {c : Code} {Q : State → Prop} {D : va_G} {κ : Nat → ClassId} {H : Heap} {locs : List Loc} (t : Nat → Nat) (mk : Nat) (ad : Nat → Nat → Nat) (t_wayLength : Int) (t_queued : Int) (t_steps : Nat) (t_queue : Nat) (t_way : Nat) (n1 : Nat) (hx : p.tables.exec = Jvm.exec) (hb : c.code = cX4_mostSteps) (hml : c.maxLocals = 4) (hown : s.vm.findClass RX4 = some m.cls) (hts : ∀ w ∈ wsX4_mostSteps, w.before args s = true) (hK : va_K D vwCl (zTY κ) s) (hP : va_P D vwCl ([((t 0), .inr (4, [.ref (t 1), .ref (t 2), .ref (t 3), .int (zi t_wayLength), .int (zi t_queued)])), ((t 1), .inl (κ 1, 429, .inl (zc t_steps))), ((t 2), .inl (κ 1, 429, .inl (zc t_queue))), ((t 3), .inl (κ 1, 429, .inl (zc t_way)))]) H) (hB : zAmb D κ mk ad H) (i2 : Int) (i3 : Int) (hg : Go (GoE (zA_X4_mostSteps p l e s m args below meth c Q H locs t mk ad n1) (zQ_X4_mostSteps p l e s m args below meth c Q H locs)) (zg_X4_mostSteps_4 mk t_steps n1 i2 i3)) : zA_X4_mostSteps_4 p l e s m args below meth c Q H locs t mk ad n1 i2 i3 := by
  intro ls hl
  unfold zg_X4_mostSteps_4 at hg
  refine lv_iload_n hx hb dX4_mostSteps_4 rfl (lv_at hl 3 rfl) ?_
  refine lv_aload_n hx hb dX4_mostSteps_5 rfl (lv_at hl 1 rfl) ?_
  obtain ⟨m1, hg⟩ := Go_n hg
  obtain ⟨o2, ho2, hg⟩ := Go_b hg
  refine zc_vi (rest := [.int (zi i3)]) ⟨hx, hb, hml, hown, hts⟩ (zc_X5_cutCount l D κ (ad n1) n1  o2 ho2) (cwV 0 hts gX4_mostSteps_X5_cutCount rfl rfl rfl (by decide +kernel) ⟨Nat.le_of_ble_eq_true rfl, Nat.le_of_ble_eq_true rfl⟩) (zpreV hK (hB n1 m1) 5 0 rfl rfl) rfl hl.1 rfl (Nat.le_of_ble_eq_true rfl) dX4_mostSteps_6 ⟨Nat.zero_le _, Nat.zero_le _⟩ ?_
  obtain ⟨b3, hg⟩ := Go_n hg
  obtain ⟨b4, hg⟩ := Go_n hg
  refine zv_icmp_ge (tgt := 28) hx hb dX4_mostSteps_9 (by decide) b3 b4 (fun c8 => ?_) (fun c8 => ?_)
  · have hg := Go_t c8 hg
    refine lv_iload_n hx hb dX4_mostSteps_28 rfl (lv_at hl 2 rfl) ?_
    exact (Go_s hg) _ _ dX4_mostSteps_29
  · have hg := Go_f c8 hg
    refine lv_iload_n hx hb dX4_mostSteps_12 rfl (lv_at hl 2 rfl) ?_
    refine lv_aload_n hx hb dX4_mostSteps_13 rfl (lv_at hl 0 rfl) ?_
    refine lv_iload_n hx hb dX4_mostSteps_14 rfl (lv_at hl 3 rfl) ?_
    obtain ⟨o5, ho5, hg⟩ := Go_b hg
    refine zc_vi (rest := [.int (zi i2)]) ⟨hx, hb, hml, hown, hts⟩ (zc_X4_stepsTo l D κ t t_wayLength t_queued t_steps t_queue t_way i3 o5 ho5) (cwV 1 hts gX4_mostSteps_X4_stepsTo rfl rfl rfl (by decide +kernel) ⟨Nat.le_of_ble_eq_true rfl, Nat.le_of_ble_eq_true rfl⟩) (zpreV hK (hP.sub [0, 1, 2, 3] rfl) 4 0 rfl rfl) rfl hl.1 rfl (Nat.le_of_ble_eq_true rfl) dX4_mostSteps_15 ⟨Nat.zero_le _, Nat.zero_le _⟩ ?_
    obtain ⟨b6, hg⟩ := Go_n hg
    obtain ⟨b7, hg⟩ := Go_n hg
    refine va_mmax hx hb (by rw [hml]; exact hl.1.symm) hown (hts (.methodLink RX4 49 Lib.Math.max.name) (by decide +kernel)) (hts (.static Lib.Math.max.name) (by decide +kernel)) (hts (.initialized "java/lang/Math") (by decide +kernel)) (hts (.code Lib.Math.max.name Lib.Math.max.code 2 (some .int)) (by decide +kernel)) (Nat.le_of_ble_eq_true rfl) (Nat.le_of_ble_eq_true rfl) (Nat.zero_le _) (Nat.zero_le _) dX4_mostSteps_18 ?_
    rw [zi_max b6 b7]
    refine lv_istore_n (lv' := [(2, .int (zi (zmax i2 o5))), (0, .ref (t 0)), (1, .ref (ad n1 0)), (3, .int (zi i3))]) hx hb dX4_mostSteps_21 rfl hl (by decide) rfl (fun ls hl => ?_)
    refine lv_iinc (v := zi (i3 + (1 : Int))) (lv' := [(3, .int (zi (i3 + (1 : Int)))), (2, .int (zi (zmax i2 o5))), (0, .ref (t 0)), (1, .ref (ad n1 0))]) hx hb dX4_mostSteps_22 hl (k := 3) rfl (zi_add i3 _) (by decide) rfl (fun ls hl => ?_)
    refine lv_goto (tgt := 4) hx hb dX4_mostSteps_25 (by decide) ?_
    exact (Go_s hg) ls (lv_sub hl [2, 3, 1, 0] rfl)
set_option maxHeartbeats 4000000 in
set_option maxRecDepth 100000 in
theorem zw_X4_mostSteps {p : Program} {l : Launch} {e : Env} {s : State} {m : MethodId} {args : Array Value} {below : List Frame} {meth : Method} {c : Code} {Q : State → Prop} {D : va_G} {κ : Nat → ClassId} {H : Heap} {locs : List Loc} (t : Nat → Nat) (mk : Nat) (ad : Nat → Nat → Nat) (t_wayLength : Int) (t_queued : Int) (t_steps : Nat) (t_queue : Nat) (t_way : Nat) (n1 : Nat)  (hx : p.tables.exec = Jvm.exec) (hb : c.code = cX4_mostSteps) (hml : c.maxLocals = 4) (hown : s.vm.findClass RX4 = some m.cls) (hts : ∀ w ∈ wsX4_mostSteps, w.before args s = true) (hK : va_K D vwCl (zTY κ) s) (hP : va_P D vwCl ([((t 0), .inr (4, [.ref (t 1), .ref (t 2), .ref (t 3), .int (zi t_wayLength), .int (zi t_queued)])), ((t 1), .inl (κ 1, 429, .inl (zc t_steps))), ((t 2), .inl (κ 1, 429, .inl (zc t_queue))), ((t 3), .inl (κ 1, 429, .inl (zc t_way)))]) H) (hB : zAmb D κ mk ad H) (out : Int) (h : zf_X4_mostSteps mk t_steps n1 = some out) (hq : zQ_X4_mostSteps p l e s m args below meth c Q H locs out) : zA_X4_mostSteps_0 p l e s m args below meth c Q H locs t mk ad n1 0 0 := by
  have hst : ∀ st : zS_X4_mostSteps, Go (GoE (zA_X4_mostSteps p l e s m args below meth c Q H locs t mk ad n1) (zQ_X4_mostSteps p l e s m args below meth c Q H locs)) (zg_X4_mostSteps mk t_steps n1 st) → zA_X4_mostSteps p l e s m args below meth c Q H locs t mk ad n1 st := by
    intro st hg
    obtain ⟨lab, i2, i3⟩ := st
    by_cases h0 : lab = 0
    · subst h0
      exact zs_X4_mostSteps_0 t mk ad t_wayLength t_queued t_steps t_queue t_way n1 hx hb hml hown hts hK hP hB i2 i3 hg
    by_cases h4 : lab = 4
    · subst h4
      exact zs_X4_mostSteps_4 t mk ad t_wayLength t_queued t_steps t_queue t_way n1 hx hb hml hown hts hK hP hB i2 i3 hg
    have hz : zg_X4_mostSteps mk t_steps n1 (lab, i2, i3) = none := by simp [zg_X4_mostSteps, h0, h4]
    rw [hz] at hg
    obtain ⟨a, h1, -⟩ := hg
    cases h1
  exact jwalk (At := zA_X4_mostSteps p l e s m args below meth c Q H locs t mk ad n1) (Ret := zQ_X4_mostSteps p l e s m args below meth c Q H locs) hst _ _ _ h hq
set_option maxHeartbeats 4000000 in
set_option maxRecDepth 100000 in
theorem zc_X4_mostSteps (l : Launch) (D : va_G) (κ : Nat → ClassId) (t : Nat → Nat) (mk : Nat) (ad : Nat → Nat → Nat) (t_wayLength : Int) (t_queued : Int) (t_steps : Nat) (t_queue : Nat) (t_way : Nat) (n1 : Nat) (out : Int) (h : zf_X4_mostSteps mk t_steps n1 = some out) : Met l yX4_mostSteps wsX4_mostSteps zr_X4_mostSteps (va_Pc [.ref (t 0), .ref (ad n1 0)] (zRa D κ mk ad ([((t 0), .inr (4, [.ref (t 1), .ref (t 2), .ref (t 3), .int (zi t_wayLength), .int (zi t_queued)])), ((t 1), .inl (κ 1, 429, .inl (zc t_steps))), ((t 2), .inl (κ 1, 429, .inl (zc t_queue))), ((t 3), .inl (κ 1, 429, .inl (zc t_way)))]))) (vp_Si (fun x => x = zi out)) 0 0 (fun _ => False) := by
  refine Met.ofW (cc := cX4_mostSteps) (maxL := 4) (ret := (some .int)) (by decide +kernel) rfl ?_
  intro p e s m args below meth c s₁ B hml hv
  obtain ⟨rfl, hP, hK, hB⟩ := hv
  have hx := B.exec
  have hb := B.bytes
  have hr := B.returns
  have hts := atoms_spec (ws := wsX4_mostSteps) B.pre
  have hown : s.vm.findClass RX4 = some m.cls := findClass_of_methodNamed B.named
  have hlocks := B.notSynchronized
  have hl := lv_entry ([.ref (t 0), .ref (ad n1 0)]) (n := 4) (Nat.le_of_ble_eq_true rfl)
  rw [lg_entry_eq]
  generalize (lg_sl ([.ref (t 0), .ref (ad n1 0)]) ++ List.replicate (4 - (lg_sl ([.ref (t 0), .ref (ad n1 0)])).length) Slot.unset).toArray = ls at hl ⊢
  have hl : lv_has ls 4 [(0, .ref (t 0)), (1, .ref (ad n1 0))] := hl
  refine (zw_X4_mostSteps t mk ad t_wayLength t_queued t_steps t_queue t_way n1  hx hb hml hown hts hK hP hB out h ?_) ls (lv_sub hl [0, 1] rfl)
  exact fun ls pc hd => W.iret hx hb hr (fun t ht hW => ⟨_, rfl, rfl, ht⟩) (fun _ h => by cases h) hd
/-! DiamondRows$Flips.howManyAt(LDiamondRows$Polygon;I)I -/
abbrev zr_X4_howManyAt : Room := { frames := 1, cells := 0, slots := 0, locals := 21 }
abbrev zS_X4_howManyAt : Type := Nat × Int × Int × Int
abbrev zO_X4_howManyAt : Type := Int
noncomputable def zg_X4_howManyAt_0 (mk : Nat) (t_steps : Nat) (n1 : Nat) (i2 : Int) (i3 : Int) (i4 : Int) : Option (zO_X4_howManyAt ⊕ zS_X4_howManyAt) :=
  some (.inr (5, i2, (0 : Int), (0 : Int)))
noncomputable def zg_X4_howManyAt_5 (mk : Nat) (t_steps : Nat) (n1 : Nat) (i2 : Int) (i3 : Int) (i4 : Int) : Option (zO_X4_howManyAt ⊕ zS_X4_howManyAt) :=
  if zno mk n1 then none else
  Option.bind (zf_X5_cutCount n1) (fun o2 =>
  if zout i4 then none else
  if zout o2 then none else
  if o2 ≤ i4 then
  some (.inl (i3))
  else
  Option.bind (zf_X4_stepsTo t_steps i4) (fun o5 =>
  if zout o5 then none else
  if zout i2 then none else
  if o5 = i2 then
  some (.inr (5, i2, (i3 + (1 : Int)), (i4 + (1 : Int))))
  else
  some (.inr (5, i2, i3, (i4 + (1 : Int))))))
noncomputable def zg_X4_howManyAt (mk : Nat) (t_steps : Nat) (n1 : Nat) (st : zS_X4_howManyAt) : Option (zO_X4_howManyAt ⊕ zS_X4_howManyAt) := match st with
  | (lab, i2, i3, i4) => if lab = 0 then zg_X4_howManyAt_0 mk t_steps n1 i2 i3 i4 else if lab = 5 then zg_X4_howManyAt_5 mk t_steps n1 i2 i3 i4 else none
noncomputable def zf_X4_howManyAt (mk : Nat) (t_steps : Nat) (n1 : Nat) (i2 : Int) : Option (Int) := jrun (zg_X4_howManyAt mk t_steps n1) jfuel (0, i2, 0, 0)
def zQ_X4_howManyAt (p : Program) (l : Launch) (e : Env) (s : State) (m : MethodId) (args : Array Value) (below : List Frame) (meth : Method) (c : Code) (Q : State → Prop) (H : Heap) (locs : List Loc)  (o : Int) : Prop := ∀ (ls : Array Slot) (pc : Nat), decode cX4_howManyAt pc = .ok (.ireturn, 1) → W p l e zr_X4_howManyAt s m args below meth c H locs 0 0 Q (F0 m pc ls [.int (zi o)])
def zA_X4_howManyAt_0 (p : Program) (l : Launch) (e : Env) (s : State) (m : MethodId) (args : Array Value) (below : List Frame) (meth : Method) (c : Code) (Q : State → Prop) (H : Heap) (locs : List Loc) (t : Nat → Nat) (mk : Nat) (ad : Nat → Nat → Nat) (n1 : Nat) (i2 : Int) (i3 : Int) (i4 : Int) : Prop := ∀ ls : Array Slot, lv_has ls 5 [(0, .ref (t 0)), (1, .ref (ad n1 0)), (2, .int (zi i2))] → W p l e zr_X4_howManyAt s m args below meth c H locs 0 0 Q (F0 m 0 ls [])
def zA_X4_howManyAt_5 (p : Program) (l : Launch) (e : Env) (s : State) (m : MethodId) (args : Array Value) (below : List Frame) (meth : Method) (c : Code) (Q : State → Prop) (H : Heap) (locs : List Loc) (t : Nat → Nat) (mk : Nat) (ad : Nat → Nat → Nat) (n1 : Nat) (i2 : Int) (i3 : Int) (i4 : Int) : Prop := ∀ ls : Array Slot, lv_has ls 5 [(0, .ref (t 0)), (1, .ref (ad n1 0)), (2, .int (zi i2)), (3, .int (zi i3)), (4, .int (zi i4))] → W p l e zr_X4_howManyAt s m args below meth c H locs 0 0 Q (F0 m 5 ls [])
def zA_X4_howManyAt (p : Program) (l : Launch) (e : Env) (s : State) (m : MethodId) (args : Array Value) (below : List Frame) (meth : Method) (c : Code) (Q : State → Prop) (H : Heap) (locs : List Loc) (t : Nat → Nat) (mk : Nat) (ad : Nat → Nat → Nat) (n1 : Nat) (st : zS_X4_howManyAt) : Prop := match st with
  | (lab, i2, i3, i4) => if lab = 0 then zA_X4_howManyAt_0 p l e s m args below meth c Q H locs t mk ad n1 i2 i3 i4 else if lab = 5 then zA_X4_howManyAt_5 p l e s m args below meth c Q H locs t mk ad n1 i2 i3 i4 else True
set_option maxHeartbeats 4000000 in
set_option maxRecDepth 100000 in
theorem zs_X4_howManyAt_0 {p : Program} {l : Launch} {e : Env} {s : State} {m : MethodId} {args : Array Value} {below : List Frame} {meth : Method} {c : Code} {Q : State → Prop} {D : va_G} {κ : Nat → ClassId} {H : Heap} {locs : List Loc} (t : Nat → Nat) (mk : Nat) (ad : Nat → Nat → Nat) (t_wayLength : Int) (t_queued : Int) (t_steps : Nat) (t_queue : Nat) (t_way : Nat) (n1 : Nat) (hx : p.tables.exec = Jvm.exec) (hb : c.code = cX4_howManyAt) (hml : c.maxLocals = 5) (hown : s.vm.findClass RX4 = some m.cls) (hts : ∀ w ∈ wsX4_howManyAt, w.before args s = true) (hK : va_K D vwCl (zTY κ) s) (hP : va_P D vwCl ([((t 0), .inr (4, [.ref (t 1), .ref (t 2), .ref (t 3), .int (zi t_wayLength), .int (zi t_queued)])), ((t 1), .inl (κ 1, 429, .inl (zc t_steps))), ((t 2), .inl (κ 1, 429, .inl (zc t_queue))), ((t 3), .inl (κ 1, 429, .inl (zc t_way)))]) H) (hB : zAmb D κ mk ad H) (i2 : Int) (i3 : Int) (i4 : Int) (hg : Go (GoE (zA_X4_howManyAt p l e s m args below meth c Q H locs t mk ad n1) (zQ_X4_howManyAt p l e s m args below meth c Q H locs)) (zg_X4_howManyAt_0 mk t_steps n1 i2 i3 i4)) : zA_X4_howManyAt_0 p l e s m args below meth c Q H locs t mk ad n1 i2 i3 i4 := by
  intro ls hl
  unfold zg_X4_howManyAt_0 at hg
  refine zv_iconst hx hb dX4_howManyAt_0 ?_
  refine lv_istore_n (lv' := [(3, .int (zi (0 : Int))), (0, .ref (t 0)), (1, .ref (ad n1 0)), (2, .int (zi i2))]) hx hb dX4_howManyAt_1 rfl hl (by decide) rfl (fun ls hl => ?_)
  refine zv_iconst hx hb dX4_howManyAt_2 ?_
  refine lv_istore (lv' := [(4, .int (zi (0 : Int))), (3, .int (zi (0 : Int))), (0, .ref (t 0)), (1, .ref (ad n1 0)), (2, .int (zi i2))]) hx hb dX4_howManyAt_3 hl (by decide) rfl (fun ls hl => ?_)
  exact (Go_s hg) ls (lv_sub hl [2, 3, 4, 1, 0] rfl)
set_option maxHeartbeats 4000000 in
set_option maxRecDepth 100000 in
theorem zs_X4_howManyAt_5 {p : Program} {l : Launch} {e : Env} {s : State} {m : MethodId} {args : Array Value} {below : List Frame} {meth : Method} {c : Code} {Q : State → Prop} {D : va_G} {κ : Nat → ClassId} {H : Heap} {locs : List Loc} (t : Nat → Nat) (mk : Nat) (ad : Nat → Nat → Nat) (t_wayLength : Int) (t_queued : Int) (t_steps : Nat) (t_queue : Nat) (t_way : Nat) (n1 : Nat) (hx : p.tables.exec = Jvm.exec) (hb : c.code = cX4_howManyAt) (hml : c.maxLocals = 5) (hown : s.vm.findClass RX4 = some m.cls) (hts : ∀ w ∈ wsX4_howManyAt, w.before args s = true) (hK : va_K D vwCl (zTY κ) s) (hP : va_P D vwCl ([((t 0), .inr (4, [.ref (t 1), .ref (t 2), .ref (t 3), .int (zi t_wayLength), .int (zi t_queued)])), ((t 1), .inl (κ 1, 429, .inl (zc t_steps))), ((t 2), .inl (κ 1, 429, .inl (zc t_queue))), ((t 3), .inl (κ 1, 429, .inl (zc t_way)))]) H) (hB : zAmb D κ mk ad H) (i2 : Int) (i3 : Int) (i4 : Int) (hg : Go (GoE (zA_X4_howManyAt p l e s m args below meth c Q H locs t mk ad n1) (zQ_X4_howManyAt p l e s m args below meth c Q H locs)) (zg_X4_howManyAt_5 mk t_steps n1 i2 i3 i4)) : zA_X4_howManyAt_5 p l e s m args below meth c Q H locs t mk ad n1 i2 i3 i4 := by
  intro ls hl
  unfold zg_X4_howManyAt_5 at hg
  refine lv_iload hx hb dX4_howManyAt_5 (lv_at hl 4 rfl) ?_
  refine lv_aload_n hx hb dX4_howManyAt_7 rfl (lv_at hl 1 rfl) ?_
  obtain ⟨m1, hg⟩ := Go_n hg
  obtain ⟨o2, ho2, hg⟩ := Go_b hg
  refine zc_vi (rest := [.int (zi i4)]) ⟨hx, hb, hml, hown, hts⟩ (zc_X5_cutCount l D κ (ad n1) n1  o2 ho2) (cwV 0 hts gX4_howManyAt_X5_cutCount rfl rfl rfl (by decide +kernel) ⟨Nat.le_of_ble_eq_true rfl, Nat.le_of_ble_eq_true rfl⟩) (zpreV hK (hB n1 m1) 5 0 rfl rfl) rfl hl.1 rfl (Nat.le_of_ble_eq_true rfl) dX4_howManyAt_8 ⟨Nat.zero_le _, Nat.zero_le _⟩ ?_
  obtain ⟨b3, hg⟩ := Go_n hg
  obtain ⟨b4, hg⟩ := Go_n hg
  refine zv_icmp_ge (tgt := 33) hx hb dX4_howManyAt_11 (by decide) b3 b4 (fun c9 => ?_) (fun c9 => ?_)
  · have hg := Go_t c9 hg
    refine lv_iload_n hx hb dX4_howManyAt_33 rfl (lv_at hl 3 rfl) ?_
    exact (Go_s hg) _ _ dX4_howManyAt_34
  · have hg := Go_f c9 hg
    refine lv_aload_n hx hb dX4_howManyAt_14 rfl (lv_at hl 0 rfl) ?_
    refine lv_iload hx hb dX4_howManyAt_15 (lv_at hl 4 rfl) ?_
    obtain ⟨o5, ho5, hg⟩ := Go_b hg
    refine zc_vi (rest := []) ⟨hx, hb, hml, hown, hts⟩ (zc_X4_stepsTo l D κ t t_wayLength t_queued t_steps t_queue t_way i4 o5 ho5) (cwV 1 hts gX4_howManyAt_X4_stepsTo rfl rfl rfl (by decide +kernel) ⟨Nat.le_of_ble_eq_true rfl, Nat.le_of_ble_eq_true rfl⟩) (zpreV hK (hP.sub [0, 1, 2, 3] rfl) 4 0 rfl rfl) rfl hl.1 rfl (Nat.le_of_ble_eq_true rfl) dX4_howManyAt_17 ⟨Nat.zero_le _, Nat.zero_le _⟩ ?_
    refine lv_iload_n hx hb dX4_howManyAt_20 rfl (lv_at hl 2 rfl) ?_
    obtain ⟨b6, hg⟩ := Go_n hg
    obtain ⟨b7, hg⟩ := Go_n hg
    refine zv_icmp_ne (tgt := 27) hx hb dX4_howManyAt_21 (by decide) b6 b7 (fun c8 => ?_) (fun c8 => ?_)
    · have hg := Go_f c8 hg
      refine lv_iinc (v := zi (i4 + (1 : Int))) (lv' := [(4, .int (zi (i4 + (1 : Int)))), (0, .ref (t 0)), (1, .ref (ad n1 0)), (2, .int (zi i2)), (3, .int (zi i3))]) hx hb dX4_howManyAt_27 hl (k := 4) rfl (zi_add i4 _) (by decide) rfl (fun ls hl => ?_)
      refine lv_goto (tgt := 5) hx hb dX4_howManyAt_30 (by decide) ?_
      exact (Go_s hg) ls (lv_sub hl [1, 2, 3, 4, 0] rfl)
    · have hg := Go_t c8 hg
      refine lv_iinc (v := zi (i3 + (1 : Int))) (lv' := [(3, .int (zi (i3 + (1 : Int)))), (0, .ref (t 0)), (1, .ref (ad n1 0)), (2, .int (zi i2)), (4, .int (zi i4))]) hx hb dX4_howManyAt_24 hl (k := 3) rfl (zi_add i3 _) (by decide) rfl (fun ls hl => ?_)
      refine lv_iinc (v := zi (i4 + (1 : Int))) (lv' := [(4, .int (zi (i4 + (1 : Int)))), (3, .int (zi (i3 + (1 : Int)))), (0, .ref (t 0)), (1, .ref (ad n1 0)), (2, .int (zi i2))]) hx hb dX4_howManyAt_27 hl (k := 4) rfl (zi_add i4 _) (by decide) rfl (fun ls hl => ?_)
      refine lv_goto (tgt := 5) hx hb dX4_howManyAt_30 (by decide) ?_
      exact (Go_s hg) ls (lv_sub hl [2, 3, 4, 1, 0] rfl)
set_option maxHeartbeats 4000000 in
set_option maxRecDepth 100000 in
theorem zw_X4_howManyAt {p : Program} {l : Launch} {e : Env} {s : State} {m : MethodId} {args : Array Value} {below : List Frame} {meth : Method} {c : Code} {Q : State → Prop} {D : va_G} {κ : Nat → ClassId} {H : Heap} {locs : List Loc} (t : Nat → Nat) (mk : Nat) (ad : Nat → Nat → Nat) (t_wayLength : Int) (t_queued : Int) (t_steps : Nat) (t_queue : Nat) (t_way : Nat) (n1 : Nat) (i2 : Int) (hx : p.tables.exec = Jvm.exec) (hb : c.code = cX4_howManyAt) (hml : c.maxLocals = 5) (hown : s.vm.findClass RX4 = some m.cls) (hts : ∀ w ∈ wsX4_howManyAt, w.before args s = true) (hK : va_K D vwCl (zTY κ) s) (hP : va_P D vwCl ([((t 0), .inr (4, [.ref (t 1), .ref (t 2), .ref (t 3), .int (zi t_wayLength), .int (zi t_queued)])), ((t 1), .inl (κ 1, 429, .inl (zc t_steps))), ((t 2), .inl (κ 1, 429, .inl (zc t_queue))), ((t 3), .inl (κ 1, 429, .inl (zc t_way)))]) H) (hB : zAmb D κ mk ad H) (out : Int) (h : zf_X4_howManyAt mk t_steps n1 i2 = some out) (hq : zQ_X4_howManyAt p l e s m args below meth c Q H locs out) : zA_X4_howManyAt_0 p l e s m args below meth c Q H locs t mk ad n1 i2 0 0 := by
  have hst : ∀ st : zS_X4_howManyAt, Go (GoE (zA_X4_howManyAt p l e s m args below meth c Q H locs t mk ad n1) (zQ_X4_howManyAt p l e s m args below meth c Q H locs)) (zg_X4_howManyAt mk t_steps n1 st) → zA_X4_howManyAt p l e s m args below meth c Q H locs t mk ad n1 st := by
    intro st hg
    obtain ⟨lab, i2, i3, i4⟩ := st
    by_cases h0 : lab = 0
    · subst h0
      exact zs_X4_howManyAt_0 t mk ad t_wayLength t_queued t_steps t_queue t_way n1 hx hb hml hown hts hK hP hB i2 i3 i4 hg
    by_cases h5 : lab = 5
    · subst h5
      exact zs_X4_howManyAt_5 t mk ad t_wayLength t_queued t_steps t_queue t_way n1 hx hb hml hown hts hK hP hB i2 i3 i4 hg
    have hz : zg_X4_howManyAt mk t_steps n1 (lab, i2, i3, i4) = none := by simp [zg_X4_howManyAt, h0, h5]
    rw [hz] at hg
    obtain ⟨a, h1, -⟩ := hg
    cases h1
  exact jwalk (At := zA_X4_howManyAt p l e s m args below meth c Q H locs t mk ad n1) (Ret := zQ_X4_howManyAt p l e s m args below meth c Q H locs) hst _ _ _ h hq
set_option maxHeartbeats 4000000 in
set_option maxRecDepth 100000 in
theorem zc_X4_howManyAt (l : Launch) (D : va_G) (κ : Nat → ClassId) (t : Nat → Nat) (mk : Nat) (ad : Nat → Nat → Nat) (t_wayLength : Int) (t_queued : Int) (t_steps : Nat) (t_queue : Nat) (t_way : Nat) (n1 : Nat) (i2 : Int) (out : Int) (h : zf_X4_howManyAt mk t_steps n1 i2 = some out) : Met l yX4_howManyAt wsX4_howManyAt zr_X4_howManyAt (va_Pc [.ref (t 0), .ref (ad n1 0), .int (zi i2)] (zRa D κ mk ad ([((t 0), .inr (4, [.ref (t 1), .ref (t 2), .ref (t 3), .int (zi t_wayLength), .int (zi t_queued)])), ((t 1), .inl (κ 1, 429, .inl (zc t_steps))), ((t 2), .inl (κ 1, 429, .inl (zc t_queue))), ((t 3), .inl (κ 1, 429, .inl (zc t_way)))]))) (vp_Si (fun x => x = zi out)) 0 0 (fun _ => False) := by
  refine Met.ofW (cc := cX4_howManyAt) (maxL := 5) (ret := (some .int)) (by decide +kernel) rfl ?_
  intro p e s m args below meth c s₁ B hml hv
  obtain ⟨rfl, hP, hK, hB⟩ := hv
  have hx := B.exec
  have hb := B.bytes
  have hr := B.returns
  have hts := atoms_spec (ws := wsX4_howManyAt) B.pre
  have hown : s.vm.findClass RX4 = some m.cls := findClass_of_methodNamed B.named
  have hlocks := B.notSynchronized
  have hl := lv_entry ([.ref (t 0), .ref (ad n1 0), .int (zi i2)]) (n := 5) (Nat.le_of_ble_eq_true rfl)
  rw [lg_entry_eq]
  generalize (lg_sl ([.ref (t 0), .ref (ad n1 0), .int (zi i2)]) ++ List.replicate (5 - (lg_sl ([.ref (t 0), .ref (ad n1 0), .int (zi i2)])).length) Slot.unset).toArray = ls at hl ⊢
  have hl : lv_has ls 5 [(0, .ref (t 0)), (1, .ref (ad n1 0)), (2, .int (zi i2))] := hl
  refine (zw_X4_howManyAt t mk ad t_wayLength t_queued t_steps t_queue t_way n1 i2 hx hb hml hown hts hK hP hB out h ?_) ls (lv_sub hl [0, 1, 2] rfl)
  exact fun ls pc hd => W.iret hx hb hr (fun t ht hW => ⟨_, rfl, rfl, ht⟩) (fun _ h => by cases h) hd
/-! DiamondRows$Flips.leastNearer(LDiamondRows$Polygon;I)I -/
abbrev zr_X4_leastNearer : Room := { frames := 3, cells := 0, slots := 0, locals := 65 }
abbrev zS_X4_leastNearer : Type := Nat × Int × Int × Int × Int × Int
abbrev zO_X4_leastNearer : Type := Int
noncomputable def zg_X4_leastNearer_0 (mk : Nat) (t_steps : Nat) (n1 : Nat) (i2 : Int) (i3 : Int) (i4 : Int) (i5 : Int) (i6 : Int) : Option (zO_X4_leastNearer ⊕ zS_X4_leastNearer) :=
  if zno mk n1 then none else
  Option.bind (zf_X5_cutAt n1 i2) (fun o2 =>
  some (.inr (12, i2, o2, (-1 : Int), (0 : Int), 0)))
noncomputable def zg_X4_leastNearer_12 (mk : Nat) (t_steps : Nat) (n1 : Nat) (i2 : Int) (i3 : Int) (i4 : Int) (i5 : Int) (i6 : Int) : Option (zO_X4_leastNearer ⊕ zS_X4_leastNearer) :=
  if zno mk n1 then none else
  Option.bind (zf_X5_lineCount n1) (fun o4 =>
  if zout i5 then none else
  if zout o4 then none else
  if o4 ≤ i5 then
  some (.inl (i4))
  else
  Option.bind (zf_X5_neighbourWith n1 i3 i5) (fun o7 =>
  if zout o7 then none else
  if o7 = (-1 : Int) then
  some (.inr (56, i2, i3, i4, i5, o7))
  else
  Option.bind (zf_X4_stepsTo t_steps o7) (fun o9 =>
  Option.bind (zf_X4_stepsTo t_steps i2) (fun o10 =>
  if zout o9 then none else
  if zout (o10 - (1 : Int)) then none else
  if o9 = (o10 - (1 : Int)) then
  if (1 : Int) = 0 then
  some (.inr (12, i2, i3, i4, (i5 + (1 : Int)), o7))
  else
  if zout i4 then none else
  if i4 = (-1 : Int) then
  some (.inr (12, i2, i3, o7, (i5 + (1 : Int)), o7))
  else
  if i4 ≤ o7 then
  some (.inr (12, i2, i3, i4, (i5 + (1 : Int)), o7))
  else
  some (.inr (12, i2, i3, o7, (i5 + (1 : Int)), o7))
  else
  some (.inr (56, i2, i3, i4, i5, o7))))))
noncomputable def zg_X4_leastNearer_56 (mk : Nat) (t_steps : Nat) (n1 : Nat) (i2 : Int) (i3 : Int) (i4 : Int) (i5 : Int) (i6 : Int) : Option (zO_X4_leastNearer ⊕ zS_X4_leastNearer) :=
  if (0 : Int) = 0 then
  some (.inr (12, i2, i3, i4, (i5 + (1 : Int)), i6))
  else
  if zout i4 then none else
  if i4 = (-1 : Int) then
  some (.inr (12, i2, i3, i6, (i5 + (1 : Int)), i6))
  else
  if zout i6 then none else
  if i4 ≤ i6 then
  some (.inr (12, i2, i3, i4, (i5 + (1 : Int)), i6))
  else
  some (.inr (12, i2, i3, i6, (i5 + (1 : Int)), i6))
noncomputable def zg_X4_leastNearer (mk : Nat) (t_steps : Nat) (n1 : Nat) (st : zS_X4_leastNearer) : Option (zO_X4_leastNearer ⊕ zS_X4_leastNearer) := match st with
  | (lab, i2, i3, i4, i5, i6) => if lab = 0 then zg_X4_leastNearer_0 mk t_steps n1 i2 i3 i4 i5 i6 else if lab = 12 then zg_X4_leastNearer_12 mk t_steps n1 i2 i3 i4 i5 i6 else if lab = 56 then zg_X4_leastNearer_56 mk t_steps n1 i2 i3 i4 i5 i6 else none
noncomputable def zf_X4_leastNearer (mk : Nat) (t_steps : Nat) (n1 : Nat) (i2 : Int) : Option (Int) := jrun (zg_X4_leastNearer mk t_steps n1) jfuel (0, i2, 0, 0, 0, 0)
def zQ_X4_leastNearer (p : Program) (l : Launch) (e : Env) (s : State) (m : MethodId) (args : Array Value) (below : List Frame) (meth : Method) (c : Code) (Q : State → Prop) (H : Heap) (locs : List Loc)  (o : Int) : Prop := ∀ (ls : Array Slot) (pc : Nat), decode cX4_leastNearer pc = .ok (.ireturn, 1) → W p l e zr_X4_leastNearer s m args below meth c H locs 0 0 Q (F0 m pc ls [.int (zi o)])
def zA_X4_leastNearer_0 (p : Program) (l : Launch) (e : Env) (s : State) (m : MethodId) (args : Array Value) (below : List Frame) (meth : Method) (c : Code) (Q : State → Prop) (H : Heap) (locs : List Loc) (t : Nat → Nat) (mk : Nat) (ad : Nat → Nat → Nat) (n1 : Nat) (i2 : Int) (i3 : Int) (i4 : Int) (i5 : Int) (i6 : Int) : Prop := ∀ ls : Array Slot, lv_has ls 8 [(0, .ref (t 0)), (1, .ref (ad n1 0)), (2, .int (zi i2))] → W p l e zr_X4_leastNearer s m args below meth c H locs 0 0 Q (F0 m 0 ls [])
def zA_X4_leastNearer_12 (p : Program) (l : Launch) (e : Env) (s : State) (m : MethodId) (args : Array Value) (below : List Frame) (meth : Method) (c : Code) (Q : State → Prop) (H : Heap) (locs : List Loc) (t : Nat → Nat) (mk : Nat) (ad : Nat → Nat → Nat) (n1 : Nat) (i2 : Int) (i3 : Int) (i4 : Int) (i5 : Int) (i6 : Int) : Prop := ∀ ls : Array Slot, lv_has ls 8 [(0, .ref (t 0)), (1, .ref (ad n1 0)), (2, .int (zi i2)), (3, .int (zi i3)), (4, .int (zi i4)), (5, .int (zi i5))] → W p l e zr_X4_leastNearer s m args below meth c H locs 0 0 Q (F0 m 12 ls [])
def zA_X4_leastNearer_56 (p : Program) (l : Launch) (e : Env) (s : State) (m : MethodId) (args : Array Value) (below : List Frame) (meth : Method) (c : Code) (Q : State → Prop) (H : Heap) (locs : List Loc) (t : Nat → Nat) (mk : Nat) (ad : Nat → Nat → Nat) (n1 : Nat) (i2 : Int) (i3 : Int) (i4 : Int) (i5 : Int) (i6 : Int) : Prop := ∀ ls : Array Slot, lv_has ls 8 [(0, .ref (t 0)), (1, .ref (ad n1 0)), (2, .int (zi i2)), (3, .int (zi i3)), (4, .int (zi i4)), (5, .int (zi i5)), (6, .int (zi i6))] → W p l e zr_X4_leastNearer s m args below meth c H locs 0 0 Q (F0 m 56 ls [])
def zA_X4_leastNearer (p : Program) (l : Launch) (e : Env) (s : State) (m : MethodId) (args : Array Value) (below : List Frame) (meth : Method) (c : Code) (Q : State → Prop) (H : Heap) (locs : List Loc) (t : Nat → Nat) (mk : Nat) (ad : Nat → Nat → Nat) (n1 : Nat) (st : zS_X4_leastNearer) : Prop := match st with
  | (lab, i2, i3, i4, i5, i6) => if lab = 0 then zA_X4_leastNearer_0 p l e s m args below meth c Q H locs t mk ad n1 i2 i3 i4 i5 i6 else if lab = 12 then zA_X4_leastNearer_12 p l e s m args below meth c Q H locs t mk ad n1 i2 i3 i4 i5 i6 else if lab = 56 then zA_X4_leastNearer_56 p l e s m args below meth c Q H locs t mk ad n1 i2 i3 i4 i5 i6 else True
set_option maxHeartbeats 4000000 in
set_option maxRecDepth 100000 in
theorem zs_X4_leastNearer_0 {p : Program} {l : Launch} {e : Env} {s : State} {m : MethodId} {args : Array Value} {below : List Frame} {meth : Method} {c : Code} {Q : State → Prop} {D : va_G} {κ : Nat → ClassId} {H : Heap} {locs : List Loc} (t : Nat → Nat) (mk : Nat) (ad : Nat → Nat → Nat) (t_wayLength : Int) (t_queued : Int) (t_steps : Nat) (t_queue : Nat) (t_way : Nat) (n1 : Nat) (hx : p.tables.exec = Jvm.exec) (hb : c.code = cX4_leastNearer) (hml : c.maxLocals = 8) (hown : s.vm.findClass RX4 = some m.cls) (hts : ∀ w ∈ wsX4_leastNearer, w.before args s = true) (hK : va_K D vwCl (zTY κ) s) (hP : va_P D vwCl ([((t 0), .inr (4, [.ref (t 1), .ref (t 2), .ref (t 3), .int (zi t_wayLength), .int (zi t_queued)])), ((t 1), .inl (κ 1, 429, .inl (zc t_steps))), ((t 2), .inl (κ 1, 429, .inl (zc t_queue))), ((t 3), .inl (κ 1, 429, .inl (zc t_way)))]) H) (hB : zAmb D κ mk ad H) (i2 : Int) (i3 : Int) (i4 : Int) (i5 : Int) (i6 : Int) (hg : Go (GoE (zA_X4_leastNearer p l e s m args below meth c Q H locs t mk ad n1) (zQ_X4_leastNearer p l e s m args below meth c Q H locs)) (zg_X4_leastNearer_0 mk t_steps n1 i2 i3 i4 i5 i6)) : zA_X4_leastNearer_0 p l e s m args below meth c Q H locs t mk ad n1 i2 i3 i4 i5 i6 := by
  intro ls hl
  unfold zg_X4_leastNearer_0 at hg
  refine lv_aload_n hx hb dX4_leastNearer_0 rfl (lv_at hl 1 rfl) ?_
  refine lv_iload_n hx hb dX4_leastNearer_1 rfl (lv_at hl 2 rfl) ?_
  obtain ⟨m1, hg⟩ := Go_n hg
  obtain ⟨o2, ho2, hg⟩ := Go_b hg
  refine zc_vi (rest := []) ⟨hx, hb, hml, hown, hts⟩ (zc_X5_cutAt l D κ (ad n1) n1 i2 o2 ho2) (cwV 1 hts gX4_leastNearer_X5_cutAt rfl rfl rfl (by decide +kernel) ⟨Nat.le_of_ble_eq_true rfl, Nat.le_of_ble_eq_true rfl⟩) (zpreV hK (hB n1 m1) 5 0 rfl rfl) rfl hl.1 rfl (Nat.le_of_ble_eq_true rfl) dX4_leastNearer_2 ⟨Nat.zero_le _, Nat.zero_le _⟩ ?_
  refine lv_istore_n (lv' := [(3, .int (zi o2)), (0, .ref (t 0)), (1, .ref (ad n1 0)), (2, .int (zi i2))]) hx hb dX4_leastNearer_5 rfl hl (by decide) rfl (fun ls hl => ?_)
  refine zv_iconst hx hb dX4_leastNearer_6 ?_
  refine lv_istore (lv' := [(4, .int (zi (-1 : Int))), (3, .int (zi o2)), (0, .ref (t 0)), (1, .ref (ad n1 0)), (2, .int (zi i2))]) hx hb dX4_leastNearer_7 hl (by decide) rfl (fun ls hl => ?_)
  refine zv_iconst hx hb dX4_leastNearer_9 ?_
  refine lv_istore (lv' := [(5, .int (zi (0 : Int))), (4, .int (zi (-1 : Int))), (3, .int (zi o2)), (0, .ref (t 0)), (1, .ref (ad n1 0)), (2, .int (zi i2))]) hx hb dX4_leastNearer_10 hl (by decide) rfl (fun ls hl => ?_)
  exact (Go_s hg) ls (lv_sub hl [3, 4, 5, 2, 1, 0] rfl)
set_option maxHeartbeats 4000000 in
set_option maxRecDepth 100000 in
theorem zs_X4_leastNearer_12 {p : Program} {l : Launch} {e : Env} {s : State} {m : MethodId} {args : Array Value} {below : List Frame} {meth : Method} {c : Code} {Q : State → Prop} {D : va_G} {κ : Nat → ClassId} {H : Heap} {locs : List Loc} (t : Nat → Nat) (mk : Nat) (ad : Nat → Nat → Nat) (t_wayLength : Int) (t_queued : Int) (t_steps : Nat) (t_queue : Nat) (t_way : Nat) (n1 : Nat) (hx : p.tables.exec = Jvm.exec) (hb : c.code = cX4_leastNearer) (hml : c.maxLocals = 8) (hown : s.vm.findClass RX4 = some m.cls) (hts : ∀ w ∈ wsX4_leastNearer, w.before args s = true) (hK : va_K D vwCl (zTY κ) s) (hP : va_P D vwCl ([((t 0), .inr (4, [.ref (t 1), .ref (t 2), .ref (t 3), .int (zi t_wayLength), .int (zi t_queued)])), ((t 1), .inl (κ 1, 429, .inl (zc t_steps))), ((t 2), .inl (κ 1, 429, .inl (zc t_queue))), ((t 3), .inl (κ 1, 429, .inl (zc t_way)))]) H) (hB : zAmb D κ mk ad H) (i2 : Int) (i3 : Int) (i4 : Int) (i5 : Int) (i6 : Int) (hg : Go (GoE (zA_X4_leastNearer p l e s m args below meth c Q H locs t mk ad n1) (zQ_X4_leastNearer p l e s m args below meth c Q H locs)) (zg_X4_leastNearer_12 mk t_steps n1 i2 i3 i4 i5 i6)) : zA_X4_leastNearer_12 p l e s m args below meth c Q H locs t mk ad n1 i2 i3 i4 i5 i6 := by
  intro ls hl
  unfold zg_X4_leastNearer_12 at hg
  refine lv_iload hx hb dX4_leastNearer_12 (lv_at hl 5 rfl) ?_
  refine lv_aload_n hx hb dX4_leastNearer_14 rfl (lv_at hl 1 rfl) ?_
  obtain ⟨m3, hg⟩ := Go_n hg
  obtain ⟨o4, ho4, hg⟩ := Go_b hg
  refine zc_vi (rest := [.int (zi i5)]) ⟨hx, hb, hml, hown, hts⟩ (zc_X5_lineCount l D κ (ad n1) n1  o4 ho4) (cwV 0 hts gX4_leastNearer_X5_lineCount rfl rfl rfl (by decide +kernel) ⟨Nat.le_of_ble_eq_true rfl, Nat.le_of_ble_eq_true rfl⟩) (zpreV hK (hB n1 m3) 5 0 rfl rfl) rfl hl.1 rfl (Nat.le_of_ble_eq_true rfl) dX4_leastNearer_15 ⟨Nat.zero_le _, Nat.zero_le _⟩ ?_
  obtain ⟨b5, hg⟩ := Go_n hg
  obtain ⟨b6, hg⟩ := Go_n hg
  refine zv_icmp_ge (tgt := 87) hx hb dX4_leastNearer_18 (by decide) b5 b6 (fun c19 => ?_) (fun c19 => ?_)
  · have hg := Go_t c19 hg
    refine lv_iload hx hb dX4_leastNearer_87 (lv_at hl 4 rfl) ?_
    exact (Go_s hg) _ _ dX4_leastNearer_89
  · have hg := Go_f c19 hg
    refine lv_aload_n hx hb dX4_leastNearer_21 rfl (lv_at hl 1 rfl) ?_
    refine lv_iload_n hx hb dX4_leastNearer_22 rfl (lv_at hl 3 rfl) ?_
    refine lv_iload hx hb dX4_leastNearer_23 (lv_at hl 5 rfl) ?_
    obtain ⟨o7, ho7, hg⟩ := Go_b hg
    refine zc_vi (rest := []) ⟨hx, hb, hml, hown, hts⟩ (zc_X5_neighbourWith l D κ (ad n1) n1 i3 i5 o7 ho7) (cwV 2 hts gX4_leastNearer_X5_neighbourWith rfl rfl rfl (by decide +kernel) ⟨Nat.le_of_ble_eq_true rfl, Nat.le_of_ble_eq_true rfl⟩) (zpreV hK (hB n1 m3) 5 0 rfl rfl) rfl hl.1 rfl (Nat.le_of_ble_eq_true rfl) dX4_leastNearer_25 ⟨Nat.zero_le _, Nat.zero_le _⟩ ?_
    refine lv_istore (lv' := [(6, .int (zi o7)), (0, .ref (t 0)), (1, .ref (ad n1 0)), (2, .int (zi i2)), (3, .int (zi i3)), (4, .int (zi i4)), (5, .int (zi i5))]) hx hb dX4_leastNearer_28 hl (by decide) rfl (fun ls hl => ?_)
    refine lv_iload hx hb dX4_leastNearer_30 (lv_at hl 0 rfl) ?_
    refine zv_iconst hx hb dX4_leastNearer_32 ?_
    obtain ⟨b8, hg⟩ := Go_n hg
    refine zv_icmp_eq (tgt := 56) hx hb dX4_leastNearer_33 (by decide) b8 (by decide) (fun c18 => ?_) (fun c18 => ?_)
    · have hg := Go_t c18 hg
      exact (Go_s hg) ls (lv_sub hl [1, 2, 3, 4, 5, 6, 0] rfl)
    · have hg := Go_f c18 hg
      refine lv_aload_n hx hb dX4_leastNearer_36 rfl (lv_at hl 1 rfl) ?_
      refine lv_iload hx hb dX4_leastNearer_37 (lv_at hl 0 rfl) ?_
      obtain ⟨o9, ho9, hg⟩ := Go_b hg
      refine zc_vi (rest := []) ⟨hx, hb, hml, hown, hts⟩ (zc_X4_stepsTo l D κ t t_wayLength t_queued t_steps t_queue t_way o7 o9 ho9) (cwV 1 hts gX4_leastNearer_X4_stepsTo rfl rfl rfl (by decide +kernel) ⟨Nat.le_of_ble_eq_true rfl, Nat.le_of_ble_eq_true rfl⟩) (zpreV hK (hP.sub [0, 1, 2, 3] rfl) 4 0 rfl rfl) rfl hl.1 rfl (Nat.le_of_ble_eq_true rfl) dX4_leastNearer_39 ⟨Nat.zero_le _, Nat.zero_le _⟩ ?_
      refine lv_aload_n hx hb dX4_leastNearer_42 rfl (lv_at hl 1 rfl) ?_
      refine lv_iload_n hx hb dX4_leastNearer_43 rfl (lv_at hl 3 rfl) ?_
      obtain ⟨o10, ho10, hg⟩ := Go_b hg
      refine zc_vi (rest := [.int (zi o9)]) ⟨hx, hb, hml, hown, hts⟩ (zc_X4_stepsTo l D κ t t_wayLength t_queued t_steps t_queue t_way i2 o10 ho10) (cwV 1 hts gX4_leastNearer_X4_stepsTo rfl rfl rfl (by decide +kernel) ⟨Nat.le_of_ble_eq_true rfl, Nat.le_of_ble_eq_true rfl⟩) (zpreV hK (hP.sub [0, 1, 2, 3] rfl) 4 0 rfl rfl) rfl hl.1 rfl (Nat.le_of_ble_eq_true rfl) dX4_leastNearer_44 ⟨Nat.zero_le _, Nat.zero_le _⟩ ?_
      refine zv_iconst hx hb dX4_leastNearer_47 ?_
      refine zv_isub hx hb dX4_leastNearer_48 ?_
      obtain ⟨b11, hg⟩ := Go_n hg
      obtain ⟨b12, hg⟩ := Go_n hg
      refine zv_icmp_ne (tgt := 56) hx hb dX4_leastNearer_49 (by decide) b11 b12 (fun c17 => ?_) (fun c17 => ?_)
      · have hg := Go_f c17 hg
        exact (Go_s hg) ls (lv_sub hl [1, 2, 3, 4, 5, 6, 0] rfl)
      · have hg := Go_t c17 hg
        refine zv_iconst hx hb dX4_leastNearer_52 ?_
        refine lv_goto (tgt := 57) hx hb dX4_leastNearer_53 (by decide) ?_
        refine lv_istore (lv' := [(7, .int (zi (1 : Int))), (6, .int (zi o7)), (0, .ref (t 0)), (1, .ref (ad n1 0)), (2, .int (zi i2)), (3, .int (zi i3)), (4, .int (zi i4)), (5, .int (zi i5))]) hx hb dX4_leastNearer_57 hl (by decide) rfl (fun ls hl => ?_)
        refine lv_iload hx hb dX4_leastNearer_59 (lv_at hl 0 rfl) ?_
        refine zv_if_eq (tgt := 81) hx hb dX4_leastNearer_61 (by decide) (by decide) (fun c16 => ?_) (fun c16 => ?_)
        · have hg := Go_t c16 hg
          refine lv_iinc (v := zi (i5 + (1 : Int))) (lv' := [(5, .int (zi (i5 + (1 : Int)))), (7, .int (zi (1 : Int))), (6, .int (zi o7)), (0, .ref (t 0)), (1, .ref (ad n1 0)), (2, .int (zi i2)), (3, .int (zi i3)), (4, .int (zi i4))]) hx hb dX4_leastNearer_81 hl (k := 7) rfl (zi_add i5 _) (by decide) rfl (fun ls hl => ?_)
          refine lv_goto (tgt := 12) hx hb dX4_leastNearer_84 (by decide) ?_
          exact (Go_s hg) ls (lv_sub hl [3, 4, 5, 6, 7, 0] rfl)
        · have hg := Go_f c16 hg
          refine lv_iload hx hb dX4_leastNearer_64 (lv_at hl 6 rfl) ?_
          refine zv_iconst hx hb dX4_leastNearer_66 ?_
          obtain ⟨b13, hg⟩ := Go_n hg
          refine zv_icmp_eq (tgt := 77) hx hb dX4_leastNearer_67 (by decide) b13 (by decide) (fun c15 => ?_) (fun c15 => ?_)
          · have hg := Go_t c15 hg
            refine lv_iload hx hb dX4_leastNearer_77 (lv_at hl 1 rfl) ?_
            refine lv_istore (lv' := [(4, .int (zi o7)), (7, .int (zi (1 : Int))), (6, .int (zi o7)), (0, .ref (t 0)), (1, .ref (ad n1 0)), (2, .int (zi i2)), (3, .int (zi i3)), (5, .int (zi i5))]) hx hb dX4_leastNearer_79 hl (by decide) rfl (fun ls hl => ?_)
            refine lv_iinc (v := zi (i5 + (1 : Int))) (lv' := [(5, .int (zi (i5 + (1 : Int)))), (4, .int (zi o7)), (7, .int (zi (1 : Int))), (6, .int (zi o7)), (0, .ref (t 0)), (1, .ref (ad n1 0)), (2, .int (zi i2)), (3, .int (zi i3))]) hx hb dX4_leastNearer_81 hl (k := 7) rfl (zi_add i5 _) (by decide) rfl (fun ls hl => ?_)
            refine lv_goto (tgt := 12) hx hb dX4_leastNearer_84 (by decide) ?_
            exact (Go_s hg) ls (lv_sub hl [4, 5, 6, 7, 1, 0] rfl)
          · have hg := Go_f c15 hg
            refine lv_iload hx hb dX4_leastNearer_70 (lv_at hl 1 rfl) ?_
            refine lv_iload hx hb dX4_leastNearer_72 (lv_at hl 6 rfl) ?_
            refine zv_icmp_ge (tgt := 81) hx hb dX4_leastNearer_74 (by decide) b8 b13 (fun c14 => ?_) (fun c14 => ?_)
            · have hg := Go_t c14 hg
              refine lv_iinc (v := zi (i5 + (1 : Int))) (lv' := [(5, .int (zi (i5 + (1 : Int)))), (7, .int (zi (1 : Int))), (6, .int (zi o7)), (0, .ref (t 0)), (1, .ref (ad n1 0)), (2, .int (zi i2)), (3, .int (zi i3)), (4, .int (zi i4))]) hx hb dX4_leastNearer_81 hl (k := 7) rfl (zi_add i5 _) (by decide) rfl (fun ls hl => ?_)
              refine lv_goto (tgt := 12) hx hb dX4_leastNearer_84 (by decide) ?_
              exact (Go_s hg) ls (lv_sub hl [3, 4, 5, 6, 7, 0] rfl)
            · have hg := Go_f c14 hg
              refine lv_iload hx hb dX4_leastNearer_77 (lv_at hl 1 rfl) ?_
              refine lv_istore (lv' := [(4, .int (zi o7)), (7, .int (zi (1 : Int))), (6, .int (zi o7)), (0, .ref (t 0)), (1, .ref (ad n1 0)), (2, .int (zi i2)), (3, .int (zi i3)), (5, .int (zi i5))]) hx hb dX4_leastNearer_79 hl (by decide) rfl (fun ls hl => ?_)
              refine lv_iinc (v := zi (i5 + (1 : Int))) (lv' := [(5, .int (zi (i5 + (1 : Int)))), (4, .int (zi o7)), (7, .int (zi (1 : Int))), (6, .int (zi o7)), (0, .ref (t 0)), (1, .ref (ad n1 0)), (2, .int (zi i2)), (3, .int (zi i3))]) hx hb dX4_leastNearer_81 hl (k := 7) rfl (zi_add i5 _) (by decide) rfl (fun ls hl => ?_)
              refine lv_goto (tgt := 12) hx hb dX4_leastNearer_84 (by decide) ?_
              exact (Go_s hg) ls (lv_sub hl [4, 5, 6, 7, 1, 0] rfl)
set_option maxHeartbeats 4000000 in
set_option maxRecDepth 100000 in
theorem zs_X4_leastNearer_56 {p : Program} {l : Launch} {e : Env} {s : State} {m : MethodId} {args : Array Value} {below : List Frame} {meth : Method} {c : Code} {Q : State → Prop} {D : va_G} {κ : Nat → ClassId} {H : Heap} {locs : List Loc} (t : Nat → Nat) (mk : Nat) (ad : Nat → Nat → Nat) (t_wayLength : Int) (t_queued : Int) (t_steps : Nat) (t_queue : Nat) (t_way : Nat) (n1 : Nat) (hx : p.tables.exec = Jvm.exec) (hb : c.code = cX4_leastNearer) (hml : c.maxLocals = 8) (hown : s.vm.findClass RX4 = some m.cls) (hts : ∀ w ∈ wsX4_leastNearer, w.before args s = true) (hK : va_K D vwCl (zTY κ) s) (hP : va_P D vwCl ([((t 0), .inr (4, [.ref (t 1), .ref (t 2), .ref (t 3), .int (zi t_wayLength), .int (zi t_queued)])), ((t 1), .inl (κ 1, 429, .inl (zc t_steps))), ((t 2), .inl (κ 1, 429, .inl (zc t_queue))), ((t 3), .inl (κ 1, 429, .inl (zc t_way)))]) H) (hB : zAmb D κ mk ad H) (i2 : Int) (i3 : Int) (i4 : Int) (i5 : Int) (i6 : Int) (hg : Go (GoE (zA_X4_leastNearer p l e s m args below meth c Q H locs t mk ad n1) (zQ_X4_leastNearer p l e s m args below meth c Q H locs)) (zg_X4_leastNearer_56 mk t_steps n1 i2 i3 i4 i5 i6)) : zA_X4_leastNearer_56 p l e s m args below meth c Q H locs t mk ad n1 i2 i3 i4 i5 i6 := by
  intro ls hl
  unfold zg_X4_leastNearer_56 at hg
  refine zv_iconst hx hb dX4_leastNearer_56 ?_
  refine lv_istore (lv' := [(7, .int (zi (0 : Int))), (0, .ref (t 0)), (1, .ref (ad n1 0)), (2, .int (zi i2)), (3, .int (zi i3)), (4, .int (zi i4)), (5, .int (zi i5)), (6, .int (zi i6))]) hx hb dX4_leastNearer_57 hl (by decide) rfl (fun ls hl => ?_)
  refine lv_iload hx hb dX4_leastNearer_59 (lv_at hl 0 rfl) ?_
  refine zv_if_eq (tgt := 81) hx hb dX4_leastNearer_61 (by decide) (by decide) (fun c24 => ?_) (fun c24 => ?_)
  · have hg := Go_t c24 hg
    refine lv_iinc (v := zi (i5 + (1 : Int))) (lv' := [(5, .int (zi (i5 + (1 : Int)))), (7, .int (zi (0 : Int))), (0, .ref (t 0)), (1, .ref (ad n1 0)), (2, .int (zi i2)), (3, .int (zi i3)), (4, .int (zi i4)), (6, .int (zi i6))]) hx hb dX4_leastNearer_81 hl (k := 6) rfl (zi_add i5 _) (by decide) rfl (fun ls hl => ?_)
    refine lv_goto (tgt := 12) hx hb dX4_leastNearer_84 (by decide) ?_
    exact (Go_s hg) ls (lv_sub hl [2, 3, 4, 5, 6, 0] rfl)
  · have hg := Go_f c24 hg
    refine lv_iload hx hb dX4_leastNearer_64 (lv_at hl 5 rfl) ?_
    refine zv_iconst hx hb dX4_leastNearer_66 ?_
    obtain ⟨b20, hg⟩ := Go_n hg
    refine zv_icmp_eq (tgt := 77) hx hb dX4_leastNearer_67 (by decide) b20 (by decide) (fun c23 => ?_) (fun c23 => ?_)
    · have hg := Go_t c23 hg
      refine lv_iload hx hb dX4_leastNearer_77 (lv_at hl 7 rfl) ?_
      refine lv_istore (lv' := [(4, .int (zi i6)), (7, .int (zi (0 : Int))), (0, .ref (t 0)), (1, .ref (ad n1 0)), (2, .int (zi i2)), (3, .int (zi i3)), (5, .int (zi i5)), (6, .int (zi i6))]) hx hb dX4_leastNearer_79 hl (by decide) rfl (fun ls hl => ?_)
      refine lv_iinc (v := zi (i5 + (1 : Int))) (lv' := [(5, .int (zi (i5 + (1 : Int)))), (4, .int (zi i6)), (7, .int (zi (0 : Int))), (0, .ref (t 0)), (1, .ref (ad n1 0)), (2, .int (zi i2)), (3, .int (zi i3)), (6, .int (zi i6))]) hx hb dX4_leastNearer_81 hl (k := 6) rfl (zi_add i5 _) (by decide) rfl (fun ls hl => ?_)
      refine lv_goto (tgt := 12) hx hb dX4_leastNearer_84 (by decide) ?_
      exact (Go_s hg) ls (lv_sub hl [3, 4, 5, 6, 1, 0] rfl)
    · have hg := Go_f c23 hg
      refine lv_iload hx hb dX4_leastNearer_70 (lv_at hl 7 rfl) ?_
      refine lv_iload hx hb dX4_leastNearer_72 (lv_at hl 5 rfl) ?_
      obtain ⟨b21, hg⟩ := Go_n hg
      refine zv_icmp_ge (tgt := 81) hx hb dX4_leastNearer_74 (by decide) b21 b20 (fun c22 => ?_) (fun c22 => ?_)
      · have hg := Go_t c22 hg
        refine lv_iinc (v := zi (i5 + (1 : Int))) (lv' := [(5, .int (zi (i5 + (1 : Int)))), (7, .int (zi (0 : Int))), (0, .ref (t 0)), (1, .ref (ad n1 0)), (2, .int (zi i2)), (3, .int (zi i3)), (4, .int (zi i4)), (6, .int (zi i6))]) hx hb dX4_leastNearer_81 hl (k := 6) rfl (zi_add i5 _) (by decide) rfl (fun ls hl => ?_)
        refine lv_goto (tgt := 12) hx hb dX4_leastNearer_84 (by decide) ?_
        exact (Go_s hg) ls (lv_sub hl [2, 3, 4, 5, 6, 0] rfl)
      · have hg := Go_f c22 hg
        refine lv_iload hx hb dX4_leastNearer_77 (lv_at hl 7 rfl) ?_
        refine lv_istore (lv' := [(4, .int (zi i6)), (7, .int (zi (0 : Int))), (0, .ref (t 0)), (1, .ref (ad n1 0)), (2, .int (zi i2)), (3, .int (zi i3)), (5, .int (zi i5)), (6, .int (zi i6))]) hx hb dX4_leastNearer_79 hl (by decide) rfl (fun ls hl => ?_)
        refine lv_iinc (v := zi (i5 + (1 : Int))) (lv' := [(5, .int (zi (i5 + (1 : Int)))), (4, .int (zi i6)), (7, .int (zi (0 : Int))), (0, .ref (t 0)), (1, .ref (ad n1 0)), (2, .int (zi i2)), (3, .int (zi i3)), (6, .int (zi i6))]) hx hb dX4_leastNearer_81 hl (k := 6) rfl (zi_add i5 _) (by decide) rfl (fun ls hl => ?_)
        refine lv_goto (tgt := 12) hx hb dX4_leastNearer_84 (by decide) ?_
        exact (Go_s hg) ls (lv_sub hl [3, 4, 5, 6, 1, 0] rfl)
set_option maxHeartbeats 4000000 in
set_option maxRecDepth 100000 in
theorem zw_X4_leastNearer {p : Program} {l : Launch} {e : Env} {s : State} {m : MethodId} {args : Array Value} {below : List Frame} {meth : Method} {c : Code} {Q : State → Prop} {D : va_G} {κ : Nat → ClassId} {H : Heap} {locs : List Loc} (t : Nat → Nat) (mk : Nat) (ad : Nat → Nat → Nat) (t_wayLength : Int) (t_queued : Int) (t_steps : Nat) (t_queue : Nat) (t_way : Nat) (n1 : Nat) (i2 : Int) (hx : p.tables.exec = Jvm.exec) (hb : c.code = cX4_leastNearer) (hml : c.maxLocals = 8) (hown : s.vm.findClass RX4 = some m.cls) (hts : ∀ w ∈ wsX4_leastNearer, w.before args s = true) (hK : va_K D vwCl (zTY κ) s) (hP : va_P D vwCl ([((t 0), .inr (4, [.ref (t 1), .ref (t 2), .ref (t 3), .int (zi t_wayLength), .int (zi t_queued)])), ((t 1), .inl (κ 1, 429, .inl (zc t_steps))), ((t 2), .inl (κ 1, 429, .inl (zc t_queue))), ((t 3), .inl (κ 1, 429, .inl (zc t_way)))]) H) (hB : zAmb D κ mk ad H) (out : Int) (h : zf_X4_leastNearer mk t_steps n1 i2 = some out) (hq : zQ_X4_leastNearer p l e s m args below meth c Q H locs out) : zA_X4_leastNearer_0 p l e s m args below meth c Q H locs t mk ad n1 i2 0 0 0 0 := by
  have hst : ∀ st : zS_X4_leastNearer, Go (GoE (zA_X4_leastNearer p l e s m args below meth c Q H locs t mk ad n1) (zQ_X4_leastNearer p l e s m args below meth c Q H locs)) (zg_X4_leastNearer mk t_steps n1 st) → zA_X4_leastNearer p l e s m args below meth c Q H locs t mk ad n1 st := by
    intro st hg
    obtain ⟨lab, i2, i3, i4, i5, i6⟩ := st
    by_cases h0 : lab = 0
    · subst h0
      exact zs_X4_leastNearer_0 t mk ad t_wayLength t_queued t_steps t_queue t_way n1 hx hb hml hown hts hK hP hB i2 i3 i4 i5 i6 hg
    by_cases h12 : lab = 12
    · subst h12
      exact zs_X4_leastNearer_12 t mk ad t_wayLength t_queued t_steps t_queue t_way n1 hx hb hml hown hts hK hP hB i2 i3 i4 i5 i6 hg
    by_cases h56 : lab = 56
    · subst h56
      exact zs_X4_leastNearer_56 t mk ad t_wayLength t_queued t_steps t_queue t_way n1 hx hb hml hown hts hK hP hB i2 i3 i4 i5 i6 hg
    have hz : zg_X4_leastNearer mk t_steps n1 (lab, i2, i3, i4, i5, i6) = none := by simp [zg_X4_leastNearer, h0, h12, h56]
    rw [hz] at hg
    obtain ⟨a, h1, -⟩ := hg
    cases h1
  exact jwalk (At := zA_X4_leastNearer p l e s m args below meth c Q H locs t mk ad n1) (Ret := zQ_X4_leastNearer p l e s m args below meth c Q H locs) hst _ _ _ h hq
set_option maxHeartbeats 4000000 in
set_option maxRecDepth 100000 in
theorem zc_X4_leastNearer (l : Launch) (D : va_G) (κ : Nat → ClassId) (t : Nat → Nat) (mk : Nat) (ad : Nat → Nat → Nat) (t_wayLength : Int) (t_queued : Int) (t_steps : Nat) (t_queue : Nat) (t_way : Nat) (n1 : Nat) (i2 : Int) (out : Int) (h : zf_X4_leastNearer mk t_steps n1 i2 = some out) : Met l yX4_leastNearer wsX4_leastNearer zr_X4_leastNearer (va_Pc [.ref (t 0), .ref (ad n1 0), .int (zi i2)] (zRa D κ mk ad ([((t 0), .inr (4, [.ref (t 1), .ref (t 2), .ref (t 3), .int (zi t_wayLength), .int (zi t_queued)])), ((t 1), .inl (κ 1, 429, .inl (zc t_steps))), ((t 2), .inl (κ 1, 429, .inl (zc t_queue))), ((t 3), .inl (κ 1, 429, .inl (zc t_way)))]))) (vp_Si (fun x => x = zi out)) 0 0 (fun _ => False) := by
  refine Met.ofW (cc := cX4_leastNearer) (maxL := 8) (ret := (some .int)) (by decide +kernel) rfl ?_
  intro p e s m args below meth c s₁ B hml hv
  obtain ⟨rfl, hP, hK, hB⟩ := hv
  have hx := B.exec
  have hb := B.bytes
  have hr := B.returns
  have hts := atoms_spec (ws := wsX4_leastNearer) B.pre
  have hown : s.vm.findClass RX4 = some m.cls := findClass_of_methodNamed B.named
  have hlocks := B.notSynchronized
  have hl := lv_entry ([.ref (t 0), .ref (ad n1 0), .int (zi i2)]) (n := 8) (Nat.le_of_ble_eq_true rfl)
  rw [lg_entry_eq]
  generalize (lg_sl ([.ref (t 0), .ref (ad n1 0), .int (zi i2)]) ++ List.replicate (8 - (lg_sl ([.ref (t 0), .ref (ad n1 0), .int (zi i2)])).length) Slot.unset).toArray = ls at hl ⊢
  have hl : lv_has ls 8 [(0, .ref (t 0)), (1, .ref (ad n1 0)), (2, .int (zi i2))] := hl
  refine (zw_X4_leastNearer t mk ad t_wayLength t_queued t_steps t_queue t_way n1 i2 hx hb hml hown hts hK hP hB out h ?_) ls (lv_sub hl [0, 1, 2] rfl)
  exact fun ls pc hd => W.iret hx hb hr (fun t ht hW => ⟨_, rfl, rfl, ht⟩) (fun _ h => by cases h) hd
/-! DiamondRows$Flips.layWay(LDiamondRows$Polygon;II)I -/
abbrev zr_X4_layWay : Room := { frames := 4, cells := 0, slots := 0, locals := 92 }
abbrev zS_X4_layWay : Type := Nat × Int × Int × Int × Int × Int × Int × Int × Nat × Nat × Nat
abbrev zO_X4_layWay : Type := Int × Int × Int × Nat × Nat × Nat
noncomputable def zg_X4_layWay_0 (mk : Nat) (n1 : Nat) (i2 : Int) (i3 : Int) (i4 : Int) (i5 : Int) (i6 : Int) (t_wayLength : Int) (t_queued : Int) (t_steps : Nat) (t_queue : Nat) (t_way : Nat) : Option (zO_X4_layWay ⊕ zS_X4_layWay) :=
  Option.bind (zf_X4_measure mk t_queued t_steps t_queue n1 i3) (fun o1 =>
  Option.bind (zf_X4_stepsTo (o1.2.1) i2) (fun o2 =>
  some (.inr (24, i2, i3, o2, i2, (0 : Int), (0 : Int), (o1.1), (o1.2.1), (o1.2.2), t_way))))
noncomputable def zg_X4_layWay_24 (mk : Nat) (n1 : Nat) (i2 : Int) (i3 : Int) (i4 : Int) (i5 : Int) (i6 : Int) (t_wayLength : Int) (t_queued : Int) (t_steps : Nat) (t_queue : Nat) (t_way : Nat) : Option (zO_X4_layWay ⊕ zS_X4_layWay) :=
  if zout i6 then none else
  if zout i4 then none else
  if i4 < i6 then
  some (.inl (i4, t_wayLength, t_queued, t_steps, t_queue, t_way))
  else
  if (429 : Int) ≤ i6 then
  some (.inl (i4, t_wayLength, t_queued, t_steps, t_queue, t_way))
  else
  if i6 < 0 ∨ 429 ≤ i6 then none else
  Option.bind (zf_X4_leastNearer mk t_steps n1 i5) (fun o6 =>
  some (.inr (24, 0, 0, i4, o6, (i6 + (1 : Int)), (t_wayLength + (1 : Int)), t_queued, t_steps, t_queue, (zset t_way (Int.toNat i6) i5))))
noncomputable def zg_X4_layWay (mk : Nat) (n1 : Nat) (st : zS_X4_layWay) : Option (zO_X4_layWay ⊕ zS_X4_layWay) := match st with
  | (lab, i2, i3, i4, i5, i6, t_wayLength, t_queued, t_steps, t_queue, t_way) => if lab = 0 then zg_X4_layWay_0 mk n1 i2 i3 i4 i5 i6 t_wayLength t_queued t_steps t_queue t_way else if lab = 24 then zg_X4_layWay_24 mk n1 i2 i3 i4 i5 i6 t_wayLength t_queued t_steps t_queue t_way else none
noncomputable def zf_X4_layWay (mk : Nat) (t_wayLength : Int) (t_queued : Int) (t_steps : Nat) (t_queue : Nat) (t_way : Nat) (n1 : Nat) (i2 : Int) (i3 : Int) : Option (Int × Int × Int × Nat × Nat × Nat) := jrun (zg_X4_layWay mk n1) jfuel (0, i2, i3, 0, 0, 0, t_wayLength, t_queued, t_steps, t_queue, t_way)
theorem zi_X4_layWay_X4 : ∀ w ∈ u_ws RX4 TX4 5, w ∈ wsX4_layWay := by decide +kernel
theorem zl_X4_layWay_18 : Cond.fieldLink RX4 18 "DiamondRows$Flips" "way" "[I" ∈ wsX4_layWay := by decide +kernel
theorem zl_X4_layWay_58 : Cond.fieldLink RX4 58 "DiamondRows$Flips" "wayLength" "I" ∈ wsX4_layWay := by decide +kernel
def zQ_X4_layWay (p : Program) (l : Launch) (e : Env) (s : State) (m : MethodId) (args : Array Value) (below : List Frame) (meth : Method) (c : Code) (Q : State → Prop) (D : va_G) (κ : Nat → ClassId) (A : Nat → Prop) (H0 : Heap) (t : Nat → Nat) (mk : Nat) (ad : Nat → Nat → Nat) (n1 : Nat) (o : Int × Int × Int × Nat × Nat × Nat) : Prop := ∀ (H : Heap) (locs : List Loc) (ls : Array Slot) (pc : Nat), va_P D vwCl ([((t 0), .inr (4, [.ref (t 1), .ref (t 2), .ref (t 3), .int (zi (o.2.1)), .int (zi (o.2.2.1))])), ((t 1), .inl (κ 1, 429, .inl (zc (o.2.2.2.1)))), ((t 2), .inl (κ 1, 429, .inl (zc (o.2.2.2.2.1)))), ((t 3), .inl (κ 1, 429, .inl (zc (o.2.2.2.2.2))))]) H → va_D A ([((t 0), .inr (4, [.ref (t 1), .ref (t 2), .ref (t 3), .int (zi (o.2.1)), .int (zi (o.2.2.1))])), ((t 1), .inl (κ 1, 429, .inl (zc (o.2.2.2.1)))), ((t 2), .inl (κ 1, 429, .inl (zc (o.2.2.2.2.1)))), ((t 3), .inl (κ 1, 429, .inl (zc (o.2.2.2.2.2))))]) → va_S A H0 H locs → decode cX4_layWay pc = .ok (.ireturn, 1) → W p l e zr_X4_layWay s m args below meth c H locs 0 0 Q (F0 m pc ls [.int (zi (o.1))])
def zA_X4_layWay_0 (p : Program) (l : Launch) (e : Env) (s : State) (m : MethodId) (args : Array Value) (below : List Frame) (meth : Method) (c : Code) (Q : State → Prop) (D : va_G) (κ : Nat → ClassId) (A : Nat → Prop) (H0 : Heap) (t : Nat → Nat) (mk : Nat) (ad : Nat → Nat → Nat) (n1 : Nat) (i2 : Int) (i3 : Int) (i4 : Int) (i5 : Int) (i6 : Int) (t_wayLength : Int) (t_queued : Int) (t_steps : Nat) (t_queue : Nat) (t_way : Nat) : Prop := ∀ (H : Heap) (locs : List Loc) (ls : Array Slot), va_P D vwCl ([((t 0), .inr (4, [.ref (t 1), .ref (t 2), .ref (t 3), .int (zi t_wayLength), .int (zi t_queued)])), ((t 1), .inl (κ 1, 429, .inl (zc t_steps))), ((t 2), .inl (κ 1, 429, .inl (zc t_queue))), ((t 3), .inl (κ 1, 429, .inl (zc t_way)))]) H → va_D A ([((t 0), .inr (4, [.ref (t 1), .ref (t 2), .ref (t 3), .int (zi t_wayLength), .int (zi t_queued)])), ((t 1), .inl (κ 1, 429, .inl (zc t_steps))), ((t 2), .inl (κ 1, 429, .inl (zc t_queue))), ((t 3), .inl (κ 1, 429, .inl (zc t_way)))]) → va_S A H0 H locs → lv_has ls 7 [(0, .ref (t 0)), (1, .ref (ad n1 0)), (2, .int (zi i2)), (3, .int (zi i3))] → W p l e zr_X4_layWay s m args below meth c H locs 0 0 Q (F0 m 0 ls [])
def zA_X4_layWay_24 (p : Program) (l : Launch) (e : Env) (s : State) (m : MethodId) (args : Array Value) (below : List Frame) (meth : Method) (c : Code) (Q : State → Prop) (D : va_G) (κ : Nat → ClassId) (A : Nat → Prop) (H0 : Heap) (t : Nat → Nat) (mk : Nat) (ad : Nat → Nat → Nat) (n1 : Nat) (i2 : Int) (i3 : Int) (i4 : Int) (i5 : Int) (i6 : Int) (t_wayLength : Int) (t_queued : Int) (t_steps : Nat) (t_queue : Nat) (t_way : Nat) : Prop := ∀ (H : Heap) (locs : List Loc) (ls : Array Slot), va_P D vwCl ([((t 0), .inr (4, [.ref (t 1), .ref (t 2), .ref (t 3), .int (zi t_wayLength), .int (zi t_queued)])), ((t 1), .inl (κ 1, 429, .inl (zc t_steps))), ((t 2), .inl (κ 1, 429, .inl (zc t_queue))), ((t 3), .inl (κ 1, 429, .inl (zc t_way)))]) H → va_D A ([((t 0), .inr (4, [.ref (t 1), .ref (t 2), .ref (t 3), .int (zi t_wayLength), .int (zi t_queued)])), ((t 1), .inl (κ 1, 429, .inl (zc t_steps))), ((t 2), .inl (κ 1, 429, .inl (zc t_queue))), ((t 3), .inl (κ 1, 429, .inl (zc t_way)))]) → va_S A H0 H locs → lv_has ls 7 [(0, .ref (t 0)), (1, .ref (ad n1 0)), (4, .int (zi i4)), (5, .int (zi i5)), (6, .int (zi i6))] → W p l e zr_X4_layWay s m args below meth c H locs 0 0 Q (F0 m 24 ls [])
def zA_X4_layWay (p : Program) (l : Launch) (e : Env) (s : State) (m : MethodId) (args : Array Value) (below : List Frame) (meth : Method) (c : Code) (Q : State → Prop) (D : va_G) (κ : Nat → ClassId) (A : Nat → Prop) (H0 : Heap) (t : Nat → Nat) (mk : Nat) (ad : Nat → Nat → Nat) (n1 : Nat) (st : zS_X4_layWay) : Prop := match st with
  | (lab, i2, i3, i4, i5, i6, t_wayLength, t_queued, t_steps, t_queue, t_way) => if lab = 0 then zA_X4_layWay_0 p l e s m args below meth c Q D κ A H0 t mk ad n1 i2 i3 i4 i5 i6 t_wayLength t_queued t_steps t_queue t_way else if lab = 24 then zA_X4_layWay_24 p l e s m args below meth c Q D κ A H0 t mk ad n1 i2 i3 i4 i5 i6 t_wayLength t_queued t_steps t_queue t_way else True
set_option maxHeartbeats 4000000 in
set_option maxRecDepth 100000 in
theorem zs_X4_layWay_0 {p : Program} {l : Launch} {e : Env} {s : State} {m : MethodId} {args : Array Value} {below : List Frame} {meth : Method} {c : Code} {Q : State → Prop} {D : va_G} {κ : Nat → ClassId} {A : Nat → Prop} {H0 : Heap} (t : Nat → Nat) (mk : Nat) (ad : Nat → Nat → Nat) (n1 : Nat) (hx : p.tables.exec = Jvm.exec) (hb : c.code = cX4_layWay) (hml : c.maxLocals = 7) (hown : s.vm.findClass RX4 = some m.cls) (hts : ∀ w ∈ wsX4_layWay, w.before args s = true) (hK : va_K D vwCl (zTY κ) s) (hA : ∀ q : Nat, H0.size ≤ q → A q) (hB : zAmb D κ mk ad H0) (hBA : zApt mk ad A H0.size) (i2 : Int) (i3 : Int) (i4 : Int) (i5 : Int) (i6 : Int) (t_wayLength : Int) (t_queued : Int) (t_steps : Nat) (t_queue : Nat) (t_way : Nat) (hg : Go (GoE (zA_X4_layWay p l e s m args below meth c Q D κ A H0 t mk ad n1) (zQ_X4_layWay p l e s m args below meth c Q D κ A H0 t mk ad n1)) (zg_X4_layWay_0 mk n1 i2 i3 i4 i5 i6 t_wayLength t_queued t_steps t_queue t_way)) : zA_X4_layWay_0 p l e s m args below meth c Q D κ A H0 t mk ad n1 i2 i3 i4 i5 i6 t_wayLength t_queued t_steps t_queue t_way := by
  intro H locs ls hP hD hS hl
  unfold zg_X4_layWay_0 at hg
  refine lv_aload_n hx hb dX4_layWay_0 rfl (lv_at hl 0 rfl) ?_
  refine lv_aload_n hx hb dX4_layWay_1 rfl (lv_at hl 1 rfl) ?_
  refine lv_iload_n hx hb dX4_layWay_2 rfl (lv_at hl 3 rfl) ?_
  obtain ⟨o1, ho1, hg⟩ := Go_b hg
  refine zj_v (wr := []) (ws1 := [((t 0), .inr (4, [.ref (t 1), .ref (t 2), .ref (t 3), .int (zi t_wayLength), .int (zi (o1.1))])), ((t 1), .inl (κ 1, 429, .inl (zc (o1.2.1)))), ((t 2), .inl (κ 1, 429, .inl (zc (o1.2.2)))), ((t 3), .inl (κ 1, 429, .inl (zc t_way)))]) (va_runV (rest := []) ⟨hx, hb, hml, hown, hts⟩ (zc_X4_measure l D κ t mk ad H.size t_wayLength t_queued t_steps t_queue t_way n1 i3 o1 ho1) (cwV 2 hts gX4_layWay_X4_measure rfl rfl rfl (by decide +kernel) ⟨Nat.le_of_ble_eq_true rfl, Nat.le_of_ble_eq_true rfl⟩) (zpreWVa hK (hP.sub [0, 1, 2, 3] rfl) (hD.sub [0, 1, 2, 3] (by decide) rfl) (zamb hB hBA hS) (zapt hBA hS (va_free hD hS hA [0, 1, 2, 3] rfl)) 4 0 rfl rfl) rfl rfl hl.1 rfl (lv_room (Nat.le_of_ble_eq_true rfl)) dX4_layWay_3 ⟨Nat.zero_le _, Nat.zero_le _⟩) hP hD hS hA [0, 1, 2, 3] [] [0, 1, 2, 3] rfl rfl (by decide) (by decide) rfl rfl (by decide) (fun H locs hP hD hS => ?_)
  refine lv_aload_n hx hb dX4_layWay_6 rfl (lv_at hl 0 rfl) ?_
  refine lv_iload_n hx hb dX4_layWay_7 rfl (lv_at hl 2 rfl) ?_
  obtain ⟨o2, ho2, hg⟩ := Go_b hg
  refine zc_vi (rest := []) ⟨hx, hb, hml, hown, hts⟩ (zc_X4_stepsTo l D κ t t_wayLength (o1.1) (o1.2.1) (o1.2.2) t_way i2 o2 ho2) (cwV 1 hts gX4_layWay_X4_stepsTo rfl rfl rfl (by decide +kernel) ⟨Nat.le_of_ble_eq_true rfl, Nat.le_of_ble_eq_true rfl⟩) (zpreV hK (hP.sub [0, 1, 2, 3] rfl) 4 0 rfl rfl) rfl hl.1 rfl (Nat.le_of_ble_eq_true rfl) dX4_layWay_8 ⟨Nat.zero_le _, Nat.zero_le _⟩ ?_
  refine lv_istore (lv' := [(4, .int (zi o2)), (0, .ref (t 0)), (1, .ref (ad n1 0)), (2, .int (zi i2)), (3, .int (zi i3))]) hx hb dX4_layWay_11 hl (by decide) rfl (fun ls hl => ?_)
  refine lv_iload_n hx hb dX4_layWay_13 rfl (lv_at hl 3 rfl) ?_
  refine lv_istore (lv' := [(5, .int (zi i2)), (4, .int (zi o2)), (0, .ref (t 0)), (1, .ref (ad n1 0)), (2, .int (zi i2)), (3, .int (zi i3))]) hx hb dX4_layWay_14 hl (by decide) rfl (fun ls hl => ?_)
  refine lv_aload_n hx hb dX4_layWay_16 rfl (lv_at hl 2 rfl) ?_
  refine zv_iconst hx hb dX4_layWay_17 ?_
  refine va_put (D := D) (ci := 4) (v := .int (zi (0 : Int))) (ty := .int) (C := RX4) (T := TX4) (N := 5) hx hb hts zi_X4_layWay_X4 tyX4 tyX4_ok nmX4 hown hK hP hD hS 0 rfl rfl 3 (by decide) (hts (.fieldLink RX4 58 "DiamondRows$Flips" "wayLength" "I") zl_X4_layWay_58) (fun _ h9 => h9) rfl (by decide +kernel) rfl rfl (Nat.le_of_ble_eq_true rfl) dX4_layWay_18 (fun H locs hP hD hS => ?_)
  have hP : va_P D vwCl ([((t 0), .inr (4, [.ref (t 1), .ref (t 2), .ref (t 3), .int (zi (0 : Int)), .int (zi (o1.1))])), ((t 1), .inl (κ 1, 429, .inl (zc (o1.2.1)))), ((t 2), .inl (κ 1, 429, .inl (zc (o1.2.2)))), ((t 3), .inl (κ 1, 429, .inl (zc t_way)))]) H := hP
  have hD : va_D A ([((t 0), .inr (4, [.ref (t 1), .ref (t 2), .ref (t 3), .int (zi (0 : Int)), .int (zi (o1.1))])), ((t 1), .inl (κ 1, 429, .inl (zc (o1.2.1)))), ((t 2), .inl (κ 1, 429, .inl (zc (o1.2.2)))), ((t 3), .inl (κ 1, 429, .inl (zc t_way)))]) := hD
  refine zv_iconst hx hb dX4_layWay_21 ?_
  refine lv_istore (lv' := [(6, .int (zi (0 : Int))), (5, .int (zi i2)), (4, .int (zi o2)), (0, .ref (t 0)), (1, .ref (ad n1 0)), (2, .int (zi i2)), (3, .int (zi i3))]) hx hb dX4_layWay_22 hl (by decide) rfl (fun ls hl => ?_)
  exact (Go_s hg) H locs ls hP hD hS (lv_sub hl [3, 4, 2, 1, 0] rfl)
set_option maxHeartbeats 4000000 in
set_option maxRecDepth 100000 in
theorem zs_X4_layWay_24 {p : Program} {l : Launch} {e : Env} {s : State} {m : MethodId} {args : Array Value} {below : List Frame} {meth : Method} {c : Code} {Q : State → Prop} {D : va_G} {κ : Nat → ClassId} {A : Nat → Prop} {H0 : Heap} (t : Nat → Nat) (mk : Nat) (ad : Nat → Nat → Nat) (n1 : Nat) (hx : p.tables.exec = Jvm.exec) (hb : c.code = cX4_layWay) (hml : c.maxLocals = 7) (hown : s.vm.findClass RX4 = some m.cls) (hts : ∀ w ∈ wsX4_layWay, w.before args s = true) (hK : va_K D vwCl (zTY κ) s) (hA : ∀ q : Nat, H0.size ≤ q → A q) (hB : zAmb D κ mk ad H0) (hBA : zApt mk ad A H0.size) (i2 : Int) (i3 : Int) (i4 : Int) (i5 : Int) (i6 : Int) (t_wayLength : Int) (t_queued : Int) (t_steps : Nat) (t_queue : Nat) (t_way : Nat) (hg : Go (GoE (zA_X4_layWay p l e s m args below meth c Q D κ A H0 t mk ad n1) (zQ_X4_layWay p l e s m args below meth c Q D κ A H0 t mk ad n1)) (zg_X4_layWay_24 mk n1 i2 i3 i4 i5 i6 t_wayLength t_queued t_steps t_queue t_way)) : zA_X4_layWay_24 p l e s m args below meth c Q D κ A H0 t mk ad n1 i2 i3 i4 i5 i6 t_wayLength t_queued t_steps t_queue t_way := by
  intro H locs ls hP hD hS hl
  unfold zg_X4_layWay_24 at hg
  refine lv_iload hx hb dX4_layWay_24 (lv_at hl 4 rfl) ?_
  refine lv_iload hx hb dX4_layWay_26 (lv_at hl 2 rfl) ?_
  obtain ⟨b3, hg⟩ := Go_n hg
  obtain ⟨b4, hg⟩ := Go_n hg
  refine zv_icmp_gt (tgt := 73) hx hb dX4_layWay_28 (by decide) b3 b4 (fun c8 => ?_) (fun c8 => ?_)
  · have hg := Go_t c8 hg
    refine lv_iload hx hb dX4_layWay_73 (lv_at hl 2 rfl) ?_
    exact (Go_s hg) _ _ _ _ hP hD hS dX4_layWay_75
  · have hg := Go_f c8 hg
    refine lv_iload hx hb dX4_layWay_31 (lv_at hl 4 rfl) ?_
    refine zv_sipush hx hb dX4_layWay_33 (by decide) ?_
    refine zv_icmp_ge (tgt := 73) hx hb dX4_layWay_36 (by decide) b3 (by decide) (fun c7 => ?_) (fun c7 => ?_)
    · have hg := Go_t c7 hg
      refine lv_iload hx hb dX4_layWay_73 (lv_at hl 2 rfl) ?_
      exact (Go_s hg) _ _ _ _ hP hD hS dX4_layWay_75
    · have hg := Go_f c7 hg
      refine lv_aload_n hx hb dX4_layWay_39 rfl (lv_at hl 0 rfl) ?_
      refine va_get (D := D) (ci := 4) (v := .ref (t 3)) (C := RX4) (T := TX4) (N := 5) hx hb hts zi_X4_layWay_X4 hown hK hP 0 rfl rfl 2 (by decide) (hts (.fieldLink RX4 18 "DiamondRows$Flips" "way" "[I") zl_X4_layWay_18) (fun _ h9 => h9) rfl dX4_layWay_40 ?_
      refine lv_iload hx hb dX4_layWay_43 (lv_at hl 4 rfl) ?_
      refine lv_iload hx hb dX4_layWay_45 (lv_at hl 3 rfl) ?_
      obtain ⟨n5, hg⟩ := Go_n hg
      refine zv_iast hx hb hK hP hD hS 3 1 rfl rfl (by decide) n5 dX4_layWay_47 (fun H locs hP hD hS => ?_)
      have hP : va_P D vwCl ([((t 0), .inr (4, [.ref (t 1), .ref (t 2), .ref (t 3), .int (zi t_wayLength), .int (zi t_queued)])), ((t 1), .inl (κ 1, 429, .inl (zc t_steps))), ((t 2), .inl (κ 1, 429, .inl (zc t_queue))), ((t 3), .inl (κ 1, 429, .inl (zc (zset t_way (Int.toNat i6) i5))))]) H := hP
      have hD : va_D A ([((t 0), .inr (4, [.ref (t 1), .ref (t 2), .ref (t 3), .int (zi t_wayLength), .int (zi t_queued)])), ((t 1), .inl (κ 1, 429, .inl (zc t_steps))), ((t 2), .inl (κ 1, 429, .inl (zc t_queue))), ((t 3), .inl (κ 1, 429, .inl (zc (zset t_way (Int.toNat i6) i5))))]) := hD
      refine lv_aload_n hx hb dX4_layWay_48 rfl (lv_at hl 0 rfl) ?_
      refine lv_dup hx hb dX4_layWay_49 rfl ?_
      refine va_get (D := D) (ci := 4) (v := .int (zi t_wayLength)) (C := RX4) (T := TX4) (N := 5) hx hb hts zi_X4_layWay_X4 hown hK hP 0 rfl rfl 3 (by decide) (hts (.fieldLink RX4 58 "DiamondRows$Flips" "wayLength" "I") zl_X4_layWay_58) (fun _ h9 => h9) rfl dX4_layWay_50 ?_
      refine zv_iconst hx hb dX4_layWay_53 ?_
      refine zv_iadd hx hb dX4_layWay_54 ?_
      refine va_put (D := D) (ci := 4) (v := .int (zi (t_wayLength + (1 : Int)))) (ty := .int) (C := RX4) (T := TX4) (N := 5) hx hb hts zi_X4_layWay_X4 tyX4 tyX4_ok nmX4 hown hK hP hD hS 0 rfl rfl 3 (by decide) (hts (.fieldLink RX4 58 "DiamondRows$Flips" "wayLength" "I") zl_X4_layWay_58) (fun _ h9 => h9) rfl (by decide +kernel) rfl rfl (Nat.le_of_ble_eq_true rfl) dX4_layWay_55 (fun H locs hP hD hS => ?_)
      have hP : va_P D vwCl ([((t 0), .inr (4, [.ref (t 1), .ref (t 2), .ref (t 3), .int (zi (t_wayLength + (1 : Int))), .int (zi t_queued)])), ((t 1), .inl (κ 1, 429, .inl (zc t_steps))), ((t 2), .inl (κ 1, 429, .inl (zc t_queue))), ((t 3), .inl (κ 1, 429, .inl (zc (zset t_way (Int.toNat i6) i5))))]) H := hP
      have hD : va_D A ([((t 0), .inr (4, [.ref (t 1), .ref (t 2), .ref (t 3), .int (zi (t_wayLength + (1 : Int))), .int (zi t_queued)])), ((t 1), .inl (κ 1, 429, .inl (zc t_steps))), ((t 2), .inl (κ 1, 429, .inl (zc t_queue))), ((t 3), .inl (κ 1, 429, .inl (zc (zset t_way (Int.toNat i6) i5))))]) := hD
      refine lv_aload_n hx hb dX4_layWay_58 rfl (lv_at hl 0 rfl) ?_
      refine lv_aload_n hx hb dX4_layWay_59 rfl (lv_at hl 1 rfl) ?_
      refine lv_iload hx hb dX4_layWay_60 (lv_at hl 3 rfl) ?_
      obtain ⟨o6, ho6, hg⟩ := Go_b hg
      refine zc_vi (rest := []) ⟨hx, hb, hml, hown, hts⟩ (zc_X4_leastNearer l D κ t mk ad (t_wayLength + (1 : Int)) t_queued t_steps t_queue (zset t_way (Int.toNat i6) i5) n1 i5 o6 ho6) (cwV 2 hts gX4_layWay_X4_leastNearer rfl rfl rfl (by decide +kernel) ⟨Nat.le_of_ble_eq_true rfl, Nat.le_of_ble_eq_true rfl⟩) (zpreVa hK (hP.sub [0, 1, 2, 3] rfl) (zamb hB hBA hS) 4 0 rfl rfl) rfl hl.1 rfl (Nat.le_of_ble_eq_true rfl) dX4_layWay_62 ⟨Nat.zero_le _, Nat.zero_le _⟩ ?_
      refine lv_istore (lv' := [(5, .int (zi o6)), (0, .ref (t 0)), (1, .ref (ad n1 0)), (4, .int (zi i4)), (6, .int (zi i6))]) hx hb dX4_layWay_65 hl (by decide) rfl (fun ls hl => ?_)
      refine lv_iinc (v := zi (i6 + (1 : Int))) (lv' := [(6, .int (zi (i6 + (1 : Int)))), (5, .int (zi o6)), (0, .ref (t 0)), (1, .ref (ad n1 0)), (4, .int (zi i4))]) hx hb dX4_layWay_67 hl (k := 4) rfl (zi_add i6 _) (by decide) rfl (fun ls hl => ?_)
      refine lv_goto (tgt := 24) hx hb dX4_layWay_70 (by decide) ?_
      exact (Go_s hg) H locs ls hP hD hS (lv_sub hl [2, 3, 4, 1, 0] rfl)
set_option maxHeartbeats 4000000 in
set_option maxRecDepth 100000 in
theorem zw_X4_layWay {p : Program} {l : Launch} {e : Env} {s : State} {m : MethodId} {args : Array Value} {below : List Frame} {meth : Method} {c : Code} {Q : State → Prop} {D : va_G} {κ : Nat → ClassId} {A : Nat → Prop} {H0 : Heap} (t : Nat → Nat) (mk : Nat) (ad : Nat → Nat → Nat) (n1 : Nat) (t_wayLength : Int) (t_queued : Int) (t_steps : Nat) (t_queue : Nat) (t_way : Nat) (i2 : Int) (i3 : Int) (hx : p.tables.exec = Jvm.exec) (hb : c.code = cX4_layWay) (hml : c.maxLocals = 7) (hown : s.vm.findClass RX4 = some m.cls) (hts : ∀ w ∈ wsX4_layWay, w.before args s = true) (hK : va_K D vwCl (zTY κ) s) (hA : ∀ q : Nat, H0.size ≤ q → A q) (hB : zAmb D κ mk ad H0) (hBA : zApt mk ad A H0.size) (out : Int × Int × Int × Nat × Nat × Nat) (h : zf_X4_layWay mk t_wayLength t_queued t_steps t_queue t_way n1 i2 i3 = some out) (hq : zQ_X4_layWay p l e s m args below meth c Q D κ A H0 t mk ad n1 out) : zA_X4_layWay_0 p l e s m args below meth c Q D κ A H0 t mk ad n1 i2 i3 0 0 0 t_wayLength t_queued t_steps t_queue t_way := by
  have hst : ∀ st : zS_X4_layWay, Go (GoE (zA_X4_layWay p l e s m args below meth c Q D κ A H0 t mk ad n1) (zQ_X4_layWay p l e s m args below meth c Q D κ A H0 t mk ad n1)) (zg_X4_layWay mk n1 st) → zA_X4_layWay p l e s m args below meth c Q D κ A H0 t mk ad n1 st := by
    intro st hg
    obtain ⟨lab, i2, i3, i4, i5, i6, t_wayLength, t_queued, t_steps, t_queue, t_way⟩ := st
    by_cases h0 : lab = 0
    · subst h0
      exact zs_X4_layWay_0 t mk ad n1 hx hb hml hown hts hK hA hB hBA i2 i3 i4 i5 i6 t_wayLength t_queued t_steps t_queue t_way hg
    by_cases h24 : lab = 24
    · subst h24
      exact zs_X4_layWay_24 t mk ad n1 hx hb hml hown hts hK hA hB hBA i2 i3 i4 i5 i6 t_wayLength t_queued t_steps t_queue t_way hg
    have hz : zg_X4_layWay mk n1 (lab, i2, i3, i4, i5, i6, t_wayLength, t_queued, t_steps, t_queue, t_way) = none := by simp [zg_X4_layWay, h0, h24]
    rw [hz] at hg
    obtain ⟨a, h1, -⟩ := hg
    cases h1
  exact jwalk (At := zA_X4_layWay p l e s m args below meth c Q D κ A H0 t mk ad n1) (Ret := zQ_X4_layWay p l e s m args below meth c Q D κ A H0 t mk ad n1) hst _ _ _ h hq
set_option maxHeartbeats 4000000 in
set_option maxRecDepth 100000 in
theorem zc_X4_layWay (l : Launch) (D : va_G) (κ : Nat → ClassId) (t : Nat → Nat) (mk : Nat) (ad : Nat → Nat → Nat) (sz : Nat) (t_wayLength : Int) (t_queued : Int) (t_steps : Nat) (t_queue : Nat) (t_way : Nat) (n1 : Nat) (i2 : Int) (i3 : Int) (out : Int × Int × Int × Nat × Nat × Nat) (h : zf_X4_layWay mk t_wayLength t_queued t_steps t_queue t_way n1 i2 i3 = some out) : Met l yX4_layWay wsX4_layWay zr_X4_layWay (va_Pc [.ref (t 0), .ref (ad n1 0), .int (zi i2), .int (zi i3)] (zWa D κ mk ad ([((t 0), .inr (4, [.ref (t 1), .ref (t 2), .ref (t 3), .int (zi t_wayLength), .int (zi t_queued)])), ((t 1), .inl (κ 1, 429, .inl (zc t_steps))), ((t 2), .inl (κ 1, 429, .inl (zc t_queue))), ((t 3), .inl (κ 1, 429, .inl (zc t_way)))]) sz)) (va_Qi (fun r (_ : Unit) => r = zi (out.1)) (fun _ => zB D κ (va_A ([((t 0), .inr (4, [.ref (t 1), .ref (t 2), .ref (t 3), .int (zi t_wayLength), .int (zi t_queued)])), ((t 1), .inl (κ 1, 429, .inl (zc t_steps))), ((t 2), .inl (κ 1, 429, .inl (zc t_queue))), ((t 3), .inl (κ 1, 429, .inl (zc t_way)))]) sz) ([((t 0), .inr (4, [.ref (t 1), .ref (t 2), .ref (t 3), .int (zi (out.2.1)), .int (zi (out.2.2.1))])), ((t 1), .inl (κ 1, 429, .inl (zc (out.2.2.2.1)))), ((t 2), .inl (κ 1, 429, .inl (zc (out.2.2.2.2.1)))), ((t 3), .inl (κ 1, 429, .inl (zc (out.2.2.2.2.2))))])) (va_A ([((t 0), .inr (4, [.ref (t 1), .ref (t 2), .ref (t 3), .int (zi t_wayLength), .int (zi t_queued)])), ((t 1), .inl (κ 1, 429, .inl (zc t_steps))), ((t 2), .inl (κ 1, 429, .inl (zc t_queue))), ((t 3), .inl (κ 1, 429, .inl (zc t_way)))]) sz)) 0 0 (va_A ([((t 0), .inr (4, [.ref (t 1), .ref (t 2), .ref (t 3), .int (zi t_wayLength), .int (zi t_queued)])), ((t 1), .inl (κ 1, 429, .inl (zc t_steps))), ((t 2), .inl (κ 1, 429, .inl (zc t_queue))), ((t 3), .inl (κ 1, 429, .inl (zc t_way)))]) sz) := by
  refine Met.ofW (cc := cX4_layWay) (maxL := 7) (ret := (some .int)) (by decide +kernel) rfl ?_
  intro p e s m args below meth c s₁ B hml hv
  obtain ⟨rfl, hsz, hP, hK, hD0, hB, hBA⟩ := hv
  have hx := B.exec
  have hb := B.bytes
  have hr := B.returns
  have hts := atoms_spec (ws := wsX4_layWay) B.pre
  have hown : s.vm.findClass RX4 = some m.cls := findClass_of_methodNamed B.named
  have hlocks := B.notSynchronized
  subst hsz
  have hD := hD0.self (sz := s.heap.size)
  generalize hAe : va_A ([((t 0), .inr (4, [.ref (t 1), .ref (t 2), .ref (t 3), .int (zi t_wayLength), .int (zi t_queued)])), ((t 1), .inl (κ 1, 429, .inl (zc t_steps))), ((t 2), .inl (κ 1, 429, .inl (zc t_queue))), ((t 3), .inl (κ 1, 429, .inl (zc t_way)))]) s.heap.size = A at hD hBA ⊢
  have hA : ∀ q : Nat, s.heap.size ≤ q → A q := fun q h => by rw [← hAe]; exact Or.inr h
  have hS : va_S A s.heap s.heap [] := va_S.rf
  have hl := lv_entry ([.ref (t 0), .ref (ad n1 0), .int (zi i2), .int (zi i3)]) (n := 7) (Nat.le_of_ble_eq_true rfl)
  rw [lg_entry_eq]
  generalize (lg_sl ([.ref (t 0), .ref (ad n1 0), .int (zi i2), .int (zi i3)]) ++ List.replicate (7 - (lg_sl ([.ref (t 0), .ref (ad n1 0), .int (zi i2), .int (zi i3)])).length) Slot.unset).toArray = ls at hl ⊢
  have hl : lv_has ls 7 [(0, .ref (t 0)), (1, .ref (ad n1 0)), (2, .int (zi i2)), (3, .int (zi i3))] := hl
  refine (zw_X4_layWay t mk ad n1 t_wayLength t_queued t_steps t_queue t_way i2 i3 hx hb hml hown hts hK hA hB hBA out h ?_) s.heap [] ls hP hD hS (lv_sub hl [0, 1, 2, 3] rfl)
  exact fun H locs ls pc hP hD hS hd => W.iret hx hb hr (fun t ht hW => ⟨⟨_, (), rfl, rfl, by rw [ht]; exact hP, va_K.moved hW.alike hK, hD⟩, hS.F ht⟩) hS.2.2 hd
/-! DiamondRows$Flips.onWay(I)I -/
abbrev zr_X4_onWay : Room := { frames := 0, cells := 0, slots := 0, locals := 0 }
noncomputable def zf_X4_onWay  (t_wayLength : Int) (t_way : Nat) (i1 : Int) : Option (Int) :=
  if zout i1 then none else
  if i1 < 0 then
  some ((-1 : Int))
  else
  if zout t_wayLength then none else
  if t_wayLength ≤ i1 then
  some ((-1 : Int))
  else
  if i1 < 0 ∨ 429 ≤ i1 then none else
  some ((zget t_way (Int.toNat i1)))
theorem zi_X4_onWay_X4 : ∀ w ∈ u_ws RX4 TX4 5, w ∈ wsX4_onWay := by decide +kernel
theorem zl_X4_onWay_18 : Cond.fieldLink RX4 18 "DiamondRows$Flips" "way" "[I" ∈ wsX4_onWay := by decide +kernel
theorem zl_X4_onWay_58 : Cond.fieldLink RX4 58 "DiamondRows$Flips" "wayLength" "I" ∈ wsX4_onWay := by decide +kernel
def zQ_X4_onWay (p : Program) (l : Launch) (e : Env) (s : State) (m : MethodId) (args : Array Value) (below : List Frame) (meth : Method) (c : Code) (Q : State → Prop) (H : Heap) (locs : List Loc)  (o : Int) : Prop := ∀ (ls : Array Slot) (pc : Nat), decode cX4_onWay pc = .ok (.ireturn, 1) → W p l e zr_X4_onWay s m args below meth c H locs 0 0 Q (F0 m pc ls [.int (zi o)])
set_option maxHeartbeats 4000000 in
set_option maxRecDepth 100000 in
theorem zs_X4_onWay {p : Program} {l : Launch} {e : Env} {s : State} {m : MethodId} {args : Array Value} {below : List Frame} {meth : Method} {c : Code} {Q : State → Prop} {D : va_G} {κ : Nat → ClassId} {H : Heap} {locs : List Loc} (t : Nat → Nat) (t_wayLength : Int) (t_queued : Int) (t_steps : Nat) (t_queue : Nat) (t_way : Nat) (i1 : Int) (hx : p.tables.exec = Jvm.exec) (hb : c.code = cX4_onWay) (hml : c.maxLocals = 2) (hown : s.vm.findClass RX4 = some m.cls) (hts : ∀ w ∈ wsX4_onWay, w.before args s = true) (hK : va_K D vwCl (zTY κ) s) (hP : va_P D vwCl ([((t 0), .inr (4, [.ref (t 1), .ref (t 2), .ref (t 3), .int (zi t_wayLength), .int (zi t_queued)])), ((t 1), .inl (κ 1, 429, .inl (zc t_steps))), ((t 2), .inl (κ 1, 429, .inl (zc t_queue))), ((t 3), .inl (κ 1, 429, .inl (zc t_way)))]) H) (ls : Array Slot) (hl : lv_has ls 2 [(0, .ref (t 0)), (1, .int (zi i1))]) (hg : Go (zQ_X4_onWay p l e s m args below meth c Q H locs) (zf_X4_onWay t_wayLength t_way i1)) : W p l e zr_X4_onWay s m args below meth c H locs 0 0 Q (F0 m 0 ls []) := by
  unfold zf_X4_onWay at hg
  refine lv_iload_n hx hb dX4_onWay_0 rfl (lv_at hl 1 rfl) ?_
  obtain ⟨b1, hg⟩ := Go_n hg
  refine zv_if_lt (tgt := 21) hx hb dX4_onWay_1 (by decide) b1 (fun c5 => ?_) (fun c5 => ?_)
  · have hg := Go_t c5 hg
    refine zv_iconst hx hb dX4_onWay_21 ?_
    exact (Go_s hg) _ _ dX4_onWay_22
  · have hg := Go_f c5 hg
    refine lv_iload_n hx hb dX4_onWay_4 rfl (lv_at hl 1 rfl) ?_
    refine lv_aload_n hx hb dX4_onWay_5 rfl (lv_at hl 0 rfl) ?_
    refine va_get (D := D) (ci := 4) (v := .int (zi t_wayLength)) (C := RX4) (T := TX4) (N := 5) hx hb hts zi_X4_onWay_X4 hown hK hP 0 rfl rfl 3 (by decide) (hts (.fieldLink RX4 58 "DiamondRows$Flips" "wayLength" "I") zl_X4_onWay_58) (fun _ h9 => h9) rfl dX4_onWay_6 ?_
    obtain ⟨b2, hg⟩ := Go_n hg
    refine zv_icmp_ge (tgt := 21) hx hb dX4_onWay_9 (by decide) b1 b2 (fun c4 => ?_) (fun c4 => ?_)
    · have hg := Go_t c4 hg
      refine zv_iconst hx hb dX4_onWay_21 ?_
      exact (Go_s hg) _ _ dX4_onWay_22
    · have hg := Go_f c4 hg
      refine lv_aload_n hx hb dX4_onWay_12 rfl (lv_at hl 0 rfl) ?_
      refine va_get (D := D) (ci := 4) (v := .ref (t 3)) (C := RX4) (T := TX4) (N := 5) hx hb hts zi_X4_onWay_X4 hown hK hP 0 rfl rfl 2 (by decide) (hts (.fieldLink RX4 18 "DiamondRows$Flips" "way" "[I") zl_X4_onWay_18) (fun _ h9 => h9) rfl dX4_onWay_13 ?_
      refine lv_iload_n hx hb dX4_onWay_16 rfl (lv_at hl 1 rfl) ?_
      obtain ⟨n3, hg⟩ := Go_n hg
      refine zv_iald hx hb hK hP 3 1 rfl rfl (by decide) n3 dX4_onWay_17 ?_
      refine lv_goto (tgt := 22) hx hb dX4_onWay_18 (by decide) ?_
      exact (Go_s hg) _ _ dX4_onWay_22
set_option maxHeartbeats 4000000 in
set_option maxRecDepth 100000 in
theorem zc_X4_onWay (l : Launch) (D : va_G) (κ : Nat → ClassId) (t : Nat → Nat) (t_wayLength : Int) (t_queued : Int) (t_steps : Nat) (t_queue : Nat) (t_way : Nat) (i1 : Int) (out : Int) (h : zf_X4_onWay t_wayLength t_way i1 = some out) : Met l yX4_onWay wsX4_onWay zr_X4_onWay (va_Pc [.ref (t 0), .int (zi i1)] (zR D κ ([((t 0), .inr (4, [.ref (t 1), .ref (t 2), .ref (t 3), .int (zi t_wayLength), .int (zi t_queued)])), ((t 1), .inl (κ 1, 429, .inl (zc t_steps))), ((t 2), .inl (κ 1, 429, .inl (zc t_queue))), ((t 3), .inl (κ 1, 429, .inl (zc t_way)))]))) (vp_Si (fun x => x = zi out)) 0 0 (fun _ => False) := by
  refine Met.ofW (cc := cX4_onWay) (maxL := 2) (ret := (some .int)) (by decide +kernel) rfl ?_
  intro p e s m args below meth c s₁ B hml hv
  obtain ⟨rfl, hP, hK⟩ := hv
  have hx := B.exec
  have hb := B.bytes
  have hr := B.returns
  have hts := atoms_spec (ws := wsX4_onWay) B.pre
  have hown : s.vm.findClass RX4 = some m.cls := findClass_of_methodNamed B.named
  have hlocks := B.notSynchronized
  have hl := lv_entry ([.ref (t 0), .int (zi i1)]) (n := 2) (Nat.le_of_ble_eq_true rfl)
  rw [lg_entry_eq]
  generalize (lg_sl ([.ref (t 0), .int (zi i1)]) ++ List.replicate (2 - (lg_sl ([.ref (t 0), .int (zi i1)])).length) Slot.unset).toArray = ls at hl ⊢
  have hl : lv_has ls 2 [(0, .ref (t 0)), (1, .int (zi i1))] := hl
  refine zs_X4_onWay t t_wayLength t_queued t_steps t_queue t_way i1 hx hb hml hown hts hK hP ls hl ⟨out, h, ?_⟩
  exact fun ls pc hd => W.iret hx hb hr (fun t ht hW => ⟨_, rfl, rfl, ht⟩) (fun _ h => by cases h) hd
