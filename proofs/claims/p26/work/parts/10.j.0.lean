/-! java/lang/Integer.bitCount(I)I -/
abbrev zr_J6_bitCount_0f7a4 : Room := { frames := 0, cells := 0, slots := 0, locals := 0 }
noncomputable def zf_J6_bitCount_0f7a4   (i0 : Int) : Option (Int) :=
  some ((zand (((zand (((zand (i0 - (zand (zushr i0 (1 : Int)) (1431655765 : Int))) (858993459 : Int)) + (zand (zushr (i0 - (zand (zushr i0 (1 : Int)) (1431655765 : Int))) (2 : Int)) (858993459 : Int))) + (zushr ((zand (i0 - (zand (zushr i0 (1 : Int)) (1431655765 : Int))) (858993459 : Int)) + (zand (zushr (i0 - (zand (zushr i0 (1 : Int)) (1431655765 : Int))) (2 : Int)) (858993459 : Int))) (4 : Int))) (252645135 : Int)) + (zushr (zand (((zand (i0 - (zand (zushr i0 (1 : Int)) (1431655765 : Int))) (858993459 : Int)) + (zand (zushr (i0 - (zand (zushr i0 (1 : Int)) (1431655765 : Int))) (2 : Int)) (858993459 : Int))) + (zushr ((zand (i0 - (zand (zushr i0 (1 : Int)) (1431655765 : Int))) (858993459 : Int)) + (zand (zushr (i0 - (zand (zushr i0 (1 : Int)) (1431655765 : Int))) (2 : Int)) (858993459 : Int))) (4 : Int))) (252645135 : Int)) (8 : Int))) + (zushr ((zand (((zand (i0 - (zand (zushr i0 (1 : Int)) (1431655765 : Int))) (858993459 : Int)) + (zand (zushr (i0 - (zand (zushr i0 (1 : Int)) (1431655765 : Int))) (2 : Int)) (858993459 : Int))) + (zushr ((zand (i0 - (zand (zushr i0 (1 : Int)) (1431655765 : Int))) (858993459 : Int)) + (zand (zushr (i0 - (zand (zushr i0 (1 : Int)) (1431655765 : Int))) (2 : Int)) (858993459 : Int))) (4 : Int))) (252645135 : Int)) + (zushr (zand (((zand (i0 - (zand (zushr i0 (1 : Int)) (1431655765 : Int))) (858993459 : Int)) + (zand (zushr (i0 - (zand (zushr i0 (1 : Int)) (1431655765 : Int))) (2 : Int)) (858993459 : Int))) + (zushr ((zand (i0 - (zand (zushr i0 (1 : Int)) (1431655765 : Int))) (858993459 : Int)) + (zand (zushr (i0 - (zand (zushr i0 (1 : Int)) (1431655765 : Int))) (2 : Int)) (858993459 : Int))) (4 : Int))) (252645135 : Int)) (8 : Int))) (16 : Int))) (63 : Int)))
def zQ_J6_bitCount_0f7a4 (p : Program) (l : Launch) (e : Env) (s : State) (m : MethodId) (args : Array Value) (below : List Frame) (meth : Method) (c : Code) (Q : State → Prop) (H : Heap) (locs : List Loc)  (o : Int) : Prop := ∀ (ls : Array Slot) (pc : Nat), decode cJ6_bitCount_0f7a4 pc = .ok (.ireturn, 1) → W p l e zr_J6_bitCount_0f7a4 s m args below meth c H locs 0 0 Q (F0 m pc ls [.int (zi o)])
set_option maxHeartbeats 4000000 in
set_option maxRecDepth 100000 in
theorem zs_J6_bitCount_0f7a4 {p : Program} {l : Launch} {e : Env} {s : State} {m : MethodId} {args : Array Value} {below : List Frame} {meth : Method} {c : Code} {Q : State → Prop} {D : va_G} {κ : Nat → ClassId} {H : Heap} {locs : List Loc}   (i0 : Int) (hx : p.tables.exec = Jvm.exec) (hb : c.code = cJ6_bitCount_0f7a4) (hml : c.maxLocals = 1) (hown : s.vm.findClass RJ6 = some m.cls) (hts : ∀ w ∈ wsJ6_bitCount_0f7a4, w.before args s = true) (hK : va_K D vwCl (zTY κ) s) (hP : va_P D vwCl ([]) H) (ls : Array Slot) (hl : lv_has ls 1 [(0, .int (zi i0))]) (hg : Go (zQ_J6_bitCount_0f7a4 p l e s m args below meth c Q H locs) (zf_J6_bitCount_0f7a4  i0)) : W p l e zr_J6_bitCount_0f7a4 s m args below meth c H locs 0 0 Q (F0 m 0 ls []) := by
  unfold zf_J6_bitCount_0f7a4 at hg
  refine lv_iload_n hx hb dJ6_bitCount_0f7a4_0 rfl (lv_at hl 0 rfl) ?_
  refine lv_iload_n hx hb dJ6_bitCount_0f7a4_1 rfl (lv_at hl 0 rfl) ?_
  refine zv_iconst hx hb dJ6_bitCount_0f7a4_2 ?_
  refine zv_iushr hx hb dJ6_bitCount_0f7a4_3 ?_
  refine lv_ldcw (v := zi (1431655765 : Int)) hx hb hown (hts (.constant RJ6 265 (1431655765)) (by decide +kernel)) dJ6_bitCount_0f7a4_4 ?_
  refine zv_iand hx hb dJ6_bitCount_0f7a4_7 ?_
  refine zv_isub hx hb dJ6_bitCount_0f7a4_8 ?_
  refine lv_istore_n (lv' := [(0, .int (zi (i0 - (zand (zushr i0 (1 : Int)) (1431655765 : Int)))))]) hx hb dJ6_bitCount_0f7a4_9 rfl hl (by decide) rfl (fun ls hl => ?_)
  refine lv_iload_n hx hb dJ6_bitCount_0f7a4_10 rfl (lv_at hl 0 rfl) ?_
  refine lv_ldcw (v := zi (858993459 : Int)) hx hb hown (hts (.constant RJ6 266 (858993459)) (by decide +kernel)) dJ6_bitCount_0f7a4_11 ?_
  refine zv_iand hx hb dJ6_bitCount_0f7a4_14 ?_
  refine lv_iload_n hx hb dJ6_bitCount_0f7a4_15 rfl (lv_at hl 0 rfl) ?_
  refine zv_iconst hx hb dJ6_bitCount_0f7a4_16 ?_
  refine zv_iushr hx hb dJ6_bitCount_0f7a4_17 ?_
  refine lv_ldcw (v := zi (858993459 : Int)) hx hb hown (hts (.constant RJ6 266 (858993459)) (by decide +kernel)) dJ6_bitCount_0f7a4_18 ?_
  refine zv_iand hx hb dJ6_bitCount_0f7a4_21 ?_
  refine zv_iadd hx hb dJ6_bitCount_0f7a4_22 ?_
  refine lv_istore_n (lv' := [(0, .int (zi ((zand (i0 - (zand (zushr i0 (1 : Int)) (1431655765 : Int))) (858993459 : Int)) + (zand (zushr (i0 - (zand (zushr i0 (1 : Int)) (1431655765 : Int))) (2 : Int)) (858993459 : Int)))))]) hx hb dJ6_bitCount_0f7a4_23 rfl hl (by decide) rfl (fun ls hl => ?_)
  refine lv_iload_n hx hb dJ6_bitCount_0f7a4_24 rfl (lv_at hl 0 rfl) ?_
  refine lv_iload_n hx hb dJ6_bitCount_0f7a4_25 rfl (lv_at hl 0 rfl) ?_
  refine zv_iconst hx hb dJ6_bitCount_0f7a4_26 ?_
  refine zv_iushr hx hb dJ6_bitCount_0f7a4_27 ?_
  refine zv_iadd hx hb dJ6_bitCount_0f7a4_28 ?_
  refine lv_ldcw (v := zi (252645135 : Int)) hx hb hown (hts (.constant RJ6 267 (252645135)) (by decide +kernel)) dJ6_bitCount_0f7a4_29 ?_
  refine zv_iand hx hb dJ6_bitCount_0f7a4_32 ?_
  refine lv_istore_n (lv' := [(0, .int (zi (zand (((zand (i0 - (zand (zushr i0 (1 : Int)) (1431655765 : Int))) (858993459 : Int)) + (zand (zushr (i0 - (zand (zushr i0 (1 : Int)) (1431655765 : Int))) (2 : Int)) (858993459 : Int))) + (zushr ((zand (i0 - (zand (zushr i0 (1 : Int)) (1431655765 : Int))) (858993459 : Int)) + (zand (zushr (i0 - (zand (zushr i0 (1 : Int)) (1431655765 : Int))) (2 : Int)) (858993459 : Int))) (4 : Int))) (252645135 : Int))))]) hx hb dJ6_bitCount_0f7a4_33 rfl hl (by decide) rfl (fun ls hl => ?_)
  refine lv_iload_n hx hb dJ6_bitCount_0f7a4_34 rfl (lv_at hl 0 rfl) ?_
  refine lv_iload_n hx hb dJ6_bitCount_0f7a4_35 rfl (lv_at hl 0 rfl) ?_
  refine zv_bipush hx hb dJ6_bitCount_0f7a4_36 (by decide) ?_
  refine zv_iushr hx hb dJ6_bitCount_0f7a4_38 ?_
  refine zv_iadd hx hb dJ6_bitCount_0f7a4_39 ?_
  refine lv_istore_n (lv' := [(0, .int (zi ((zand (((zand (i0 - (zand (zushr i0 (1 : Int)) (1431655765 : Int))) (858993459 : Int)) + (zand (zushr (i0 - (zand (zushr i0 (1 : Int)) (1431655765 : Int))) (2 : Int)) (858993459 : Int))) + (zushr ((zand (i0 - (zand (zushr i0 (1 : Int)) (1431655765 : Int))) (858993459 : Int)) + (zand (zushr (i0 - (zand (zushr i0 (1 : Int)) (1431655765 : Int))) (2 : Int)) (858993459 : Int))) (4 : Int))) (252645135 : Int)) + (zushr (zand (((zand (i0 - (zand (zushr i0 (1 : Int)) (1431655765 : Int))) (858993459 : Int)) + (zand (zushr (i0 - (zand (zushr i0 (1 : Int)) (1431655765 : Int))) (2 : Int)) (858993459 : Int))) + (zushr ((zand (i0 - (zand (zushr i0 (1 : Int)) (1431655765 : Int))) (858993459 : Int)) + (zand (zushr (i0 - (zand (zushr i0 (1 : Int)) (1431655765 : Int))) (2 : Int)) (858993459 : Int))) (4 : Int))) (252645135 : Int)) (8 : Int)))))]) hx hb dJ6_bitCount_0f7a4_40 rfl hl (by decide) rfl (fun ls hl => ?_)
  refine lv_iload_n hx hb dJ6_bitCount_0f7a4_41 rfl (lv_at hl 0 rfl) ?_
  refine lv_iload_n hx hb dJ6_bitCount_0f7a4_42 rfl (lv_at hl 0 rfl) ?_
  refine zv_bipush hx hb dJ6_bitCount_0f7a4_43 (by decide) ?_
  refine zv_iushr hx hb dJ6_bitCount_0f7a4_45 ?_
  refine zv_iadd hx hb dJ6_bitCount_0f7a4_46 ?_
  refine lv_istore_n (lv' := [(0, .int (zi (((zand (((zand (i0 - (zand (zushr i0 (1 : Int)) (1431655765 : Int))) (858993459 : Int)) + (zand (zushr (i0 - (zand (zushr i0 (1 : Int)) (1431655765 : Int))) (2 : Int)) (858993459 : Int))) + (zushr ((zand (i0 - (zand (zushr i0 (1 : Int)) (1431655765 : Int))) (858993459 : Int)) + (zand (zushr (i0 - (zand (zushr i0 (1 : Int)) (1431655765 : Int))) (2 : Int)) (858993459 : Int))) (4 : Int))) (252645135 : Int)) + (zushr (zand (((zand (i0 - (zand (zushr i0 (1 : Int)) (1431655765 : Int))) (858993459 : Int)) + (zand (zushr (i0 - (zand (zushr i0 (1 : Int)) (1431655765 : Int))) (2 : Int)) (858993459 : Int))) + (zushr ((zand (i0 - (zand (zushr i0 (1 : Int)) (1431655765 : Int))) (858993459 : Int)) + (zand (zushr (i0 - (zand (zushr i0 (1 : Int)) (1431655765 : Int))) (2 : Int)) (858993459 : Int))) (4 : Int))) (252645135 : Int)) (8 : Int))) + (zushr ((zand (((zand (i0 - (zand (zushr i0 (1 : Int)) (1431655765 : Int))) (858993459 : Int)) + (zand (zushr (i0 - (zand (zushr i0 (1 : Int)) (1431655765 : Int))) (2 : Int)) (858993459 : Int))) + (zushr ((zand (i0 - (zand (zushr i0 (1 : Int)) (1431655765 : Int))) (858993459 : Int)) + (zand (zushr (i0 - (zand (zushr i0 (1 : Int)) (1431655765 : Int))) (2 : Int)) (858993459 : Int))) (4 : Int))) (252645135 : Int)) + (zushr (zand (((zand (i0 - (zand (zushr i0 (1 : Int)) (1431655765 : Int))) (858993459 : Int)) + (zand (zushr (i0 - (zand (zushr i0 (1 : Int)) (1431655765 : Int))) (2 : Int)) (858993459 : Int))) + (zushr ((zand (i0 - (zand (zushr i0 (1 : Int)) (1431655765 : Int))) (858993459 : Int)) + (zand (zushr (i0 - (zand (zushr i0 (1 : Int)) (1431655765 : Int))) (2 : Int)) (858993459 : Int))) (4 : Int))) (252645135 : Int)) (8 : Int))) (16 : Int)))))]) hx hb dJ6_bitCount_0f7a4_47 rfl hl (by decide) rfl (fun ls hl => ?_)
  refine lv_iload_n hx hb dJ6_bitCount_0f7a4_48 rfl (lv_at hl 0 rfl) ?_
  refine zv_bipush hx hb dJ6_bitCount_0f7a4_49 (by decide) ?_
  refine zv_iand hx hb dJ6_bitCount_0f7a4_51 ?_
  exact (Go_s hg) _ _ dJ6_bitCount_0f7a4_52
set_option maxHeartbeats 4000000 in
set_option maxRecDepth 100000 in
theorem zc_J6_bitCount_0f7a4 (l : Launch) (D : va_G) (κ : Nat → ClassId)   (i0 : Int) (out : Int) (h : zf_J6_bitCount_0f7a4  i0 = some out) : Met l yJ6_bitCount_0f7a4 wsJ6_bitCount_0f7a4 zr_J6_bitCount_0f7a4 (va_Pc [.int (zi i0)] (zR D κ ([]))) (vp_Si (fun x => x = zi out)) 0 0 (fun _ => False) := by
  refine Met.ofW (cc := cJ6_bitCount_0f7a4) (maxL := 1) (ret := (some .int)) (by decide +kernel) rfl ?_
  intro p e s m args below meth c s₁ B hml hv
  obtain ⟨rfl, hP, hK⟩ := hv
  have hx := B.exec
  have hb := B.bytes
  have hr := B.returns
  have hts := atoms_spec (ws := wsJ6_bitCount_0f7a4) B.pre
  have hown : s.vm.findClass RJ6 = some m.cls := findClass_of_methodNamed B.named
  have hlocks := B.notSynchronized
  have hl := lv_entry ([.int (zi i0)]) (n := 1) (Nat.le_of_ble_eq_true rfl)
  rw [lg_entry_eq]
  generalize (lg_sl ([.int (zi i0)]) ++ List.replicate (1 - (lg_sl ([.int (zi i0)])).length) Slot.unset).toArray = ls at hl ⊢
  have hl : lv_has ls 1 [(0, .int (zi i0))] := hl
  refine zs_J6_bitCount_0f7a4   i0 hx hb hml hown hts hK hP ls hl ⟨out, h, ?_⟩
  exact fun ls pc hd => W.iret hx hb hr (fun t ht hW => ⟨_, rfl, rfl, ht⟩) (fun _ h => by cases h) hd
/-! java/lang/Math.floorMod(II)I -/
abbrev zr_J9_floorMod_7cf53 : Room := { frames := 0, cells := 0, slots := 0, locals := 0 }
noncomputable def zf_J9_floorMod_7cf53   (i0 : Int) (i1 : Int) : Option (Int) :=
  if zout i0 then none else
  if zout i1 then none else
  if i1 = 0 then none else
  if 0 ≤ (zxor i0 i1) then
  some ((Int.tmod i0 i1))
  else
  if zout (Int.tmod i0 i1) then none else
  if (Int.tmod i0 i1) = 0 then
  some ((Int.tmod i0 i1))
  else
  some (((Int.tmod i0 i1) + i1))
def zQ_J9_floorMod_7cf53 (p : Program) (l : Launch) (e : Env) (s : State) (m : MethodId) (args : Array Value) (below : List Frame) (meth : Method) (c : Code) (Q : State → Prop) (H : Heap) (locs : List Loc)  (o : Int) : Prop := ∀ (ls : Array Slot) (pc : Nat), decode cJ9_floorMod_7cf53 pc = .ok (.ireturn, 1) → W p l e zr_J9_floorMod_7cf53 s m args below meth c H locs 0 0 Q (F0 m pc ls [.int (zi o)])
set_option maxHeartbeats 4000000 in
set_option maxRecDepth 100000 in
theorem zs_J9_floorMod_7cf53 {p : Program} {l : Launch} {e : Env} {s : State} {m : MethodId} {args : Array Value} {below : List Frame} {meth : Method} {c : Code} {Q : State → Prop} {D : va_G} {κ : Nat → ClassId} {H : Heap} {locs : List Loc}   (i0 : Int) (i1 : Int) (hx : p.tables.exec = Jvm.exec) (hb : c.code = cJ9_floorMod_7cf53) (hml : c.maxLocals = 3) (hown : s.vm.findClass RJ9 = some m.cls) (hts : ∀ w ∈ wsJ9_floorMod_7cf53, w.before args s = true) (hK : va_K D vwCl (zTY κ) s) (hP : va_P D vwCl ([]) H) (ls : Array Slot) (hl : lv_has ls 3 [(0, .int (zi i0)), (1, .int (zi i1))]) (hg : Go (zQ_J9_floorMod_7cf53 p l e s m args below meth c Q H locs) (zf_J9_floorMod_7cf53  i0 i1)) : W p l e zr_J9_floorMod_7cf53 s m args below meth c H locs 0 0 Q (F0 m 0 ls []) := by
  unfold zf_J9_floorMod_7cf53 at hg
  refine lv_iload_n hx hb dJ9_floorMod_7cf53_0 rfl (lv_at hl 0 rfl) ?_
  refine lv_iload_n hx hb dJ9_floorMod_7cf53_1 rfl (lv_at hl 1 rfl) ?_
  obtain ⟨b1, hg⟩ := Go_n hg
  obtain ⟨b2, hg⟩ := Go_n hg
  obtain ⟨n3, hg⟩ := Go_n hg
  refine zv_irem hx hb b1 b2 n3 dJ9_floorMod_7cf53_2 ?_
  refine lv_istore_n (lv' := [(2, .int (zi (Int.tmod i0 i1))), (0, .int (zi i0)), (1, .int (zi i1))]) hx hb dJ9_floorMod_7cf53_3 rfl hl (by decide) rfl (fun ls hl => ?_)
  refine lv_iload_n hx hb dJ9_floorMod_7cf53_4 rfl (lv_at hl 1 rfl) ?_
  refine lv_iload_n hx hb dJ9_floorMod_7cf53_5 rfl (lv_at hl 2 rfl) ?_
  refine zv_ixor hx hb dJ9_floorMod_7cf53_6 ?_
  refine zv_if_ge (tgt := 18) hx hb dJ9_floorMod_7cf53_7 (by decide) (zxor_in _ _) (fun c6 => ?_) (fun c6 => ?_)
  · have hg := Go_t c6 hg
    refine lv_iload_n hx hb dJ9_floorMod_7cf53_18 rfl (lv_at hl 0 rfl) ?_
    exact (Go_s hg) _ _ dJ9_floorMod_7cf53_19
  · have hg := Go_f c6 hg
    refine lv_iload_n hx hb dJ9_floorMod_7cf53_10 rfl (lv_at hl 0 rfl) ?_
    obtain ⟨b4, hg⟩ := Go_n hg
    refine zv_if_eq (tgt := 18) hx hb dJ9_floorMod_7cf53_11 (by decide) b4 (fun c5 => ?_) (fun c5 => ?_)
    · have hg := Go_t c5 hg
      refine lv_iload_n hx hb dJ9_floorMod_7cf53_18 rfl (lv_at hl 0 rfl) ?_
      exact (Go_s hg) _ _ dJ9_floorMod_7cf53_19
    · have hg := Go_f c5 hg
      refine lv_iload_n hx hb dJ9_floorMod_7cf53_14 rfl (lv_at hl 0 rfl) ?_
      refine lv_iload_n hx hb dJ9_floorMod_7cf53_15 rfl (lv_at hl 2 rfl) ?_
      refine zv_iadd hx hb dJ9_floorMod_7cf53_16 ?_
      exact (Go_s hg) _ _ dJ9_floorMod_7cf53_17
set_option maxHeartbeats 4000000 in
set_option maxRecDepth 100000 in
theorem zc_J9_floorMod_7cf53 (l : Launch) (D : va_G) (κ : Nat → ClassId)   (i0 : Int) (i1 : Int) (out : Int) (h : zf_J9_floorMod_7cf53  i0 i1 = some out) : Met l yJ9_floorMod_7cf53 wsJ9_floorMod_7cf53 zr_J9_floorMod_7cf53 (va_Pc [.int (zi i0), .int (zi i1)] (zR D κ ([]))) (vp_Si (fun x => x = zi out)) 0 0 (fun _ => False) := by
  refine zofW (cc := cJ9_floorMod_7cf53) (maxL := 3) (ret := (some .int)) (by decide +kernel) rfl ?_
  intro p e s m args below meth c s₁ B hml hv
  obtain ⟨rfl, hP, hK⟩ := hv
  have hx := B.exec
  have hb := B.bytes
  have hr := B.returns
  have hts := atoms_spec (ws := wsJ9_floorMod_7cf53) B.pre
  have hown : s.vm.findClass RJ9 = some m.cls := findClass_of_methodNamed B.named
  have hlocks := B.notSynchronized
  have hl := lv_entry ([.int (zi i0), .int (zi i1)]) (n := 3) (Nat.le_of_ble_eq_true rfl)
  rw [lg_entry_eq]
  generalize (lg_sl ([.int (zi i0), .int (zi i1)]) ++ List.replicate (3 - (lg_sl ([.int (zi i0), .int (zi i1)])).length) Slot.unset).toArray = ls at hl ⊢
  have hl : lv_has ls 3 [(0, .int (zi i0)), (1, .int (zi i1))] := hl
  refine zs_J9_floorMod_7cf53   i0 i1 hx hb hml hown hts hK hP ls hl ⟨out, h, ?_⟩
  exact fun ls pc hd => W.iret hx hb hr (fun t ht hW => ⟨_, rfl, rfl, ht⟩) (fun _ h => by cases h) hd
