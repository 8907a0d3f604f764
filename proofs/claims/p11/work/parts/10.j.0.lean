section
/-! java/lang/Integer.bitCount(I)I -/
abbrev zr_J6_bitCount_0f7a4 : Room := { frames := 0, cells := 0, slots := 0, locals := 0 }
noncomputable def zf_J6_bitCount_0f7a4   (i0 : Int) : Option (Int) :=
  some ((zand (((zand (((zand (i0 - (zand (zushr i0 (1 : Int)) (1431655765 : Int))) (858993459 : Int)) + (zand (zushr (i0 - (zand (zushr i0 (1 : Int)) (1431655765 : Int))) (2 : Int)) (858993459 : Int))) + (zushr ((zand (i0 - (zand (zushr i0 (1 : Int)) (1431655765 : Int))) (858993459 : Int)) + (zand (zushr (i0 - (zand (zushr i0 (1 : Int)) (1431655765 : Int))) (2 : Int)) (858993459 : Int))) (4 : Int))) (252645135 : Int)) + (zushr (zand (((zand (i0 - (zand (zushr i0 (1 : Int)) (1431655765 : Int))) (858993459 : Int)) + (zand (zushr (i0 - (zand (zushr i0 (1 : Int)) (1431655765 : Int))) (2 : Int)) (858993459 : Int))) + (zushr ((zand (i0 - (zand (zushr i0 (1 : Int)) (1431655765 : Int))) (858993459 : Int)) + (zand (zushr (i0 - (zand (zushr i0 (1 : Int)) (1431655765 : Int))) (2 : Int)) (858993459 : Int))) (4 : Int))) (252645135 : Int)) (8 : Int))) + (zushr ((zand (((zand (i0 - (zand (zushr i0 (1 : Int)) (1431655765 : Int))) (858993459 : Int)) + (zand (zushr (i0 - (zand (zushr i0 (1 : Int)) (1431655765 : Int))) (2 : Int)) (858993459 : Int))) + (zushr ((zand (i0 - (zand (zushr i0 (1 : Int)) (1431655765 : Int))) (858993459 : Int)) + (zand (zushr (i0 - (zand (zushr i0 (1 : Int)) (1431655765 : Int))) (2 : Int)) (858993459 : Int))) (4 : Int))) (252645135 : Int)) + (zushr (zand (((zand (i0 - (zand (zushr i0 (1 : Int)) (1431655765 : Int))) (858993459 : Int)) + (zand (zushr (i0 - (zand (zushr i0 (1 : Int)) (1431655765 : Int))) (2 : Int)) (858993459 : Int))) + (zushr ((zand (i0 - (zand (zushr i0 (1 : Int)) (1431655765 : Int))) (858993459 : Int)) + (zand (zushr (i0 - (zand (zushr i0 (1 : Int)) (1431655765 : Int))) (2 : Int)) (858993459 : Int))) (4 : Int))) (252645135 : Int)) (8 : Int))) (16 : Int))) (63 : Int)))
def zQ_J6_bitCount_0f7a4 (p : Program) (l : Launch) (e : Env) (s : State) (m : MethodId) (args : Array Value) (below : List Frame) (meth : Method) (c : Code) (Q : State → Prop) (H : Heap) (locs : List Loc)  (o : Int) : Prop := ∀ (ls : Array Slot) (pc : Nat), decode cJ6_bitCount_0f7a4 pc = .ok (.ireturn, 1) → W p l e zr_J6_bitCount_0f7a4 s m args below meth c H locs 0 0 Q (F0 m pc ls [.int (zi o)])
set_option maxHeartbeats 4000000 in
set_option maxRecDepth 100000 in
theorem zs_J6_bitCount_0f7a4 {p : Program} {l : Launch} {e : Env} {s : State} {m : MethodId} {args : Array Value} {below : List Frame} {meth : Method} {c : Code} {Q : State → Prop} {D : va_G} {κ : Nat → ClassId} {H : Heap} {locs : List Loc}   (i0 : Int) (hx : p.tables.exec = Jvm.exec) (hb : c.code = cJ6_bitCount_0f7a4) (hml : c.maxLocals = 1) (hown : s.vm.findClass RJ6 = some m.cls) (hts : ∀ w ∈ wsJ6_bitCount_0f7a4, w.before args s = true) (hK : va_K D vwCl (zTY κ) s) (hP : va_P D vwCl ([]) H) (ls : Array Slot) (hl : lv_has ls 1 [(0, .int (zi i0))]) (hg : Go (zQ_J6_bitCount_0f7a4 p l e s m args below meth c Q H locs) (zf_J6_bitCount_0f7a4  i0)) : W p l e zr_J6_bitCount_0f7a4 s m args below meth c H locs 0 0 Q (F0 m 0 ls []) := by
  unfold zf_J6_bitCount_0f7a4 at hg
  refine lv_iload_n hx hb dJ6_bitCount_0f7a4_0 rfl (lv_at hl 0 rfl) ?_
  refine lv_iload_n hx hb dJ6_bitCount_0f7a4_1 rfl (lv_at hl 0 rfl) ?_
  refine zv_iconst hx hb dJ6_bitCount_0f7a4_2 ?_
  refine zv_iushr hx hb dJ6_bitCount_0f7a4_3 ?_
  refine lv_ldcw (v := zi (1431655765 : Int)) hx hb hown (hts (.constant RJ6 265 (1431655765)) (List.mem_cons_of_mem _ (List.mem_of_getElem? (i := 0) rfl))) dJ6_bitCount_0f7a4_4 ?_
  refine zv_iand hx hb dJ6_bitCount_0f7a4_7 ?_
  refine zv_isub hx hb dJ6_bitCount_0f7a4_8 ?_
  refine lv_istore_n (lv' := [(0, .int (zi (i0 - (zand (zushr i0 (1 : Int)) (1431655765 : Int)))))]) hx hb dJ6_bitCount_0f7a4_9 rfl hl (by decide) rfl (fun ls hl => ?_)
  refine lv_iload_n hx hb dJ6_bitCount_0f7a4_10 rfl (lv_at hl 0 rfl) ?_
  refine lv_ldcw (v := zi (858993459 : Int)) hx hb hown (hts (.constant RJ6 266 (858993459)) (List.mem_cons_of_mem _ (List.mem_of_getElem? (i := 1) rfl))) dJ6_bitCount_0f7a4_11 ?_
  refine zv_iand hx hb dJ6_bitCount_0f7a4_14 ?_
  refine lv_iload_n hx hb dJ6_bitCount_0f7a4_15 rfl (lv_at hl 0 rfl) ?_
  refine zv_iconst hx hb dJ6_bitCount_0f7a4_16 ?_
  refine zv_iushr hx hb dJ6_bitCount_0f7a4_17 ?_
  refine lv_ldcw (v := zi (858993459 : Int)) hx hb hown (hts (.constant RJ6 266 (858993459)) (List.mem_cons_of_mem _ (List.mem_of_getElem? (i := 1) rfl))) dJ6_bitCount_0f7a4_18 ?_
  refine zv_iand hx hb dJ6_bitCount_0f7a4_21 ?_
  refine zv_iadd hx hb dJ6_bitCount_0f7a4_22 ?_
  refine lv_istore_n (lv' := [(0, .int (zi ((zand (i0 - (zand (zushr i0 (1 : Int)) (1431655765 : Int))) (858993459 : Int)) + (zand (zushr (i0 - (zand (zushr i0 (1 : Int)) (1431655765 : Int))) (2 : Int)) (858993459 : Int)))))]) hx hb dJ6_bitCount_0f7a4_23 rfl hl (by decide) rfl (fun ls hl => ?_)
  refine lv_iload_n hx hb dJ6_bitCount_0f7a4_24 rfl (lv_at hl 0 rfl) ?_
  refine lv_iload_n hx hb dJ6_bitCount_0f7a4_25 rfl (lv_at hl 0 rfl) ?_
  refine zv_iconst hx hb dJ6_bitCount_0f7a4_26 ?_
  refine zv_iushr hx hb dJ6_bitCount_0f7a4_27 ?_
  refine zv_iadd hx hb dJ6_bitCount_0f7a4_28 ?_
  refine lv_ldcw (v := zi (252645135 : Int)) hx hb hown (hts (.constant RJ6 267 (252645135)) (List.mem_cons_of_mem _ (List.mem_of_getElem? (i := 2) rfl))) dJ6_bitCount_0f7a4_29 ?_
  refine zv_iand hx hb dJ6_bitCount_0f7a4_32 ?_
  refine lv_istore_n (lv' := [(0, .int (zi (zand (((zand (i0 - (zand (zushr i0 (1 : Int)) (1431655765 : Int))) (858993459 : Int)) + (zand (zushr (i0 - (zand (zushr i0 (1 : Int)) (1431655765 : Int))) (2 : Int)) (858993459 : Int))) + (zushr ((zand (i0 - (zand (zushr i0 (1 : Int)) (1431655765 : Int))) (858993459 : Int)) + (zand (zushr (i0 - (zand (zushr i0 (1 : Int)) (1431655765 : Int))) (2 : Int)) (858993459 : Int))) (4 : Int))) (252645135 : Int))))]) hx hb dJ6_bitCount_0f7a4_33 rfl hl (by decide) rfl (fun ls hl => ?_)
  refine lv_iload_n hx hb dJ6_bitCount_0f7a4_34 rfl (lv_at hl 0 rfl) ?_
  refine lv_iload_n hx hb dJ6_bitCount_0f7a4_35 rfl (lv_at hl 0 rfl) ?_
  refine zv_bipush hx hb dJ6_bitCount_0f7a4_36 (by decide) ?_
  refine zv_iushr hx hb dJ6_bitCount_0f7a4_38 ?_
  refine zv_iadd hx hb dJ6_bitCount_0f7a4_39 ?_
  refine lv_istore_n (lv' := [(0, .int (zi ((zand (((zand (i0 - (zand (zushr i0 (1 : Int)) (1431655765 : Int))) (858993459 : Int)) + (zand (zushr (i0 - (zand (zushr i0 (1 : Int)) (1431655765 : Int))) (2 : Int)) (858993459 : Int))) + (zushr ((zand (i0 - (zand (zushr i0 (1 : Int)) (1431655765 : Int))) (858993459 : Int)) + (zand (zushr (i0 - (zand (zushr i0 (1 : Int)) (1431655765 : Int))) (2 : Int)) (858993459 : Int))) (4 : Int))) (252645135 : Int)) + (zushr (zand (((zand (i0 - (zand (zushr i0 (1 : Int)) (1431655765 : Int))) (858993459 : Int)) + (zand (zushr (i0 - (zand (zushr i0 (1 : Int)) (1431655765 : Int))) (2 : Int)) (858993459 : Int))) + (zushr ((zand (i0 - (zand (zushr i0 (1 : Int)) (1431655765 : Int))) (858993459 : Int)) + (zand (zushr (i0 - (zand (zushr i0 (1 : Int)) (1431655765 : Int))) (2 : Int)) (858993459 : Int))) (4 : Int))) (252645135 : Int)) (8 : Int)))))]) hx hb dJ6_bitCount_0f7a4_40 rfl hl (by decide) rfl (fun ls hl => ?_)
  refine lv_iload_n hx hb dJ6_bitCount_0f7a4_41 rfl (lv_at hl 0 rfl) ?_
  refine lv_iload_n hx hb dJ6_bitCount_0f7a4_42 rfl (lv_at hl 0 rfl) ?_
  refine zv_bipush hx hb dJ6_bitCount_0f7a4_43 (by decide) ?_
  refine zv_iushr hx hb dJ6_bitCount_0f7a4_45 ?_
  refine zv_iadd hx hb dJ6_bitCount_0f7a4_46 ?_
  refine lv_istore_n (lv' := [(0, .int (zi (((zand (((zand (i0 - (zand (zushr i0 (1 : Int)) (1431655765 : Int))) (858993459 : Int)) + (zand (zushr (i0 - (zand (zushr i0 (1 : Int)) (1431655765 : Int))) (2 : Int)) (858993459 : Int))) + (zushr ((zand (i0 - (zand (zushr i0 (1 : Int)) (1431655765 : Int))) (858993459 : Int)) + (zand (zushr (i0 - (zand (zushr i0 (1 : Int)) (1431655765 : Int))) (2 : Int)) (858993459 : Int))) (4 : Int))) (252645135 : Int)) + (zushr (zand (((zand (i0 - (zand (zushr i0 (1 : Int)) (1431655765 : Int))) (858993459 : Int)) + (zand (zushr (i0 - (zand (zushr i0 (1 : Int)) (1431655765 : Int))) (2 : Int)) (858993459 : Int))) + (zushr ((zand (i0 - (zand (zushr i0 (1 : Int)) (1431655765 : Int))) (858993459 : Int)) + (zand (zushr (i0 - (zand (zushr i0 (1 : Int)) (1431655765 : Int))) (2 : Int)) (858993459 : Int))) (4 : Int))) (252645135 : Int)) (8 : Int))) + (zushr ((zand (((zand (i0 - (zand (zushr i0 (1 : Int)) (1431655765 : Int))) (858993459 : Int)) + (zand (zushr (i0 - (zand (zushr i0 (1 : Int)) (1431655765 : Int))) (2 : Int)) (858993459 : Int))) + (zushr ((zand (i0 - (zand (zushr i0 (1 : Int)) (1431655765 : Int))) (858993459 : Int)) + (zand (zushr (i0 - (zand (zushr i0 (1 : Int)) (1431655765 : Int))) (2 : Int)) (858993459 : Int))) (4 : Int))) (252645135 : Int)) + (zushr (zand (((zand (i0 - (zand (zushr i0 (1 : Int)) (1431655765 : Int))) (858993459 : Int)) + (zand (zushr (i0 - (zand (zushr i0 (1 : Int)) (1431655765 : Int))) (2 : Int)) (858993459 : Int))) + (zushr ((zand (i0 - (zand (zushr i0 (1 : Int)) (1431655765 : Int))) (858993459 : Int)) + (zand (zushr (i0 - (zand (zushr i0 (1 : Int)) (1431655765 : Int))) (2 : Int)) (858993459 : Int))) (4 : Int))) (252645135 : Int)) (8 : Int))) (16 : Int)))))]) hx hb dJ6_bitCount_0f7a4_47 rfl hl (by decide) rfl (fun ls hl => ?_)
  refine lv_iload_n hx hb dJ6_bitCount_0f7a4_48 rfl (lv_at hl 0 rfl) ?_
  refine zv_bipush hx hb dJ6_bitCount_0f7a4_49 (by decide) ?_
  refine zv_iand hx hb dJ6_bitCount_0f7a4_51 ?_
  exact (Go_s hg) _ _ dJ6_bitCount_0f7a4_52
set_option maxHeartbeats 4000000 in
set_option maxRecDepth 100000 in
theorem zc_J6_bitCount_0f7a4 (l : Launch) (D : va_G) (κ : Nat → ClassId)   (i0 : Int) (out : Int) (h : zf_J6_bitCount_0f7a4  i0 = some out) : Met l yJ6_bitCount_0f7a4 wsJ6_bitCount_0f7a4 zr_J6_bitCount_0f7a4 (va_Pc [.int (zi i0)] (zR D κ ([]))) (vp_Si (fun x => x = zi out)) 0 0 (fun _ => False) := by
  refine Met.ofW (cc := cJ6_bitCount_0f7a4) (maxL := 1) (ret := (some .int)) (by decide +kernel) rfl ?_
  intro p e s m args below meth c s₁ B hml hv
  obtain ⟨rfl, hP, hK⟩ := hv
  have hx := B.exec
  have hb := B.bytes
  have hr := B.returns
  have hts := atoms_spec (ws := wsJ6_bitCount_0f7a4) B.pre
  have hown : s.vm.findClass RJ6 = some m.cls := findClass_of_methodNamed B.named
  have hlocks := B.notSynchronized
  have hl := lv_entry ([.int (zi i0)]) (n := 1) (Nat.le_of_ble_eq_true rfl)
  rw [lg_entry_eq]
  generalize (lg_sl ([.int (zi i0)]) ++ List.replicate (1 - (lg_sl ([.int (zi i0)])).length) Slot.unset).toArray = ls at hl ⊢
  have hl : lv_has ls 1 [(0, .int (zi i0))] := hl
  refine zs_J6_bitCount_0f7a4   i0 hx hb hml hown hts hK hP ls hl ⟨out, h, ?_⟩
  exact fun ls pc hd => W.iret hx hb hr (fun t ht hW => ⟨_, rfl, rfl, ht⟩) (fun _ h => by cases h) hd
/-! java/lang/Math.floorMod(II)I -/
abbrev zr_J9_floorMod_7cf53 : Room := { frames := 0, cells := 0, slots := 0, locals := 0 }
noncomputable def zf_J9_floorMod_7cf53   (i0 : Int) (i1 : Int) : Option (Int) :=
  if zout i0 then none else
  if zout i1 then none else
  if i1 = 0 then none else
  if 0 ≤ (zxor i0 i1) then
  some ((Int.tmod i0 i1))
  else
  if zout (Int.tmod i0 i1) then none else
  if (Int.tmod i0 i1) = 0 then
  some ((Int.tmod i0 i1))
  else
  some (((Int.tmod i0 i1) + i1))
def zQ_J9_floorMod_7cf53 (p : Program) (l : Launch) (e : Env) (s : State) (m : MethodId) (args : Array Value) (below : List Frame) (meth : Method) (c : Code) (Q : State → Prop) (H : Heap) (locs : List Loc)  (o : Int) : Prop := ∀ (ls : Array Slot) (pc : Nat), decode cJ9_floorMod_7cf53 pc = .ok (.ireturn, 1) → W p l e zr_J9_floorMod_7cf53 s m args below meth c H locs 0 0 Q (F0 m pc ls [.int (zi o)])
set_option maxHeartbeats 4000000 in
set_option maxRecDepth 100000 in
theorem zs_J9_floorMod_7cf53 {p : Program} {l : Launch} {e : Env} {s : State} {m : MethodId} {args : Array Value} {below : List Frame} {meth : Method} {c : Code} {Q : State → Prop} {D : va_G} {κ : Nat → ClassId} {H : Heap} {locs : List Loc}   (i0 : Int) (i1 : Int) (hx : p.tables.exec = Jvm.exec) (hb : c.code = cJ9_floorMod_7cf53) (hml : c.maxLocals = 3) (hown : s.vm.findClass RJ9 = some m.cls) (hts : ∀ w ∈ wsJ9_floorMod_7cf53, w.before args s = true) (hK : va_K D vwCl (zTY κ) s) (hP : va_P D vwCl ([]) H) (ls : Array Slot) (hl : lv_has ls 3 [(0, .int (zi i0)), (1, .int (zi i1))]) (hg : Go (zQ_J9_floorMod_7cf53 p l e s m args below meth c Q H locs) (zf_J9_floorMod_7cf53  i0 i1)) : W p l e zr_J9_floorMod_7cf53 s m args below meth c H locs 0 0 Q (F0 m 0 ls []) := by
  unfold zf_J9_floorMod_7cf53 at hg
  refine lv_iload_n hx hb dJ9_floorMod_7cf53_0 rfl (lv_at hl 0 rfl) ?_
  refine lv_iload_n hx hb dJ9_floorMod_7cf53_1 rfl (lv_at hl 1 rfl) ?_
  obtain ⟨b1, hg⟩ := Go_n hg
  obtain ⟨b2, hg⟩ := Go_n hg
  obtain ⟨n3, hg⟩ := Go_n hg
  refine zv_irem hx hb b1 b2 n3 dJ9_floorMod_7cf53_2 ?_
  refine lv_istore_n (lv' := [(2, .int (zi (Int.tmod i0 i1))), (0, .int (zi i0)), (1, .int (zi i1))]) hx hb dJ9_floorMod_7cf53_3 rfl hl (by decide) rfl (fun ls hl => ?_)
  refine lv_iload_n hx hb dJ9_floorMod_7cf53_4 rfl (lv_at hl 1 rfl) ?_
  refine lv_iload_n hx hb dJ9_floorMod_7cf53_5 rfl (lv_at hl 2 rfl) ?_
  refine zv_ixor hx hb dJ9_floorMod_7cf53_6 ?_
  refine zv_if_ge (tgt := 18) hx hb dJ9_floorMod_7cf53_7 (by decide) (zxor_in _ _) (fun c6 => ?_) (fun c6 => ?_)
  · have hg := Go_t c6 hg
    refine lv_iload_n hx hb dJ9_floorMod_7cf53_18 rfl (lv_at hl 0 rfl) ?_
    exact (Go_s hg) _ _ dJ9_floorMod_7cf53_19
  · have hg := Go_f c6 hg
    refine lv_iload_n hx hb dJ9_floorMod_7cf53_10 rfl (lv_at hl 0 rfl) ?_
    obtain ⟨b4, hg⟩ := Go_n hg
    refine zv_if_eq (tgt := 18) hx hb dJ9_floorMod_7cf53_11 (by decide) b4 (fun c5 => ?_) (fun c5 => ?_)
    · have hg := Go_t c5 hg
      refine lv_iload_n hx hb dJ9_floorMod_7cf53_18 rfl (lv_at hl 0 rfl) ?_
      exact (Go_s hg) _ _ dJ9_floorMod_7cf53_19
    · have hg := Go_f c5 hg
      refine lv_iload_n hx hb dJ9_floorMod_7cf53_14 rfl (lv_at hl 0 rfl) ?_
      refine lv_iload_n hx hb dJ9_floorMod_7cf53_15 rfl (lv_at hl 2 rfl) ?_
      refine zv_iadd hx hb dJ9_floorMod_7cf53_16 ?_
      exact (Go_s hg) _ _ dJ9_floorMod_7cf53_17
set_option maxHeartbeats 4000000 in
set_option maxRecDepth 100000 in
theorem zc_J9_floorMod_7cf53 (l : Launch) (D : va_G) (κ : Nat → ClassId)   (i0 : Int) (i1 : Int) (out : Int) (h : zf_J9_floorMod_7cf53  i0 i1 = some out) : Met l yJ9_floorMod_7cf53 wsJ9_floorMod_7cf53 zr_J9_floorMod_7cf53 (va_Pc [.int (zi i0), .int (zi i1)] (zR D κ ([]))) (vp_Si (fun x => x = zi out)) 0 0 (fun _ => False) := by
  refine zofW (cc := cJ9_floorMod_7cf53) (maxL := 3) (ret := (some .int)) (by decide +kernel) rfl ?_
  intro p e s m args below meth c s₁ B hml hv
  obtain ⟨rfl, hP, hK⟩ := hv
  have hx := B.exec
  have hb := B.bytes
  have hr := B.returns
  have hts := atoms_spec (ws := wsJ9_floorMod_7cf53) B.pre
  have hown : s.vm.findClass RJ9 = some m.cls := findClass_of_methodNamed B.named
  have hlocks := B.notSynchronized
  have hl := lv_entry ([.int (zi i0), .int (zi i1)]) (n := 3) (Nat.le_of_ble_eq_true rfl)
  rw [lg_entry_eq]
  generalize (lg_sl ([.int (zi i0), .int (zi i1)]) ++ List.replicate (3 - (lg_sl ([.int (zi i0), .int (zi i1)])).length) Slot.unset).toArray = ls at hl ⊢
  have hl : lv_has ls 3 [(0, .int (zi i0)), (1, .int (zi i1))] := hl
  refine zs_J9_floorMod_7cf53   i0 i1 hx hb hml hown hts hK hP ls hl ⟨out, h, ?_⟩
  exact fun ls pc hd => W.iret hx hb hr (fun t ht hW => ⟨_, rfl, rfl, ht⟩) (fun _ h => by cases h) hd
end

section
/-! DiamondRows$Tape.size()I -/
abbrev zr_X8_size : Room := { frames := 0, cells := 0, slots := 0, locals := 0 }
noncomputable def zf_X8_size  (t_length : Int)  : Option (Int) :=
  some (t_length)
theorem zi_X8_size_X8 : ∀ w ∈ u_ws RX8 TX8 6, w ∈ wsX8_size := fun w h => (List.mem_cons_of_mem _ (List.mem_append_right _ h))
theorem zl_X8_size_15 : Cond.fieldLink RX8 15 "DiamondRows$Tape" "length" "I" ∈ wsX8_size := (List.mem_cons_of_mem _ (List.mem_append_left _ (List.mem_of_getElem? (i := 0) rfl)))
def zQ_X8_size (p : Program) (l : Launch) (e : Env) (s : State) (m : MethodId) (args : Array Value) (below : List Frame) (meth : Method) (c : Code) (Q : State → Prop) (H : Heap) (locs : List Loc)  (o : Int) : Prop := ∀ (ls : Array Slot) (pc : Nat), decode cX8_size pc = .ok (.ireturn, 1) → W p l e zr_X8_size s m args below meth c H locs 0 0 Q (F0 m pc ls [.int (zi o)])
set_option maxHeartbeats 4000000 in
set_option maxRecDepth 100000 in
theorem zs_X8_size {p : Program} {l : Launch} {e : Env} {s : State} {m : MethodId} {args : Array Value} {below : List Frame} {meth : Method} {c : Code} {Q : State → Prop} {D : va_G} {κ : Nat → ClassId} {H : Heap} {locs : List Loc} (t : Nat → Nat) (t_length : Int) (t_next : Int) (t_kind : Int) (t_place : Int) (t_value : Int) (t_bytes : Nat)  (hx : p.tables.exec = Jvm.exec) (hb : c.code = cX8_size) (hml : c.maxLocals = 1) (hown : s.vm.findClass RX8 = some m.cls) (hts : ∀ w ∈ wsX8_size, w.before args s = true) (hK : va_K D vwCl (zTY κ) s) (hP : va_P D vwCl ([((t 0), .inr (8, [.ref (t 1), .int (zi t_length), .int (zi t_next), .int (zi t_kind), .int (zi t_place), .int (zi t_value)])), ((t 1), .inl (κ 0, 300, .inl (zc t_bytes)))]) H) (ls : Array Slot) (hl : lv_has ls 1 [(0, .ref (t 0))]) (hg : Go (zQ_X8_size p l e s m args below meth c Q H locs) (zf_X8_size t_length )) : W p l e zr_X8_size s m args below meth c H locs 0 0 Q (F0 m 0 ls []) := by
  unfold zf_X8_size at hg
  refine lv_aload_n hx hb dX8_size_0 rfl (lv_at hl 0 rfl) ?_
  refine va_get (D := D) (ci := 8) (v := .int (zi t_length)) (C := RX8) (T := TX8) (N := 6) hx hb hts zi_X8_size_X8 hown hK hP 0 rfl rfl 1 (by decide) (hts (.fieldLink RX8 15 "DiamondRows$Tape" "length" "I") zl_X8_size_15) (fun _ h9 => h9) rfl dX8_size_1 ?_
  exact (Go_s hg) _ _ dX8_size_4
set_option maxHeartbeats 4000000 in
set_option maxRecDepth 100000 in
theorem zc_X8_size (l : Launch) (D : va_G) (κ : Nat → ClassId) (t : Nat → Nat) (t_length : Int) (t_next : Int) (t_kind : Int) (t_place : Int) (t_value : Int) (t_bytes : Nat)  (out : Int) (h : zf_X8_size t_length  = some out) : Met l yX8_size wsX8_size zr_X8_size (va_Pc [.ref (t 0)] (zR D κ ([((t 0), .inr (8, [.ref (t 1), .int (zi t_length), .int (zi t_next), .int (zi t_kind), .int (zi t_place), .int (zi t_value)])), ((t 1), .inl (κ 0, 300, .inl (zc t_bytes)))]))) (vp_Si (fun x => x = zi out)) 0 0 (fun _ => False) := by
  refine Met.ofW (cc := cX8_size) (maxL := 1) (ret := (some .int)) (by decide +kernel) rfl ?_
  intro p e s m args below meth c s₁ B hml hv
  obtain ⟨rfl, hP, hK⟩ := hv
  have hx := B.exec
  have hb := B.bytes
  have hr := B.returns
  have hts := atoms_spec (ws := wsX8_size) B.pre
  have hown : s.vm.findClass RX8 = some m.cls := findClass_of_methodNamed B.named
  have hlocks := B.notSynchronized
  have hl := lv_entry ([.ref (t 0)]) (n := 1) (Nat.le_of_ble_eq_true rfl)
  rw [lg_entry_eq]
  generalize (lg_sl ([.ref (t 0)]) ++ List.replicate (1 - (lg_sl ([.ref (t 0)])).length) Slot.unset).toArray = ls at hl ⊢
  have hl : lv_has ls 1 [(0, .ref (t 0))] := hl
  refine zs_X8_size t t_length t_next t_kind t_place t_value t_bytes  hx hb hml hown hts hK hP ls hl ⟨out, h, ?_⟩
  exact fun ls pc hd => W.iret hx hb hr (fun t ht hW => ⟨_, rfl, rfl, ht⟩) (fun _ h => by cases h) hd
/-! DiamondRows$Tape.kind()I -/
abbrev zr_X8_kind : Room := { frames := 0, cells := 0, slots := 0, locals := 0 }
noncomputable def zf_X8_kind  (t_kind : Int)  : Option (Int) :=
  some (t_kind)
theorem zi_X8_kind_X8 : ∀ w ∈ u_ws RX8 TX8 6, w ∈ wsX8_kind := fun w h => (List.mem_cons_of_mem _ (List.mem_append_right _ h))
theorem zl_X8_kind_19 : Cond.fieldLink RX8 19 "DiamondRows$Tape" "kind" "I" ∈ wsX8_kind := (List.mem_cons_of_mem _ (List.mem_append_left _ (List.mem_of_getElem? (i := 0) rfl)))
def zQ_X8_kind (p : Program) (l : Launch) (e : Env) (s : State) (m : MethodId) (args : Array Value) (below : List Frame) (meth : Method) (c : Code) (Q : State → Prop) (H : Heap) (locs : List Loc)  (o : Int) : Prop := ∀ (ls : Array Slot) (pc : Nat), decode cX8_kind pc = .ok (.ireturn, 1) → W p l e zr_X8_kind s m args below meth c H locs 0 0 Q (F0 m pc ls [.int (zi o)])
set_option maxHeartbeats 4000000 in
set_option maxRecDepth 100000 in
theorem zs_X8_kind {p : Program} {l : Launch} {e : Env} {s : State} {m : MethodId} {args : Array Value} {below : List Frame} {meth : Method} {c : Code} {Q : State → Prop} {D : va_G} {κ : Nat → ClassId} {H : Heap} {locs : List Loc} (t : Nat → Nat) (t_length : Int) (t_next : Int) (t_kind : Int) (t_place : Int) (t_value : Int) (t_bytes : Nat)  (hx : p.tables.exec = Jvm.exec) (hb : c.code = cX8_kind) (hml : c.maxLocals = 1) (hown : s.vm.findClass RX8 = some m.cls) (hts : ∀ w ∈ wsX8_kind, w.before args s = true) (hK : va_K D vwCl (zTY κ) s) (hP : va_P D vwCl ([((t 0), .inr (8, [.ref (t 1), .int (zi t_length), .int (zi t_next), .int (zi t_kind), .int (zi t_place), .int (zi t_value)])), ((t 1), .inl (κ 0, 300, .inl (zc t_bytes)))]) H) (ls : Array Slot) (hl : lv_has ls 1 [(0, .ref (t 0))]) (hg : Go (zQ_X8_kind p l e s m args below meth c Q H locs) (zf_X8_kind t_kind )) : W p l e zr_X8_kind s m args below meth c H locs 0 0 Q (F0 m 0 ls []) := by
  unfold zf_X8_kind at hg
  refine lv_aload_n hx hb dX8_kind_0 rfl (lv_at hl 0 rfl) ?_
  refine va_get (D := D) (ci := 8) (v := .int (zi t_kind)) (C := RX8) (T := TX8) (N := 6) hx hb hts zi_X8_kind_X8 hown hK hP 0 rfl rfl 3 (by decide) (hts (.fieldLink RX8 19 "DiamondRows$Tape" "kind" "I") zl_X8_kind_19) (fun _ h9 => h9) rfl dX8_kind_1 ?_
  exact (Go_s hg) _ _ dX8_kind_4
set_option maxHeartbeats 4000000 in
set_option maxRecDepth 100000 in
theorem zc_X8_kind (l : Launch) (D : va_G) (κ : Nat → ClassId) (t : Nat → Nat) (t_length : Int) (t_next : Int) (t_kind : Int) (t_place : Int) (t_value : Int) (t_bytes : Nat)  (out : Int) (h : zf_X8_kind t_kind  = some out) : Met l yX8_kind wsX8_kind zr_X8_kind (va_Pc [.ref (t 0)] (zR D κ ([((t 0), .inr (8, [.ref (t 1), .int (zi t_length), .int (zi t_next), .int (zi t_kind), .int (zi t_place), .int (zi t_value)])), ((t 1), .inl (κ 0, 300, .inl (zc t_bytes)))]))) (vp_Si (fun x => x = zi out)) 0 0 (fun _ => False) := by
  refine Met.ofW (cc := cX8_kind) (maxL := 1) (ret := (some .int)) (by decide +kernel) rfl ?_
  intro p e s m args below meth c s₁ B hml hv
  obtain ⟨rfl, hP, hK⟩ := hv
  have hx := B.exec
  have hb := B.bytes
  have hr := B.returns
  have hts := atoms_spec (ws := wsX8_kind) B.pre
  have hown : s.vm.findClass RX8 = some m.cls := findClass_of_methodNamed B.named
  have hlocks := B.notSynchronized
  have hl := lv_entry ([.ref (t 0)]) (n := 1) (Nat.le_of_ble_eq_true rfl)
  rw [lg_entry_eq]
  generalize (lg_sl ([.ref (t 0)]) ++ List.replicate (1 - (lg_sl ([.ref (t 0)])).length) Slot.unset).toArray = ls at hl ⊢
  have hl : lv_has ls 1 [(0, .ref (t 0))] := hl
  refine zs_X8_kind t t_length t_next t_kind t_place t_value t_bytes  hx hb hml hown hts hK hP ls hl ⟨out, h, ?_⟩
  exact fun ls pc hd => W.iret hx hb hr (fun t ht hW => ⟨_, rfl, rfl, ht⟩) (fun _ h => by cases h) hd
/-! DiamondRows$Tape.place()I -/
abbrev zr_X8_place : Room := { frames := 0, cells := 0, slots := 0, locals := 0 }
noncomputable def zf_X8_place  (t_place : Int)  : Option (Int) :=
  some (t_place)
theorem zi_X8_place_X8 : ∀ w ∈ u_ws RX8 TX8 6, w ∈ wsX8_place := fun w h => (List.mem_cons_of_mem _ (List.mem_append_right _ h))
theorem zl_X8_place_22 : Cond.fieldLink RX8 22 "DiamondRows$Tape" "place" "I" ∈ wsX8_place := (List.mem_cons_of_mem _ (List.mem_append_left _ (List.mem_of_getElem? (i := 0) rfl)))
def zQ_X8_place (p : Program) (l : Launch) (e : Env) (s : State) (m : MethodId) (args : Array Value) (below : List Frame) (meth : Method) (c : Code) (Q : State → Prop) (H : Heap) (locs : List Loc)  (o : Int) : Prop := ∀ (ls : Array Slot) (pc : Nat), decode cX8_place pc = .ok (.ireturn, 1) → W p l e zr_X8_place s m args below meth c H locs 0 0 Q (F0 m pc ls [.int (zi o)])
set_option maxHeartbeats 4000000 in
set_option maxRecDepth 100000 in
theorem zs_X8_place {p : Program} {l : Launch} {e : Env} {s : State} {m : MethodId} {args : Array Value} {below : List Frame} {meth : Method} {c : Code} {Q : State → Prop} {D : va_G} {κ : Nat → ClassId} {H : Heap} {locs : List Loc} (t : Nat → Nat) (t_length : Int) (t_next : Int) (t_kind : Int) (t_place : Int) (t_value : Int) (t_bytes : Nat)  (hx : p.tables.exec = Jvm.exec) (hb : c.code = cX8_place) (hml : c.maxLocals = 1) (hown : s.vm.findClass RX8 = some m.cls) (hts : ∀ w ∈ wsX8_place, w.before args s = true) (hK : va_K D vwCl (zTY κ) s) (hP : va_P D vwCl ([((t 0), .inr (8, [.ref (t 1), .int (zi t_length), .int (zi t_next), .int (zi t_kind), .int (zi t_place), .int (zi t_value)])), ((t 1), .inl (κ 0, 300, .inl (zc t_bytes)))]) H) (ls : Array Slot) (hl : lv_has ls 1 [(0, .ref (t 0))]) (hg : Go (zQ_X8_place p l e s m args below meth c Q H locs) (zf_X8_place t_place )) : W p l e zr_X8_place s m args below meth c H locs 0 0 Q (F0 m 0 ls []) := by
  unfold zf_X8_place at hg
  refine lv_aload_n hx hb dX8_place_0 rfl (lv_at hl 0 rfl) ?_
  refine va_get (D := D) (ci := 8) (v := .int (zi t_place)) (C := RX8) (T := TX8) (N := 6) hx hb hts zi_X8_place_X8 hown hK hP 0 rfl rfl 4 (by decide) (hts (.fieldLink RX8 22 "DiamondRows$Tape" "place" "I") zl_X8_place_22) (fun _ h9 => h9) rfl dX8_place_1 ?_
  exact (Go_s hg) _ _ dX8_place_4
set_option maxHeartbeats 4000000 in
set_option maxRecDepth 100000 in
theorem zc_X8_place (l : Launch) (D : va_G) (κ : Nat → ClassId) (t : Nat → Nat) (t_length : Int) (t_next : Int) (t_kind : Int) (t_place : Int) (t_value : Int) (t_bytes : Nat)  (out : Int) (h : zf_X8_place t_place  = some out) : Met l yX8_place wsX8_place zr_X8_place (va_Pc [.ref (t 0)] (zR D κ ([((t 0), .inr (8, [.ref (t 1), .int (zi t_length), .int (zi t_next), .int (zi t_kind), .int (zi t_place), .int (zi t_value)])), ((t 1), .inl (κ 0, 300, .inl (zc t_bytes)))]))) (vp_Si (fun x => x = zi out)) 0 0 (fun _ => False) := by
  refine Met.ofW (cc := cX8_place) (maxL := 1) (ret := (some .int)) (by decide +kernel) rfl ?_
  intro p e s m args below meth c s₁ B hml hv
  obtain ⟨rfl, hP, hK⟩ := hv
  have hx := B.exec
  have hb := B.bytes
  have hr := B.returns
  have hts := atoms_spec (ws := wsX8_place) B.pre
  have hown : s.vm.findClass RX8 = some m.cls := findClass_of_methodNamed B.named
  have hlocks := B.notSynchronized
  have hl := lv_entry ([.ref (t 0)]) (n := 1) (Nat.le_of_ble_eq_true rfl)
  rw [lg_entry_eq]
  generalize (lg_sl ([.ref (t 0)]) ++ List.replicate (1 - (lg_sl ([.ref (t 0)])).length) Slot.unset).toArray = ls at hl ⊢
  have hl : lv_has ls 1 [(0, .ref (t 0))] := hl
  refine zs_X8_place t t_length t_next t_kind t_place t_value t_bytes  hx hb hml hown hts hK hP ls hl ⟨out, h, ?_⟩
  exact fun ls pc hd => W.iret hx hb hr (fun t ht hW => ⟨_, rfl, rfl, ht⟩) (fun _ h => by cases h) hd
/-! DiamondRows$Tape.value()I -/
abbrev zr_X8_value : Room := { frames := 0, cells := 0, slots := 0, locals := 0 }
noncomputable def zf_X8_value  (t_value : Int)  : Option (Int) :=
  some (t_value)
theorem zi_X8_value_X8 : ∀ w ∈ u_ws RX8 TX8 6, w ∈ wsX8_value := fun w h => (List.mem_cons_of_mem _ (List.mem_append_right _ h))
theorem zl_X8_value_25 : Cond.fieldLink RX8 25 "DiamondRows$Tape" "value" "I" ∈ wsX8_value := (List.mem_cons_of_mem _ (List.mem_append_left _ (List.mem_of_getElem? (i := 0) rfl)))
def zQ_X8_value (p : Program) (l : Launch) (e : Env) (s : State) (m : MethodId) (args : Array Value) (below : List Frame) (meth : Method) (c : Code) (Q : State → Prop) (H : Heap) (locs : List Loc)  (o : Int) : Prop := ∀ (ls : Array Slot) (pc : Nat), decode cX8_value pc = .ok (.ireturn, 1) → W p l e zr_X8_value s m args below meth c H locs 0 0 Q (F0 m pc ls [.int (zi o)])
set_option maxHeartbeats 4000000 in
set_option maxRecDepth 100000 in
theorem zs_X8_value {p : Program} {l : Launch} {e : Env} {s : State} {m : MethodId} {args : Array Value} {below : List Frame} {meth : Method} {c : Code} {Q : State → Prop} {D : va_G} {κ : Nat → ClassId} {H : Heap} {locs : List Loc} (t : Nat → Nat) (t_length : Int) (t_next : Int) (t_kind : Int) (t_place : Int) (t_value : Int) (t_bytes : Nat)  (hx : p.tables.exec = Jvm.exec) (hb : c.code = cX8_value) (hml : c.maxLocals = 1) (hown : s.vm.findClass RX8 = some m.cls) (hts : ∀ w ∈ wsX8_value, w.before args s = true) (hK : va_K D vwCl (zTY κ) s) (hP : va_P D vwCl ([((t 0), .inr (8, [.ref (t 1), .int (zi t_length), .int (zi t_next), .int (zi t_kind), .int (zi t_place), .int (zi t_value)])), ((t 1), .inl (κ 0, 300, .inl (zc t_bytes)))]) H) (ls : Array Slot) (hl : lv_has ls 1 [(0, .ref (t 0))]) (hg : Go (zQ_X8_value p l e s m args below meth c Q H locs) (zf_X8_value t_value )) : W p l e zr_X8_value s m args below meth c H locs 0 0 Q (F0 m 0 ls []) := by
  unfold zf_X8_value at hg
  refine lv_aload_n hx hb dX8_value_0 rfl (lv_at hl 0 rfl) ?_
  refine va_get (D := D) (ci := 8) (v := .int (zi t_value)) (C := RX8) (T := TX8) (N := 6) hx hb hts zi_X8_value_X8 hown hK hP 0 rfl rfl 5 (by decide) (hts (.fieldLink RX8 25 "DiamondRows$Tape" "value" "I") zl_X8_value_25) (fun _ h9 => h9) rfl dX8_value_1 ?_
  exact (Go_s hg) _ _ dX8_value_4
set_option maxHeartbeats 4000000 in
set_option maxRecDepth 100000 in
theorem zc_X8_value (l : Launch) (D : va_G) (κ : Nat → ClassId) (t : Nat → Nat) (t_length : Int) (t_next : Int) (t_kind : Int) (t_place : Int) (t_value : Int) (t_bytes : Nat)  (out : Int) (h : zf_X8_value t_value  = some out) : Met l yX8_value wsX8_value zr_X8_value (va_Pc [.ref (t 0)] (zR D κ ([((t 0), .inr (8, [.ref (t 1), .int (zi t_length), .int (zi t_next), .int (zi t_kind), .int (zi t_place), .int (zi t_value)])), ((t 1), .inl (κ 0, 300, .inl (zc t_bytes)))]))) (vp_Si (fun x => x = zi out)) 0 0 (fun _ => False) := by
  refine Met.ofW (cc := cX8_value) (maxL := 1) (ret := (some .int)) (by decide +kernel) rfl ?_
  intro p e s m args below meth c s₁ B hml hv
  obtain ⟨rfl, hP, hK⟩ := hv
  have hx := B.exec
  have hb := B.bytes
  have hr := B.returns
  have hts := atoms_spec (ws := wsX8_value) B.pre
  have hown : s.vm.findClass RX8 = some m.cls := findClass_of_methodNamed B.named
  have hlocks := B.notSynchronized
  have hl := lv_entry ([.ref (t 0)]) (n := 1) (Nat.le_of_ble_eq_true rfl)
  rw [lg_entry_eq]
  generalize (lg_sl ([.ref (t 0)]) ++ List.replicate (1 - (lg_sl ([.ref (t 0)])).length) Slot.unset).toArray = ls at hl ⊢
  have hl : lv_has ls 1 [(0, .ref (t 0))] := hl
  refine zs_X8_value t t_length t_next t_kind t_place t_value t_bytes  hx hb hml hown hts hK hP ls hl ⟨out, h, ?_⟩
  exact fun ls pc hd => W.iret hx hb hr (fun t ht hW => ⟨_, rfl, rfl, ht⟩) (fun _ h => by cases h) hd
/-! DiamondRows$Tape.hasRoomForTwenty()Z -/
abbrev zr_X8_hasRoomForTwenty : Room := { frames := 0, cells := 0, slots := 0, locals := 0 }
noncomputable def zf_X8_hasRoomForTwenty  (t_length : Int)  : Option (Bool) :=
  if zout (t_length + (20 : Int)) then none else
  if (300 : Int) < (t_length + (20 : Int)) then
  some (false)
  else
  some (true)
theorem zi_X8_hasRoomForTwenty_X8 : ∀ w ∈ u_ws RX8 TX8 6, w ∈ wsX8_hasRoomForTwenty := fun w h => (List.mem_cons_of_mem _ (List.mem_append_right _ h))
theorem zl_X8_hasRoomForTwenty_15 : Cond.fieldLink RX8 15 "DiamondRows$Tape" "length" "I" ∈ wsX8_hasRoomForTwenty := (List.mem_cons_of_mem _ (List.mem_append_left _ (List.mem_of_getElem? (i := 0) rfl)))
def zQ_X8_hasRoomForTwenty (p : Program) (l : Launch) (e : Env) (s : State) (m : MethodId) (args : Array Value) (below : List Frame) (meth : Method) (c : Code) (Q : State → Prop) (H : Heap) (locs : List Loc)  (o : Bool) : Prop := ∀ (ls : Array Slot) (pc : Nat), decode cX8_hasRoomForTwenty pc = .ok (.ireturn, 1) → W p l e zr_X8_hasRoomForTwenty s m args below meth c H locs 0 0 Q (F0 m pc ls [.int (zi (bI o))])
set_option maxHeartbeats 4000000 in
set_option maxRecDepth 100000 in
theorem zs_X8_hasRoomForTwenty {p : Program} {l : Launch} {e : Env} {s : State} {m : MethodId} {args : Array Value} {below : List Frame} {meth : Method} {c : Code} {Q : State → Prop} {D : va_G} {κ : Nat → ClassId} {H : Heap} {locs : List Loc} (t : Nat → Nat) (t_length : Int) (t_next : Int) (t_kind : Int) (t_place : Int) (t_value : Int) (t_bytes : Nat)  (hx : p.tables.exec = Jvm.exec) (hb : c.code = cX8_hasRoomForTwenty) (hml : c.maxLocals = 1) (hown : s.vm.findClass RX8 = some m.cls) (hts : ∀ w ∈ wsX8_hasRoomForTwenty, w.before args s = true) (hK : va_K D vwCl (zTY κ) s) (hP : va_P D vwCl ([((t 0), .inr (8, [.ref (t 1), .int (zi t_length), .int (zi t_next), .int (zi t_kind), .int (zi t_place), .int (zi t_value)])), ((t 1), .inl (κ 0, 300, .inl (zc t_bytes)))]) H) (ls : Array Slot) (hl : lv_has ls 1 [(0, .ref (t 0))]) (hg : Go (zQ_X8_hasRoomForTwenty p l e s m args below meth c Q H locs) (zf_X8_hasRoomForTwenty t_length )) : W p l e zr_X8_hasRoomForTwenty s m args below meth c H locs 0 0 Q (F0 m 0 ls []) := by
  unfold zf_X8_hasRoomForTwenty at hg
  refine lv_aload_n hx hb dX8_hasRoomForTwenty_0 rfl (lv_at hl 0 rfl) ?_
  refine va_get (D := D) (ci := 8) (v := .int (zi t_length)) (C := RX8) (T := TX8) (N := 6) hx hb hts zi_X8_hasRoomForTwenty_X8 hown hK hP 0 rfl rfl 1 (by decide) (hts (.fieldLink RX8 15 "DiamondRows$Tape" "length" "I") zl_X8_hasRoomForTwenty_15) (fun _ h9 => h9) rfl dX8_hasRoomForTwenty_1 ?_
  refine zv_bipush hx hb dX8_hasRoomForTwenty_4 (by decide) ?_
  refine zv_iadd hx hb dX8_hasRoomForTwenty_6 ?_
  refine zv_sipush hx hb dX8_hasRoomForTwenty_7 (by decide) ?_
  obtain ⟨b1, hg⟩ := Go_n hg
  refine zv_icmp_gt (tgt := 17) hx hb dX8_hasRoomForTwenty_10 (by decide) b1 (by decide) (fun c2 => ?_) (fun c2 => ?_)
  · have hg := Go_t c2 hg
    refine zv_iconst hx hb dX8_hasRoomForTwenty_17 ?_
    exact (Go_s hg) _ _ dX8_hasRoomForTwenty_18
  · have hg := Go_f c2 hg
    refine zv_iconst hx hb dX8_hasRoomForTwenty_13 ?_
    refine lv_goto (tgt := 18) hx hb dX8_hasRoomForTwenty_14 (by decide) ?_
    exact (Go_s hg) _ _ dX8_hasRoomForTwenty_18
set_option maxHeartbeats 4000000 in
set_option maxRecDepth 100000 in
theorem zc_X8_hasRoomForTwenty (l : Launch) (D : va_G) (κ : Nat → ClassId) (t : Nat → Nat) (t_length : Int) (t_next : Int) (t_kind : Int) (t_place : Int) (t_value : Int) (t_bytes : Nat)  (out : Bool) (h : zf_X8_hasRoomForTwenty t_length  = some out) : Met l yX8_hasRoomForTwenty wsX8_hasRoomForTwenty zr_X8_hasRoomForTwenty (va_Pc [.ref (t 0)] (zR D κ ([((t 0), .inr (8, [.ref (t 1), .int (zi t_length), .int (zi t_next), .int (zi t_kind), .int (zi t_place), .int (zi t_value)])), ((t 1), .inl (κ 0, 300, .inl (zc t_bytes)))]))) (vp_Si (fun x => x = zi (bI out))) 0 0 (fun _ => False) := by
  refine Met.ofW (cc := cX8_hasRoomForTwenty) (maxL := 1) (ret := (some .boolean)) (by decide +kernel) rfl ?_
  intro p e s m args below meth c s₁ B hml hv
  obtain ⟨rfl, hP, hK⟩ := hv
  have hx := B.exec
  have hb := B.bytes
  have hr := B.returns
  have hts := atoms_spec (ws := wsX8_hasRoomForTwenty) B.pre
  have hown : s.vm.findClass RX8 = some m.cls := findClass_of_methodNamed B.named
  have hlocks := B.notSynchronized
  have hl := lv_entry ([.ref (t 0)]) (n := 1) (Nat.le_of_ble_eq_true rfl)
  rw [lg_entry_eq]
  generalize (lg_sl ([.ref (t 0)]) ++ List.replicate (1 - (lg_sl ([.ref (t 0)])).length) Slot.unset).toArray = ls at hl ⊢
  have hl : lv_has ls 1 [(0, .ref (t 0))] := hl
  refine zs_X8_hasRoomForTwenty t t_length t_next t_kind t_place t_value t_bytes  hx hb hml hown hts hK hP ls hl ⟨out, h, ?_⟩
  exact fun ls pc hd => W.zret hx hb hr (bI_nar _) (fun t ht hW => ⟨_, rfl, rfl, ht⟩) (fun _ h => by cases h) hd
/-! DiamondRows$Tape.append(I)V -/
abbrev zr_X8_append : Room := { frames := 0, cells := 0, slots := 0, locals := 0 }
abbrev zS_X8_append : Type := Nat × Int × Int × Int × Nat
abbrev zO_X8_append : Type := Int × Nat
noncomputable def zg_X8_append_0   (i1 : Int) (i2 : Int) (t_length : Int) (t_bytes : Nat) : Option (zO_X8_append ⊕ zS_X8_append) :=
  some (.inr (3, i1, (24 : Int), t_length, t_bytes))
noncomputable def zg_X8_append_3   (i1 : Int) (i2 : Int) (t_length : Int) (t_bytes : Nat) : Option (zO_X8_append ⊕ zS_X8_append) :=
  if zout i2 then none else
  if i2 < 0 then
  some (.inl (t_length, t_bytes))
  else
  if zout t_length then none else
  if (300 : Int) ≤ t_length then
  some (.inl (t_length, t_bytes))
  else
  if t_length < 0 ∨ 300 ≤ t_length then none else
  some (.inr (3, i1, (i2 + (-8 : Int)), (t_length + (1 : Int)), (zset t_bytes (Int.toNat t_length) (zb (zb (zshr i1 i2))))))
noncomputable def zg_X8_append   (st : zS_X8_append) : Option (zO_X8_append ⊕ zS_X8_append) := match st with
  | (lab, i1, i2, t_length, t_bytes) => if lab = 0 then zg_X8_append_0  i1 i2 t_length t_bytes else if lab = 3 then zg_X8_append_3  i1 i2 t_length t_bytes else none
noncomputable def zf_X8_append  (t_length : Int) (t_bytes : Nat) (i1 : Int) : Option (Int × Nat) := jrun (zg_X8_append ) jfuel (0, i1, 0, t_length, t_bytes)
theorem zi_X8_append_X8 : ∀ w ∈ u_ws RX8 TX8 6, w ∈ wsX8_append := fun w h => (List.mem_cons_of_mem _ (List.mem_append_right _ h))
theorem zl_X8_append_11 : Cond.fieldLink RX8 11 "DiamondRows$Tape" "bytes" "[B" ∈ wsX8_append := (List.mem_cons_of_mem _ (List.mem_append_left _ (List.mem_of_getElem? (i := 1) rfl)))
theorem zl_X8_append_15 : Cond.fieldLink RX8 15 "DiamondRows$Tape" "length" "I" ∈ wsX8_append := (List.mem_cons_of_mem _ (List.mem_append_left _ (List.mem_of_getElem? (i := 0) rfl)))
def zQ_X8_append (p : Program) (l : Launch) (e : Env) (s : State) (m : MethodId) (args : Array Value) (below : List Frame) (meth : Method) (c : Code) (Q : State → Prop) (D : va_G) (κ : Nat → ClassId) (A : Nat → Prop) (H0 : Heap) (t : Nat → Nat) (t_next : Int) (t_kind : Int) (t_place : Int) (t_value : Int) (o : Int × Nat) : Prop := ∀ (H : Heap) (locs : List Loc) (ls : Array Slot) (pc : Nat), va_P D vwCl ([((t 0), .inr (8, [.ref (t 1), .int (zi (o.1)), .int (zi t_next), .int (zi t_kind), .int (zi t_place), .int (zi t_value)])), ((t 1), .inl (κ 0, 300, .inl (zc (o.2))))]) H → va_D A ([((t 0), .inr (8, [.ref (t 1), .int (zi (o.1)), .int (zi t_next), .int (zi t_kind), .int (zi t_place), .int (zi t_value)])), ((t 1), .inl (κ 0, 300, .inl (zc (o.2))))]) → va_S A H0 H locs → decode cX8_append pc = .ok (.return_, 1) → W p l e zr_X8_append s m args below meth c H locs 0 0 Q (F0 m pc ls [])
def zA_X8_append_0 (p : Program) (l : Launch) (e : Env) (s : State) (m : MethodId) (args : Array Value) (below : List Frame) (meth : Method) (c : Code) (Q : State → Prop) (D : va_G) (κ : Nat → ClassId) (A : Nat → Prop) (H0 : Heap) (t : Nat → Nat) (t_next : Int) (t_kind : Int) (t_place : Int) (t_value : Int) (i1 : Int) (i2 : Int) (t_length : Int) (t_bytes : Nat) : Prop := ∀ (H : Heap) (locs : List Loc) (ls : Array Slot), va_P D vwCl ([((t 0), .inr (8, [.ref (t 1), .int (zi t_length), .int (zi t_next), .int (zi t_kind), .int (zi t_place), .int (zi t_value)])), ((t 1), .inl (κ 0, 300, .inl (zc t_bytes)))]) H → va_D A ([((t 0), .inr (8, [.ref (t 1), .int (zi t_length), .int (zi t_next), .int (zi t_kind), .int (zi t_place), .int (zi t_value)])), ((t 1), .inl (κ 0, 300, .inl (zc t_bytes)))]) → va_S A H0 H locs → lv_has ls 3 [(0, .ref (t 0)), (1, .int (zi i1))] → W p l e zr_X8_append s m args below meth c H locs 0 0 Q (F0 m 0 ls [])
def zA_X8_append_3 (p : Program) (l : Launch) (e : Env) (s : State) (m : MethodId) (args : Array Value) (below : List Frame) (meth : Method) (c : Code) (Q : State → Prop) (D : va_G) (κ : Nat → ClassId) (A : Nat → Prop) (H0 : Heap) (t : Nat → Nat) (t_next : Int) (t_kind : Int) (t_place : Int) (t_value : Int) (i1 : Int) (i2 : Int) (t_length : Int) (t_bytes : Nat) : Prop := ∀ (H : Heap) (locs : List Loc) (ls : Array Slot), va_P D vwCl ([((t 0), .inr (8, [.ref (t 1), .int (zi t_length), .int (zi t_next), .int (zi t_kind), .int (zi t_place), .int (zi t_value)])), ((t 1), .inl (κ 0, 300, .inl (zc t_bytes)))]) H → va_D A ([((t 0), .inr (8, [.ref (t 1), .int (zi t_length), .int (zi t_next), .int (zi t_kind), .int (zi t_place), .int (zi t_value)])), ((t 1), .inl (κ 0, 300, .inl (zc t_bytes)))]) → va_S A H0 H locs → lv_has ls 3 [(0, .ref (t 0)), (1, .int (zi i1)), (2, .int (zi i2))] → W p l e zr_X8_append s m args below meth c H locs 0 0 Q (F0 m 3 ls [])
def zA_X8_append (p : Program) (l : Launch) (e : Env) (s : State) (m : MethodId) (args : Array Value) (below : List Frame) (meth : Method) (c : Code) (Q : State → Prop) (D : va_G) (κ : Nat → ClassId) (A : Nat → Prop) (H0 : Heap) (t : Nat → Nat) (t_next : Int) (t_kind : Int) (t_place : Int) (t_value : Int) (st : zS_X8_append) : Prop := match st with
  | (lab, i1, i2, t_length, t_bytes) => if lab = 0 then zA_X8_append_0 p l e s m args below meth c Q D κ A H0 t t_next t_kind t_place t_value i1 i2 t_length t_bytes else if lab = 3 then zA_X8_append_3 p l e s m args below meth c Q D κ A H0 t t_next t_kind t_place t_value i1 i2 t_length t_bytes else True
set_option maxHeartbeats 4000000 in
set_option maxRecDepth 100000 in
theorem zs_X8_append_0 {p : Program} {l : Launch} {e : Env} {s : State} {m : MethodId} {args : Array Value} {below : List Frame} {meth : Method} {c : Code} {Q : State → Prop} {D : va_G} {κ : Nat → ClassId} {A : Nat → Prop} {H0 : Heap} (t : Nat → Nat) (t_next : Int) (t_kind : Int) (t_place : Int) (t_value : Int) (hx : p.tables.exec = Jvm.exec) (hb : c.code = cX8_append) (hml : c.maxLocals = 3) (hown : s.vm.findClass RX8 = some m.cls) (hts : ∀ w ∈ wsX8_append, w.before args s = true) (hK : va_K D vwCl (zTY κ) s) (hA : ∀ q : Nat, H0.size ≤ q → A q) (i1 : Int) (i2 : Int) (t_length : Int) (t_bytes : Nat) (hg : Go (GoE (zA_X8_append p l e s m args below meth c Q D κ A H0 t t_next t_kind t_place t_value) (zQ_X8_append p l e s m args below meth c Q D κ A H0 t t_next t_kind t_place t_value)) (zg_X8_append_0  i1 i2 t_length t_bytes)) : zA_X8_append_0 p l e s m args below meth c Q D κ A H0 t t_next t_kind t_place t_value i1 i2 t_length t_bytes := by
  intro H locs ls hP hD hS hl
  unfold zg_X8_append_0 at hg
  refine zv_bipush hx hb dX8_append_0 (by decide) ?_
  refine lv_istore_n (lv' := [(2, .int (zi (24 : Int))), (0, .ref (t 0)), (1, .int (zi i1))]) hx hb dX8_append_2 rfl hl (by decide) rfl (fun ls hl => ?_)
  exact (Go_s hg) H locs ls hP hD hS (lv_sub hl [1, 2, 0] rfl)
set_option maxHeartbeats 4000000 in
set_option maxRecDepth 100000 in
theorem zs_X8_append_3 {p : Program} {l : Launch} {e : Env} {s : State} {m : MethodId} {args : Array Value} {below : List Frame} {meth : Method} {c : Code} {Q : State → Prop} {D : va_G} {κ : Nat → ClassId} {A : Nat → Prop} {H0 : Heap} (t : Nat → Nat) (t_next : Int) (t_kind : Int) (t_place : Int) (t_value : Int) (hx : p.tables.exec = Jvm.exec) (hb : c.code = cX8_append) (hml : c.maxLocals = 3) (hown : s.vm.findClass RX8 = some m.cls) (hts : ∀ w ∈ wsX8_append, w.before args s = true) (hK : va_K D vwCl (zTY κ) s) (hA : ∀ q : Nat, H0.size ≤ q → A q) (i1 : Int) (i2 : Int) (t_length : Int) (t_bytes : Nat) (hg : Go (GoE (zA_X8_append p l e s m args below meth c Q D κ A H0 t t_next t_kind t_place t_value) (zQ_X8_append p l e s m args below meth c Q D κ A H0 t t_next t_kind t_place t_value)) (zg_X8_append_3  i1 i2 t_length t_bytes)) : zA_X8_append_3 p l e s m args below meth c Q D κ A H0 t t_next t_kind t_place t_value i1 i2 t_length t_bytes := by
  intro H locs ls hP hD hS hl
  unfold zg_X8_append_3 at hg
  refine lv_iload_n hx hb dX8_append_3 rfl (lv_at hl 2 rfl) ?_
  obtain ⟨b1, hg⟩ := Go_n hg
  refine zv_if_lt (tgt := 46) hx hb dX8_append_4 (by decide) b1 (fun c5 => ?_) (fun c5 => ?_)
  · have hg := Go_t c5 hg
    exact (Go_s hg) _ _ _ _ hP hD hS dX8_append_46
  · have hg := Go_f c5 hg
    refine lv_aload_n hx hb dX8_append_7 rfl (lv_at hl 0 rfl) ?_
    refine va_get (D := D) (ci := 8) (v := .int (zi t_length)) (C := RX8) (T := TX8) (N := 6) hx hb hts zi_X8_append_X8 hown hK hP 0 rfl rfl 1 (by decide) (hts (.fieldLink RX8 15 "DiamondRows$Tape" "length" "I") zl_X8_append_15) (fun _ h9 => h9) rfl dX8_append_8 ?_
    refine zv_sipush hx hb dX8_append_11 (by decide) ?_
    obtain ⟨b2, hg⟩ := Go_n hg
    refine zv_icmp_ge (tgt := 46) hx hb dX8_append_14 (by decide) b2 (by decide) (fun c4 => ?_) (fun c4 => ?_)
    · have hg := Go_t c4 hg
      exact (Go_s hg) _ _ _ _ hP hD hS dX8_append_46
    · have hg := Go_f c4 hg
      refine lv_aload_n hx hb dX8_append_17 rfl (lv_at hl 0 rfl) ?_
      refine va_get (D := D) (ci := 8) (v := .ref (t 1)) (C := RX8) (T := TX8) (N := 6) hx hb hts zi_X8_append_X8 hown hK hP 0 rfl rfl 0 (by decide) (hts (.fieldLink RX8 11 "DiamondRows$Tape" "bytes" "[B") zl_X8_append_11) (fun _ h9 => h9) rfl dX8_append_18 ?_
      refine lv_aload_n hx hb dX8_append_21 rfl (lv_at hl 0 rfl) ?_
      refine va_get (D := D) (ci := 8) (v := .int (zi t_length)) (C := RX8) (T := TX8) (N := 6) hx hb hts zi_X8_append_X8 hown hK hP 0 rfl rfl 1 (by decide) (hts (.fieldLink RX8 15 "DiamondRows$Tape" "length" "I") zl_X8_append_15) (fun _ h9 => h9) rfl dX8_append_22 ?_
      refine lv_iload_n hx hb dX8_append_25 rfl (lv_at hl 1 rfl) ?_
      refine lv_iload_n hx hb dX8_append_26 rfl (lv_at hl 2 rfl) ?_
      refine zv_ishr hx hb dX8_append_27 ?_
      refine zv_i2b hx hb dX8_append_28 ?_
      obtain ⟨n3, hg⟩ := Go_n hg
      refine zv_bast hx hb hK hP hD hS 1 0 rfl rfl (by decide) n3 dX8_append_29 (fun H locs hP hD hS => ?_)
      have hP : va_P D vwCl ([((t 0), .inr (8, [.ref (t 1), .int (zi t_length), .int (zi t_next), .int (zi t_kind), .int (zi t_place), .int (zi t_value)])), ((t 1), .inl (κ 0, 300, .inl (zc (zset t_bytes (Int.toNat t_length) (zb (zb (zshr i1 i2)))))))]) H := hP
      have hD : va_D A ([((t 0), .inr (8, [.ref (t 1), .int (zi t_length), .int (zi t_next), .int (zi t_kind), .int (zi t_place), .int (zi t_value)])), ((t 1), .inl (κ 0, 300, .inl (zc (zset t_bytes (Int.toNat t_length) (zb (zb (zshr i1 i2)))))))]) := hD
      refine lv_aload_n hx hb dX8_append_30 rfl (lv_at hl 0 rfl) ?_
      refine lv_dup hx hb dX8_append_31 rfl ?_
      refine va_get (D := D) (ci := 8) (v := .int (zi t_length)) (C := RX8) (T := TX8) (N := 6) hx hb hts zi_X8_append_X8 hown hK hP 0 rfl rfl 1 (by decide) (hts (.fieldLink RX8 15 "DiamondRows$Tape" "length" "I") zl_X8_append_15) (fun _ h9 => h9) rfl dX8_append_32 ?_
      refine zv_iconst hx hb dX8_append_35 ?_
      refine zv_iadd hx hb dX8_append_36 ?_
      refine va_put (D := D) (ci := 8) (v := .int (zi (t_length + (1 : Int)))) (ty := .int) (C := RX8) (T := TX8) (N := 6) hx hb hts zi_X8_append_X8 tyX8 tyX8_ok nmX8 hown hK hP hD hS 0 rfl rfl 1 (by decide) (hts (.fieldLink RX8 15 "DiamondRows$Tape" "length" "I") zl_X8_append_15) (fun _ h9 => h9) rfl (by decide +kernel) rfl rfl (Nat.le_of_ble_eq_true rfl) dX8_append_37 (fun H locs hP hD hS => ?_)
      have hP : va_P D vwCl ([((t 0), .inr (8, [.ref (t 1), .int (zi (t_length + (1 : Int))), .int (zi t_next), .int (zi t_kind), .int (zi t_place), .int (zi t_value)])), ((t 1), .inl (κ 0, 300, .inl (zc (zset t_bytes (Int.toNat t_length) (zb (zb (zshr i1 i2)))))))]) H := hP
      have hD : va_D A ([((t 0), .inr (8, [.ref (t 1), .int (zi (t_length + (1 : Int))), .int (zi t_next), .int (zi t_kind), .int (zi t_place), .int (zi t_value)])), ((t 1), .inl (κ 0, 300, .inl (zc (zset t_bytes (Int.toNat t_length) (zb (zb (zshr i1 i2)))))))]) := hD
      refine lv_iinc (v := zi (i2 + (-8 : Int))) (lv' := [(2, .int (zi (i2 + (-8 : Int)))), (0, .ref (t 0)), (1, .int (zi i1))]) hx hb dX8_append_40 hl (k := 2) rfl (zi_add i2 _) (by decide) rfl (fun ls hl => ?_)
      refine lv_goto (tgt := 3) hx hb dX8_append_43 (by decide) ?_
      exact (Go_s hg) H locs ls hP hD hS (lv_sub hl [1, 2, 0] rfl)
set_option maxHeartbeats 4000000 in
set_option maxRecDepth 100000 in
theorem zw_X8_append {p : Program} {l : Launch} {e : Env} {s : State} {m : MethodId} {args : Array Value} {below : List Frame} {meth : Method} {c : Code} {Q : State → Prop} {D : va_G} {κ : Nat → ClassId} {A : Nat → Prop} {H0 : Heap} (t : Nat → Nat) (t_next : Int) (t_kind : Int) (t_place : Int) (t_value : Int) (t_length : Int) (t_bytes : Nat) (i1 : Int) (hx : p.tables.exec = Jvm.exec) (hb : c.code = cX8_append) (hml : c.maxLocals = 3) (hown : s.vm.findClass RX8 = some m.cls) (hts : ∀ w ∈ wsX8_append, w.before args s = true) (hK : va_K D vwCl (zTY κ) s) (hA : ∀ q : Nat, H0.size ≤ q → A q) (out : Int × Nat) (h : zf_X8_append t_length t_bytes i1 = some out) (hq : zQ_X8_append p l e s m args below meth c Q D κ A H0 t t_next t_kind t_place t_value out) : zA_X8_append_0 p l e s m args below meth c Q D κ A H0 t t_next t_kind t_place t_value i1 0 t_length t_bytes := by
  have hst : ∀ st : zS_X8_append, Go (GoE (zA_X8_append p l e s m args below meth c Q D κ A H0 t t_next t_kind t_place t_value) (zQ_X8_append p l e s m args below meth c Q D κ A H0 t t_next t_kind t_place t_value)) (zg_X8_append  st) → zA_X8_append p l e s m args below meth c Q D κ A H0 t t_next t_kind t_place t_value st := by
    intro st hg
    obtain ⟨lab, i1, i2, t_length, t_bytes⟩ := st
    by_cases h0 : lab = 0
    · subst h0
      exact zs_X8_append_0 t t_next t_kind t_place t_value hx hb hml hown hts hK hA i1 i2 t_length t_bytes hg
    by_cases h3 : lab = 3
    · subst h3
      exact zs_X8_append_3 t t_next t_kind t_place t_value hx hb hml hown hts hK hA i1 i2 t_length t_bytes hg
    have hz : zg_X8_append  (lab, i1, i2, t_length, t_bytes) = none := by simp [zg_X8_append, h0, h3]
    rw [hz] at hg
    obtain ⟨a, h1, -⟩ := hg
    cases h1
  exact jwalk (At := zA_X8_append p l e s m args below meth c Q D κ A H0 t t_next t_kind t_place t_value) (Ret := zQ_X8_append p l e s m args below meth c Q D κ A H0 t t_next t_kind t_place t_value) hst _ _ _ h hq
set_option maxHeartbeats 4000000 in
set_option maxRecDepth 100000 in
theorem zc_X8_append (l : Launch) (D : va_G) (κ : Nat → ClassId) (t : Nat → Nat) (sz : Nat) (t_length : Int) (t_next : Int) (t_kind : Int) (t_place : Int) (t_value : Int) (t_bytes : Nat) (i1 : Int) (out : Int × Nat) (h : zf_X8_append t_length t_bytes i1 = some out) : Met l yX8_append wsX8_append zr_X8_append (va_Pc [.ref (t 0), .int (zi i1)] (zW D κ ([((t 0), .inr (8, [.ref (t 1), .int (zi t_length), .int (zi t_next), .int (zi t_kind), .int (zi t_place), .int (zi t_value)])), ((t 1), .inl (κ 0, 300, .inl (zc t_bytes)))]) sz)) (va_Qv (fun (_ : Unit) => True) (fun _ => zB D κ (va_A ([((t 0), .inr (8, [.ref (t 1), .int (zi t_length), .int (zi t_next), .int (zi t_kind), .int (zi t_place), .int (zi t_value)])), ((t 1), .inl (κ 0, 300, .inl (zc t_bytes)))]) sz) ([((t 0), .inr (8, [.ref (t 1), .int (zi (out.1)), .int (zi t_next), .int (zi t_kind), .int (zi t_place), .int (zi t_value)])), ((t 1), .inl (κ 0, 300, .inl (zc (out.2))))])) (va_A ([((t 0), .inr (8, [.ref (t 1), .int (zi t_length), .int (zi t_next), .int (zi t_kind), .int (zi t_place), .int (zi t_value)])), ((t 1), .inl (κ 0, 300, .inl (zc t_bytes)))]) sz)) 0 0 (va_A ([((t 0), .inr (8, [.ref (t 1), .int (zi t_length), .int (zi t_next), .int (zi t_kind), .int (zi t_place), .int (zi t_value)])), ((t 1), .inl (κ 0, 300, .inl (zc t_bytes)))]) sz) := by
  refine Met.ofW (cc := cX8_append) (maxL := 3) (ret := none) (by decide +kernel) rfl ?_
  intro p e s m args below meth c s₁ B hml hv
  obtain ⟨rfl, hsz, hP, hK, hD0⟩ := hv
  have hx := B.exec
  have hb := B.bytes
  have hr := B.returns
  have hts := atoms_spec (ws := wsX8_append) B.pre
  have hown : s.vm.findClass RX8 = some m.cls := findClass_of_methodNamed B.named
  have hlocks := B.notSynchronized
  subst hsz
  have hD := hD0.self (sz := s.heap.size)
  generalize hAe : va_A ([((t 0), .inr (8, [.ref (t 1), .int (zi t_length), .int (zi t_next), .int (zi t_kind), .int (zi t_place), .int (zi t_value)])), ((t 1), .inl (κ 0, 300, .inl (zc t_bytes)))]) s.heap.size = A at hD ⊢
  have hA : ∀ q : Nat, s.heap.size ≤ q → A q := fun q h => by rw [← hAe]; exact Or.inr h
  have hS : va_S A s.heap s.heap [] := va_S.rf
  have hl := lv_entry ([.ref (t 0), .int (zi i1)]) (n := 3) (Nat.le_of_ble_eq_true rfl)
  rw [lg_entry_eq]
  generalize (lg_sl ([.ref (t 0), .int (zi i1)]) ++ List.replicate (3 - (lg_sl ([.ref (t 0), .int (zi i1)])).length) Slot.unset).toArray = ls at hl ⊢
  have hl : lv_has ls 3 [(0, .ref (t 0)), (1, .int (zi i1))] := hl
  refine (zw_X8_append t t_next t_kind t_place t_value t_length t_bytes i1 hx hb hml hown hts hK hA out h ?_) s.heap [] ls hP hD hS (lv_sub hl [0, 1] rfl)
  exact fun H locs ls pc hP hD hS hd => W.vret hx hb hr (fun t ht hW => ⟨⟨(), rfl, trivial, by rw [ht]; exact hP, va_K.moved hW.alike hK, hD⟩, hS.F ht⟩) hS.2.2 hd
/-! DiamondRows$Tape.shorten(I)V -/
abbrev zr_X8_shorten : Room := { frames := 0, cells := 0, slots := 0, locals := 0 }
noncomputable def zf_X8_shorten  (t_length : Int) (i1 : Int) : Option (Int) :=
  if zout i1 then none else
  if i1 < 0 then
  some (t_length)
  else
  if zout t_length then none else
  if t_length < i1 then
  some (t_length)
  else
  some (i1)
theorem zi_X8_shorten_X8 : ∀ w ∈ u_ws RX8 TX8 6, w ∈ wsX8_shorten := fun w h => (List.mem_cons_of_mem _ (List.mem_append_right _ h))
theorem zl_X8_shorten_15 : Cond.fieldLink RX8 15 "DiamondRows$Tape" "length" "I" ∈ wsX8_shorten := (List.mem_cons_of_mem _ (List.mem_append_left _ (List.mem_of_getElem? (i := 0) rfl)))
def zQ_X8_shorten (p : Program) (l : Launch) (e : Env) (s : State) (m : MethodId) (args : Array Value) (below : List Frame) (meth : Method) (c : Code) (Q : State → Prop) (D : va_G) (κ : Nat → ClassId) (A : Nat → Prop) (H0 : Heap) (t : Nat → Nat) (t_next : Int) (t_kind : Int) (t_place : Int) (t_value : Int) (t_bytes : Nat) (o : Int) : Prop := ∀ (H : Heap) (locs : List Loc) (ls : Array Slot) (pc : Nat), va_P D vwCl ([((t 0), .inr (8, [.ref (t 1), .int (zi o), .int (zi t_next), .int (zi t_kind), .int (zi t_place), .int (zi t_value)])), ((t 1), .inl (κ 0, 300, .inl (zc t_bytes)))]) H → va_D A ([((t 0), .inr (8, [.ref (t 1), .int (zi o), .int (zi t_next), .int (zi t_kind), .int (zi t_place), .int (zi t_value)])), ((t 1), .inl (κ 0, 300, .inl (zc t_bytes)))]) → va_S A H0 H locs → decode cX8_shorten pc = .ok (.return_, 1) → W p l e zr_X8_shorten s m args below meth c H locs 0 0 Q (F0 m pc ls [])
set_option maxHeartbeats 4000000 in
set_option maxRecDepth 100000 in
theorem zs_X8_shorten {p : Program} {l : Launch} {e : Env} {s : State} {m : MethodId} {args : Array Value} {below : List Frame} {meth : Method} {c : Code} {Q : State → Prop} {D : va_G} {κ : Nat → ClassId} {A : Nat → Prop} {H0 : Heap} (t : Nat → Nat) (t_length : Int) (t_next : Int) (t_kind : Int) (t_place : Int) (t_value : Int) (t_bytes : Nat) (i1 : Int) (hx : p.tables.exec = Jvm.exec) (hb : c.code = cX8_shorten) (hml : c.maxLocals = 2) (hown : s.vm.findClass RX8 = some m.cls) (hts : ∀ w ∈ wsX8_shorten, w.before args s = true) (hK : va_K D vwCl (zTY κ) s) (hA : ∀ q : Nat, H0.size ≤ q → A q) (H : Heap) (locs : List Loc) (ls : Array Slot) (hP : va_P D vwCl ([((t 0), .inr (8, [.ref (t 1), .int (zi t_length), .int (zi t_next), .int (zi t_kind), .int (zi t_place), .int (zi t_value)])), ((t 1), .inl (κ 0, 300, .inl (zc t_bytes)))]) H) (hD : va_D A ([((t 0), .inr (8, [.ref (t 1), .int (zi t_length), .int (zi t_next), .int (zi t_kind), .int (zi t_place), .int (zi t_value)])), ((t 1), .inl (κ 0, 300, .inl (zc t_bytes)))])) (hS : va_S A H0 H locs) (hl : lv_has ls 2 [(0, .ref (t 0)), (1, .int (zi i1))]) (hg : Go (zQ_X8_shorten p l e s m args below meth c Q D κ A H0 t t_next t_kind t_place t_value t_bytes) (zf_X8_shorten t_length i1)) : W p l e zr_X8_shorten s m args below meth c H locs 0 0 Q (F0 m 0 ls []) := by
  unfold zf_X8_shorten at hg
  refine lv_iload_n hx hb dX8_shorten_0 rfl (lv_at hl 1 rfl) ?_
  obtain ⟨b1, hg⟩ := Go_n hg
  refine zv_if_lt (tgt := 17) hx hb dX8_shorten_1 (by decide) b1 (fun c4 => ?_) (fun c4 => ?_)
  · have hg := Go_t c4 hg
    exact (Go_s hg) _ _ _ _ hP hD hS dX8_shorten_17
  · have hg := Go_f c4 hg
    refine lv_iload_n hx hb dX8_shorten_4 rfl (lv_at hl 1 rfl) ?_
    refine lv_aload_n hx hb dX8_shorten_5 rfl (lv_at hl 0 rfl) ?_
    refine va_get (D := D) (ci := 8) (v := .int (zi t_length)) (C := RX8) (T := TX8) (N := 6) hx hb hts zi_X8_shorten_X8 hown hK hP 0 rfl rfl 1 (by decide) (hts (.fieldLink RX8 15 "DiamondRows$Tape" "length" "I") zl_X8_shorten_15) (fun _ h9 => h9) rfl dX8_shorten_6 ?_
    obtain ⟨b2, hg⟩ := Go_n hg
    refine zv_icmp_gt (tgt := 17) hx hb dX8_shorten_9 (by decide) b1 b2 (fun c3 => ?_) (fun c3 => ?_)
    · have hg := Go_t c3 hg
      exact (Go_s hg) _ _ _ _ hP hD hS dX8_shorten_17
    · have hg := Go_f c3 hg
      refine lv_aload_n hx hb dX8_shorten_12 rfl (lv_at hl 0 rfl) ?_
      refine lv_iload_n hx hb dX8_shorten_13 rfl (lv_at hl 1 rfl) ?_
      refine va_put (D := D) (ci := 8) (v := .int (zi i1)) (ty := .int) (C := RX8) (T := TX8) (N := 6) hx hb hts zi_X8_shorten_X8 tyX8 tyX8_ok nmX8 hown hK hP hD hS 0 rfl rfl 1 (by decide) (hts (.fieldLink RX8 15 "DiamondRows$Tape" "length" "I") zl_X8_shorten_15) (fun _ h9 => h9) rfl (by decide +kernel) rfl rfl (Nat.le_of_ble_eq_true rfl) dX8_shorten_14 (fun H locs hP hD hS => ?_)
      have hP : va_P D vwCl ([((t 0), .inr (8, [.ref (t 1), .int (zi i1), .int (zi t_next), .int (zi t_kind), .int (zi t_place), .int (zi t_value)])), ((t 1), .inl (κ 0, 300, .inl (zc t_bytes)))]) H := hP
      have hD : va_D A ([((t 0), .inr (8, [.ref (t 1), .int (zi i1), .int (zi t_next), .int (zi t_kind), .int (zi t_place), .int (zi t_value)])), ((t 1), .inl (κ 0, 300, .inl (zc t_bytes)))]) := hD
      exact (Go_s hg) _ _ _ _ hP hD hS dX8_shorten_17
set_option maxHeartbeats 4000000 in
set_option maxRecDepth 100000 in
theorem zc_X8_shorten (l : Launch) (D : va_G) (κ : Nat → ClassId) (t : Nat → Nat) (sz : Nat) (t_length : Int) (t_next : Int) (t_kind : Int) (t_place : Int) (t_value : Int) (t_bytes : Nat) (i1 : Int) (out : Int) (h : zf_X8_shorten t_length i1 = some out) : Met l yX8_shorten wsX8_shorten zr_X8_shorten (va_Pc [.ref (t 0), .int (zi i1)] (zW D κ ([((t 0), .inr (8, [.ref (t 1), .int (zi t_length), .int (zi t_next), .int (zi t_kind), .int (zi t_place), .int (zi t_value)])), ((t 1), .inl (κ 0, 300, .inl (zc t_bytes)))]) sz)) (va_Qv (fun (_ : Unit) => True) (fun _ => zB D κ (va_A ([((t 0), .inr (8, [.ref (t 1), .int (zi t_length), .int (zi t_next), .int (zi t_kind), .int (zi t_place), .int (zi t_value)])), ((t 1), .inl (κ 0, 300, .inl (zc t_bytes)))]) sz) ([((t 0), .inr (8, [.ref (t 1), .int (zi out), .int (zi t_next), .int (zi t_kind), .int (zi t_place), .int (zi t_value)])), ((t 1), .inl (κ 0, 300, .inl (zc t_bytes)))])) (va_A ([((t 0), .inr (8, [.ref (t 1), .int (zi t_length), .int (zi t_next), .int (zi t_kind), .int (zi t_place), .int (zi t_value)])), ((t 1), .inl (κ 0, 300, .inl (zc t_bytes)))]) sz)) 0 0 (va_A ([((t 0), .inr (8, [.ref (t 1), .int (zi t_length), .int (zi t_next), .int (zi t_kind), .int (zi t_place), .int (zi t_value)])), ((t 1), .inl (κ 0, 300, .inl (zc t_bytes)))]) sz) := by
  refine Met.ofW (cc := cX8_shorten) (maxL := 2) (ret := none) (by decide +kernel) rfl ?_
  intro p e s m args below meth c s₁ B hml hv
  obtain ⟨rfl, hsz, hP, hK, hD0⟩ := hv
  have hx := B.exec
  have hb := B.bytes
  have hr := B.returns
  have hts := atoms_spec (ws := wsX8_shorten) B.pre
  have hown : s.vm.findClass RX8 = some m.cls := findClass_of_methodNamed B.named
  have hlocks := B.notSynchronized
  subst hsz
  have hD := hD0.self (sz := s.heap.size)
  generalize hAe : va_A ([((t 0), .inr (8, [.ref (t 1), .int (zi t_length), .int (zi t_next), .int (zi t_kind), .int (zi t_place), .int (zi t_value)])), ((t 1), .inl (κ 0, 300, .inl (zc t_bytes)))]) s.heap.size = A at hD ⊢
  have hA : ∀ q : Nat, s.heap.size ≤ q → A q := fun q h => by rw [← hAe]; exact Or.inr h
  have hS : va_S A s.heap s.heap [] := va_S.rf
  have hl := lv_entry ([.ref (t 0), .int (zi i1)]) (n := 2) (Nat.le_of_ble_eq_true rfl)
  rw [lg_entry_eq]
  generalize (lg_sl ([.ref (t 0), .int (zi i1)]) ++ List.replicate (2 - (lg_sl ([.ref (t 0), .int (zi i1)])).length) Slot.unset).toArray = ls at hl ⊢
  have hl : lv_has ls 2 [(0, .ref (t 0)), (1, .int (zi i1))] := hl
  refine zs_X8_shorten t t_length t_next t_kind t_place t_value t_bytes i1 hx hb hml hown hts hK hA s.heap [] ls hP hD hS hl ⟨out, h, ?_⟩
  exact fun H locs ls pc hP hD hS hd => W.vret hx hb hr (fun t ht hW => ⟨⟨(), rfl, trivial, by rw [ht]; exact hP, va_K.moved hW.alike hK, hD⟩, hS.F ht⟩) hS.2.2 hd
/-! DiamondRows$Tape.rewind()V -/
abbrev zr_X8_rewind : Room := { frames := 0, cells := 0, slots := 0, locals := 0 }
noncomputable def zf_X8_rewind  (t_next : Int)  : Option (Int) :=
  some ((0 : Int))
theorem zi_X8_rewind_X8 : ∀ w ∈ u_ws RX8 TX8 6, w ∈ wsX8_rewind := fun w h => (List.mem_cons_of_mem _ (List.mem_append_right _ h))
theorem zl_X8_rewind_28 : Cond.fieldLink RX8 28 "DiamondRows$Tape" "next" "I" ∈ wsX8_rewind := (List.mem_cons_of_mem _ (List.mem_append_left _ (List.mem_of_getElem? (i := 0) rfl)))
def zQ_X8_rewind (p : Program) (l : Launch) (e : Env) (s : State) (m : MethodId) (args : Array Value) (below : List Frame) (meth : Method) (c : Code) (Q : State → Prop) (D : va_G) (κ : Nat → ClassId) (A : Nat → Prop) (H0 : Heap) (t : Nat → Nat) (t_length : Int) (t_kind : Int) (t_place : Int) (t_value : Int) (t_bytes : Nat) (o : Int) : Prop := ∀ (H : Heap) (locs : List Loc) (ls : Array Slot) (pc : Nat), va_P D vwCl ([((t 0), .inr (8, [.ref (t 1), .int (zi t_length), .int (zi o), .int (zi t_kind), .int (zi t_place), .int (zi t_value)])), ((t 1), .inl (κ 0, 300, .inl (zc t_bytes)))]) H → va_D A ([((t 0), .inr (8, [.ref (t 1), .int (zi t_length), .int (zi o), .int (zi t_kind), .int (zi t_place), .int (zi t_value)])), ((t 1), .inl (κ 0, 300, .inl (zc t_bytes)))]) → va_S A H0 H locs → decode cX8_rewind pc = .ok (.return_, 1) → W p l e zr_X8_rewind s m args below meth c H locs 0 0 Q (F0 m pc ls [])
set_option maxHeartbeats 4000000 in
set_option maxRecDepth 100000 in
theorem zs_X8_rewind {p : Program} {l : Launch} {e : Env} {s : State} {m : MethodId} {args : Array Value} {below : List Frame} {meth : Method} {c : Code} {Q : State → Prop} {D : va_G} {κ : Nat → ClassId} {A : Nat → Prop} {H0 : Heap} (t : Nat → Nat) (t_length : Int) (t_next : Int) (t_kind : Int) (t_place : Int) (t_value : Int) (t_bytes : Nat)  (hx : p.tables.exec = Jvm.exec) (hb : c.code = cX8_rewind) (hml : c.maxLocals = 1) (hown : s.vm.findClass RX8 = some m.cls) (hts : ∀ w ∈ wsX8_rewind, w.before args s = true) (hK : va_K D vwCl (zTY κ) s) (hA : ∀ q : Nat, H0.size ≤ q → A q) (H : Heap) (locs : List Loc) (ls : Array Slot) (hP : va_P D vwCl ([((t 0), .inr (8, [.ref (t 1), .int (zi t_length), .int (zi t_next), .int (zi t_kind), .int (zi t_place), .int (zi t_value)])), ((t 1), .inl (κ 0, 300, .inl (zc t_bytes)))]) H) (hD : va_D A ([((t 0), .inr (8, [.ref (t 1), .int (zi t_length), .int (zi t_next), .int (zi t_kind), .int (zi t_place), .int (zi t_value)])), ((t 1), .inl (κ 0, 300, .inl (zc t_bytes)))])) (hS : va_S A H0 H locs) (hl : lv_has ls 1 [(0, .ref (t 0))]) (hg : Go (zQ_X8_rewind p l e s m args below meth c Q D κ A H0 t t_length t_kind t_place t_value t_bytes) (zf_X8_rewind t_next )) : W p l e zr_X8_rewind s m args below meth c H locs 0 0 Q (F0 m 0 ls []) := by
  unfold zf_X8_rewind at hg
  refine lv_aload_n hx hb dX8_rewind_0 rfl (lv_at hl 0 rfl) ?_
  refine zv_iconst hx hb dX8_rewind_1 ?_
  refine va_put (D := D) (ci := 8) (v := .int (zi (0 : Int))) (ty := .int) (C := RX8) (T := TX8) (N := 6) hx hb hts zi_X8_rewind_X8 tyX8 tyX8_ok nmX8 hown hK hP hD hS 0 rfl rfl 2 (by decide) (hts (.fieldLink RX8 28 "DiamondRows$Tape" "next" "I") zl_X8_rewind_28) (fun _ h9 => h9) rfl (by decide +kernel) rfl rfl (Nat.le_of_ble_eq_true rfl) dX8_rewind_2 (fun H locs hP hD hS => ?_)
  have hP : va_P D vwCl ([((t 0), .inr (8, [.ref (t 1), .int (zi t_length), .int (zi (0 : Int)), .int (zi t_kind), .int (zi t_place), .int (zi t_value)])), ((t 1), .inl (κ 0, 300, .inl (zc t_bytes)))]) H := hP
  have hD : va_D A ([((t 0), .inr (8, [.ref (t 1), .int (zi t_length), .int (zi (0 : Int)), .int (zi t_kind), .int (zi t_place), .int (zi t_value)])), ((t 1), .inl (κ 0, 300, .inl (zc t_bytes)))]) := hD
  exact (Go_s hg) _ _ _ _ hP hD hS dX8_rewind_5
set_option maxHeartbeats 4000000 in
set_option maxRecDepth 100000 in
theorem zc_X8_rewind (l : Launch) (D : va_G) (κ : Nat → ClassId) (t : Nat → Nat) (sz : Nat) (t_length : Int) (t_next : Int) (t_kind : Int) (t_place : Int) (t_value : Int) (t_bytes : Nat)  (out : Int) (h : zf_X8_rewind t_next  = some out) : Met l yX8_rewind wsX8_rewind zr_X8_rewind (va_Pc [.ref (t 0)] (zW D κ ([((t 0), .inr (8, [.ref (t 1), .int (zi t_length), .int (zi t_next), .int (zi t_kind), .int (zi t_place), .int (zi t_value)])), ((t 1), .inl (κ 0, 300, .inl (zc t_bytes)))]) sz)) (va_Qv (fun (_ : Unit) => True) (fun _ => zB D κ (va_A ([((t 0), .inr (8, [.ref (t 1), .int (zi t_length), .int (zi t_next), .int (zi t_kind), .int (zi t_place), .int (zi t_value)])), ((t 1), .inl (κ 0, 300, .inl (zc t_bytes)))]) sz) ([((t 0), .inr (8, [.ref (t 1), .int (zi t_length), .int (zi out), .int (zi t_kind), .int (zi t_place), .int (zi t_value)])), ((t 1), .inl (κ 0, 300, .inl (zc t_bytes)))])) (va_A ([((t 0), .inr (8, [.ref (t 1), .int (zi t_length), .int (zi t_next), .int (zi t_kind), .int (zi t_place), .int (zi t_value)])), ((t 1), .inl (κ 0, 300, .inl (zc t_bytes)))]) sz)) 0 0 (va_A ([((t 0), .inr (8, [.ref (t 1), .int (zi t_length), .int (zi t_next), .int (zi t_kind), .int (zi t_place), .int (zi t_value)])), ((t 1), .inl (κ 0, 300, .inl (zc t_bytes)))]) sz) := by
  refine Met.ofW (cc := cX8_rewind) (maxL := 1) (ret := none) (by decide +kernel) rfl ?_
  intro p e s m args below meth c s₁ B hml hv
  obtain ⟨rfl, hsz, hP, hK, hD0⟩ := hv
  have hx := B.exec
  have hb := B.bytes
  have hr := B.returns
  have hts := atoms_spec (ws := wsX8_rewind) B.pre
  have hown : s.vm.findClass RX8 = some m.cls := findClass_of_methodNamed B.named
  have hlocks := B.notSynchronized
  subst hsz
  have hD := hD0.self (sz := s.heap.size)
  generalize hAe : va_A ([((t 0), .inr (8, [.ref (t 1), .int (zi t_length), .int (zi t_next), .int (zi t_kind), .int (zi t_place), .int (zi t_value)])), ((t 1), .inl (κ 0, 300, .inl (zc t_bytes)))]) s.heap.size = A at hD ⊢
  have hA : ∀ q : Nat, s.heap.size ≤ q → A q := fun q h => by rw [← hAe]; exact Or.inr h
  have hS : va_S A s.heap s.heap [] := va_S.rf
  have hl := lv_entry ([.ref (t 0)]) (n := 1) (Nat.le_of_ble_eq_true rfl)
  rw [lg_entry_eq]
  generalize (lg_sl ([.ref (t 0)]) ++ List.replicate (1 - (lg_sl ([.ref (t 0)])).length) Slot.unset).toArray = ls at hl ⊢
  have hl : lv_has ls 1 [(0, .ref (t 0))] := hl
  refine zs_X8_rewind t t_length t_next t_kind t_place t_value t_bytes  hx hb hml hown hts hK hA s.heap [] ls hP hD hS hl ⟨out, h, ?_⟩
  exact fun H locs ls pc hP hD hS hd => W.vret hx hb hr (fun t ht hW => ⟨⟨(), rfl, trivial, by rw [ht]; exact hP, va_K.moved hW.alike hK, hD⟩, hS.F ht⟩) hS.2.2 hd
/-! DiamondRows$Tape.isBlank(I)Z -/
abbrev zr_X8_isBlank : Room := { frames := 0, cells := 0, slots := 0, locals := 0 }
noncomputable def zf_X8_isBlank   (i0 : Int) : Option (Bool) :=
  if zout i0 then none else
  if i0 = (32 : Int) then
  some (true)
  else
  if i0 = (10 : Int) then
  some (true)
  else
  some (false)
def zQ_X8_isBlank (p : Program) (l : Launch) (e : Env) (s : State) (m : MethodId) (args : Array Value) (below : List Frame) (meth : Method) (c : Code) (Q : State → Prop) (H : Heap) (locs : List Loc)  (o : Bool) : Prop := ∀ (ls : Array Slot) (pc : Nat), decode cX8_isBlank pc = .ok (.ireturn, 1) → W p l e zr_X8_isBlank s m args below meth c H locs 0 0 Q (F0 m pc ls [.int (zi (bI o))])
set_option maxHeartbeats 4000000 in
set_option maxRecDepth 100000 in
theorem zs_X8_isBlank {p : Program} {l : Launch} {e : Env} {s : State} {m : MethodId} {args : Array Value} {below : List Frame} {meth : Method} {c : Code} {Q : State → Prop} {D : va_G} {κ : Nat → ClassId} {H : Heap} {locs : List Loc}   (i0 : Int) (hx : p.tables.exec = Jvm.exec) (hb : c.code = cX8_isBlank) (hml : c.maxLocals = 1) (hown : s.vm.findClass RX8 = some m.cls) (hts : ∀ w ∈ wsX8_isBlank, w.before args s = true) (hK : va_K D vwCl (zTY κ) s) (hP : va_P D vwCl ([]) H) (ls : Array Slot) (hl : lv_has ls 1 [(0, .int (zi i0))]) (hg : Go (zQ_X8_isBlank p l e s m args below meth c Q H locs) (zf_X8_isBlank  i0)) : W p l e zr_X8_isBlank s m args below meth c H locs 0 0 Q (F0 m 0 ls []) := by
  unfold zf_X8_isBlank at hg
  refine lv_iload_n hx hb dX8_isBlank_0 rfl (lv_at hl 0 rfl) ?_
  refine zv_bipush hx hb dX8_isBlank_1 (by decide) ?_
  obtain ⟨b1, hg⟩ := Go_n hg
  refine zv_icmp_eq (tgt := 12) hx hb dX8_isBlank_3 (by decide) b1 (by decide) (fun c3 => ?_) (fun c3 => ?_)
  · have hg := Go_t c3 hg
    refine zv_iconst hx hb dX8_isBlank_12 ?_
    refine lv_goto (tgt := 17) hx hb dX8_isBlank_13 (by decide) ?_
    exact (Go_s hg) _ _ dX8_isBlank_17
  · have hg := Go_f c3 hg
    refine lv_iload_n hx hb dX8_isBlank_6 rfl (lv_at hl 0 rfl) ?_
    refine zv_bipush hx hb dX8_isBlank_7 (by decide) ?_
    refine zv_icmp_ne (tgt := 16) hx hb dX8_isBlank_9 (by decide) b1 (by decide) (fun c2 => ?_) (fun c2 => ?_)
    · have hg := Go_f c2 hg
      refine zv_iconst hx hb dX8_isBlank_16 ?_
      exact (Go_s hg) _ _ dX8_isBlank_17
    · have hg := Go_t c2 hg
      refine zv_iconst hx hb dX8_isBlank_12 ?_
      refine lv_goto (tgt := 17) hx hb dX8_isBlank_13 (by decide) ?_
      exact (Go_s hg) _ _ dX8_isBlank_17
set_option maxHeartbeats 4000000 in
set_option maxRecDepth 100000 in
theorem zc_X8_isBlank (l : Launch) (D : va_G) (κ : Nat → ClassId)   (i0 : Int) (out : Bool) (h : zf_X8_isBlank  i0 = some out) : Met l yX8_isBlank wsX8_isBlank zr_X8_isBlank (va_Pc [.int (zi i0)] (zR D κ ([]))) (vp_Si (fun x => x = zi (bI out))) 0 0 (fun _ => False) := by
  refine Met.ofW (cc := cX8_isBlank) (maxL := 1) (ret := (some .boolean)) (by decide +kernel) rfl ?_
  intro p e s m args below meth c s₁ B hml hv
  obtain ⟨rfl, hP, hK⟩ := hv
  have hx := B.exec
  have hb := B.bytes
  have hr := B.returns
  have hts := atoms_spec (ws := wsX8_isBlank) B.pre
  have hown : s.vm.findClass RX8 = some m.cls := findClass_of_methodNamed B.named
  have hlocks := B.notSynchronized
  have hl := lv_entry ([.int (zi i0)]) (n := 1) (Nat.le_of_ble_eq_true rfl)
  rw [lg_entry_eq]
  generalize (lg_sl ([.int (zi i0)]) ++ List.replicate (1 - (lg_sl ([.int (zi i0)])).length) Slot.unset).toArray = ls at hl ⊢
  have hl : lv_has ls 1 [(0, .int (zi i0))] := hl
  refine zs_X8_isBlank   i0 hx hb hml hown hts hK hP ls hl ⟨out, h, ?_⟩
  exact fun ls pc hd => W.zret hx hb hr (bI_nar _) (fun t ht hW => ⟨_, rfl, rfl, ht⟩) (fun _ h => by cases h) hd
/-! DiamondRows$Tape.isLetter(I)Z -/
abbrev zr_X8_isLetter : Room := { frames := 0, cells := 0, slots := 0, locals := 0 }
noncomputable def zf_X8_isLetter   (i0 : Int) : Option (Bool) :=
  if zout i0 then none else
  if i0 < (97 : Int) then
  some (false)
  else
  if (122 : Int) < i0 then
  some (false)
  else
  some (true)
def zQ_X8_isLetter (p : Program) (l : Launch) (e : Env) (s : State) (m : MethodId) (args : Array Value) (below : List Frame) (meth : Method) (c : Code) (Q : State → Prop) (H : Heap) (locs : List Loc)  (o : Bool) : Prop := ∀ (ls : Array Slot) (pc : Nat), decode cX8_isLetter pc = .ok (.ireturn, 1) → W p l e zr_X8_isLetter s m args below meth c H locs 0 0 Q (F0 m pc ls [.int (zi (bI o))])
set_option maxHeartbeats 4000000 in
set_option maxRecDepth 100000 in
theorem zs_X8_isLetter {p : Program} {l : Launch} {e : Env} {s : State} {m : MethodId} {args : Array Value} {below : List Frame} {meth : Method} {c : Code} {Q : State → Prop} {D : va_G} {κ : Nat → ClassId} {H : Heap} {locs : List Loc}   (i0 : Int) (hx : p.tables.exec = Jvm.exec) (hb : c.code = cX8_isLetter) (hml : c.maxLocals = 1) (hown : s.vm.findClass RX8 = some m.cls) (hts : ∀ w ∈ wsX8_isLetter, w.before args s = true) (hK : va_K D vwCl (zTY κ) s) (hP : va_P D vwCl ([]) H) (ls : Array Slot) (hl : lv_has ls 1 [(0, .int (zi i0))]) (hg : Go (zQ_X8_isLetter p l e s m args below meth c Q H locs) (zf_X8_isLetter  i0)) : W p l e zr_X8_isLetter s m args below meth c H locs 0 0 Q (F0 m 0 ls []) := by
  unfold zf_X8_isLetter at hg
  refine lv_iload_n hx hb dX8_isLetter_0 rfl (lv_at hl 0 rfl) ?_
  refine zv_bipush hx hb dX8_isLetter_1 (by decide) ?_
  obtain ⟨b1, hg⟩ := Go_n hg
  refine zv_icmp_lt (tgt := 16) hx hb dX8_isLetter_3 (by decide) b1 (by decide) (fun c3 => ?_) (fun c3 => ?_)
  · have hg := Go_t c3 hg
    refine zv_iconst hx hb dX8_isLetter_16 ?_
    exact (Go_s hg) _ _ dX8_isLetter_17
  · have hg := Go_f c3 hg
    refine lv_iload_n hx hb dX8_isLetter_6 rfl (lv_at hl 0 rfl) ?_
    refine zv_bipush hx hb dX8_isLetter_7 (by decide) ?_
    refine zv_icmp_gt (tgt := 16) hx hb dX8_isLetter_9 (by decide) b1 (by decide) (fun c2 => ?_) (fun c2 => ?_)
    · have hg := Go_t c2 hg
      refine zv_iconst hx hb dX8_isLetter_16 ?_
      exact (Go_s hg) _ _ dX8_isLetter_17
    · have hg := Go_f c2 hg
      refine zv_iconst hx hb dX8_isLetter_12 ?_
      refine lv_goto (tgt := 17) hx hb dX8_isLetter_13 (by decide) ?_
      exact (Go_s hg) _ _ dX8_isLetter_17
set_option maxHeartbeats 4000000 in
set_option maxRecDepth 100000 in
theorem zc_X8_isLetter (l : Launch) (D : va_G) (κ : Nat → ClassId)   (i0 : Int) (out : Bool) (h : zf_X8_isLetter  i0 = some out) : Met l yX8_isLetter wsX8_isLetter zr_X8_isLetter (va_Pc [.int (zi i0)] (zR D κ ([]))) (vp_Si (fun x => x = zi (bI out))) 0 0 (fun _ => False) := by
  refine Met.ofW (cc := cX8_isLetter) (maxL := 1) (ret := (some .boolean)) (by decide +kernel) rfl ?_
  intro p e s m args below meth c s₁ B hml hv
  obtain ⟨rfl, hP, hK⟩ := hv
  have hx := B.exec
  have hb := B.bytes
  have hr := B.returns
  have hts := atoms_spec (ws := wsX8_isLetter) B.pre
  have hown : s.vm.findClass RX8 = some m.cls := findClass_of_methodNamed B.named
  have hlocks := B.notSynchronized
  have hl := lv_entry ([.int (zi i0)]) (n := 1) (Nat.le_of_ble_eq_true rfl)
  rw [lg_entry_eq]
  generalize (lg_sl ([.int (zi i0)]) ++ List.replicate (1 - (lg_sl ([.int (zi i0)])).length) Slot.unset).toArray = ls at hl ⊢
  have hl : lv_has ls 1 [(0, .int (zi i0))] := hl
  refine zs_X8_isLetter   i0 hx hb hml hown hts hK hP ls hl ⟨out, h, ?_⟩
  exact fun ls pc hd => W.zret hx hb hr (bI_nar _) (fun t ht hW => ⟨_, rfl, rfl, ht⟩) (fun _ h => by cases h) hd
/-! DiamondRows$Tape.readWord()V -/
abbrev zr_X8_readWord : Room := { frames := 1, cells := 0, slots := 0, locals := 20 }
abbrev zS_X8_readWord : Type := Nat × Int × Int
abbrev zO_X8_readWord : Type := Int × Int
noncomputable def zg_X8_readWord_0  (t_length : Int) (t_place : Int) (t_bytes : Nat) (t_next : Int) (t_kind : Int) : Option (zO_X8_readWord ⊕ zS_X8_readWord) :=
  if zout t_next then none else
  if zout t_length then none else
  if t_length ≤ t_next then
  if zout (t_next - t_place) then none else
  if (8 : Int) < (t_next - t_place) then
  some (.inl (t_next, (4 : Int)))
  else
  some (.inl (t_next, (1 : Int)))
  else
  if t_next < 0 ∨ 300 ≤ t_next then none else
  Option.bind (zf_X8_isLetter (zget t_bytes (Int.toNat t_next))) (fun o6 =>
  if o6 = false then
  if zout (t_next - t_place) then none else
  if (8 : Int) < (t_next - t_place) then
  some (.inl (t_next, (4 : Int)))
  else
  some (.inl (t_next, (1 : Int)))
  else
  some (.inr (0, (t_next + (1 : Int)), t_kind)))
noncomputable def zg_X8_readWord  (t_length : Int) (t_place : Int) (t_bytes : Nat) (st : zS_X8_readWord) : Option (zO_X8_readWord ⊕ zS_X8_readWord) := match st with
  | (lab, t_next, t_kind) => if lab = 0 then zg_X8_readWord_0 t_length t_place t_bytes t_next t_kind else none
noncomputable def zf_X8_readWord  (t_length : Int) (t_next : Int) (t_kind : Int) (t_place : Int) (t_bytes : Nat)  : Option (Int × Int) := jrun (zg_X8_readWord t_length t_place t_bytes) jfuel (0, t_next, t_kind)
theorem zi_X8_readWord_X8 : ∀ w ∈ u_ws RX8 TX8 6, w ∈ wsX8_readWord := fun w h => (List.mem_cons_of_mem _ (List.mem_append_right _ (List.mem_append_left _ h)))
theorem zl_X8_readWord_11 : Cond.fieldLink RX8 11 "DiamondRows$Tape" "bytes" "[B" ∈ wsX8_readWord := (List.mem_cons_of_mem _ (List.mem_append_left _ (List.mem_of_getElem? (i := 2) rfl)))
theorem zl_X8_readWord_15 : Cond.fieldLink RX8 15 "DiamondRows$Tape" "length" "I" ∈ wsX8_readWord := (List.mem_cons_of_mem _ (List.mem_append_left _ (List.mem_of_getElem? (i := 1) rfl)))
theorem zl_X8_readWord_19 : Cond.fieldLink RX8 19 "DiamondRows$Tape" "kind" "I" ∈ wsX8_readWord := (List.mem_cons_of_mem _ (List.mem_append_left _ (List.mem_of_getElem? (i := 4) rfl)))
theorem zl_X8_readWord_22 : Cond.fieldLink RX8 22 "DiamondRows$Tape" "place" "I" ∈ wsX8_readWord := (List.mem_cons_of_mem _ (List.mem_append_left _ (List.mem_of_getElem? (i := 3) rfl)))
theorem zl_X8_readWord_28 : Cond.fieldLink RX8 28 "DiamondRows$Tape" "next" "I" ∈ wsX8_readWord := (List.mem_cons_of_mem _ (List.mem_append_left _ (List.mem_of_getElem? (i := 0) rfl)))
def zQ_X8_readWord (p : Program) (l : Launch) (e : Env) (s : State) (m : MethodId) (args : Array Value) (below : List Frame) (meth : Method) (c : Code) (Q : State → Prop) (D : va_G) (κ : Nat → ClassId) (A : Nat → Prop) (H0 : Heap) (t : Nat → Nat) (t_length : Int) (t_place : Int) (t_value : Int) (t_bytes : Nat) (o : Int × Int) : Prop := ∀ (H : Heap) (locs : List Loc) (ls : Array Slot) (pc : Nat), va_P D vwCl ([((t 0), .inr (8, [.ref (t 1), .int (zi t_length), .int (zi (o.1)), .int (zi (o.2)), .int (zi t_place), .int (zi t_value)])), ((t 1), .inl (κ 0, 300, .inl (zc t_bytes)))]) H → va_D A ([((t 0), .inr (8, [.ref (t 1), .int (zi t_length), .int (zi (o.1)), .int (zi (o.2)), .int (zi t_place), .int (zi t_value)])), ((t 1), .inl (κ 0, 300, .inl (zc t_bytes)))]) → va_S A H0 H locs → decode cX8_readWord pc = .ok (.return_, 1) → W p l e zr_X8_readWord s m args below meth c H locs 0 0 Q (F0 m pc ls [])
def zA_X8_readWord_0 (p : Program) (l : Launch) (e : Env) (s : State) (m : MethodId) (args : Array Value) (below : List Frame) (meth : Method) (c : Code) (Q : State → Prop) (D : va_G) (κ : Nat → ClassId) (A : Nat → Prop) (H0 : Heap) (t : Nat → Nat) (t_length : Int) (t_place : Int) (t_value : Int) (t_bytes : Nat) (t_next : Int) (t_kind : Int) : Prop := ∀ (H : Heap) (locs : List Loc) (ls : Array Slot), va_P D vwCl ([((t 0), .inr (8, [.ref (t 1), .int (zi t_length), .int (zi t_next), .int (zi t_kind), .int (zi t_place), .int (zi t_value)])), ((t 1), .inl (κ 0, 300, .inl (zc t_bytes)))]) H → va_D A ([((t 0), .inr (8, [.ref (t 1), .int (zi t_length), .int (zi t_next), .int (zi t_kind), .int (zi t_place), .int (zi t_value)])), ((t 1), .inl (κ 0, 300, .inl (zc t_bytes)))]) → va_S A H0 H locs → lv_has ls 1 [(0, .ref (t 0))] → W p l e zr_X8_readWord s m args below meth c H locs 0 0 Q (F0 m 0 ls [])
def zA_X8_readWord (p : Program) (l : Launch) (e : Env) (s : State) (m : MethodId) (args : Array Value) (below : List Frame) (meth : Method) (c : Code) (Q : State → Prop) (D : va_G) (κ : Nat → ClassId) (A : Nat → Prop) (H0 : Heap) (t : Nat → Nat) (t_length : Int) (t_place : Int) (t_value : Int) (t_bytes : Nat) (st : zS_X8_readWord) : Prop := match st with
  | (lab, t_next, t_kind) => if lab = 0 then zA_X8_readWord_0 p l e s m args below meth c Q D κ A H0 t t_length t_place t_value t_bytes t_next t_kind else True
set_option maxHeartbeats 4000000 in
set_option maxRecDepth 100000 in
theorem zs_X8_readWord_0 {p : Program} {l : Launch} {e : Env} {s : State} {m : MethodId} {args : Array Value} {below : List Frame} {meth : Method} {c : Code} {Q : State → Prop} {D : va_G} {κ : Nat → ClassId} {A : Nat → Prop} {H0 : Heap} (t : Nat → Nat) (t_length : Int) (t_place : Int) (t_value : Int) (t_bytes : Nat) (hx : p.tables.exec = Jvm.exec) (hb : c.code = cX8_readWord) (hml : c.maxLocals = 1) (hown : s.vm.findClass RX8 = some m.cls) (hts : ∀ w ∈ wsX8_readWord, w.before args s = true) (hK : va_K D vwCl (zTY κ) s) (hA : ∀ q : Nat, H0.size ≤ q → A q) (t_next : Int) (t_kind : Int) (hg : Go (GoE (zA_X8_readWord p l e s m args below meth c Q D κ A H0 t t_length t_place t_value t_bytes) (zQ_X8_readWord p l e s m args below meth c Q D κ A H0 t t_length t_place t_value t_bytes)) (zg_X8_readWord_0 t_length t_place t_bytes t_next t_kind)) : zA_X8_readWord_0 p l e s m args below meth c Q D κ A H0 t t_length t_place t_value t_bytes t_next t_kind := by
  intro H locs ls hP hD hS hl
  unfold zg_X8_readWord_0 at hg
  refine lv_aload_n hx hb dX8_readWord_0 rfl (lv_at hl 0 rfl) ?_
  refine va_get (D := D) (ci := 8) (v := .int (zi t_next)) (C := RX8) (T := TX8) (N := 6) hx hb hts zi_X8_readWord_X8 hown hK hP 0 rfl rfl 2 (by decide) (hts (.fieldLink RX8 28 "DiamondRows$Tape" "next" "I") zl_X8_readWord_28) (fun _ h9 => h9) rfl dX8_readWord_1 ?_
  refine lv_aload_n hx hb dX8_readWord_4 rfl (lv_at hl 0 rfl) ?_
  refine va_get (D := D) (ci := 8) (v := .int (zi t_length)) (C := RX8) (T := TX8) (N := 6) hx hb hts zi_X8_readWord_X8 hown hK hP 0 rfl rfl 1 (by decide) (hts (.fieldLink RX8 15 "DiamondRows$Tape" "length" "I") zl_X8_readWord_15) (fun _ h9 => h9) rfl dX8_readWord_5 ?_
  obtain ⟨b1, hg⟩ := Go_n hg
  obtain ⟨b2, hg⟩ := Go_n hg
  refine zv_icmp_ge (tgt := 39) hx hb dX8_readWord_8 (by decide) b1 b2 (fun c10 => ?_) (fun c10 => ?_)
  · have hg := Go_t c10 hg
    refine lv_aload_n hx hb dX8_readWord_39 rfl (lv_at hl 0 rfl) ?_
    refine lv_aload_n hx hb dX8_readWord_40 rfl (lv_at hl 0 rfl) ?_
    refine va_get (D := D) (ci := 8) (v := .int (zi t_next)) (C := RX8) (T := TX8) (N := 6) hx hb hts zi_X8_readWord_X8 hown hK hP 0 rfl rfl 2 (by decide) (hts (.fieldLink RX8 28 "DiamondRows$Tape" "next" "I") zl_X8_readWord_28) (fun _ h9 => h9) rfl dX8_readWord_41 ?_
    refine lv_aload_n hx hb dX8_readWord_44 rfl (lv_at hl 0 rfl) ?_
    refine va_get (D := D) (ci := 8) (v := .int (zi t_place)) (C := RX8) (T := TX8) (N := 6) hx hb hts zi_X8_readWord_X8 hown hK hP 0 rfl rfl 4 (by decide) (hts (.fieldLink RX8 22 "DiamondRows$Tape" "place" "I") zl_X8_readWord_22) (fun _ h9 => h9) rfl dX8_readWord_45 ?_
    refine zv_isub hx hb dX8_readWord_48 ?_
    refine zv_bipush hx hb dX8_readWord_49 (by decide) ?_
    obtain ⟨b3, hg⟩ := Go_n hg
    refine zv_icmp_gt (tgt := 58) hx hb dX8_readWord_51 (by decide) b3 (by decide) (fun c4 => ?_) (fun c4 => ?_)
    · have hg := Go_t c4 hg
      refine zv_iconst hx hb dX8_readWord_58 ?_
      refine va_put (D := D) (ci := 8) (v := .int (zi (4 : Int))) (ty := .int) (C := RX8) (T := TX8) (N := 6) hx hb hts zi_X8_readWord_X8 tyX8 tyX8_ok nmX8 hown hK hP hD hS 0 rfl rfl 3 (by decide) (hts (.fieldLink RX8 19 "DiamondRows$Tape" "kind" "I") zl_X8_readWord_19) (fun _ h9 => h9) rfl (by decide +kernel) rfl rfl (Nat.le_of_ble_eq_true rfl) dX8_readWord_59 (fun H locs hP hD hS => ?_)
      have hP : va_P D vwCl ([((t 0), .inr (8, [.ref (t 1), .int (zi t_length), .int (zi t_next), .int (zi (4 : Int)), .int (zi t_place), .int (zi t_value)])), ((t 1), .inl (κ 0, 300, .inl (zc t_bytes)))]) H := hP
      have hD : va_D A ([((t 0), .inr (8, [.ref (t 1), .int (zi t_length), .int (zi t_next), .int (zi (4 : Int)), .int (zi t_place), .int (zi t_value)])), ((t 1), .inl (κ 0, 300, .inl (zc t_bytes)))]) := hD
      exact (Go_s hg) _ _ _ _ hP hD hS dX8_readWord_62
    · have hg := Go_f c4 hg
      refine zv_iconst hx hb dX8_readWord_54 ?_
      refine lv_goto (tgt := 59) hx hb dX8_readWord_55 (by decide) ?_
      refine va_put (D := D) (ci := 8) (v := .int (zi (1 : Int))) (ty := .int) (C := RX8) (T := TX8) (N := 6) hx hb hts zi_X8_readWord_X8 tyX8 tyX8_ok nmX8 hown hK hP hD hS 0 rfl rfl 3 (by decide) (hts (.fieldLink RX8 19 "DiamondRows$Tape" "kind" "I") zl_X8_readWord_19) (fun _ h9 => h9) rfl (by decide +kernel) rfl rfl (Nat.le_of_ble_eq_true rfl) dX8_readWord_59 (fun H locs hP hD hS => ?_)
      have hP : va_P D vwCl ([((t 0), .inr (8, [.ref (t 1), .int (zi t_length), .int (zi t_next), .int (zi (1 : Int)), .int (zi t_place), .int (zi t_value)])), ((t 1), .inl (κ 0, 300, .inl (zc t_bytes)))]) H := hP
      have hD : va_D A ([((t 0), .inr (8, [.ref (t 1), .int (zi t_length), .int (zi t_next), .int (zi (1 : Int)), .int (zi t_place), .int (zi t_value)])), ((t 1), .inl (κ 0, 300, .inl (zc t_bytes)))]) := hD
      exact (Go_s hg) _ _ _ _ hP hD hS dX8_readWord_62
  · have hg := Go_f c10 hg
    refine lv_aload_n hx hb dX8_readWord_11 rfl (lv_at hl 0 rfl) ?_
    refine va_get (D := D) (ci := 8) (v := .ref (t 1)) (C := RX8) (T := TX8) (N := 6) hx hb hts zi_X8_readWord_X8 hown hK hP 0 rfl rfl 0 (by decide) (hts (.fieldLink RX8 11 "DiamondRows$Tape" "bytes" "[B") zl_X8_readWord_11) (fun _ h9 => h9) rfl dX8_readWord_12 ?_
    refine lv_aload_n hx hb dX8_readWord_15 rfl (lv_at hl 0 rfl) ?_
    refine va_get (D := D) (ci := 8) (v := .int (zi t_next)) (C := RX8) (T := TX8) (N := 6) hx hb hts zi_X8_readWord_X8 hown hK hP 0 rfl rfl 2 (by decide) (hts (.fieldLink RX8 28 "DiamondRows$Tape" "next" "I") zl_X8_readWord_28) (fun _ h9 => h9) rfl dX8_readWord_16 ?_
    obtain ⟨n5, hg⟩ := Go_n hg
    refine zv_bald hx hb hK hP 1 0 rfl rfl (by decide) n5 dX8_readWord_19 ?_
    obtain ⟨o6, ho6, hg⟩ := Go_b hg
    refine zc_si (rest := []) ⟨hx, hb, hml, hown, hts⟩ (zc_X8_isLetter l D κ (zget t_bytes (Int.toNat t_next)) o6 ho6) (va_cwS 1 hts gX8_readWord_X8_isLetter rfl rfl rfl hs_X8_isLetter ⟨Nat.le_of_ble_eq_true rfl, Nat.le_of_ble_eq_true rfl⟩) (zpreS hK (hP.sub [] rfl)) rfl hl.1 rfl (Nat.le_of_ble_eq_true rfl) dX8_readWord_20 ⟨Nat.zero_le _, Nat.zero_le _⟩ ?_
    refine zv_ifb_eq (tgt := 39) hx hb dX8_readWord_23 (by decide) (fun c9 => ?_) (fun c9 => ?_)
    · have hg := Go_t c9 hg
      refine lv_aload_n hx hb dX8_readWord_39 rfl (lv_at hl 0 rfl) ?_
      refine lv_aload_n hx hb dX8_readWord_40 rfl (lv_at hl 0 rfl) ?_
      refine va_get (D := D) (ci := 8) (v := .int (zi t_next)) (C := RX8) (T := TX8) (N := 6) hx hb hts zi_X8_readWord_X8 hown hK hP 0 rfl rfl 2 (by decide) (hts (.fieldLink RX8 28 "DiamondRows$Tape" "next" "I") zl_X8_readWord_28) (fun _ h9 => h9) rfl dX8_readWord_41 ?_
      refine lv_aload_n hx hb dX8_readWord_44 rfl (lv_at hl 0 rfl) ?_
      refine va_get (D := D) (ci := 8) (v := .int (zi t_place)) (C := RX8) (T := TX8) (N := 6) hx hb hts zi_X8_readWord_X8 hown hK hP 0 rfl rfl 4 (by decide) (hts (.fieldLink RX8 22 "DiamondRows$Tape" "place" "I") zl_X8_readWord_22) (fun _ h9 => h9) rfl dX8_readWord_45 ?_
      refine zv_isub hx hb dX8_readWord_48 ?_
      refine zv_bipush hx hb dX8_readWord_49 (by decide) ?_
      obtain ⟨b7, hg⟩ := Go_n hg
      refine zv_icmp_gt (tgt := 58) hx hb dX8_readWord_51 (by decide) b7 (by decide) (fun c8 => ?_) (fun c8 => ?_)
      · have hg := Go_t c8 hg
        refine zv_iconst hx hb dX8_readWord_58 ?_
        refine va_put (D := D) (ci := 8) (v := .int (zi (4 : Int))) (ty := .int) (C := RX8) (T := TX8) (N := 6) hx hb hts zi_X8_readWord_X8 tyX8 tyX8_ok nmX8 hown hK hP hD hS 0 rfl rfl 3 (by decide) (hts (.fieldLink RX8 19 "DiamondRows$Tape" "kind" "I") zl_X8_readWord_19) (fun _ h9 => h9) rfl (by decide +kernel) rfl rfl (Nat.le_of_ble_eq_true rfl) dX8_readWord_59 (fun H locs hP hD hS => ?_)
        have hP : va_P D vwCl ([((t 0), .inr (8, [.ref (t 1), .int (zi t_length), .int (zi t_next), .int (zi (4 : Int)), .int (zi t_place), .int (zi t_value)])), ((t 1), .inl (κ 0, 300, .inl (zc t_bytes)))]) H := hP
        have hD : va_D A ([((t 0), .inr (8, [.ref (t 1), .int (zi t_length), .int (zi t_next), .int (zi (4 : Int)), .int (zi t_place), .int (zi t_value)])), ((t 1), .inl (κ 0, 300, .inl (zc t_bytes)))]) := hD
        exact (Go_s hg) _ _ _ _ hP hD hS dX8_readWord_62
      · have hg := Go_f c8 hg
        refine zv_iconst hx hb dX8_readWord_54 ?_
        refine lv_goto (tgt := 59) hx hb dX8_readWord_55 (by decide) ?_
        refine va_put (D := D) (ci := 8) (v := .int (zi (1 : Int))) (ty := .int) (C := RX8) (T := TX8) (N := 6) hx hb hts zi_X8_readWord_X8 tyX8 tyX8_ok nmX8 hown hK hP hD hS 0 rfl rfl 3 (by decide) (hts (.fieldLink RX8 19 "DiamondRows$Tape" "kind" "I") zl_X8_readWord_19) (fun _ h9 => h9) rfl (by decide +kernel) rfl rfl (Nat.le_of_ble_eq_true rfl) dX8_readWord_59 (fun H locs hP hD hS => ?_)
        have hP : va_P D vwCl ([((t 0), .inr (8, [.ref (t 1), .int (zi t_length), .int (zi t_next), .int (zi (1 : Int)), .int (zi t_place), .int (zi t_value)])), ((t 1), .inl (κ 0, 300, .inl (zc t_bytes)))]) H := hP
        have hD : va_D A ([((t 0), .inr (8, [.ref (t 1), .int (zi t_length), .int (zi t_next), .int (zi (1 : Int)), .int (zi t_place), .int (zi t_value)])), ((t 1), .inl (κ 0, 300, .inl (zc t_bytes)))]) := hD
        exact (Go_s hg) _ _ _ _ hP hD hS dX8_readWord_62
    · have hg := Go_f c9 hg
      refine lv_aload_n hx hb dX8_readWord_26 rfl (lv_at hl 0 rfl) ?_
      refine lv_dup hx hb dX8_readWord_27 rfl ?_
      refine va_get (D := D) (ci := 8) (v := .int (zi t_next)) (C := RX8) (T := TX8) (N := 6) hx hb hts zi_X8_readWord_X8 hown hK hP 0 rfl rfl 2 (by decide) (hts (.fieldLink RX8 28 "DiamondRows$Tape" "next" "I") zl_X8_readWord_28) (fun _ h9 => h9) rfl dX8_readWord_28 ?_
      refine zv_iconst hx hb dX8_readWord_31 ?_
      refine zv_iadd hx hb dX8_readWord_32 ?_
      refine va_put (D := D) (ci := 8) (v := .int (zi (t_next + (1 : Int)))) (ty := .int) (C := RX8) (T := TX8) (N := 6) hx hb hts zi_X8_readWord_X8 tyX8 tyX8_ok nmX8 hown hK hP hD hS 0 rfl rfl 2 (by decide) (hts (.fieldLink RX8 28 "DiamondRows$Tape" "next" "I") zl_X8_readWord_28) (fun _ h9 => h9) rfl (by decide +kernel) rfl rfl (Nat.le_of_ble_eq_true rfl) dX8_readWord_33 (fun H locs hP hD hS => ?_)
      have hP : va_P D vwCl ([((t 0), .inr (8, [.ref (t 1), .int (zi t_length), .int (zi (t_next + (1 : Int))), .int (zi t_kind), .int (zi t_place), .int (zi t_value)])), ((t 1), .inl (κ 0, 300, .inl (zc t_bytes)))]) H := hP
      have hD : va_D A ([((t 0), .inr (8, [.ref (t 1), .int (zi t_length), .int (zi (t_next + (1 : Int))), .int (zi t_kind), .int (zi t_place), .int (zi t_value)])), ((t 1), .inl (κ 0, 300, .inl (zc t_bytes)))]) := hD
      refine lv_goto (tgt := 0) hx hb dX8_readWord_36 (by decide) ?_
      exact (Go_s hg) H locs ls hP hD hS (lv_sub hl [0] rfl)
set_option maxHeartbeats 4000000 in
set_option maxRecDepth 100000 in
theorem zw_X8_readWord {p : Program} {l : Launch} {e : Env} {s : State} {m : MethodId} {args : Array Value} {below : List Frame} {meth : Method} {c : Code} {Q : State → Prop} {D : va_G} {κ : Nat → ClassId} {A : Nat → Prop} {H0 : Heap} (t : Nat → Nat) (t_length : Int) (t_place : Int) (t_value : Int) (t_bytes : Nat) (t_next : Int) (t_kind : Int)  (hx : p.tables.exec = Jvm.exec) (hb : c.code = cX8_readWord) (hml : c.maxLocals = 1) (hown : s.vm.findClass RX8 = some m.cls) (hts : ∀ w ∈ wsX8_readWord, w.before args s = true) (hK : va_K D vwCl (zTY κ) s) (hA : ∀ q : Nat, H0.size ≤ q → A q) (out : Int × Int) (h : zf_X8_readWord t_length t_next t_kind t_place t_bytes  = some out) (hq : zQ_X8_readWord p l e s m args below meth c Q D κ A H0 t t_length t_place t_value t_bytes out) : zA_X8_readWord_0 p l e s m args below meth c Q D κ A H0 t t_length t_place t_value t_bytes t_next t_kind := by
  have hst : ∀ st : zS_X8_readWord, Go (GoE (zA_X8_readWord p l e s m args below meth c Q D κ A H0 t t_length t_place t_value t_bytes) (zQ_X8_readWord p l e s m args below meth c Q D κ A H0 t t_length t_place t_value t_bytes)) (zg_X8_readWord t_length t_place t_bytes st) → zA_X8_readWord p l e s m args below meth c Q D κ A H0 t t_length t_place t_value t_bytes st := by
    intro st hg
    obtain ⟨lab, t_next, t_kind⟩ := st
    by_cases h0 : lab = 0
    · subst h0
      exact zs_X8_readWord_0 t t_length t_place t_value t_bytes hx hb hml hown hts hK hA t_next t_kind hg
    have hz : zg_X8_readWord t_length t_place t_bytes (lab, t_next, t_kind) = none := by simp [zg_X8_readWord, h0]
    rw [hz] at hg
    obtain ⟨a, h1, -⟩ := hg
    cases h1
  exact jwalk (At := zA_X8_readWord p l e s m args below meth c Q D κ A H0 t t_length t_place t_value t_bytes) (Ret := zQ_X8_readWord p l e s m args below meth c Q D κ A H0 t t_length t_place t_value t_bytes) hst _ _ _ h hq
set_option maxHeartbeats 4000000 in
set_option maxRecDepth 100000 in
theorem zc_X8_readWord (l : Launch) (D : va_G) (κ : Nat → ClassId) (t : Nat → Nat) (sz : Nat) (t_length : Int) (t_next : Int) (t_kind : Int) (t_place : Int) (t_value : Int) (t_bytes : Nat)  (out : Int × Int) (h : zf_X8_readWord t_length t_next t_kind t_place t_bytes  = some out) : Met l yX8_readWord wsX8_readWord zr_X8_readWord (va_Pc [.ref (t 0)] (zW D κ ([((t 0), .inr (8, [.ref (t 1), .int (zi t_length), .int (zi t_next), .int (zi t_kind), .int (zi t_place), .int (zi t_value)])), ((t 1), .inl (κ 0, 300, .inl (zc t_bytes)))]) sz)) (va_Qv (fun (_ : Unit) => True) (fun _ => zB D κ (va_A ([((t 0), .inr (8, [.ref (t 1), .int (zi t_length), .int (zi t_next), .int (zi t_kind), .int (zi t_place), .int (zi t_value)])), ((t 1), .inl (κ 0, 300, .inl (zc t_bytes)))]) sz) ([((t 0), .inr (8, [.ref (t 1), .int (zi t_length), .int (zi (out.1)), .int (zi (out.2)), .int (zi t_place), .int (zi t_value)])), ((t 1), .inl (κ 0, 300, .inl (zc t_bytes)))])) (va_A ([((t 0), .inr (8, [.ref (t 1), .int (zi t_length), .int (zi t_next), .int (zi t_kind), .int (zi t_place), .int (zi t_value)])), ((t 1), .inl (κ 0, 300, .inl (zc t_bytes)))]) sz)) 0 0 (va_A ([((t 0), .inr (8, [.ref (t 1), .int (zi t_length), .int (zi t_next), .int (zi t_kind), .int (zi t_place), .int (zi t_value)])), ((t 1), .inl (κ 0, 300, .inl (zc t_bytes)))]) sz) := by
  refine Met.ofW (cc := cX8_readWord) (maxL := 1) (ret := none) (by decide +kernel) rfl ?_
  intro p e s m args below meth c s₁ B hml hv
  obtain ⟨rfl, hsz, hP, hK, hD0⟩ := hv
  have hx := B.exec
  have hb := B.bytes
  have hr := B.returns
  have hts := atoms_spec (ws := wsX8_readWord) B.pre
  have hown : s.vm.findClass RX8 = some m.cls := findClass_of_methodNamed B.named
  have hlocks := B.notSynchronized
  subst hsz
  have hD := hD0.self (sz := s.heap.size)
  generalize hAe : va_A ([((t 0), .inr (8, [.ref (t 1), .int (zi t_length), .int (zi t_next), .int (zi t_kind), .int (zi t_place), .int (zi t_value)])), ((t 1), .inl (κ 0, 300, .inl (zc t_bytes)))]) s.heap.size = A at hD ⊢
  have hA : ∀ q : Nat, s.heap.size ≤ q → A q := fun q h => by rw [← hAe]; exact Or.inr h
  have hS : va_S A s.heap s.heap [] := va_S.rf
  have hl := lv_entry ([.ref (t 0)]) (n := 1) (Nat.le_of_ble_eq_true rfl)
  rw [lg_entry_eq]
  generalize (lg_sl ([.ref (t 0)]) ++ List.replicate (1 - (lg_sl ([.ref (t 0)])).length) Slot.unset).toArray = ls at hl ⊢
  have hl : lv_has ls 1 [(0, .ref (t 0))] := hl
  refine (zw_X8_readWord t t_length t_place t_value t_bytes t_next t_kind  hx hb hml hown hts hK hA out h ?_) s.heap [] ls hP hD hS (lv_sub hl [0] rfl)
  exact fun H locs ls pc hP hD hS hd => W.vret hx hb hr (fun t ht hW => ⟨⟨(), rfl, trivial, by rw [ht]; exact hP, va_K.moved hW.alike hK, hD⟩, hS.F ht⟩) hS.2.2 hd
/-! DiamondRows$Tape.isDigit(I)Z -/
abbrev zr_X8_isDigit : Room := { frames := 0, cells := 0, slots := 0, locals := 0 }
noncomputable def zf_X8_isDigit   (i0 : Int) : Option (Bool) :=
  if zout i0 then none else
  if i0 < (48 : Int) then
  some (false)
  else
  if (57 : Int) < i0 then
  some (false)
  else
  some (true)
def zQ_X8_isDigit (p : Program) (l : Launch) (e : Env) (s : State) (m : MethodId) (args : Array Value) (below : List Frame) (meth : Method) (c : Code) (Q : State → Prop) (H : Heap) (locs : List Loc)  (o : Bool) : Prop := ∀ (ls : Array Slot) (pc : Nat), decode cX8_isDigit pc = .ok (.ireturn, 1) → W p l e zr_X8_isDigit s m args below meth c H locs 0 0 Q (F0 m pc ls [.int (zi (bI o))])
set_option maxHeartbeats 4000000 in
set_option maxRecDepth 100000 in
theorem zs_X8_isDigit {p : Program} {l : Launch} {e : Env} {s : State} {m : MethodId} {args : Array Value} {below : List Frame} {meth : Method} {c : Code} {Q : State → Prop} {D : va_G} {κ : Nat → ClassId} {H : Heap} {locs : List Loc}   (i0 : Int) (hx : p.tables.exec = Jvm.exec) (hb : c.code = cX8_isDigit) (hml : c.maxLocals = 1) (hown : s.vm.findClass RX8 = some m.cls) (hts : ∀ w ∈ wsX8_isDigit, w.before args s = true) (hK : va_K D vwCl (zTY κ) s) (hP : va_P D vwCl ([]) H) (ls : Array Slot) (hl : lv_has ls 1 [(0, .int (zi i0))]) (hg : Go (zQ_X8_isDigit p l e s m args below meth c Q H locs) (zf_X8_isDigit  i0)) : W p l e zr_X8_isDigit s m args below meth c H locs 0 0 Q (F0 m 0 ls []) := by
  unfold zf_X8_isDigit at hg
  refine lv_iload_n hx hb dX8_isDigit_0 rfl (lv_at hl 0 rfl) ?_
  refine zv_bipush hx hb dX8_isDigit_1 (by decide) ?_
  obtain ⟨b1, hg⟩ := Go_n hg
  refine zv_icmp_lt (tgt := 16) hx hb dX8_isDigit_3 (by decide) b1 (by decide) (fun c3 => ?_) (fun c3 => ?_)
  · have hg := Go_t c3 hg
    refine zv_iconst hx hb dX8_isDigit_16 ?_
    exact (Go_s hg) _ _ dX8_isDigit_17
  · have hg := Go_f c3 hg
    refine lv_iload_n hx hb dX8_isDigit_6 rfl (lv_at hl 0 rfl) ?_
    refine zv_bipush hx hb dX8_isDigit_7 (by decide) ?_
    refine zv_icmp_gt (tgt := 16) hx hb dX8_isDigit_9 (by decide) b1 (by decide) (fun c2 => ?_) (fun c2 => ?_)
    · have hg := Go_t c2 hg
      refine zv_iconst hx hb dX8_isDigit_16 ?_
      exact (Go_s hg) _ _ dX8_isDigit_17
    · have hg := Go_f c2 hg
      refine zv_iconst hx hb dX8_isDigit_12 ?_
      refine lv_goto (tgt := 17) hx hb dX8_isDigit_13 (by decide) ?_
      exact (Go_s hg) _ _ dX8_isDigit_17
set_option maxHeartbeats 4000000 in
set_option maxRecDepth 100000 in
theorem zc_X8_isDigit (l : Launch) (D : va_G) (κ : Nat → ClassId)   (i0 : Int) (out : Bool) (h : zf_X8_isDigit  i0 = some out) : Met l yX8_isDigit wsX8_isDigit zr_X8_isDigit (va_Pc [.int (zi i0)] (zR D κ ([]))) (vp_Si (fun x => x = zi (bI out))) 0 0 (fun _ => False) := by
  refine Met.ofW (cc := cX8_isDigit) (maxL := 1) (ret := (some .boolean)) (by decide +kernel) rfl ?_
  intro p e s m args below meth c s₁ B hml hv
  obtain ⟨rfl, hP, hK⟩ := hv
  have hx := B.exec
  have hb := B.bytes
  have hr := B.returns
  have hts := atoms_spec (ws := wsX8_isDigit) B.pre
  have hown : s.vm.findClass RX8 = some m.cls := findClass_of_methodNamed B.named
  have hlocks := B.notSynchronized
  have hl := lv_entry ([.int (zi i0)]) (n := 1) (Nat.le_of_ble_eq_true rfl)
  rw [lg_entry_eq]
  generalize (lg_sl ([.int (zi i0)]) ++ List.replicate (1 - (lg_sl ([.int (zi i0)])).length) Slot.unset).toArray = ls at hl ⊢
  have hl : lv_has ls 1 [(0, .int (zi i0))] := hl
  refine zs_X8_isDigit   i0 hx hb hml hown hts hK hP ls hl ⟨out, h, ?_⟩
  exact fun ls pc hd => W.zret hx hb hr (bI_nar _) (fun t ht hW => ⟨_, rfl, rfl, ht⟩) (fun _ h => by cases h) hd
/-! DiamondRows$Tape.readNumber()V -/
abbrev zr_X8_readNumber : Room := { frames := 1, cells := 0, slots := 0, locals := 20 }
abbrev zS_X8_readNumber : Type := Nat × Int × Int × Int
abbrev zO_X8_readNumber : Type := Int × Int × Int
noncomputable def zg_X8_readNumber_0  (t_length : Int) (t_place : Int) (t_bytes : Nat) (t_next : Int) (t_kind : Int) (t_value : Int) : Option (zO_X8_readNumber ⊕ zS_X8_readNumber) :=
  if zout t_next then none else
  if zout t_length then none else
  if t_length ≤ t_next then
  if zout (t_next - t_place) then none else
  if (3 : Int) < (t_next - t_place) then
  some (.inl (t_next, (4 : Int), t_value))
  else
  some (.inl (t_next, (2 : Int), t_value))
  else
  if t_next < 0 ∨ 300 ≤ t_next then none else
  Option.bind (zf_X8_isDigit (zget t_bytes (Int.toNat t_next))) (fun o6 =>
  if o6 = false then
  if zout (t_next - t_place) then none else
  if (3 : Int) < (t_next - t_place) then
  some (.inl (t_next, (4 : Int), t_value))
  else
  some (.inl (t_next, (2 : Int), t_value))
  else
  some (.inr (0, (t_next + (1 : Int)), t_kind, (((t_value * (10 : Int)) + (zget t_bytes (Int.toNat t_next))) - (48 : Int)))))
noncomputable def zg_X8_readNumber  (t_length : Int) (t_place : Int) (t_bytes : Nat) (st : zS_X8_readNumber) : Option (zO_X8_readNumber ⊕ zS_X8_readNumber) := match st with
  | (lab, t_next, t_kind, t_value) => if lab = 0 then zg_X8_readNumber_0 t_length t_place t_bytes t_next t_kind t_value else none
noncomputable def zf_X8_readNumber  (t_length : Int) (t_next : Int) (t_kind : Int) (t_place : Int) (t_value : Int) (t_bytes : Nat)  : Option (Int × Int × Int) := jrun (zg_X8_readNumber t_length t_place t_bytes) jfuel (0, t_next, t_kind, t_value)
theorem zi_X8_readNumber_X8 : ∀ w ∈ u_ws RX8 TX8 6, w ∈ wsX8_readNumber := fun w h => (List.mem_cons_of_mem _ (List.mem_append_right _ (List.mem_append_left _ h)))
theorem zl_X8_readNumber_11 : Cond.fieldLink RX8 11 "DiamondRows$Tape" "bytes" "[B" ∈ wsX8_readNumber := (List.mem_cons_of_mem _ (List.mem_append_left _ (List.mem_of_getElem? (i := 2) rfl)))
theorem zl_X8_readNumber_15 : Cond.fieldLink RX8 15 "DiamondRows$Tape" "length" "I" ∈ wsX8_readNumber := (List.mem_cons_of_mem _ (List.mem_append_left _ (List.mem_of_getElem? (i := 1) rfl)))
theorem zl_X8_readNumber_19 : Cond.fieldLink RX8 19 "DiamondRows$Tape" "kind" "I" ∈ wsX8_readNumber := (List.mem_cons_of_mem _ (List.mem_append_left _ (List.mem_of_getElem? (i := 5) rfl)))
theorem zl_X8_readNumber_22 : Cond.fieldLink RX8 22 "DiamondRows$Tape" "place" "I" ∈ wsX8_readNumber := (List.mem_cons_of_mem _ (List.mem_append_left _ (List.mem_of_getElem? (i := 4) rfl)))
theorem zl_X8_readNumber_25 : Cond.fieldLink RX8 25 "DiamondRows$Tape" "value" "I" ∈ wsX8_readNumber := (List.mem_cons_of_mem _ (List.mem_append_left _ (List.mem_of_getElem? (i := 3) rfl)))
theorem zl_X8_readNumber_28 : Cond.fieldLink RX8 28 "DiamondRows$Tape" "next" "I" ∈ wsX8_readNumber := (List.mem_cons_of_mem _ (List.mem_append_left _ (List.mem_of_getElem? (i := 0) rfl)))
def zQ_X8_readNumber (p : Program) (l : Launch) (e : Env) (s : State) (m : MethodId) (args : Array Value) (below : List Frame) (meth : Method) (c : Code) (Q : State → Prop) (D : va_G) (κ : Nat → ClassId) (A : Nat → Prop) (H0 : Heap) (t : Nat → Nat) (t_length : Int) (t_place : Int) (t_bytes : Nat) (o : Int × Int × Int) : Prop := ∀ (H : Heap) (locs : List Loc) (ls : Array Slot) (pc : Nat), va_P D vwCl ([((t 0), .inr (8, [.ref (t 1), .int (zi t_length), .int (zi (o.1)), .int (zi (o.2.1)), .int (zi t_place), .int (zi (o.2.2))])), ((t 1), .inl (κ 0, 300, .inl (zc t_bytes)))]) H → va_D A ([((t 0), .inr (8, [.ref (t 1), .int (zi t_length), .int (zi (o.1)), .int (zi (o.2.1)), .int (zi t_place), .int (zi (o.2.2))])), ((t 1), .inl (κ 0, 300, .inl (zc t_bytes)))]) → va_S A H0 H locs → decode cX8_readNumber pc = .ok (.return_, 1) → W p l e zr_X8_readNumber s m args below meth c H locs 0 0 Q (F0 m pc ls [])
def zA_X8_readNumber_0 (p : Program) (l : Launch) (e : Env) (s : State) (m : MethodId) (args : Array Value) (below : List Frame) (meth : Method) (c : Code) (Q : State → Prop) (D : va_G) (κ : Nat → ClassId) (A : Nat → Prop) (H0 : Heap) (t : Nat → Nat) (t_length : Int) (t_place : Int) (t_bytes : Nat) (t_next : Int) (t_kind : Int) (t_value : Int) : Prop := ∀ (H : Heap) (locs : List Loc) (ls : Array Slot), va_P D vwCl ([((t 0), .inr (8, [.ref (t 1), .int (zi t_length), .int (zi t_next), .int (zi t_kind), .int (zi t_place), .int (zi t_value)])), ((t 1), .inl (κ 0, 300, .inl (zc t_bytes)))]) H → va_D A ([((t 0), .inr (8, [.ref (t 1), .int (zi t_length), .int (zi t_next), .int (zi t_kind), .int (zi t_place), .int (zi t_value)])), ((t 1), .inl (κ 0, 300, .inl (zc t_bytes)))]) → va_S A H0 H locs → lv_has ls 1 [(0, .ref (t 0))] → W p l e zr_X8_readNumber s m args below meth c H locs 0 0 Q (F0 m 0 ls [])
def zA_X8_readNumber (p : Program) (l : Launch) (e : Env) (s : State) (m : MethodId) (args : Array Value) (below : List Frame) (meth : Method) (c : Code) (Q : State → Prop) (D : va_G) (κ : Nat → ClassId) (A : Nat → Prop) (H0 : Heap) (t : Nat → Nat) (t_length : Int) (t_place : Int) (t_bytes : Nat) (st : zS_X8_readNumber) : Prop := match st with
  | (lab, t_next, t_kind, t_value) => if lab = 0 then zA_X8_readNumber_0 p l e s m args below meth c Q D κ A H0 t t_length t_place t_bytes t_next t_kind t_value else True
set_option maxHeartbeats 4000000 in
set_option maxRecDepth 100000 in
theorem zs_X8_readNumber_0 {p : Program} {l : Launch} {e : Env} {s : State} {m : MethodId} {args : Array Value} {below : List Frame} {meth : Method} {c : Code} {Q : State → Prop} {D : va_G} {κ : Nat → ClassId} {A : Nat → Prop} {H0 : Heap} (t : Nat → Nat) (t_length : Int) (t_place : Int) (t_bytes : Nat) (hx : p.tables.exec = Jvm.exec) (hb : c.code = cX8_readNumber) (hml : c.maxLocals = 1) (hown : s.vm.findClass RX8 = some m.cls) (hts : ∀ w ∈ wsX8_readNumber, w.before args s = true) (hK : va_K D vwCl (zTY κ) s) (hA : ∀ q : Nat, H0.size ≤ q → A q) (t_next : Int) (t_kind : Int) (t_value : Int) (hg : Go (GoE (zA_X8_readNumber p l e s m args below meth c Q D κ A H0 t t_length t_place t_bytes) (zQ_X8_readNumber p l e s m args below meth c Q D κ A H0 t t_length t_place t_bytes)) (zg_X8_readNumber_0 t_length t_place t_bytes t_next t_kind t_value)) : zA_X8_readNumber_0 p l e s m args below meth c Q D κ A H0 t t_length t_place t_bytes t_next t_kind t_value := by
  intro H locs ls hP hD hS hl
  unfold zg_X8_readNumber_0 at hg
  refine lv_aload_n hx hb dX8_readNumber_0 rfl (lv_at hl 0 rfl) ?_
  refine va_get (D := D) (ci := 8) (v := .int (zi t_next)) (C := RX8) (T := TX8) (N := 6) hx hb hts zi_X8_readNumber_X8 hown hK hP 0 rfl rfl 2 (by decide) (hts (.fieldLink RX8 28 "DiamondRows$Tape" "next" "I") zl_X8_readNumber_28) (fun _ h9 => h9) rfl dX8_readNumber_1 ?_
  refine lv_aload_n hx hb dX8_readNumber_4 rfl (lv_at hl 0 rfl) ?_
  refine va_get (D := D) (ci := 8) (v := .int (zi t_length)) (C := RX8) (T := TX8) (N := 6) hx hb hts zi_X8_readNumber_X8 hown hK hP 0 rfl rfl 1 (by decide) (hts (.fieldLink RX8 15 "DiamondRows$Tape" "length" "I") zl_X8_readNumber_15) (fun _ h9 => h9) rfl dX8_readNumber_5 ?_
  obtain ⟨b1, hg⟩ := Go_n hg
  obtain ⟨b2, hg⟩ := Go_n hg
  refine zv_icmp_ge (tgt := 63) hx hb dX8_readNumber_8 (by decide) b1 b2 (fun c10 => ?_) (fun c10 => ?_)
  · have hg := Go_t c10 hg
    refine lv_aload_n hx hb dX8_readNumber_63 rfl (lv_at hl 0 rfl) ?_
    refine lv_aload_n hx hb dX8_readNumber_64 rfl (lv_at hl 0 rfl) ?_
    refine va_get (D := D) (ci := 8) (v := .int (zi t_next)) (C := RX8) (T := TX8) (N := 6) hx hb hts zi_X8_readNumber_X8 hown hK hP 0 rfl rfl 2 (by decide) (hts (.fieldLink RX8 28 "DiamondRows$Tape" "next" "I") zl_X8_readNumber_28) (fun _ h9 => h9) rfl dX8_readNumber_65 ?_
    refine lv_aload_n hx hb dX8_readNumber_68 rfl (lv_at hl 0 rfl) ?_
    refine va_get (D := D) (ci := 8) (v := .int (zi t_place)) (C := RX8) (T := TX8) (N := 6) hx hb hts zi_X8_readNumber_X8 hown hK hP 0 rfl rfl 4 (by decide) (hts (.fieldLink RX8 22 "DiamondRows$Tape" "place" "I") zl_X8_readNumber_22) (fun _ h9 => h9) rfl dX8_readNumber_69 ?_
    refine zv_isub hx hb dX8_readNumber_72 ?_
    refine zv_iconst hx hb dX8_readNumber_73 ?_
    obtain ⟨b3, hg⟩ := Go_n hg
    refine zv_icmp_gt (tgt := 81) hx hb dX8_readNumber_74 (by decide) b3 (by decide) (fun c4 => ?_) (fun c4 => ?_)
    · have hg := Go_t c4 hg
      refine zv_iconst hx hb dX8_readNumber_81 ?_
      refine va_put (D := D) (ci := 8) (v := .int (zi (4 : Int))) (ty := .int) (C := RX8) (T := TX8) (N := 6) hx hb hts zi_X8_readNumber_X8 tyX8 tyX8_ok nmX8 hown hK hP hD hS 0 rfl rfl 3 (by decide) (hts (.fieldLink RX8 19 "DiamondRows$Tape" "kind" "I") zl_X8_readNumber_19) (fun _ h9 => h9) rfl (by decide +kernel) rfl rfl (Nat.le_of_ble_eq_true rfl) dX8_readNumber_82 (fun H locs hP hD hS => ?_)
      have hP : va_P D vwCl ([((t 0), .inr (8, [.ref (t 1), .int (zi t_length), .int (zi t_next), .int (zi (4 : Int)), .int (zi t_place), .int (zi t_value)])), ((t 1), .inl (κ 0, 300, .inl (zc t_bytes)))]) H := hP
      have hD : va_D A ([((t 0), .inr (8, [.ref (t 1), .int (zi t_length), .int (zi t_next), .int (zi (4 : Int)), .int (zi t_place), .int (zi t_value)])), ((t 1), .inl (κ 0, 300, .inl (zc t_bytes)))]) := hD
      exact (Go_s hg) _ _ _ _ hP hD hS dX8_readNumber_85
    · have hg := Go_f c4 hg
      refine zv_iconst hx hb dX8_readNumber_77 ?_
      refine lv_goto (tgt := 82) hx hb dX8_readNumber_78 (by decide) ?_
      refine va_put (D := D) (ci := 8) (v := .int (zi (2 : Int))) (ty := .int) (C := RX8) (T := TX8) (N := 6) hx hb hts zi_X8_readNumber_X8 tyX8 tyX8_ok nmX8 hown hK hP hD hS 0 rfl rfl 3 (by decide) (hts (.fieldLink RX8 19 "DiamondRows$Tape" "kind" "I") zl_X8_readNumber_19) (fun _ h9 => h9) rfl (by decide +kernel) rfl rfl (Nat.le_of_ble_eq_true rfl) dX8_readNumber_82 (fun H locs hP hD hS => ?_)
      have hP : va_P D vwCl ([((t 0), .inr (8, [.ref (t 1), .int (zi t_length), .int (zi t_next), .int (zi (2 : Int)), .int (zi t_place), .int (zi t_value)])), ((t 1), .inl (κ 0, 300, .inl (zc t_bytes)))]) H := hP
      have hD : va_D A ([((t 0), .inr (8, [.ref (t 1), .int (zi t_length), .int (zi t_next), .int (zi (2 : Int)), .int (zi t_place), .int (zi t_value)])), ((t 1), .inl (κ 0, 300, .inl (zc t_bytes)))]) := hD
      exact (Go_s hg) _ _ _ _ hP hD hS dX8_readNumber_85
  · have hg := Go_f c10 hg
    refine lv_aload_n hx hb dX8_readNumber_11 rfl (lv_at hl 0 rfl) ?_
    refine va_get (D := D) (ci := 8) (v := .ref (t 1)) (C := RX8) (T := TX8) (N := 6) hx hb hts zi_X8_readNumber_X8 hown hK hP 0 rfl rfl 0 (by decide) (hts (.fieldLink RX8 11 "DiamondRows$Tape" "bytes" "[B") zl_X8_readNumber_11) (fun _ h9 => h9) rfl dX8_readNumber_12 ?_
    refine lv_aload_n hx hb dX8_readNumber_15 rfl (lv_at hl 0 rfl) ?_
    refine va_get (D := D) (ci := 8) (v := .int (zi t_next)) (C := RX8) (T := TX8) (N := 6) hx hb hts zi_X8_readNumber_X8 hown hK hP 0 rfl rfl 2 (by decide) (hts (.fieldLink RX8 28 "DiamondRows$Tape" "next" "I") zl_X8_readNumber_28) (fun _ h9 => h9) rfl dX8_readNumber_16 ?_
    obtain ⟨n5, hg⟩ := Go_n hg
    refine zv_bald hx hb hK hP 1 0 rfl rfl (by decide) n5 dX8_readNumber_19 ?_
    obtain ⟨o6, ho6, hg⟩ := Go_b hg
    refine zc_si (rest := []) ⟨hx, hb, hml, hown, hts⟩ (zc_X8_isDigit l D κ (zget t_bytes (Int.toNat t_next)) o6 ho6) (va_cwS 1 hts gX8_readNumber_X8_isDigit rfl rfl rfl hs_X8_isDigit ⟨Nat.le_of_ble_eq_true rfl, Nat.le_of_ble_eq_true rfl⟩) (zpreS hK (hP.sub [] rfl)) rfl hl.1 rfl (Nat.le_of_ble_eq_true rfl) dX8_readNumber_20 ⟨Nat.zero_le _, Nat.zero_le _⟩ ?_
    refine zv_ifb_eq (tgt := 63) hx hb dX8_readNumber_23 (by decide) (fun c9 => ?_) (fun c9 => ?_)
    · have hg := Go_t c9 hg
      refine lv_aload_n hx hb dX8_readNumber_63 rfl (lv_at hl 0 rfl) ?_
      refine lv_aload_n hx hb dX8_readNumber_64 rfl (lv_at hl 0 rfl) ?_
      refine va_get (D := D) (ci := 8) (v := .int (zi t_next)) (C := RX8) (T := TX8) (N := 6) hx hb hts zi_X8_readNumber_X8 hown hK hP 0 rfl rfl 2 (by decide) (hts (.fieldLink RX8 28 "DiamondRows$Tape" "next" "I") zl_X8_readNumber_28) (fun _ h9 => h9) rfl dX8_readNumber_65 ?_
      refine lv_aload_n hx hb dX8_readNumber_68 rfl (lv_at hl 0 rfl) ?_
      refine va_get (D := D) (ci := 8) (v := .int (zi t_place)) (C := RX8) (T := TX8) (N := 6) hx hb hts zi_X8_readNumber_X8 hown hK hP 0 rfl rfl 4 (by decide) (hts (.fieldLink RX8 22 "DiamondRows$Tape" "place" "I") zl_X8_readNumber_22) (fun _ h9 => h9) rfl dX8_readNumber_69 ?_
      refine zv_isub hx hb dX8_readNumber_72 ?_
      refine zv_iconst hx hb dX8_readNumber_73 ?_
      obtain ⟨b7, hg⟩ := Go_n hg
      refine zv_icmp_gt (tgt := 81) hx hb dX8_readNumber_74 (by decide) b7 (by decide) (fun c8 => ?_) (fun c8 => ?_)
      · have hg := Go_t c8 hg
        refine zv_iconst hx hb dX8_readNumber_81 ?_
        refine va_put (D := D) (ci := 8) (v := .int (zi (4 : Int))) (ty := .int) (C := RX8) (T := TX8) (N := 6) hx hb hts zi_X8_readNumber_X8 tyX8 tyX8_ok nmX8 hown hK hP hD hS 0 rfl rfl 3 (by decide) (hts (.fieldLink RX8 19 "DiamondRows$Tape" "kind" "I") zl_X8_readNumber_19) (fun _ h9 => h9) rfl (by decide +kernel) rfl rfl (Nat.le_of_ble_eq_true rfl) dX8_readNumber_82 (fun H locs hP hD hS => ?_)
        have hP : va_P D vwCl ([((t 0), .inr (8, [.ref (t 1), .int (zi t_length), .int (zi t_next), .int (zi (4 : Int)), .int (zi t_place), .int (zi t_value)])), ((t 1), .inl (κ 0, 300, .inl (zc t_bytes)))]) H := hP
        have hD : va_D A ([((t 0), .inr (8, [.ref (t 1), .int (zi t_length), .int (zi t_next), .int (zi (4 : Int)), .int (zi t_place), .int (zi t_value)])), ((t 1), .inl (κ 0, 300, .inl (zc t_bytes)))]) := hD
        exact (Go_s hg) _ _ _ _ hP hD hS dX8_readNumber_85
      · have hg := Go_f c8 hg
        refine zv_iconst hx hb dX8_readNumber_77 ?_
        refine lv_goto (tgt := 82) hx hb dX8_readNumber_78 (by decide) ?_
        refine va_put (D := D) (ci := 8) (v := .int (zi (2 : Int))) (ty := .int) (C := RX8) (T := TX8) (N := 6) hx hb hts zi_X8_readNumber_X8 tyX8 tyX8_ok nmX8 hown hK hP hD hS 0 rfl rfl 3 (by decide) (hts (.fieldLink RX8 19 "DiamondRows$Tape" "kind" "I") zl_X8_readNumber_19) (fun _ h9 => h9) rfl (by decide +kernel) rfl rfl (Nat.le_of_ble_eq_true rfl) dX8_readNumber_82 (fun H locs hP hD hS => ?_)
        have hP : va_P D vwCl ([((t 0), .inr (8, [.ref (t 1), .int (zi t_length), .int (zi t_next), .int (zi (2 : Int)), .int (zi t_place), .int (zi t_value)])), ((t 1), .inl (κ 0, 300, .inl (zc t_bytes)))]) H := hP
        have hD : va_D A ([((t 0), .inr (8, [.ref (t 1), .int (zi t_length), .int (zi t_next), .int (zi (2 : Int)), .int (zi t_place), .int (zi t_value)])), ((t 1), .inl (κ 0, 300, .inl (zc t_bytes)))]) := hD
        exact (Go_s hg) _ _ _ _ hP hD hS dX8_readNumber_85
    · have hg := Go_f c9 hg
      refine lv_aload_n hx hb dX8_readNumber_26 rfl (lv_at hl 0 rfl) ?_
      refine lv_aload_n hx hb dX8_readNumber_27 rfl (lv_at hl 0 rfl) ?_
      refine va_get (D := D) (ci := 8) (v := .int (zi t_value)) (C := RX8) (T := TX8) (N := 6) hx hb hts zi_X8_readNumber_X8 hown hK hP 0 rfl rfl 5 (by decide) (hts (.fieldLink RX8 25 "DiamondRows$Tape" "value" "I") zl_X8_readNumber_25) (fun _ h9 => h9) rfl dX8_readNumber_28 ?_
      refine zv_bipush hx hb dX8_readNumber_31 (by decide) ?_
      refine zv_imul hx hb dX8_readNumber_33 ?_
      refine lv_aload_n hx hb dX8_readNumber_34 rfl (lv_at hl 0 rfl) ?_
      refine va_get (D := D) (ci := 8) (v := .ref (t 1)) (C := RX8) (T := TX8) (N := 6) hx hb hts zi_X8_readNumber_X8 hown hK hP 0 rfl rfl 0 (by decide) (hts (.fieldLink RX8 11 "DiamondRows$Tape" "bytes" "[B") zl_X8_readNumber_11) (fun _ h9 => h9) rfl dX8_readNumber_35 ?_
      refine lv_aload_n hx hb dX8_readNumber_38 rfl (lv_at hl 0 rfl) ?_
      refine va_get (D := D) (ci := 8) (v := .int (zi t_next)) (C := RX8) (T := TX8) (N := 6) hx hb hts zi_X8_readNumber_X8 hown hK hP 0 rfl rfl 2 (by decide) (hts (.fieldLink RX8 28 "DiamondRows$Tape" "next" "I") zl_X8_readNumber_28) (fun _ h9 => h9) rfl dX8_readNumber_39 ?_
      refine zv_bald hx hb hK hP 1 0 rfl rfl (by decide) n5 dX8_readNumber_42 ?_
      refine zv_iadd hx hb dX8_readNumber_43 ?_
      refine zv_bipush hx hb dX8_readNumber_44 (by decide) ?_
      refine zv_isub hx hb dX8_readNumber_46 ?_
      refine va_put (D := D) (ci := 8) (v := .int (zi (((t_value * (10 : Int)) + (zget t_bytes (Int.toNat t_next))) - (48 : Int)))) (ty := .int) (C := RX8) (T := TX8) (N := 6) hx hb hts zi_X8_readNumber_X8 tyX8 tyX8_ok nmX8 hown hK hP hD hS 0 rfl rfl 5 (by decide) (hts (.fieldLink RX8 25 "DiamondRows$Tape" "value" "I") zl_X8_readNumber_25) (fun _ h9 => h9) rfl (by decide +kernel) rfl rfl (Nat.le_of_ble_eq_true rfl) dX8_readNumber_47 (fun H locs hP hD hS => ?_)
      have hP : va_P D vwCl ([((t 0), .inr (8, [.ref (t 1), .int (zi t_length), .int (zi t_next), .int (zi t_kind), .int (zi t_place), .int (zi (((t_value * (10 : Int)) + (zget t_bytes (Int.toNat t_next))) - (48 : Int)))])), ((t 1), .inl (κ 0, 300, .inl (zc t_bytes)))]) H := hP
      have hD : va_D A ([((t 0), .inr (8, [.ref (t 1), .int (zi t_length), .int (zi t_next), .int (zi t_kind), .int (zi t_place), .int (zi (((t_value * (10 : Int)) + (zget t_bytes (Int.toNat t_next))) - (48 : Int)))])), ((t 1), .inl (κ 0, 300, .inl (zc t_bytes)))]) := hD
      refine lv_aload_n hx hb dX8_readNumber_50 rfl (lv_at hl 0 rfl) ?_
      refine lv_dup hx hb dX8_readNumber_51 rfl ?_
      refine va_get (D := D) (ci := 8) (v := .int (zi t_next)) (C := RX8) (T := TX8) (N := 6) hx hb hts zi_X8_readNumber_X8 hown hK hP 0 rfl rfl 2 (by decide) (hts (.fieldLink RX8 28 "DiamondRows$Tape" "next" "I") zl_X8_readNumber_28) (fun _ h9 => h9) rfl dX8_readNumber_52 ?_
      refine zv_iconst hx hb dX8_readNumber_55 ?_
      refine zv_iadd hx hb dX8_readNumber_56 ?_
      refine va_put (D := D) (ci := 8) (v := .int (zi (t_next + (1 : Int)))) (ty := .int) (C := RX8) (T := TX8) (N := 6) hx hb hts zi_X8_readNumber_X8 tyX8 tyX8_ok nmX8 hown hK hP hD hS 0 rfl rfl 2 (by decide) (hts (.fieldLink RX8 28 "DiamondRows$Tape" "next" "I") zl_X8_readNumber_28) (fun _ h9 => h9) rfl (by decide +kernel) rfl rfl (Nat.le_of_ble_eq_true rfl) dX8_readNumber_57 (fun H locs hP hD hS => ?_)
      have hP : va_P D vwCl ([((t 0), .inr (8, [.ref (t 1), .int (zi t_length), .int (zi (t_next + (1 : Int))), .int (zi t_kind), .int (zi t_place), .int (zi (((t_value * (10 : Int)) + (zget t_bytes (Int.toNat t_next))) - (48 : Int)))])), ((t 1), .inl (κ 0, 300, .inl (zc t_bytes)))]) H := hP
      have hD : va_D A ([((t 0), .inr (8, [.ref (t 1), .int (zi t_length), .int (zi (t_next + (1 : Int))), .int (zi t_kind), .int (zi t_place), .int (zi (((t_value * (10 : Int)) + (zget t_bytes (Int.toNat t_next))) - (48 : Int)))])), ((t 1), .inl (κ 0, 300, .inl (zc t_bytes)))]) := hD
      refine lv_goto (tgt := 0) hx hb dX8_readNumber_60 (by decide) ?_
      exact (Go_s hg) H locs ls hP hD hS (lv_sub hl [0] rfl)
set_option maxHeartbeats 4000000 in
set_option maxRecDepth 100000 in
theorem zw_X8_readNumber {p : Program} {l : Launch} {e : Env} {s : State} {m : MethodId} {args : Array Value} {below : List Frame} {meth : Method} {c : Code} {Q : State → Prop} {D : va_G} {κ : Nat → ClassId} {A : Nat → Prop} {H0 : Heap} (t : Nat → Nat) (t_length : Int) (t_place : Int) (t_bytes : Nat) (t_next : Int) (t_kind : Int) (t_value : Int)  (hx : p.tables.exec = Jvm.exec) (hb : c.code = cX8_readNumber) (hml : c.maxLocals = 1) (hown : s.vm.findClass RX8 = some m.cls) (hts : ∀ w ∈ wsX8_readNumber, w.before args s = true) (hK : va_K D vwCl (zTY κ) s) (hA : ∀ q : Nat, H0.size ≤ q → A q) (out : Int × Int × Int) (h : zf_X8_readNumber t_length t_next t_kind t_place t_value t_bytes  = some out) (hq : zQ_X8_readNumber p l e s m args below meth c Q D κ A H0 t t_length t_place t_bytes out) : zA_X8_readNumber_0 p l e s m args below meth c Q D κ A H0 t t_length t_place t_bytes t_next t_kind t_value := by
  have hst : ∀ st : zS_X8_readNumber, Go (GoE (zA_X8_readNumber p l e s m args below meth c Q D κ A H0 t t_length t_place t_bytes) (zQ_X8_readNumber p l e s m args below meth c Q D κ A H0 t t_length t_place t_bytes)) (zg_X8_readNumber t_length t_place t_bytes st) → zA_X8_readNumber p l e s m args below meth c Q D κ A H0 t t_length t_place t_bytes st := by
    intro st hg
    obtain ⟨lab, t_next, t_kind, t_value⟩ := st
    by_cases h0 : lab = 0
    · subst h0
      exact zs_X8_readNumber_0 t t_length t_place t_bytes hx hb hml hown hts hK hA t_next t_kind t_value hg
    have hz : zg_X8_readNumber t_length t_place t_bytes (lab, t_next, t_kind, t_value) = none := by simp [zg_X8_readNumber, h0]
    rw [hz] at hg
    obtain ⟨a, h1, -⟩ := hg
    cases h1
  exact jwalk (At := zA_X8_readNumber p l e s m args below meth c Q D κ A H0 t t_length t_place t_bytes) (Ret := zQ_X8_readNumber p l e s m args below meth c Q D κ A H0 t t_length t_place t_bytes) hst _ _ _ h hq
set_option maxHeartbeats 4000000 in
set_option maxRecDepth 100000 in
theorem zc_X8_readNumber (l : Launch) (D : va_G) (κ : Nat → ClassId) (t : Nat → Nat) (sz : Nat) (t_length : Int) (t_next : Int) (t_kind : Int) (t_place : Int) (t_value : Int) (t_bytes : Nat)  (out : Int × Int × Int) (h : zf_X8_readNumber t_length t_next t_kind t_place t_value t_bytes  = some out) : Met l yX8_readNumber wsX8_readNumber zr_X8_readNumber (va_Pc [.ref (t 0)] (zW D κ ([((t 0), .inr (8, [.ref (t 1), .int (zi t_length), .int (zi t_next), .int (zi t_kind), .int (zi t_place), .int (zi t_value)])), ((t 1), .inl (κ 0, 300, .inl (zc t_bytes)))]) sz)) (va_Qv (fun (_ : Unit) => True) (fun _ => zB D κ (va_A ([((t 0), .inr (8, [.ref (t 1), .int (zi t_length), .int (zi t_next), .int (zi t_kind), .int (zi t_place), .int (zi t_value)])), ((t 1), .inl (κ 0, 300, .inl (zc t_bytes)))]) sz) ([((t 0), .inr (8, [.ref (t 1), .int (zi t_length), .int (zi (out.1)), .int (zi (out.2.1)), .int (zi t_place), .int (zi (out.2.2))])), ((t 1), .inl (κ 0, 300, .inl (zc t_bytes)))])) (va_A ([((t 0), .inr (8, [.ref (t 1), .int (zi t_length), .int (zi t_next), .int (zi t_kind), .int (zi t_place), .int (zi t_value)])), ((t 1), .inl (κ 0, 300, .inl (zc t_bytes)))]) sz)) 0 0 (va_A ([((t 0), .inr (8, [.ref (t 1), .int (zi t_length), .int (zi t_next), .int (zi t_kind), .int (zi t_place), .int (zi t_value)])), ((t 1), .inl (κ 0, 300, .inl (zc t_bytes)))]) sz) := by
  refine Met.ofW (cc := cX8_readNumber) (maxL := 1) (ret := none) (by decide +kernel) rfl ?_
  intro p e s m args below meth c s₁ B hml hv
  obtain ⟨rfl, hsz, hP, hK, hD0⟩ := hv
  have hx := B.exec
  have hb := B.bytes
  have hr := B.returns
  have hts := atoms_spec (ws := wsX8_readNumber) B.pre
  have hown : s.vm.findClass RX8 = some m.cls := findClass_of_methodNamed B.named
  have hlocks := B.notSynchronized
  subst hsz
  have hD := hD0.self (sz := s.heap.size)
  generalize hAe : va_A ([((t 0), .inr (8, [.ref (t 1), .int (zi t_length), .int (zi t_next), .int (zi t_kind), .int (zi t_place), .int (zi t_value)])), ((t 1), .inl (κ 0, 300, .inl (zc t_bytes)))]) s.heap.size = A at hD ⊢
  have hA : ∀ q : Nat, s.heap.size ≤ q → A q := fun q h => by rw [← hAe]; exact Or.inr h
  have hS : va_S A s.heap s.heap [] := va_S.rf
  have hl := lv_entry ([.ref (t 0)]) (n := 1) (Nat.le_of_ble_eq_true rfl)
  rw [lg_entry_eq]
  generalize (lg_sl ([.ref (t 0)]) ++ List.replicate (1 - (lg_sl ([.ref (t 0)])).length) Slot.unset).toArray = ls at hl ⊢
  have hl : lv_has ls 1 [(0, .ref (t 0))] := hl
  refine (zw_X8_readNumber t t_length t_place t_bytes t_next t_kind t_value  hx hb hml hown hts hK hA out h ?_) s.heap [] ls hP hD hS (lv_sub hl [0] rfl)
  exact fun H locs ls pc hP hD hS hd => W.vret hx hb hr (fun t ht hW => ⟨⟨(), rfl, trivial, by rw [ht]; exact hP, va_K.moved hW.alike hK, hD⟩, hS.F ht⟩) hS.2.2 hd
/-! DiamondRows$Tape.readToken()V -/
abbrev zr_X8_readToken : Room := { frames := 2, cells := 0, slots := 0, locals := 40 }
abbrev zS_X8_readToken : Type := Nat × Int × Int × Int × Int
abbrev zO_X8_readToken : Type := Int × Int × Int × Int
noncomputable def zg_X8_readToken_0  (t_length : Int) (t_bytes : Nat) (t_next : Int) (t_kind : Int) (t_place : Int) (t_value : Int) : Option (zO_X8_readToken ⊕ zS_X8_readToken) :=
  if zout t_next then none else
  if zout t_length then none else
  if t_length ≤ t_next then
  some (.inr (39, t_next, t_kind, t_place, t_value))
  else
  if t_next < 0 ∨ 300 ≤ t_next then none else
  Option.bind (zf_X8_isBlank (zget t_bytes (Int.toNat t_next))) (fun o4 =>
  if o4 = false then
  some (.inr (39, t_next, t_kind, t_place, t_value))
  else
  some (.inr (0, (t_next + (1 : Int)), t_kind, t_place, t_value)))
noncomputable def zg_X8_readToken_39  (t_length : Int) (t_bytes : Nat) (t_next : Int) (t_kind : Int) (t_place : Int) (t_value : Int) : Option (zO_X8_readToken ⊕ zS_X8_readToken) :=
  if zout t_next then none else
  if zout t_length then none else
  if t_next < t_length then
  if t_next < 0 ∨ 300 ≤ t_next then none else
  Option.bind (zf_X8_isLetter (zget t_bytes (Int.toNat t_next))) (fun o10 =>
  if o10 = false then
  Option.bind (zf_X8_isDigit (zget t_bytes (Int.toNat t_next))) (fun o11 =>
  if o11 = false then
  if (zget t_bytes (Int.toNat t_next)) = (59 : Int) then
  some (.inl ((t_next + (1 : Int)), (3 : Int), t_next, (0 : Int)))
  else
  some (.inl ((t_next + (1 : Int)), (4 : Int), t_next, (0 : Int)))
  else
  Option.bind (zf_X8_readNumber t_length t_next t_kind t_next (0 : Int) t_bytes) (fun o13 =>
  some (.inl ((o13.1), (o13.2.1), t_next, (o13.2.2)))))
  else
  Option.bind (zf_X8_readWord t_length t_next t_kind t_next t_bytes) (fun o15 =>
  some (.inl ((o15.1), (o15.2), t_next, (0 : Int)))))
  else
  some (.inl (t_next, (0 : Int), t_next, (0 : Int)))
noncomputable def zg_X8_readToken  (t_length : Int) (t_bytes : Nat) (st : zS_X8_readToken) : Option (zO_X8_readToken ⊕ zS_X8_readToken) := match st with
  | (lab, t_next, t_kind, t_place, t_value) => if lab = 0 then zg_X8_readToken_0 t_length t_bytes t_next t_kind t_place t_value else if lab = 39 then zg_X8_readToken_39 t_length t_bytes t_next t_kind t_place t_value else none
noncomputable def zf_X8_readToken  (t_length : Int) (t_next : Int) (t_kind : Int) (t_place : Int) (t_value : Int) (t_bytes : Nat)  : Option (Int × Int × Int × Int) := jrun (zg_X8_readToken t_length t_bytes) jfuel (0, t_next, t_kind, t_place, t_value)
theorem zi_X8_readToken_X8 : ∀ w ∈ u_ws RX8 TX8 6, w ∈ wsX8_readToken := fun w h => (List.mem_cons_of_mem _ (List.mem_append_right _ (List.mem_append_left _ h)))
theorem zl_X8_readToken_11 : Cond.fieldLink RX8 11 "DiamondRows$Tape" "bytes" "[B" ∈ wsX8_readToken := (List.mem_cons_of_mem _ (List.mem_append_left _ (List.mem_of_getElem? (i := 2) rfl)))
theorem zl_X8_readToken_15 : Cond.fieldLink RX8 15 "DiamondRows$Tape" "length" "I" ∈ wsX8_readToken := (List.mem_cons_of_mem _ (List.mem_append_left _ (List.mem_of_getElem? (i := 1) rfl)))
theorem zl_X8_readToken_19 : Cond.fieldLink RX8 19 "DiamondRows$Tape" "kind" "I" ∈ wsX8_readToken := (List.mem_cons_of_mem _ (List.mem_append_left _ (List.mem_of_getElem? (i := 5) rfl)))
theorem zl_X8_readToken_22 : Cond.fieldLink RX8 22 "DiamondRows$Tape" "place" "I" ∈ wsX8_readToken := (List.mem_cons_of_mem _ (List.mem_append_left _ (List.mem_of_getElem? (i := 3) rfl)))
theorem zl_X8_readToken_25 : Cond.fieldLink RX8 25 "DiamondRows$Tape" "value" "I" ∈ wsX8_readToken := (List.mem_cons_of_mem _ (List.mem_append_left _ (List.mem_of_getElem? (i := 4) rfl)))
theorem zl_X8_readToken_28 : Cond.fieldLink RX8 28 "DiamondRows$Tape" "next" "I" ∈ wsX8_readToken := (List.mem_cons_of_mem _ (List.mem_append_left _ (List.mem_of_getElem? (i := 0) rfl)))
def zQ_X8_readToken (p : Program) (l : Launch) (e : Env) (s : State) (m : MethodId) (args : Array Value) (below : List Frame) (meth : Method) (c : Code) (Q : State → Prop) (D : va_G) (κ : Nat → ClassId) (A : Nat → Prop) (H0 : Heap) (t : Nat → Nat) (t_length : Int) (t_bytes : Nat) (o : Int × Int × Int × Int) : Prop := ∀ (H : Heap) (locs : List Loc) (ls : Array Slot) (pc : Nat), va_P D vwCl ([((t 0), .inr (8, [.ref (t 1), .int (zi t_length), .int (zi (o.1)), .int (zi (o.2.1)), .int (zi (o.2.2.1)), .int (zi (o.2.2.2))])), ((t 1), .inl (κ 0, 300, .inl (zc t_bytes)))]) H → va_D A ([((t 0), .inr (8, [.ref (t 1), .int (zi t_length), .int (zi (o.1)), .int (zi (o.2.1)), .int (zi (o.2.2.1)), .int (zi (o.2.2.2))])), ((t 1), .inl (κ 0, 300, .inl (zc t_bytes)))]) → va_S A H0 H locs → decode cX8_readToken pc = .ok (.return_, 1) → W p l e zr_X8_readToken s m args below meth c H locs 0 0 Q (F0 m pc ls [])
def zA_X8_readToken_0 (p : Program) (l : Launch) (e : Env) (s : State) (m : MethodId) (args : Array Value) (below : List Frame) (meth : Method) (c : Code) (Q : State → Prop) (D : va_G) (κ : Nat → ClassId) (A : Nat → Prop) (H0 : Heap) (t : Nat → Nat) (t_length : Int) (t_bytes : Nat) (t_next : Int) (t_kind : Int) (t_place : Int) (t_value : Int) : Prop := ∀ (H : Heap) (locs : List Loc) (ls : Array Slot), va_P D vwCl ([((t 0), .inr (8, [.ref (t 1), .int (zi t_length), .int (zi t_next), .int (zi t_kind), .int (zi t_place), .int (zi t_value)])), ((t 1), .inl (κ 0, 300, .inl (zc t_bytes)))]) H → va_D A ([((t 0), .inr (8, [.ref (t 1), .int (zi t_length), .int (zi t_next), .int (zi t_kind), .int (zi t_place), .int (zi t_value)])), ((t 1), .inl (κ 0, 300, .inl (zc t_bytes)))]) → va_S A H0 H locs → lv_has ls 1 [(0, .ref (t 0))] → W p l e zr_X8_readToken s m args below meth c H locs 0 0 Q (F0 m 0 ls [])
def zA_X8_readToken_39 (p : Program) (l : Launch) (e : Env) (s : State) (m : MethodId) (args : Array Value) (below : List Frame) (meth : Method) (c : Code) (Q : State → Prop) (D : va_G) (κ : Nat → ClassId) (A : Nat → Prop) (H0 : Heap) (t : Nat → Nat) (t_length : Int) (t_bytes : Nat) (t_next : Int) (t_kind : Int) (t_place : Int) (t_value : Int) : Prop := ∀ (H : Heap) (locs : List Loc) (ls : Array Slot), va_P D vwCl ([((t 0), .inr (8, [.ref (t 1), .int (zi t_length), .int (zi t_next), .int (zi t_kind), .int (zi t_place), .int (zi t_value)])), ((t 1), .inl (κ 0, 300, .inl (zc t_bytes)))]) H → va_D A ([((t 0), .inr (8, [.ref (t 1), .int (zi t_length), .int (zi t_next), .int (zi t_kind), .int (zi t_place), .int (zi t_value)])), ((t 1), .inl (κ 0, 300, .inl (zc t_bytes)))]) → va_S A H0 H locs → lv_has ls 1 [(0, .ref (t 0))] → W p l e zr_X8_readToken s m args below meth c H locs 0 0 Q (F0 m 39 ls [])
def zA_X8_readToken (p : Program) (l : Launch) (e : Env) (s : State) (m : MethodId) (args : Array Value) (below : List Frame) (meth : Method) (c : Code) (Q : State → Prop) (D : va_G) (κ : Nat → ClassId) (A : Nat → Prop) (H0 : Heap) (t : Nat → Nat) (t_length : Int) (t_bytes : Nat) (st : zS_X8_readToken) : Prop := match st with
  | (lab, t_next, t_kind, t_place, t_value) => if lab = 0 then zA_X8_readToken_0 p l e s m args below meth c Q D κ A H0 t t_length t_bytes t_next t_kind t_place t_value else if lab = 39 then zA_X8_readToken_39 p l e s m args below meth c Q D κ A H0 t t_length t_bytes t_next t_kind t_place t_value else True
set_option maxHeartbeats 4000000 in
set_option maxRecDepth 100000 in
theorem zs_X8_readToken_0 {p : Program} {l : Launch} {e : Env} {s : State} {m : MethodId} {args : Array Value} {below : List Frame} {meth : Method} {c : Code} {Q : State → Prop} {D : va_G} {κ : Nat → ClassId} {A : Nat → Prop} {H0 : Heap} (t : Nat → Nat) (t_length : Int) (t_bytes : Nat) (hx : p.tables.exec = Jvm.exec) (hb : c.code = cX8_readToken) (hml : c.maxLocals = 1) (hown : s.vm.findClass RX8 = some m.cls) (hts : ∀ w ∈ wsX8_readToken, w.before args s = true) (hK : va_K D vwCl (zTY κ) s) (hA : ∀ q : Nat, H0.size ≤ q → A q) (t_next : Int) (t_kind : Int) (t_place : Int) (t_value : Int) (hg : Go (GoE (zA_X8_readToken p l e s m args below meth c Q D κ A H0 t t_length t_bytes) (zQ_X8_readToken p l e s m args below meth c Q D κ A H0 t t_length t_bytes)) (zg_X8_readToken_0 t_length t_bytes t_next t_kind t_place t_value)) : zA_X8_readToken_0 p l e s m args below meth c Q D κ A H0 t t_length t_bytes t_next t_kind t_place t_value := by
  intro H locs ls hP hD hS hl
  unfold zg_X8_readToken_0 at hg
  refine lv_aload_n hx hb dX8_readToken_0 rfl (lv_at hl 0 rfl) ?_
  refine va_get (D := D) (ci := 8) (v := .int (zi t_next)) (C := RX8) (T := TX8) (N := 6) hx hb hts zi_X8_readToken_X8 hown hK hP 0 rfl rfl 2 (by decide) (hts (.fieldLink RX8 28 "DiamondRows$Tape" "next" "I") zl_X8_readToken_28) (fun _ h9 => h9) rfl dX8_readToken_1 ?_
  refine lv_aload_n hx hb dX8_readToken_4 rfl (lv_at hl 0 rfl) ?_
  refine va_get (D := D) (ci := 8) (v := .int (zi t_length)) (C := RX8) (T := TX8) (N := 6) hx hb hts zi_X8_readToken_X8 hown hK hP 0 rfl rfl 1 (by decide) (hts (.fieldLink RX8 15 "DiamondRows$Tape" "length" "I") zl_X8_readToken_15) (fun _ h9 => h9) rfl dX8_readToken_5 ?_
  obtain ⟨b1, hg⟩ := Go_n hg
  obtain ⟨b2, hg⟩ := Go_n hg
  refine zv_icmp_ge (tgt := 39) hx hb dX8_readToken_8 (by decide) b1 b2 (fun c6 => ?_) (fun c6 => ?_)
  · have hg := Go_t c6 hg
    exact (Go_s hg) H locs ls hP hD hS (lv_sub hl [0] rfl)
  · have hg := Go_f c6 hg
    refine lv_aload_n hx hb dX8_readToken_11 rfl (lv_at hl 0 rfl) ?_
    refine va_get (D := D) (ci := 8) (v := .ref (t 1)) (C := RX8) (T := TX8) (N := 6) hx hb hts zi_X8_readToken_X8 hown hK hP 0 rfl rfl 0 (by decide) (hts (.fieldLink RX8 11 "DiamondRows$Tape" "bytes" "[B") zl_X8_readToken_11) (fun _ h9 => h9) rfl dX8_readToken_12 ?_
    refine lv_aload_n hx hb dX8_readToken_15 rfl (lv_at hl 0 rfl) ?_
    refine va_get (D := D) (ci := 8) (v := .int (zi t_next)) (C := RX8) (T := TX8) (N := 6) hx hb hts zi_X8_readToken_X8 hown hK hP 0 rfl rfl 2 (by decide) (hts (.fieldLink RX8 28 "DiamondRows$Tape" "next" "I") zl_X8_readToken_28) (fun _ h9 => h9) rfl dX8_readToken_16 ?_
    obtain ⟨n3, hg⟩ := Go_n hg
    refine zv_bald hx hb hK hP 1 0 rfl rfl (by decide) n3 dX8_readToken_19 ?_
    obtain ⟨o4, ho4, hg⟩ := Go_b hg
    refine zc_si (rest := []) ⟨hx, hb, hml, hown, hts⟩ (zc_X8_isBlank l D κ (zget t_bytes (Int.toNat t_next)) o4 ho4) (va_cwS 1 hts gX8_readToken_X8_isBlank rfl rfl rfl hs_X8_isBlank ⟨Nat.le_of_ble_eq_true rfl, Nat.le_of_ble_eq_true rfl⟩) (zpreS hK (hP.sub [] rfl)) rfl hl.1 rfl (Nat.le_of_ble_eq_true rfl) dX8_readToken_20 ⟨Nat.zero_le _, Nat.zero_le _⟩ ?_
    refine zv_ifb_eq (tgt := 39) hx hb dX8_readToken_23 (by decide) (fun c5 => ?_) (fun c5 => ?_)
    · have hg := Go_t c5 hg
      exact (Go_s hg) H locs ls hP hD hS (lv_sub hl [0] rfl)
    · have hg := Go_f c5 hg
      refine lv_aload_n hx hb dX8_readToken_26 rfl (lv_at hl 0 rfl) ?_
      refine lv_dup hx hb dX8_readToken_27 rfl ?_
      refine va_get (D := D) (ci := 8) (v := .int (zi t_next)) (C := RX8) (T := TX8) (N := 6) hx hb hts zi_X8_readToken_X8 hown hK hP 0 rfl rfl 2 (by decide) (hts (.fieldLink RX8 28 "DiamondRows$Tape" "next" "I") zl_X8_readToken_28) (fun _ h9 => h9) rfl dX8_readToken_28 ?_
      refine zv_iconst hx hb dX8_readToken_31 ?_
      refine zv_iadd hx hb dX8_readToken_32 ?_
      refine va_put (D := D) (ci := 8) (v := .int (zi (t_next + (1 : Int)))) (ty := .int) (C := RX8) (T := TX8) (N := 6) hx hb hts zi_X8_readToken_X8 tyX8 tyX8_ok nmX8 hown hK hP hD hS 0 rfl rfl 2 (by decide) (hts (.fieldLink RX8 28 "DiamondRows$Tape" "next" "I") zl_X8_readToken_28) (fun _ h9 => h9) rfl (by decide +kernel) rfl rfl (Nat.le_of_ble_eq_true rfl) dX8_readToken_33 (fun H locs hP hD hS => ?_)
      have hP : va_P D vwCl ([((t 0), .inr (8, [.ref (t 1), .int (zi t_length), .int (zi (t_next + (1 : Int))), .int (zi t_kind), .int (zi t_place), .int (zi t_value)])), ((t 1), .inl (κ 0, 300, .inl (zc t_bytes)))]) H := hP
      have hD : va_D A ([((t 0), .inr (8, [.ref (t 1), .int (zi t_length), .int (zi (t_next + (1 : Int))), .int (zi t_kind), .int (zi t_place), .int (zi t_value)])), ((t 1), .inl (κ 0, 300, .inl (zc t_bytes)))]) := hD
      refine lv_goto (tgt := 0) hx hb dX8_readToken_36 (by decide) ?_
      exact (Go_s hg) H locs ls hP hD hS (lv_sub hl [0] rfl)
set_option maxHeartbeats 4000000 in
set_option maxRecDepth 100000 in
theorem zs_X8_readToken_39 {p : Program} {l : Launch} {e : Env} {s : State} {m : MethodId} {args : Array Value} {below : List Frame} {meth : Method} {c : Code} {Q : State → Prop} {D : va_G} {κ : Nat → ClassId} {A : Nat → Prop} {H0 : Heap} (t : Nat → Nat) (t_length : Int) (t_bytes : Nat) (hx : p.tables.exec = Jvm.exec) (hb : c.code = cX8_readToken) (hml : c.maxLocals = 1) (hown : s.vm.findClass RX8 = some m.cls) (hts : ∀ w ∈ wsX8_readToken, w.before args s = true) (hK : va_K D vwCl (zTY κ) s) (hA : ∀ q : Nat, H0.size ≤ q → A q) (t_next : Int) (t_kind : Int) (t_place : Int) (t_value : Int) (hg : Go (GoE (zA_X8_readToken p l e s m args below meth c Q D κ A H0 t t_length t_bytes) (zQ_X8_readToken p l e s m args below meth c Q D κ A H0 t t_length t_bytes)) (zg_X8_readToken_39 t_length t_bytes t_next t_kind t_place t_value)) : zA_X8_readToken_39 p l e s m args below meth c Q D κ A H0 t t_length t_bytes t_next t_kind t_place t_value := by
  intro H locs ls hP hD hS hl
  unfold zg_X8_readToken_39 at hg
  refine lv_aload_n hx hb dX8_readToken_39 rfl (lv_at hl 0 rfl) ?_
  refine lv_aload_n hx hb dX8_readToken_40 rfl (lv_at hl 0 rfl) ?_
  refine va_get (D := D) (ci := 8) (v := .int (zi t_next)) (C := RX8) (T := TX8) (N := 6) hx hb hts zi_X8_readToken_X8 hown hK hP 0 rfl rfl 2 (by decide) (hts (.fieldLink RX8 28 "DiamondRows$Tape" "next" "I") zl_X8_readToken_28) (fun _ h9 => h9) rfl dX8_readToken_41 ?_
  refine va_put (D := D) (ci := 8) (v := .int (zi t_next)) (ty := .int) (C := RX8) (T := TX8) (N := 6) hx hb hts zi_X8_readToken_X8 tyX8 tyX8_ok nmX8 hown hK hP hD hS 0 rfl rfl 4 (by decide) (hts (.fieldLink RX8 22 "DiamondRows$Tape" "place" "I") zl_X8_readToken_22) (fun _ h9 => h9) rfl (by decide +kernel) rfl rfl (Nat.le_of_ble_eq_true rfl) dX8_readToken_44 (fun H locs hP hD hS => ?_)
  have hP : va_P D vwCl ([((t 0), .inr (8, [.ref (t 1), .int (zi t_length), .int (zi t_next), .int (zi t_kind), .int (zi t_next), .int (zi t_value)])), ((t 1), .inl (κ 0, 300, .inl (zc t_bytes)))]) H := hP
  have hD : va_D A ([((t 0), .inr (8, [.ref (t 1), .int (zi t_length), .int (zi t_next), .int (zi t_kind), .int (zi t_next), .int (zi t_value)])), ((t 1), .inl (κ 0, 300, .inl (zc t_bytes)))]) := hD
  refine lv_aload_n hx hb dX8_readToken_47 rfl (lv_at hl 0 rfl) ?_
  refine zv_iconst hx hb dX8_readToken_48 ?_
  refine va_put (D := D) (ci := 8) (v := .int (zi (0 : Int))) (ty := .int) (C := RX8) (T := TX8) (N := 6) hx hb hts zi_X8_readToken_X8 tyX8 tyX8_ok nmX8 hown hK hP hD hS 0 rfl rfl 5 (by decide) (hts (.fieldLink RX8 25 "DiamondRows$Tape" "value" "I") zl_X8_readToken_25) (fun _ h9 => h9) rfl (by decide +kernel) rfl rfl (Nat.le_of_ble_eq_true rfl) dX8_readToken_49 (fun H locs hP hD hS => ?_)
  have hP : va_P D vwCl ([((t 0), .inr (8, [.ref (t 1), .int (zi t_length), .int (zi t_next), .int (zi t_kind), .int (zi t_next), .int (zi (0 : Int))])), ((t 1), .inl (κ 0, 300, .inl (zc t_bytes)))]) H := hP
  have hD : va_D A ([((t 0), .inr (8, [.ref (t 1), .int (zi t_length), .int (zi t_next), .int (zi t_kind), .int (zi t_next), .int (zi (0 : Int))])), ((t 1), .inl (κ 0, 300, .inl (zc t_bytes)))]) := hD
  refine lv_aload_n hx hb dX8_readToken_52 rfl (lv_at hl 0 rfl) ?_
  refine va_get (D := D) (ci := 8) (v := .int (zi t_next)) (C := RX8) (T := TX8) (N := 6) hx hb hts zi_X8_readToken_X8 hown hK hP 0 rfl rfl 2 (by decide) (hts (.fieldLink RX8 28 "DiamondRows$Tape" "next" "I") zl_X8_readToken_28) (fun _ h9 => h9) rfl dX8_readToken_53 ?_
  refine lv_aload_n hx hb dX8_readToken_56 rfl (lv_at hl 0 rfl) ?_
  refine va_get (D := D) (ci := 8) (v := .int (zi t_length)) (C := RX8) (T := TX8) (N := 6) hx hb hts zi_X8_readToken_X8 hown hK hP 0 rfl rfl 1 (by decide) (hts (.fieldLink RX8 15 "DiamondRows$Tape" "length" "I") zl_X8_readToken_15) (fun _ h9 => h9) rfl dX8_readToken_57 ?_
  obtain ⟨b7, hg⟩ := Go_n hg
  obtain ⟨b8, hg⟩ := Go_n hg
  refine zv_icmp_lt (tgt := 71) hx hb dX8_readToken_60 (by decide) b7 b8 (fun c17 => ?_) (fun c17 => ?_)
  · have hg := Go_t c17 hg
    refine lv_aload_n hx hb dX8_readToken_71 rfl (lv_at hl 0 rfl) ?_
    refine va_get (D := D) (ci := 8) (v := .ref (t 1)) (C := RX8) (T := TX8) (N := 6) hx hb hts zi_X8_readToken_X8 hown hK hP 0 rfl rfl 0 (by decide) (hts (.fieldLink RX8 11 "DiamondRows$Tape" "bytes" "[B") zl_X8_readToken_11) (fun _ h9 => h9) rfl dX8_readToken_72 ?_
    refine lv_aload_n hx hb dX8_readToken_75 rfl (lv_at hl 0 rfl) ?_
    refine va_get (D := D) (ci := 8) (v := .int (zi t_next)) (C := RX8) (T := TX8) (N := 6) hx hb hts zi_X8_readToken_X8 hown hK hP 0 rfl rfl 2 (by decide) (hts (.fieldLink RX8 28 "DiamondRows$Tape" "next" "I") zl_X8_readToken_28) (fun _ h9 => h9) rfl dX8_readToken_76 ?_
    obtain ⟨n9, hg⟩ := Go_n hg
    refine zv_bald hx hb hK hP 1 0 rfl rfl (by decide) n9 dX8_readToken_79 ?_
    obtain ⟨o10, ho10, hg⟩ := Go_b hg
    refine zc_si (rest := []) ⟨hx, hb, hml, hown, hts⟩ (zc_X8_isLetter l D κ (zget t_bytes (Int.toNat t_next)) o10 ho10) (va_cwS 1 hts gX8_readToken_X8_isLetter rfl rfl rfl hs_X8_isLetter ⟨Nat.le_of_ble_eq_true rfl, Nat.le_of_ble_eq_true rfl⟩) (zpreS hK (hP.sub [] rfl)) rfl hl.1 rfl (Nat.le_of_ble_eq_true rfl) dX8_readToken_80 ⟨Nat.zero_le _, Nat.zero_le _⟩ ?_
    refine zv_ifb_eq (tgt := 93) hx hb dX8_readToken_83 (by decide) (fun c16 => ?_) (fun c16 => ?_)
    · have hg := Go_t c16 hg
      refine lv_aload_n hx hb dX8_readToken_93 rfl (lv_at hl 0 rfl) ?_
      refine va_get (D := D) (ci := 8) (v := .ref (t 1)) (C := RX8) (T := TX8) (N := 6) hx hb hts zi_X8_readToken_X8 hown hK hP 0 rfl rfl 0 (by decide) (hts (.fieldLink RX8 11 "DiamondRows$Tape" "bytes" "[B") zl_X8_readToken_11) (fun _ h9 => h9) rfl dX8_readToken_94 ?_
      refine lv_aload_n hx hb dX8_readToken_97 rfl (lv_at hl 0 rfl) ?_
      refine va_get (D := D) (ci := 8) (v := .int (zi t_next)) (C := RX8) (T := TX8) (N := 6) hx hb hts zi_X8_readToken_X8 hown hK hP 0 rfl rfl 2 (by decide) (hts (.fieldLink RX8 28 "DiamondRows$Tape" "next" "I") zl_X8_readToken_28) (fun _ h9 => h9) rfl dX8_readToken_98 ?_
      refine zv_bald hx hb hK hP 1 0 rfl rfl (by decide) n9 dX8_readToken_101 ?_
      obtain ⟨o11, ho11, hg⟩ := Go_b hg
      refine zc_si (rest := []) ⟨hx, hb, hml, hown, hts⟩ (zc_X8_isDigit l D κ (zget t_bytes (Int.toNat t_next)) o11 ho11) (va_cwS 1 hts gX8_readToken_X8_isDigit rfl rfl rfl hs_X8_isDigit ⟨Nat.le_of_ble_eq_true rfl, Nat.le_of_ble_eq_true rfl⟩) (zpreS hK (hP.sub [] rfl)) rfl hl.1 rfl (Nat.le_of_ble_eq_true rfl) dX8_readToken_102 ⟨Nat.zero_le _, Nat.zero_le _⟩ ?_
      refine zv_ifb_eq (tgt := 115) hx hb dX8_readToken_105 (by decide) (fun c14 => ?_) (fun c14 => ?_)
      · have hg := Go_t c14 hg
        refine lv_aload_n hx hb dX8_readToken_115 rfl (lv_at hl 0 rfl) ?_
        refine lv_aload_n hx hb dX8_readToken_116 rfl (lv_at hl 0 rfl) ?_
        refine va_get (D := D) (ci := 8) (v := .ref (t 1)) (C := RX8) (T := TX8) (N := 6) hx hb hts zi_X8_readToken_X8 hown hK hP 0 rfl rfl 0 (by decide) (hts (.fieldLink RX8 11 "DiamondRows$Tape" "bytes" "[B") zl_X8_readToken_11) (fun _ h9 => h9) rfl dX8_readToken_117 ?_
        refine lv_aload_n hx hb dX8_readToken_120 rfl (lv_at hl 0 rfl) ?_
        refine va_get (D := D) (ci := 8) (v := .int (zi t_next)) (C := RX8) (T := TX8) (N := 6) hx hb hts zi_X8_readToken_X8 hown hK hP 0 rfl rfl 2 (by decide) (hts (.fieldLink RX8 28 "DiamondRows$Tape" "next" "I") zl_X8_readToken_28) (fun _ h9 => h9) rfl dX8_readToken_121 ?_
        refine zv_bald hx hb hK hP 1 0 rfl rfl (by decide) n9 dX8_readToken_124 ?_
        refine zv_bipush hx hb dX8_readToken_125 (by decide) ?_
        refine zv_icmp_ne (tgt := 134) hx hb dX8_readToken_127 (by decide) (zget_in _ _) (by decide) (fun c12 => ?_) (fun c12 => ?_)
        · have hg := Go_f c12 hg
          refine zv_iconst hx hb dX8_readToken_134 ?_
          refine va_put (D := D) (ci := 8) (v := .int (zi (4 : Int))) (ty := .int) (C := RX8) (T := TX8) (N := 6) hx hb hts zi_X8_readToken_X8 tyX8 tyX8_ok nmX8 hown hK hP hD hS 0 rfl rfl 3 (by decide) (hts (.fieldLink RX8 19 "DiamondRows$Tape" "kind" "I") zl_X8_readToken_19) (fun _ h9 => h9) rfl (by decide +kernel) rfl rfl (Nat.le_of_ble_eq_true rfl) dX8_readToken_135 (fun H locs hP hD hS => ?_)
          have hP : va_P D vwCl ([((t 0), .inr (8, [.ref (t 1), .int (zi t_length), .int (zi t_next), .int (zi (4 : Int)), .int (zi t_next), .int (zi (0 : Int))])), ((t 1), .inl (κ 0, 300, .inl (zc t_bytes)))]) H := hP
          have hD : va_D A ([((t 0), .inr (8, [.ref (t 1), .int (zi t_length), .int (zi t_next), .int (zi (4 : Int)), .int (zi t_next), .int (zi (0 : Int))])), ((t 1), .inl (κ 0, 300, .inl (zc t_bytes)))]) := hD
          refine lv_aload_n hx hb dX8_readToken_138 rfl (lv_at hl 0 rfl) ?_
          refine lv_dup hx hb dX8_readToken_139 rfl ?_
          refine va_get (D := D) (ci := 8) (v := .int (zi t_next)) (C := RX8) (T := TX8) (N := 6) hx hb hts zi_X8_readToken_X8 hown hK hP 0 rfl rfl 2 (by decide) (hts (.fieldLink RX8 28 "DiamondRows$Tape" "next" "I") zl_X8_readToken_28) (fun _ h9 => h9) rfl dX8_readToken_140 ?_
          refine zv_iconst hx hb dX8_readToken_143 ?_
          refine zv_iadd hx hb dX8_readToken_144 ?_
          refine va_put (D := D) (ci := 8) (v := .int (zi (t_next + (1 : Int)))) (ty := .int) (C := RX8) (T := TX8) (N := 6) hx hb hts zi_X8_readToken_X8 tyX8 tyX8_ok nmX8 hown hK hP hD hS 0 rfl rfl 2 (by decide) (hts (.fieldLink RX8 28 "DiamondRows$Tape" "next" "I") zl_X8_readToken_28) (fun _ h9 => h9) rfl (by decide +kernel) rfl rfl (Nat.le_of_ble_eq_true rfl) dX8_readToken_145 (fun H locs hP hD hS => ?_)
          have hP : va_P D vwCl ([((t 0), .inr (8, [.ref (t 1), .int (zi t_length), .int (zi (t_next + (1 : Int))), .int (zi (4 : Int)), .int (zi t_next), .int (zi (0 : Int))])), ((t 1), .inl (κ 0, 300, .inl (zc t_bytes)))]) H := hP
          have hD : va_D A ([((t 0), .inr (8, [.ref (t 1), .int (zi t_length), .int (zi (t_next + (1 : Int))), .int (zi (4 : Int)), .int (zi t_next), .int (zi (0 : Int))])), ((t 1), .inl (κ 0, 300, .inl (zc t_bytes)))]) := hD
          exact (Go_s hg) _ _ _ _ hP hD hS dX8_readToken_148
        · have hg := Go_t c12 hg
          refine zv_iconst hx hb dX8_readToken_130 ?_
          refine lv_goto (tgt := 135) hx hb dX8_readToken_131 (by decide) ?_
          refine va_put (D := D) (ci := 8) (v := .int (zi (3 : Int))) (ty := .int) (C := RX8) (T := TX8) (N := 6) hx hb hts zi_X8_readToken_X8 tyX8 tyX8_ok nmX8 hown hK hP hD hS 0 rfl rfl 3 (by decide) (hts (.fieldLink RX8 19 "DiamondRows$Tape" "kind" "I") zl_X8_readToken_19) (fun _ h9 => h9) rfl (by decide +kernel) rfl rfl (Nat.le_of_ble_eq_true rfl) dX8_readToken_135 (fun H locs hP hD hS => ?_)
          have hP : va_P D vwCl ([((t 0), .inr (8, [.ref (t 1), .int (zi t_length), .int (zi t_next), .int (zi (3 : Int)), .int (zi t_next), .int (zi (0 : Int))])), ((t 1), .inl (κ 0, 300, .inl (zc t_bytes)))]) H := hP
          have hD : va_D A ([((t 0), .inr (8, [.ref (t 1), .int (zi t_length), .int (zi t_next), .int (zi (3 : Int)), .int (zi t_next), .int (zi (0 : Int))])), ((t 1), .inl (κ 0, 300, .inl (zc t_bytes)))]) := hD
          refine lv_aload_n hx hb dX8_readToken_138 rfl (lv_at hl 0 rfl) ?_
          refine lv_dup hx hb dX8_readToken_139 rfl ?_
          refine va_get (D := D) (ci := 8) (v := .int (zi t_next)) (C := RX8) (T := TX8) (N := 6) hx hb hts zi_X8_readToken_X8 hown hK hP 0 rfl rfl 2 (by decide) (hts (.fieldLink RX8 28 "DiamondRows$Tape" "next" "I") zl_X8_readToken_28) (fun _ h9 => h9) rfl dX8_readToken_140 ?_
          refine zv_iconst hx hb dX8_readToken_143 ?_
          refine zv_iadd hx hb dX8_readToken_144 ?_
          refine va_put (D := D) (ci := 8) (v := .int (zi (t_next + (1 : Int)))) (ty := .int) (C := RX8) (T := TX8) (N := 6) hx hb hts zi_X8_readToken_X8 tyX8 tyX8_ok nmX8 hown hK hP hD hS 0 rfl rfl 2 (by decide) (hts (.fieldLink RX8 28 "DiamondRows$Tape" "next" "I") zl_X8_readToken_28) (fun _ h9 => h9) rfl (by decide +kernel) rfl rfl (Nat.le_of_ble_eq_true rfl) dX8_readToken_145 (fun H locs hP hD hS => ?_)
          have hP : va_P D vwCl ([((t 0), .inr (8, [.ref (t 1), .int (zi t_length), .int (zi (t_next + (1 : Int))), .int (zi (3 : Int)), .int (zi t_next), .int (zi (0 : Int))])), ((t 1), .inl (κ 0, 300, .inl (zc t_bytes)))]) H := hP
          have hD : va_D A ([((t 0), .inr (8, [.ref (t 1), .int (zi t_length), .int (zi (t_next + (1 : Int))), .int (zi (3 : Int)), .int (zi t_next), .int (zi (0 : Int))])), ((t 1), .inl (κ 0, 300, .inl (zc t_bytes)))]) := hD
          exact (Go_s hg) _ _ _ _ hP hD hS dX8_readToken_148
      · have hg := Go_f c14 hg
        refine lv_aload_n hx hb dX8_readToken_108 rfl (lv_at hl 0 rfl) ?_
        obtain ⟨o13, ho13, hg⟩ := Go_b hg
        refine zj_v (wr := []) (ws1 := [((t 0), .inr (8, [.ref (t 1), .int (zi t_length), .int (zi (o13.1)), .int (zi (o13.2.1)), .int (zi t_next), .int (zi (o13.2.2))])), ((t 1), .inl (κ 0, 300, .inl (zc t_bytes)))]) (va_runV (rest := []) ⟨hx, hb, hml, hown, hts⟩ (zc_X8_readNumber l D κ t H.size t_length t_next t_kind t_next (0 : Int) t_bytes o13 ho13) (cwV 0 hts gX8_readToken_X8_readNumber rfl rfl rfl hv_X8_readNumber ⟨Nat.le_of_ble_eq_true rfl, Nat.le_of_ble_eq_true rfl⟩) (zpreWV hK (hP.sub [0, 1] rfl) (hD.sub [0, 1] (by decide) rfl) 8 0 rfl rfl) rfl rfl hl.1 rfl (lv_room (Nat.le_of_ble_eq_true rfl)) dX8_readToken_109 ⟨Nat.zero_le _, Nat.zero_le _⟩) hP hD hS hA [0, 1] [] [0, 1] rfl rfl (by decide) (by decide) rfl rfl (by decide) (fun H locs hP hD hS => ?_)
        refine lv_goto (tgt := 148) hx hb dX8_readToken_112 (by decide) ?_
        exact (Go_s hg) _ _ _ _ hP hD hS dX8_readToken_148
    · have hg := Go_f c16 hg
      refine lv_aload_n hx hb dX8_readToken_86 rfl (lv_at hl 0 rfl) ?_
      obtain ⟨o15, ho15, hg⟩ := Go_b hg
      refine zj_v (wr := []) (ws1 := [((t 0), .inr (8, [.ref (t 1), .int (zi t_length), .int (zi (o15.1)), .int (zi (o15.2)), .int (zi t_next), .int (zi (0 : Int))])), ((t 1), .inl (κ 0, 300, .inl (zc t_bytes)))]) (va_runV (rest := []) ⟨hx, hb, hml, hown, hts⟩ (zc_X8_readWord l D κ t H.size t_length t_next t_kind t_next (0 : Int) t_bytes o15 ho15) (cwV 0 hts gX8_readToken_X8_readWord rfl rfl rfl hv_X8_readWord ⟨Nat.le_of_ble_eq_true rfl, Nat.le_of_ble_eq_true rfl⟩) (zpreWV hK (hP.sub [0, 1] rfl) (hD.sub [0, 1] (by decide) rfl) 8 0 rfl rfl) rfl rfl hl.1 rfl (lv_room (Nat.le_of_ble_eq_true rfl)) dX8_readToken_87 ⟨Nat.zero_le _, Nat.zero_le _⟩) hP hD hS hA [0, 1] [] [0, 1] rfl rfl (by decide) (by decide) rfl rfl (by decide) (fun H locs hP hD hS => ?_)
      refine lv_goto (tgt := 148) hx hb dX8_readToken_90 (by decide) ?_
      exact (Go_s hg) _ _ _ _ hP hD hS dX8_readToken_148
  · have hg := Go_f c17 hg
    refine lv_aload_n hx hb dX8_readToken_63 rfl (lv_at hl 0 rfl) ?_
    refine zv_iconst hx hb dX8_readToken_64 ?_
    refine va_put (D := D) (ci := 8) (v := .int (zi (0 : Int))) (ty := .int) (C := RX8) (T := TX8) (N := 6) hx hb hts zi_X8_readToken_X8 tyX8 tyX8_ok nmX8 hown hK hP hD hS 0 rfl rfl 3 (by decide) (hts (.fieldLink RX8 19 "DiamondRows$Tape" "kind" "I") zl_X8_readToken_19) (fun _ h9 => h9) rfl (by decide +kernel) rfl rfl (Nat.le_of_ble_eq_true rfl) dX8_readToken_65 (fun H locs hP hD hS => ?_)
    have hP : va_P D vwCl ([((t 0), .inr (8, [.ref (t 1), .int (zi t_length), .int (zi t_next), .int (zi (0 : Int)), .int (zi t_next), .int (zi (0 : Int))])), ((t 1), .inl (κ 0, 300, .inl (zc t_bytes)))]) H := hP
    have hD : va_D A ([((t 0), .inr (8, [.ref (t 1), .int (zi t_length), .int (zi t_next), .int (zi (0 : Int)), .int (zi t_next), .int (zi (0 : Int))])), ((t 1), .inl (κ 0, 300, .inl (zc t_bytes)))]) := hD
    refine lv_goto (tgt := 148) hx hb dX8_readToken_68 (by decide) ?_
    exact (Go_s hg) _ _ _ _ hP hD hS dX8_readToken_148
set_option maxHeartbeats 4000000 in
set_option maxRecDepth 100000 in
theorem zw_X8_readToken {p : Program} {l : Launch} {e : Env} {s : State} {m : MethodId} {args : Array Value} {below : List Frame} {meth : Method} {c : Code} {Q : State → Prop} {D : va_G} {κ : Nat → ClassId} {A : Nat → Prop} {H0 : Heap} (t : Nat → Nat) (t_length : Int) (t_bytes : Nat) (t_next : Int) (t_kind : Int) (t_place : Int) (t_value : Int)  (hx : p.tables.exec = Jvm.exec) (hb : c.code = cX8_readToken) (hml : c.maxLocals = 1) (hown : s.vm.findClass RX8 = some m.cls) (hts : ∀ w ∈ wsX8_readToken, w.before args s = true) (hK : va_K D vwCl (zTY κ) s) (hA : ∀ q : Nat, H0.size ≤ q → A q) (out : Int × Int × Int × Int) (h : zf_X8_readToken t_length t_next t_kind t_place t_value t_bytes  = some out) (hq : zQ_X8_readToken p l e s m args below meth c Q D κ A H0 t t_length t_bytes out) : zA_X8_readToken_0 p l e s m args below meth c Q D κ A H0 t t_length t_bytes t_next t_kind t_place t_value := by
  have hst : ∀ st : zS_X8_readToken, Go (GoE (zA_X8_readToken p l e s m args below meth c Q D κ A H0 t t_length t_bytes) (zQ_X8_readToken p l e s m args below meth c Q D κ A H0 t t_length t_bytes)) (zg_X8_readToken t_length t_bytes st) → zA_X8_readToken p l e s m args below meth c Q D κ A H0 t t_length t_bytes st := by
    intro st hg
    obtain ⟨lab, t_next, t_kind, t_place, t_value⟩ := st
    by_cases h0 : lab = 0
    · subst h0
      exact zs_X8_readToken_0 t t_length t_bytes hx hb hml hown hts hK hA t_next t_kind t_place t_value hg
    by_cases h39 : lab = 39
    · subst h39
      exact zs_X8_readToken_39 t t_length t_bytes hx hb hml hown hts hK hA t_next t_kind t_place t_value hg
    have hz : zg_X8_readToken t_length t_bytes (lab, t_next, t_kind, t_place, t_value) = none := by simp [zg_X8_readToken, h0, h39]
    rw [hz] at hg
    obtain ⟨a, h1, -⟩ := hg
    cases h1
  exact jwalk (At := zA_X8_readToken p l e s m args below meth c Q D κ A H0 t t_length t_bytes) (Ret := zQ_X8_readToken p l e s m args below meth c Q D κ A H0 t t_length t_bytes) hst _ _ _ h hq
set_option maxHeartbeats 4000000 in
set_option maxRecDepth 100000 in
theorem zc_X8_readToken (l : Launch) (D : va_G) (κ : Nat → ClassId) (t : Nat → Nat) (sz : Nat) (t_length : Int) (t_next : Int) (t_kind : Int) (t_place : Int) (t_value : Int) (t_bytes : Nat)  (out : Int × Int × Int × Int) (h : zf_X8_readToken t_length t_next t_kind t_place t_value t_bytes  = some out) : Met l yX8_readToken wsX8_readToken zr_X8_readToken (va_Pc [.ref (t 0)] (zW D κ ([((t 0), .inr (8, [.ref (t 1), .int (zi t_length), .int (zi t_next), .int (zi t_kind), .int (zi t_place), .int (zi t_value)])), ((t 1), .inl (κ 0, 300, .inl (zc t_bytes)))]) sz)) (va_Qv (fun (_ : Unit) => True) (fun _ => zB D κ (va_A ([((t 0), .inr (8, [.ref (t 1), .int (zi t_length), .int (zi t_next), .int (zi t_kind), .int (zi t_place), .int (zi t_value)])), ((t 1), .inl (κ 0, 300, .inl (zc t_bytes)))]) sz) ([((t 0), .inr (8, [.ref (t 1), .int (zi t_length), .int (zi (out.1)), .int (zi (out.2.1)), .int (zi (out.2.2.1)), .int (zi (out.2.2.2))])), ((t 1), .inl (κ 0, 300, .inl (zc t_bytes)))])) (va_A ([((t 0), .inr (8, [.ref (t 1), .int (zi t_length), .int (zi t_next), .int (zi t_kind), .int (zi t_place), .int (zi t_value)])), ((t 1), .inl (κ 0, 300, .inl (zc t_bytes)))]) sz)) 0 0 (va_A ([((t 0), .inr (8, [.ref (t 1), .int (zi t_length), .int (zi t_next), .int (zi t_kind), .int (zi t_place), .int (zi t_value)])), ((t 1), .inl (κ 0, 300, .inl (zc t_bytes)))]) sz) := by
  refine Met.ofW (cc := cX8_readToken) (maxL := 1) (ret := none) (by decide +kernel) rfl ?_
  intro p e s m args below meth c s₁ B hml hv
  obtain ⟨rfl, hsz, hP, hK, hD0⟩ := hv
  have hx := B.exec
  have hb := B.bytes
  have hr := B.returns
  have hts := atoms_spec (ws := wsX8_readToken) B.pre
  have hown : s.vm.findClass RX8 = some m.cls := findClass_of_methodNamed B.named
  have hlocks := B.notSynchronized
  subst hsz
  have hD := hD0.self (sz := s.heap.size)
  generalize hAe : va_A ([((t 0), .inr (8, [.ref (t 1), .int (zi t_length), .int (zi t_next), .int (zi t_kind), .int (zi t_place), .int (zi t_value)])), ((t 1), .inl (κ 0, 300, .inl (zc t_bytes)))]) s.heap.size = A at hD ⊢
  have hA : ∀ q : Nat, s.heap.size ≤ q → A q := fun q h => by rw [← hAe]; exact Or.inr h
  have hS : va_S A s.heap s.heap [] := va_S.rf
  have hl := lv_entry ([.ref (t 0)]) (n := 1) (Nat.le_of_ble_eq_true rfl)
  rw [lg_entry_eq]
  generalize (lg_sl ([.ref (t 0)]) ++ List.replicate (1 - (lg_sl ([.ref (t 0)])).length) Slot.unset).toArray = ls at hl ⊢
  have hl : lv_has ls 1 [(0, .ref (t 0))] := hl
  refine (zw_X8_readToken t t_length t_bytes t_next t_kind t_place t_value  hx hb hml hown hts hK hA out h ?_) s.heap [] ls hP hD hS (lv_sub hl [0] rfl)
  exact fun H locs ls pc hP hD hS hd => W.vret hx hb hr (fun t ht hW => ⟨⟨(), rfl, trivial, by rw [ht]; exact hP, va_K.moved hW.alike hK, hD⟩, hS.F ht⟩) hS.2.2 hd
/-! DiamondRows$Tape.readNumbers([I)I -/
abbrev zr_X8_readNumbers : Room := { frames := 3, cells := 0, slots := 0, locals := 60 }
abbrev zS_X8_readNumbers : Type := Nat × Int × Int × Int × Int × Int × Nat
abbrev zO_X8_readNumbers : Type := Int × Int × Int × Int × Int × Nat
noncomputable def zg_X8_readNumbers_0  (t_length : Int) (t_bytes : Nat) (i2 : Int) (t_next : Int) (t_kind : Int) (t_place : Int) (t_value : Int) (q1_c : Nat) : Option (zO_X8_readNumbers ⊕ zS_X8_readNumbers) :=
  Option.bind (zf_X8_rewind t_next) (fun o1 =>
  some (.inr (6, (0 : Int), o1, t_kind, t_place, t_value, q1_c)))
noncomputable def zg_X8_readNumbers_6  (t_length : Int) (t_bytes : Nat) (i2 : Int) (t_next : Int) (t_kind : Int) (t_place : Int) (t_value : Int) (q1_c : Nat) : Option (zO_X8_readNumbers ⊕ zS_X8_readNumbers) :=
  if zout i2 then none else
  if (10 : Int) < i2 then
  some (.inl ((-1 : Int), t_next, t_kind, t_place, t_value, q1_c))
  else
  Option.bind (zf_X8_readToken t_length t_next t_kind t_place t_value t_bytes) (fun o3 =>
  if zout (o3.2.1) then none else
  if (o3.2.1) = 0 then
  some (.inl (i2, (o3.1), (o3.2.1), (o3.2.2.1), (o3.2.2.2), q1_c))
  else
  if (o3.2.1) = (2 : Int) then
  if i2 = (10 : Int) then
  some (.inl ((-1 : Int), (o3.1), (o3.2.1), (o3.2.2.1), (o3.2.2.2), q1_c))
  else
  if i2 < 0 ∨ 10 ≤ i2 then none else
  some (.inr (6, (i2 + (1 : Int)), (o3.1), (o3.2.1), (o3.2.2.1), (o3.2.2.2), (zset q1_c (Int.toNat i2) (o3.2.2.2))))
  else
  some (.inl ((-1 : Int), (o3.1), (o3.2.1), (o3.2.2.1), (o3.2.2.2), q1_c)))
noncomputable def zg_X8_readNumbers  (t_length : Int) (t_bytes : Nat) (st : zS_X8_readNumbers) : Option (zO_X8_readNumbers ⊕ zS_X8_readNumbers) := match st with
  | (lab, i2, t_next, t_kind, t_place, t_value, q1_c) => if lab = 0 then zg_X8_readNumbers_0 t_length t_bytes i2 t_next t_kind t_place t_value q1_c else if lab = 6 then zg_X8_readNumbers_6 t_length t_bytes i2 t_next t_kind t_place t_value q1_c else none
noncomputable def zf_X8_readNumbers  (t_length : Int) (t_next : Int) (t_kind : Int) (t_place : Int) (t_value : Int) (t_bytes : Nat) (q1_c : Nat)  : Option (Int × Int × Int × Int × Int × Nat) := jrun (zg_X8_readNumbers t_length t_bytes) jfuel (0, 0, t_next, t_kind, t_place, t_value, q1_c)
theorem zi_X8_readNumbers_X8 : ∀ w ∈ u_ws RX8 TX8 6, w ∈ wsX8_readNumbers := fun w h => (List.mem_cons_of_mem _ (List.mem_append_right _ (List.mem_append_left _ h)))
theorem zl_X8_readNumbers_19 : Cond.fieldLink RX8 19 "DiamondRows$Tape" "kind" "I" ∈ wsX8_readNumbers := (List.mem_cons_of_mem _ (List.mem_append_left _ (List.mem_of_getElem? (i := 0) rfl)))
theorem zl_X8_readNumbers_25 : Cond.fieldLink RX8 25 "DiamondRows$Tape" "value" "I" ∈ wsX8_readNumbers := (List.mem_cons_of_mem _ (List.mem_append_left _ (List.mem_of_getElem? (i := 1) rfl)))
def zQ_X8_readNumbers (p : Program) (l : Launch) (e : Env) (s : State) (m : MethodId) (args : Array Value) (below : List Frame) (meth : Method) (c : Code) (Q : State → Prop) (D : va_G) (κ : Nat → ClassId) (A : Nat → Prop) (H0 : Heap) (t : Nat → Nat) (q1 : Nat) (t_length : Int) (t_bytes : Nat) (o : Int × Int × Int × Int × Int × Nat) : Prop := ∀ (H : Heap) (locs : List Loc) (ls : Array Slot) (pc : Nat), va_P D vwCl ([((t 0), .inr (8, [.ref (t 1), .int (zi t_length), .int (zi (o.2.1)), .int (zi (o.2.2.1)), .int (zi (o.2.2.2.1)), .int (zi (o.2.2.2.2.1))])), ((t 1), .inl (κ 0, 300, .inl (zc t_bytes))), (q1, .inl (κ 1, 10, .inl (zc (o.2.2.2.2.2))))]) H → va_D A ([((t 0), .inr (8, [.ref (t 1), .int (zi t_length), .int (zi (o.2.1)), .int (zi (o.2.2.1)), .int (zi (o.2.2.2.1)), .int (zi (o.2.2.2.2.1))])), ((t 1), .inl (κ 0, 300, .inl (zc t_bytes))), (q1, .inl (κ 1, 10, .inl (zc (o.2.2.2.2.2))))]) → va_S A H0 H locs → decode cX8_readNumbers pc = .ok (.ireturn, 1) → W p l e zr_X8_readNumbers s m args below meth c H locs 0 0 Q (F0 m pc ls [.int (zi (o.1))])
def zA_X8_readNumbers_0 (p : Program) (l : Launch) (e : Env) (s : State) (m : MethodId) (args : Array Value) (below : List Frame) (meth : Method) (c : Code) (Q : State → Prop) (D : va_G) (κ : Nat → ClassId) (A : Nat → Prop) (H0 : Heap) (t : Nat → Nat) (q1 : Nat) (t_length : Int) (t_bytes : Nat) (i2 : Int) (t_next : Int) (t_kind : Int) (t_place : Int) (t_value : Int) (q1_c : Nat) : Prop := ∀ (H : Heap) (locs : List Loc) (ls : Array Slot), va_P D vwCl ([((t 0), .inr (8, [.ref (t 1), .int (zi t_length), .int (zi t_next), .int (zi t_kind), .int (zi t_place), .int (zi t_value)])), ((t 1), .inl (κ 0, 300, .inl (zc t_bytes))), (q1, .inl (κ 1, 10, .inl (zc q1_c)))]) H → va_D A ([((t 0), .inr (8, [.ref (t 1), .int (zi t_length), .int (zi t_next), .int (zi t_kind), .int (zi t_place), .int (zi t_value)])), ((t 1), .inl (κ 0, 300, .inl (zc t_bytes))), (q1, .inl (κ 1, 10, .inl (zc q1_c)))]) → va_S A H0 H locs → lv_has ls 3 [(0, .ref (t 0)), (1, .ref q1)] → W p l e zr_X8_readNumbers s m args below meth c H locs 0 0 Q (F0 m 0 ls [])
def zA_X8_readNumbers_6 (p : Program) (l : Launch) (e : Env) (s : State) (m : MethodId) (args : Array Value) (below : List Frame) (meth : Method) (c : Code) (Q : State → Prop) (D : va_G) (κ : Nat → ClassId) (A : Nat → Prop) (H0 : Heap) (t : Nat → Nat) (q1 : Nat) (t_length : Int) (t_bytes : Nat) (i2 : Int) (t_next : Int) (t_kind : Int) (t_place : Int) (t_value : Int) (q1_c : Nat) : Prop := ∀ (H : Heap) (locs : List Loc) (ls : Array Slot), va_P D vwCl ([((t 0), .inr (8, [.ref (t 1), .int (zi t_length), .int (zi t_next), .int (zi t_kind), .int (zi t_place), .int (zi t_value)])), ((t 1), .inl (κ 0, 300, .inl (zc t_bytes))), (q1, .inl (κ 1, 10, .inl (zc q1_c)))]) H → va_D A ([((t 0), .inr (8, [.ref (t 1), .int (zi t_length), .int (zi t_next), .int (zi t_kind), .int (zi t_place), .int (zi t_value)])), ((t 1), .inl (κ 0, 300, .inl (zc t_bytes))), (q1, .inl (κ 1, 10, .inl (zc q1_c)))]) → va_S A H0 H locs → lv_has ls 3 [(0, .ref (t 0)), (1, .ref q1), (2, .int (zi i2))] → W p l e zr_X8_readNumbers s m args below meth c H locs 0 0 Q (F0 m 6 ls [])
def zA_X8_readNumbers (p : Program) (l : Launch) (e : Env) (s : State) (m : MethodId) (args : Array Value) (below : List Frame) (meth : Method) (c : Code) (Q : State → Prop) (D : va_G) (κ : Nat → ClassId) (A : Nat → Prop) (H0 : Heap) (t : Nat → Nat) (q1 : Nat) (t_length : Int) (t_bytes : Nat) (st : zS_X8_readNumbers) : Prop := match st with
  | (lab, i2, t_next, t_kind, t_place, t_value, q1_c) => if lab = 0 then zA_X8_readNumbers_0 p l e s m args below meth c Q D κ A H0 t q1 t_length t_bytes i2 t_next t_kind t_place t_value q1_c else if lab = 6 then zA_X8_readNumbers_6 p l e s m args below meth c Q D κ A H0 t q1 t_length t_bytes i2 t_next t_kind t_place t_value q1_c else True
set_option maxHeartbeats 4000000 in
set_option maxRecDepth 100000 in
theorem zs_X8_readNumbers_0 {p : Program} {l : Launch} {e : Env} {s : State} {m : MethodId} {args : Array Value} {below : List Frame} {meth : Method} {c : Code} {Q : State → Prop} {D : va_G} {κ : Nat → ClassId} {A : Nat → Prop} {H0 : Heap} (t : Nat → Nat) (q1 : Nat) (t_length : Int) (t_bytes : Nat) (hx : p.tables.exec = Jvm.exec) (hb : c.code = cX8_readNumbers) (hml : c.maxLocals = 3) (hown : s.vm.findClass RX8 = some m.cls) (hts : ∀ w ∈ wsX8_readNumbers, w.before args s = true) (hK : va_K D vwCl (zTY κ) s) (hA : ∀ q : Nat, H0.size ≤ q → A q) (i2 : Int) (t_next : Int) (t_kind : Int) (t_place : Int) (t_value : Int) (q1_c : Nat) (hg : Go (GoE (zA_X8_readNumbers p l e s m args below meth c Q D κ A H0 t q1 t_length t_bytes) (zQ_X8_readNumbers p l e s m args below meth c Q D κ A H0 t q1 t_length t_bytes)) (zg_X8_readNumbers_0 t_length t_bytes i2 t_next t_kind t_place t_value q1_c)) : zA_X8_readNumbers_0 p l e s m args below meth c Q D κ A H0 t q1 t_length t_bytes i2 t_next t_kind t_place t_value q1_c := by
  intro H locs ls hP hD hS hl
  unfold zg_X8_readNumbers_0 at hg
  refine lv_aload_n hx hb dX8_readNumbers_0 rfl (lv_at hl 0 rfl) ?_
  obtain ⟨o1, ho1, hg⟩ := Go_b hg
  refine zj_v (wr := [(q1, .inl (κ 1, 10, .inl (zc q1_c)))]) (ws1 := [((t 0), .inr (8, [.ref (t 1), .int (zi t_length), .int (zi o1), .int (zi t_kind), .int (zi t_place), .int (zi t_value)])), ((t 1), .inl (κ 0, 300, .inl (zc t_bytes))), (q1, .inl (κ 1, 10, .inl (zc q1_c)))]) (va_runV (rest := []) ⟨hx, hb, hml, hown, hts⟩ (zc_X8_rewind l D κ t H.size t_length t_next t_kind t_place t_value t_bytes o1 ho1) (cwV 0 hts gX8_readNumbers_X8_rewind rfl rfl rfl hv_X8_rewind ⟨Nat.le_of_ble_eq_true rfl, Nat.le_of_ble_eq_true rfl⟩) (zpreWV hK (hP.sub [0, 1] rfl) (hD.sub [0, 1] (by decide) rfl) 8 0 rfl rfl) rfl rfl hl.1 rfl (lv_room (Nat.le_of_ble_eq_true rfl)) dX8_readNumbers_1 ⟨Nat.zero_le _, Nat.zero_le _⟩) hP hD hS hA [0, 1] [2] [1, 2, 0] rfl rfl (by decide) (by decide) rfl rfl (by decide) (fun H locs hP hD hS => ?_)
  refine zv_iconst hx hb dX8_readNumbers_4 ?_
  refine lv_istore_n (lv' := [(2, .int (zi (0 : Int))), (0, .ref (t 0)), (1, .ref q1)]) hx hb dX8_readNumbers_5 rfl hl (by decide) rfl (fun ls hl => ?_)
  exact (Go_s hg) H locs ls hP hD hS (lv_sub hl [1, 2, 0] rfl)
set_option maxHeartbeats 4000000 in
set_option maxRecDepth 100000 in
theorem zs_X8_readNumbers_6 {p : Program} {l : Launch} {e : Env} {s : State} {m : MethodId} {args : Array Value} {below : List Frame} {meth : Method} {c : Code} {Q : State → Prop} {D : va_G} {κ : Nat → ClassId} {A : Nat → Prop} {H0 : Heap} (t : Nat → Nat) (q1 : Nat) (t_length : Int) (t_bytes : Nat) (hx : p.tables.exec = Jvm.exec) (hb : c.code = cX8_readNumbers) (hml : c.maxLocals = 3) (hown : s.vm.findClass RX8 = some m.cls) (hts : ∀ w ∈ wsX8_readNumbers, w.before args s = true) (hK : va_K D vwCl (zTY κ) s) (hA : ∀ q : Nat, H0.size ≤ q → A q) (i2 : Int) (t_next : Int) (t_kind : Int) (t_place : Int) (t_value : Int) (q1_c : Nat) (hg : Go (GoE (zA_X8_readNumbers p l e s m args below meth c Q D κ A H0 t q1 t_length t_bytes) (zQ_X8_readNumbers p l e s m args below meth c Q D κ A H0 t q1 t_length t_bytes)) (zg_X8_readNumbers_6 t_length t_bytes i2 t_next t_kind t_place t_value q1_c)) : zA_X8_readNumbers_6 p l e s m args below meth c Q D κ A H0 t q1 t_length t_bytes i2 t_next t_kind t_place t_value q1_c := by
  intro H locs ls hP hD hS hl
  unfold zg_X8_readNumbers_6 at hg
  refine lv_iload_n hx hb dX8_readNumbers_6 rfl (lv_at hl 2 rfl) ?_
  refine lv_aload_n hx hb dX8_readNumbers_7 rfl (lv_at hl 1 rfl) ?_
  refine va_alen (v := zi (10 : Int)) hx hb hK hP 2 1 rfl rfl rfl dX8_readNumbers_8 ?_
  obtain ⟨b2, hg⟩ := Go_n hg
  refine zv_icmp_gt (tgt := 54) hx hb dX8_readNumbers_9 (by decide) b2 (by decide) (fun c9 => ?_) (fun c9 => ?_)
  · have hg := Go_t c9 hg
    refine zv_iconst hx hb dX8_readNumbers_54 ?_
    exact (Go_s hg) _ _ _ _ hP hD hS dX8_readNumbers_55
  · have hg := Go_f c9 hg
    refine lv_aload_n hx hb dX8_readNumbers_12 rfl (lv_at hl 0 rfl) ?_
    obtain ⟨o3, ho3, hg⟩ := Go_b hg
    refine zj_v (wr := [(q1, .inl (κ 1, 10, .inl (zc q1_c)))]) (ws1 := [((t 0), .inr (8, [.ref (t 1), .int (zi t_length), .int (zi (o3.1)), .int (zi (o3.2.1)), .int (zi (o3.2.2.1)), .int (zi (o3.2.2.2))])), ((t 1), .inl (κ 0, 300, .inl (zc t_bytes))), (q1, .inl (κ 1, 10, .inl (zc q1_c)))]) (va_runV (rest := []) ⟨hx, hb, hml, hown, hts⟩ (zc_X8_readToken l D κ t H.size t_length t_next t_kind t_place t_value t_bytes o3 ho3) (cwV 0 hts gX8_readNumbers_X8_readToken rfl rfl rfl hv_X8_readToken ⟨Nat.le_of_ble_eq_true rfl, Nat.le_of_ble_eq_true rfl⟩) (zpreWV hK (hP.sub [0, 1] rfl) (hD.sub [0, 1] (by decide) rfl) 8 0 rfl rfl) rfl rfl hl.1 rfl (lv_room (Nat.le_of_ble_eq_true rfl)) dX8_readNumbers_13 ⟨Nat.zero_le _, Nat.zero_le _⟩) hP hD hS hA [0, 1] [2] [1, 2, 0] rfl rfl (by decide) (by decide) rfl rfl (by decide) (fun H locs hP hD hS => ?_)
    refine lv_aload_n hx hb dX8_readNumbers_16 rfl (lv_at hl 0 rfl) ?_
    refine va_get (D := D) (ci := 8) (v := .int (zi (o3.2.1))) (C := RX8) (T := TX8) (N := 6) hx hb hts zi_X8_readNumbers_X8 hown hK hP 0 rfl rfl 3 (by decide) (hts (.fieldLink RX8 19 "DiamondRows$Tape" "kind" "I") zl_X8_readNumbers_19) (fun _ h9 => h9) rfl dX8_readNumbers_17 ?_
    obtain ⟨b4, hg⟩ := Go_n hg
    refine zv_if_ne (tgt := 25) hx hb dX8_readNumbers_20 (by decide) b4 (fun c8 => ?_) (fun c8 => ?_)
    · have hg := Go_f c8 hg
      refine lv_aload_n hx hb dX8_readNumbers_25 rfl (lv_at hl 0 rfl) ?_
      refine va_get (D := D) (ci := 8) (v := .int (zi (o3.2.1))) (C := RX8) (T := TX8) (N := 6) hx hb hts zi_X8_readNumbers_X8 hown hK hP 0 rfl rfl 3 (by decide) (hts (.fieldLink RX8 19 "DiamondRows$Tape" "kind" "I") zl_X8_readNumbers_19) (fun _ h9 => h9) rfl dX8_readNumbers_26 ?_
      refine zv_iconst hx hb dX8_readNumbers_29 ?_
      refine zv_icmp_ne (tgt := 39) hx hb dX8_readNumbers_30 (by decide) b4 (by decide) (fun c7 => ?_) (fun c7 => ?_)
      · have hg := Go_f c7 hg
        refine zv_iconst hx hb dX8_readNumbers_39 ?_
        exact (Go_s hg) _ _ _ _ hP hD hS dX8_readNumbers_40
      · have hg := Go_t c7 hg
        refine lv_iload_n hx hb dX8_readNumbers_33 rfl (lv_at hl 2 rfl) ?_
        refine lv_aload_n hx hb dX8_readNumbers_34 rfl (lv_at hl 1 rfl) ?_
        refine va_alen (v := zi (10 : Int)) hx hb hK hP 2 1 rfl rfl rfl dX8_readNumbers_35 ?_
        refine zv_icmp_ne (tgt := 41) hx hb dX8_readNumbers_36 (by decide) b2 (by decide) (fun c6 => ?_) (fun c6 => ?_)
        · have hg := Go_f c6 hg
          refine lv_aload_n hx hb dX8_readNumbers_41 rfl (lv_at hl 1 rfl) ?_
          refine lv_iload_n hx hb dX8_readNumbers_42 rfl (lv_at hl 2 rfl) ?_
          refine lv_aload_n hx hb dX8_readNumbers_43 rfl (lv_at hl 0 rfl) ?_
          refine va_get (D := D) (ci := 8) (v := .int (zi (o3.2.2.2))) (C := RX8) (T := TX8) (N := 6) hx hb hts zi_X8_readNumbers_X8 hown hK hP 0 rfl rfl 5 (by decide) (hts (.fieldLink RX8 25 "DiamondRows$Tape" "value" "I") zl_X8_readNumbers_25) (fun _ h9 => h9) rfl dX8_readNumbers_44 ?_
          obtain ⟨n5, hg⟩ := Go_n hg
          refine zv_iast hx hb hK hP hD hS 2 1 rfl rfl (by decide) n5 dX8_readNumbers_47 (fun H locs hP hD hS => ?_)
          have hP : va_P D vwCl ([((t 0), .inr (8, [.ref (t 1), .int (zi t_length), .int (zi (o3.1)), .int (zi (o3.2.1)), .int (zi (o3.2.2.1)), .int (zi (o3.2.2.2))])), ((t 1), .inl (κ 0, 300, .inl (zc t_bytes))), (q1, .inl (κ 1, 10, .inl (zc (zset q1_c (Int.toNat i2) (o3.2.2.2)))))]) H := hP
          have hD : va_D A ([((t 0), .inr (8, [.ref (t 1), .int (zi t_length), .int (zi (o3.1)), .int (zi (o3.2.1)), .int (zi (o3.2.2.1)), .int (zi (o3.2.2.2))])), ((t 1), .inl (κ 0, 300, .inl (zc t_bytes))), (q1, .inl (κ 1, 10, .inl (zc (zset q1_c (Int.toNat i2) (o3.2.2.2)))))]) := hD
          refine lv_iinc (v := zi (i2 + (1 : Int))) (lv' := [(2, .int (zi (i2 + (1 : Int)))), (0, .ref (t 0)), (1, .ref q1)]) hx hb dX8_readNumbers_48 hl (k := 2) rfl (zi_add i2 _) (by decide) rfl (fun ls hl => ?_)
          refine lv_goto (tgt := 6) hx hb dX8_readNumbers_51 (by decide) ?_
          exact (Go_s hg) H locs ls hP hD hS (lv_sub hl [1, 2, 0] rfl)
        · have hg := Go_t c6 hg
          refine zv_iconst hx hb dX8_readNumbers_39 ?_
          exact (Go_s hg) _ _ _ _ hP hD hS dX8_readNumbers_40
    · have hg := Go_t c8 hg
      refine lv_iload_n hx hb dX8_readNumbers_23 rfl (lv_at hl 2 rfl) ?_
      exact (Go_s hg) _ _ _ _ hP hD hS dX8_readNumbers_24
set_option maxHeartbeats 4000000 in
set_option maxRecDepth 100000 in
theorem zw_X8_readNumbers {p : Program} {l : Launch} {e : Env} {s : State} {m : MethodId} {args : Array Value} {below : List Frame} {meth : Method} {c : Code} {Q : State → Prop} {D : va_G} {κ : Nat → ClassId} {A : Nat → Prop} {H0 : Heap} (t : Nat → Nat) (q1 : Nat) (t_length : Int) (t_bytes : Nat) (t_next : Int) (t_kind : Int) (t_place : Int) (t_value : Int) (q1_c : Nat)  (hx : p.tables.exec = Jvm.exec) (hb : c.code = cX8_readNumbers) (hml : c.maxLocals = 3) (hown : s.vm.findClass RX8 = some m.cls) (hts : ∀ w ∈ wsX8_readNumbers, w.before args s = true) (hK : va_K D vwCl (zTY κ) s) (hA : ∀ q : Nat, H0.size ≤ q → A q) (out : Int × Int × Int × Int × Int × Nat) (h : zf_X8_readNumbers t_length t_next t_kind t_place t_value t_bytes q1_c  = some out) (hq : zQ_X8_readNumbers p l e s m args below meth c Q D κ A H0 t q1 t_length t_bytes out) : zA_X8_readNumbers_0 p l e s m args below meth c Q D κ A H0 t q1 t_length t_bytes 0 t_next t_kind t_place t_value q1_c := by
  have hst : ∀ st : zS_X8_readNumbers, Go (GoE (zA_X8_readNumbers p l e s m args below meth c Q D κ A H0 t q1 t_length t_bytes) (zQ_X8_readNumbers p l e s m args below meth c Q D κ A H0 t q1 t_length t_bytes)) (zg_X8_readNumbers t_length t_bytes st) → zA_X8_readNumbers p l e s m args below meth c Q D κ A H0 t q1 t_length t_bytes st := by
    intro st hg
    obtain ⟨lab, i2, t_next, t_kind, t_place, t_value, q1_c⟩ := st
    by_cases h0 : lab = 0
    · subst h0
      exact zs_X8_readNumbers_0 t q1 t_length t_bytes hx hb hml hown hts hK hA i2 t_next t_kind t_place t_value q1_c hg
    by_cases h6 : lab = 6
    · subst h6
      exact zs_X8_readNumbers_6 t q1 t_length t_bytes hx hb hml hown hts hK hA i2 t_next t_kind t_place t_value q1_c hg
    have hz : zg_X8_readNumbers t_length t_bytes (lab, i2, t_next, t_kind, t_place, t_value, q1_c) = none := by simp [zg_X8_readNumbers, h0, h6]
    rw [hz] at hg
    obtain ⟨a, h1, -⟩ := hg
    cases h1
  exact jwalk (At := zA_X8_readNumbers p l e s m args below meth c Q D κ A H0 t q1 t_length t_bytes) (Ret := zQ_X8_readNumbers p l e s m args below meth c Q D κ A H0 t q1 t_length t_bytes) hst _ _ _ h hq
set_option maxHeartbeats 4000000 in
set_option maxRecDepth 100000 in
theorem zc_X8_readNumbers (l : Launch) (D : va_G) (κ : Nat → ClassId) (t : Nat → Nat) (q1 : Nat) (sz : Nat) (t_length : Int) (t_next : Int) (t_kind : Int) (t_place : Int) (t_value : Int) (t_bytes : Nat) (q1_c : Nat)  (out : Int × Int × Int × Int × Int × Nat) (h : zf_X8_readNumbers t_length t_next t_kind t_place t_value t_bytes q1_c  = some out) : Met l yX8_readNumbers wsX8_readNumbers zr_X8_readNumbers (va_Pc [.ref (t 0), .ref q1] (zW D κ ([((t 0), .inr (8, [.ref (t 1), .int (zi t_length), .int (zi t_next), .int (zi t_kind), .int (zi t_place), .int (zi t_value)])), ((t 1), .inl (κ 0, 300, .inl (zc t_bytes))), (q1, .inl (κ 1, 10, .inl (zc q1_c)))]) sz)) (va_Qi (fun r (_ : Unit) => r = zi (out.1)) (fun _ => zB D κ (va_A ([((t 0), .inr (8, [.ref (t 1), .int (zi t_length), .int (zi t_next), .int (zi t_kind), .int (zi t_place), .int (zi t_value)])), ((t 1), .inl (κ 0, 300, .inl (zc t_bytes))), (q1, .inl (κ 1, 10, .inl (zc q1_c)))]) sz) ([((t 0), .inr (8, [.ref (t 1), .int (zi t_length), .int (zi (out.2.1)), .int (zi (out.2.2.1)), .int (zi (out.2.2.2.1)), .int (zi (out.2.2.2.2.1))])), ((t 1), .inl (κ 0, 300, .inl (zc t_bytes))), (q1, .inl (κ 1, 10, .inl (zc (out.2.2.2.2.2))))])) (va_A ([((t 0), .inr (8, [.ref (t 1), .int (zi t_length), .int (zi t_next), .int (zi t_kind), .int (zi t_place), .int (zi t_value)])), ((t 1), .inl (κ 0, 300, .inl (zc t_bytes))), (q1, .inl (κ 1, 10, .inl (zc q1_c)))]) sz)) 0 0 (va_A ([((t 0), .inr (8, [.ref (t 1), .int (zi t_length), .int (zi t_next), .int (zi t_kind), .int (zi t_place), .int (zi t_value)])), ((t 1), .inl (κ 0, 300, .inl (zc t_bytes))), (q1, .inl (κ 1, 10, .inl (zc q1_c)))]) sz) := by
  refine Met.ofW (cc := cX8_readNumbers) (maxL := 3) (ret := (some .int)) (by decide +kernel) rfl ?_
  intro p e s m args below meth c s₁ B hml hv
  obtain ⟨rfl, hsz, hP, hK, hD0⟩ := hv
  have hx := B.exec
  have hb := B.bytes
  have hr := B.returns
  have hts := atoms_spec (ws := wsX8_readNumbers) B.pre
  have hown : s.vm.findClass RX8 = some m.cls := findClass_of_methodNamed B.named
  have hlocks := B.notSynchronized
  subst hsz
  have hD := hD0.self (sz := s.heap.size)
  generalize hAe : va_A ([((t 0), .inr (8, [.ref (t 1), .int (zi t_length), .int (zi t_next), .int (zi t_kind), .int (zi t_place), .int (zi t_value)])), ((t 1), .inl (κ 0, 300, .inl (zc t_bytes))), (q1, .inl (κ 1, 10, .inl (zc q1_c)))]) s.heap.size = A at hD ⊢
  have hA : ∀ q : Nat, s.heap.size ≤ q → A q := fun q h => by rw [← hAe]; exact Or.inr h
  have hS : va_S A s.heap s.heap [] := va_S.rf
  have hl := lv_entry ([.ref (t 0), .ref q1]) (n := 3) (Nat.le_of_ble_eq_true rfl)
  rw [lg_entry_eq]
  generalize (lg_sl ([.ref (t 0), .ref q1]) ++ List.replicate (3 - (lg_sl ([.ref (t 0), .ref q1])).length) Slot.unset).toArray = ls at hl ⊢
  have hl : lv_has ls 3 [(0, .ref (t 0)), (1, .ref q1)] := hl
  refine (zw_X8_readNumbers t q1 t_length t_bytes t_next t_kind t_place t_value q1_c  hx hb hml hown hts hK hA out h ?_) s.heap [] ls hP hD hS (lv_sub hl [0, 1] rfl)
  exact fun H locs ls pc hP hD hS hd => W.iret hx hb hr (fun t ht hW => ⟨⟨_, (), rfl, rfl, by rw [ht]; exact hP, va_K.moved hW.alike hK, hD⟩, hS.F ht⟩) hS.2.2 hd
end
