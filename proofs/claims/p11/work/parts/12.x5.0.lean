/-! DiamondRows$Polygon.numberLine(II)V -/
abbrev zr_X5_numberLine : Room := { frames := 0, cells := 0, slots := 0, locals := 0 }
noncomputable def zf_X5_numberLine  (t_lineCount : Int) (t_lesser : Nat) (t_greater : Nat) (t_numberOfLine : Nat) (t_linesAt : Nat) (i1 : Int) (i2 : Int) : Option (Int × Nat × Nat × Nat × Nat) :=
  if zout t_lineCount then none else
  if t_lineCount < (27 : Int) then
  if t_lineCount < 0 ∨ 27 ≤ t_lineCount then none else
  if ((i1 * (9 : Int)) + i2) < 0 ∨ 81 ≤ ((i1 * (9 : Int)) + i2) then none else
  if ((i2 * (9 : Int)) + i1) < 0 ∨ 81 ≤ ((i2 * (9 : Int)) + i1) then none else
  if i1 < 0 ∨ 9 ≤ i1 then none else
  if i2 < 0 ∨ 9 ≤ i2 then none else
  some ((t_lineCount + (1 : Int)), (zset t_lesser (Int.toNat t_lineCount) i1), (zset t_greater (Int.toNat t_lineCount) i2), (zset (zset t_numberOfLine (Int.toNat ((i1 * (9 : Int)) + i2)) t_lineCount) (Int.toNat ((i2 * (9 : Int)) + i1)) t_lineCount), (zset (zset t_linesAt (Int.toNat i1) (zor (zget t_linesAt (Int.toNat i1)) (zshl (1 : Int) t_lineCount))) (Int.toNat i2) (zor (zget (zset t_linesAt (Int.toNat i1) (zor (zget t_linesAt (Int.toNat i1)) (zshl (1 : Int) t_lineCount))) (Int.toNat i2)) (zshl (1 : Int) t_lineCount))))
  else
  some (t_lineCount, t_lesser, t_greater, t_numberOfLine, t_linesAt)
theorem zi_X5_numberLine_X5 : ∀ w ∈ u_ws RX5 TX5 9, w ∈ wsX5_numberLine := fun w h => (List.mem_cons_of_mem _ (List.mem_append_right _ h))
theorem zl_X5_numberLine_9 : Cond.fieldLink RX5 9 "DiamondRows$Polygon" "lesser" "[I" ∈ wsX5_numberLine := (List.mem_cons_of_mem _ (List.mem_append_left _ (List.mem_of_getElem? (i := 1) rfl)))
theorem zl_X5_numberLine_15 : Cond.fieldLink RX5 15 "DiamondRows$Polygon" "greater" "[I" ∈ wsX5_numberLine := (List.mem_cons_of_mem _ (List.mem_append_left _ (List.mem_of_getElem? (i := 2) rfl)))
theorem zl_X5_numberLine_18 : Cond.fieldLink RX5 18 "DiamondRows$Polygon" "numberOfLine" "[I" ∈ wsX5_numberLine := (List.mem_cons_of_mem _ (List.mem_append_left _ (List.mem_of_getElem? (i := 3) rfl)))
theorem zl_X5_numberLine_24 : Cond.fieldLink RX5 24 "DiamondRows$Polygon" "linesAt" "[I" ∈ wsX5_numberLine := (List.mem_cons_of_mem _ (List.mem_append_left _ (List.mem_of_getElem? (i := 4) rfl)))
theorem zl_X5_numberLine_40 : Cond.fieldLink RX5 40 "DiamondRows$Polygon" "lineCount" "I" ∈ wsX5_numberLine := (List.mem_cons_of_mem _ (List.mem_append_left _ (List.mem_of_getElem? (i := 0) rfl)))
def zQ_X5_numberLine (p : Program) (l : Launch) (e : Env) (s : State) (m : MethodId) (args : Array Value) (below : List Frame) (meth : Method) (c : Code) (Q : State → Prop) (D : va_G) (κ : Nat → ClassId) (A : Nat → Prop) (H0 : Heap) (t : Nat → Nat) (t_corners : Int) (t_cutCount : Int) (t_crossers : Nat) (t_cuts : Nat) (o : Int × Nat × Nat × Nat × Nat) : Prop := ∀ (H : Heap) (locs : List Loc) (ls : Array Slot) (pc : Nat), va_P D vwCl ([((t 0), .inr (5, [.int (zi t_corners), .ref (t 1), .ref (t 2), .ref (t 3), .ref (t 4), .ref (t 5), .ref (t 6), .int (zi (o.1)), .int (zi t_cutCount)])), ((t 1), .inl (κ 1, 27, .inl (zc (o.2.1)))), ((t 2), .inl (κ 1, 27, .inl (zc (o.2.2.1)))), ((t 3), .inl (κ 1, 81, .inl (zc (o.2.2.2.1)))), ((t 4), .inl (κ 1, 27, .inl (zc t_crossers))), ((t 5), .inl (κ 1, 9, .inl (zc (o.2.2.2.2)))), ((t 6), .inl (κ 1, 429, .inl (zc t_cuts)))]) H → va_D A ([((t 0), .inr (5, [.int (zi t_corners), .ref (t 1), .ref (t 2), .ref (t 3), .ref (t 4), .ref (t 5), .ref (t 6), .int (zi (o.1)), .int (zi t_cutCount)])), ((t 1), .inl (κ 1, 27, .inl (zc (o.2.1)))), ((t 2), .inl (κ 1, 27, .inl (zc (o.2.2.1)))), ((t 3), .inl (κ 1, 81, .inl (zc (o.2.2.2.1)))), ((t 4), .inl (κ 1, 27, .inl (zc t_crossers))), ((t 5), .inl (κ 1, 9, .inl (zc (o.2.2.2.2)))), ((t 6), .inl (κ 1, 429, .inl (zc t_cuts)))]) → va_S A H0 H locs → decode cX5_numberLine pc = .ok (.return_, 1) → W p l e zr_X5_numberLine s m args below meth c H locs 0 0 Q (F0 m pc ls [])
set_option maxHeartbeats 4000000 in
set_option maxRecDepth 100000 in
theorem zs_X5_numberLine {p : Program} {l : Launch} {e : Env} {s : State} {m : MethodId} {args : Array Value} {below : List Frame} {meth : Method} {c : Code} {Q : State → Prop} {D : va_G} {κ : Nat → ClassId} {A : Nat → Prop} {H0 : Heap} (t : Nat → Nat) (t_corners : Int) (t_lineCount : Int) (t_cutCount : Int) (t_lesser : Nat) (t_greater : Nat) (t_numberOfLine : Nat) (t_crossers : Nat) (t_linesAt : Nat) (t_cuts : Nat) (i1 : Int) (i2 : Int) (hx : p.tables.exec = Jvm.exec) (hb : c.code = cX5_numberLine) (hml : c.maxLocals = 3) (hown : s.vm.findClass RX5 = some m.cls) (hts : ∀ w ∈ wsX5_numberLine, w.before args s = true) (hK : va_K D vwCl (zTY κ) s) (hA : ∀ q : Nat, H0.size ≤ q → A q) (H : Heap) (locs : List Loc) (ls : Array Slot) (hP : va_P D vwCl ([((t 0), .inr (5, [.int (zi t_corners), .ref (t 1), .ref (t 2), .ref (t 3), .ref (t 4), .ref (t 5), .ref (t 6), .int (zi t_lineCount), .int (zi t_cutCount)])), ((t 1), .inl (κ 1, 27, .inl (zc t_lesser))), ((t 2), .inl (κ 1, 27, .inl (zc t_greater))), ((t 3), .inl (κ 1, 81, .inl (zc t_numberOfLine))), ((t 4), .inl (κ 1, 27, .inl (zc t_crossers))), ((t 5), .inl (κ 1, 9, .inl (zc t_linesAt))), ((t 6), .inl (κ 1, 429, .inl (zc t_cuts)))]) H) (hD : va_D A ([((t 0), .inr (5, [.int (zi t_corners), .ref (t 1), .ref (t 2), .ref (t 3), .ref (t 4), .ref (t 5), .ref (t 6), .int (zi t_lineCount), .int (zi t_cutCount)])), ((t 1), .inl (κ 1, 27, .inl (zc t_lesser))), ((t 2), .inl (κ 1, 27, .inl (zc t_greater))), ((t 3), .inl (κ 1, 81, .inl (zc t_numberOfLine))), ((t 4), .inl (κ 1, 27, .inl (zc t_crossers))), ((t 5), .inl (κ 1, 9, .inl (zc t_linesAt))), ((t 6), .inl (κ 1, 429, .inl (zc t_cuts)))])) (hS : va_S A H0 H locs) (hl : lv_has ls 3 [(0, .ref (t 0)), (1, .int (zi i1)), (2, .int (zi i2))]) (hg : Go (zQ_X5_numberLine p l e s m args below meth c Q D κ A H0 t t_corners t_cutCount t_crossers t_cuts) (zf_X5_numberLine t_lineCount t_lesser t_greater t_numberOfLine t_linesAt i1 i2)) : W p l e zr_X5_numberLine s m args below meth c H locs 0 0 Q (F0 m 0 ls []) := by
  unfold zf_X5_numberLine at hg
  refine lv_aload_n hx hb dX5_numberLine_0 rfl (lv_at hl 0 rfl) ?_
  refine va_get (D := D) (ci := 5) (v := .int (zi t_lineCount)) (C := RX5) (T := TX5) (N := 9) hx hb hts zi_X5_numberLine_X5 hown hK hP 0 rfl rfl 7 (by decide) (hts (.fieldLink RX5 40 "DiamondRows$Polygon" "lineCount" "I") zl_X5_numberLine_40) (fun _ h9 => h9) rfl dX5_numberLine_1 ?_
  refine zv_bipush hx hb dX5_numberLine_4 (by decide) ?_
  obtain ⟨b1, hg⟩ := Go_n hg
  refine zv_icmp_lt (tgt := 10) hx hb dX5_numberLine_6 (by decide) b1 (by decide) (fun c7 => ?_) (fun c7 => ?_)
  · have hg := Go_t c7 hg
    refine lv_aload_n hx hb dX5_numberLine_10 rfl (lv_at hl 0 rfl) ?_
    refine va_get (D := D) (ci := 5) (v := .ref (t 1)) (C := RX5) (T := TX5) (N := 9) hx hb hts zi_X5_numberLine_X5 hown hK hP 0 rfl rfl 1 (by decide) (hts (.fieldLink RX5 9 "DiamondRows$Polygon" "lesser" "[I") zl_X5_numberLine_9) (fun _ h9 => h9) rfl dX5_numberLine_11 ?_
    refine lv_aload_n hx hb dX5_numberLine_14 rfl (lv_at hl 0 rfl) ?_
    refine va_get (D := D) (ci := 5) (v := .int (zi t_lineCount)) (C := RX5) (T := TX5) (N := 9) hx hb hts zi_X5_numberLine_X5 hown hK hP 0 rfl rfl 7 (by decide) (hts (.fieldLink RX5 40 "DiamondRows$Polygon" "lineCount" "I") zl_X5_numberLine_40) (fun _ h9 => h9) rfl dX5_numberLine_15 ?_
    refine lv_iload_n hx hb dX5_numberLine_18 rfl (lv_at hl 1 rfl) ?_
    obtain ⟨n2, hg⟩ := Go_n hg
    refine zv_iast hx hb hK hP hD hS 1 1 rfl rfl (by decide) n2 dX5_numberLine_19 (fun H locs hP hD hS => ?_)
    have hP : va_P D vwCl ([((t 0), .inr (5, [.int (zi t_corners), .ref (t 1), .ref (t 2), .ref (t 3), .ref (t 4), .ref (t 5), .ref (t 6), .int (zi t_lineCount), .int (zi t_cutCount)])), ((t 1), .inl (κ 1, 27, .inl (zc (zset t_lesser (Int.toNat t_lineCount) i1)))), ((t 2), .inl (κ 1, 27, .inl (zc t_greater))), ((t 3), .inl (κ 1, 81, .inl (zc t_numberOfLine))), ((t 4), .inl (κ 1, 27, .inl (zc t_crossers))), ((t 5), .inl (κ 1, 9, .inl (zc t_linesAt))), ((t 6), .inl (κ 1, 429, .inl (zc t_cuts)))]) H := hP
    have hD : va_D A ([((t 0), .inr (5, [.int (zi t_corners), .ref (t 1), .ref (t 2), .ref (t 3), .ref (t 4), .ref (t 5), .ref (t 6), .int (zi t_lineCount), .int (zi t_cutCount)])), ((t 1), .inl (κ 1, 27, .inl (zc (zset t_lesser (Int.toNat t_lineCount) i1)))), ((t 2), .inl (κ 1, 27, .inl (zc t_greater))), ((t 3), .inl (κ 1, 81, .inl (zc t_numberOfLine))), ((t 4), .inl (κ 1, 27, .inl (zc t_crossers))), ((t 5), .inl (κ 1, 9, .inl (zc t_linesAt))), ((t 6), .inl (κ 1, 429, .inl (zc t_cuts)))]) := hD
    refine lv_aload_n hx hb dX5_numberLine_20 rfl (lv_at hl 0 rfl) ?_
    refine va_get (D := D) (ci := 5) (v := .ref (t 2)) (C := RX5) (T := TX5) (N := 9) hx hb hts zi_X5_numberLine_X5 hown hK hP 0 rfl rfl 2 (by decide) (hts (.fieldLink RX5 15 "DiamondRows$Polygon" "greater" "[I") zl_X5_numberLine_15) (fun _ h9 => h9) rfl dX5_numberLine_21 ?_
    refine lv_aload_n hx hb dX5_numberLine_24 rfl (lv_at hl 0 rfl) ?_
    refine va_get (D := D) (ci := 5) (v := .int (zi t_lineCount)) (C := RX5) (T := TX5) (N := 9) hx hb hts zi_X5_numberLine_X5 hown hK hP 0 rfl rfl 7 (by decide) (hts (.fieldLink RX5 40 "DiamondRows$Polygon" "lineCount" "I") zl_X5_numberLine_40) (fun _ h9 => h9) rfl dX5_numberLine_25 ?_
    refine lv_iload_n hx hb dX5_numberLine_28 rfl (lv_at hl 2 rfl) ?_
    refine zv_iast hx hb hK hP hD hS 2 1 rfl rfl (by decide) n2 dX5_numberLine_29 (fun H locs hP hD hS => ?_)
    have hP : va_P D vwCl ([((t 0), .inr (5, [.int (zi t_corners), .ref (t 1), .ref (t 2), .ref (t 3), .ref (t 4), .ref (t 5), .ref (t 6), .int (zi t_lineCount), .int (zi t_cutCount)])), ((t 1), .inl (κ 1, 27, .inl (zc (zset t_lesser (Int.toNat t_lineCount) i1)))), ((t 2), .inl (κ 1, 27, .inl (zc (zset t_greater (Int.toNat t_lineCount) i2)))), ((t 3), .inl (κ 1, 81, .inl (zc t_numberOfLine))), ((t 4), .inl (κ 1, 27, .inl (zc t_crossers))), ((t 5), .inl (κ 1, 9, .inl (zc t_linesAt))), ((t 6), .inl (κ 1, 429, .inl (zc t_cuts)))]) H := hP
    have hD : va_D A ([((t 0), .inr (5, [.int (zi t_corners), .ref (t 1), .ref (t 2), .ref (t 3), .ref (t 4), .ref (t 5), .ref (t 6), .int (zi t_lineCount), .int (zi t_cutCount)])), ((t 1), .inl (κ 1, 27, .inl (zc (zset t_lesser (Int.toNat t_lineCount) i1)))), ((t 2), .inl (κ 1, 27, .inl (zc (zset t_greater (Int.toNat t_lineCount) i2)))), ((t 3), .inl (κ 1, 81, .inl (zc t_numberOfLine))), ((t 4), .inl (κ 1, 27, .inl (zc t_crossers))), ((t 5), .inl (κ 1, 9, .inl (zc t_linesAt))), ((t 6), .inl (κ 1, 429, .inl (zc t_cuts)))]) := hD
    refine lv_aload_n hx hb dX5_numberLine_30 rfl (lv_at hl 0 rfl) ?_
    refine va_get (D := D) (ci := 5) (v := .ref (t 3)) (C := RX5) (T := TX5) (N := 9) hx hb hts zi_X5_numberLine_X5 hown hK hP 0 rfl rfl 3 (by decide) (hts (.fieldLink RX5 18 "DiamondRows$Polygon" "numberOfLine" "[I") zl_X5_numberLine_18) (fun _ h9 => h9) rfl dX5_numberLine_31 ?_
    refine lv_iload_n hx hb dX5_numberLine_34 rfl (lv_at hl 1 rfl) ?_
    refine zv_bipush hx hb dX5_numberLine_35 (by decide) ?_
    refine zv_imul hx hb dX5_numberLine_37 ?_
    refine lv_iload_n hx hb dX5_numberLine_38 rfl (lv_at hl 2 rfl) ?_
    refine zv_iadd hx hb dX5_numberLine_39 ?_
    refine lv_aload_n hx hb dX5_numberLine_40 rfl (lv_at hl 0 rfl) ?_
    refine va_get (D := D) (ci := 5) (v := .int (zi t_lineCount)) (C := RX5) (T := TX5) (N := 9) hx hb hts zi_X5_numberLine_X5 hown hK hP 0 rfl rfl 7 (by decide) (hts (.fieldLink RX5 40 "DiamondRows$Polygon" "lineCount" "I") zl_X5_numberLine_40) (fun _ h9 => h9) rfl dX5_numberLine_41 ?_
    obtain ⟨n3, hg⟩ := Go_n hg
    refine zv_iast hx hb hK hP hD hS 3 1 rfl rfl (by decide) n3 dX5_numberLine_44 (fun H locs hP hD hS => ?_)
    have hP : va_P D vwCl ([((t 0), .inr (5, [.int (zi t_corners), .ref (t 1), .ref (t 2), .ref (t 3), .ref (t 4), .ref (t 5), .ref (t 6), .int (zi t_lineCount), .int (zi t_cutCount)])), ((t 1), .inl (κ 1, 27, .inl (zc (zset t_lesser (Int.toNat t_lineCount) i1)))), ((t 2), .inl (κ 1, 27, .inl (zc (zset t_greater (Int.toNat t_lineCount) i2)))), ((t 3), .inl (κ 1, 81, .inl (zc (zset t_numberOfLine (Int.toNat ((i1 * (9 : Int)) + i2)) t_lineCount)))), ((t 4), .inl (κ 1, 27, .inl (zc t_crossers))), ((t 5), .inl (κ 1, 9, .inl (zc t_linesAt))), ((t 6), .inl (κ 1, 429, .inl (zc t_cuts)))]) H := hP
    have hD : va_D A ([((t 0), .inr (5, [.int (zi t_corners), .ref (t 1), .ref (t 2), .ref (t 3), .ref (t 4), .ref (t 5), .ref (t 6), .int (zi t_lineCount), .int (zi t_cutCount)])), ((t 1), .inl (κ 1, 27, .inl (zc (zset t_lesser (Int.toNat t_lineCount) i1)))), ((t 2), .inl (κ 1, 27, .inl (zc (zset t_greater (Int.toNat t_lineCount) i2)))), ((t 3), .inl (κ 1, 81, .inl (zc (zset t_numberOfLine (Int.toNat ((i1 * (9 : Int)) + i2)) t_lineCount)))), ((t 4), .inl (κ 1, 27, .inl (zc t_crossers))), ((t 5), .inl (κ 1, 9, .inl (zc t_linesAt))), ((t 6), .inl (κ 1, 429, .inl (zc t_cuts)))]) := hD
    refine lv_aload_n hx hb dX5_numberLine_45 rfl (lv_at hl 0 rfl) ?_
    refine va_get (D := D) (ci := 5) (v := .ref (t 3)) (C := RX5) (T := TX5) (N := 9) hx hb hts zi_X5_numberLine_X5 hown hK hP 0 rfl rfl 3 (by decide) (hts (.fieldLink RX5 18 "DiamondRows$Polygon" "numberOfLine" "[I") zl_X5_numberLine_18) (fun _ h9 => h9) rfl dX5_numberLine_46 ?_
    refine lv_iload_n hx hb dX5_numberLine_49 rfl (lv_at hl 2 rfl) ?_
    refine zv_bipush hx hb dX5_numberLine_50 (by decide) ?_
    refine zv_imul hx hb dX5_numberLine_52 ?_
    refine lv_iload_n hx hb dX5_numberLine_53 rfl (lv_at hl 1 rfl) ?_
    refine zv_iadd hx hb dX5_numberLine_54 ?_
    refine lv_aload_n hx hb dX5_numberLine_55 rfl (lv_at hl 0 rfl) ?_
    refine va_get (D := D) (ci := 5) (v := .int (zi t_lineCount)) (C := RX5) (T := TX5) (N := 9) hx hb hts zi_X5_numberLine_X5 hown hK hP 0 rfl rfl 7 (by decide) (hts (.fieldLink RX5 40 "DiamondRows$Polygon" "lineCount" "I") zl_X5_numberLine_40) (fun _ h9 => h9) rfl dX5_numberLine_56 ?_
    obtain ⟨n4, hg⟩ := Go_n hg
    refine zv_iast hx hb hK hP hD hS 3 1 rfl rfl (by decide) n4 dX5_numberLine_59 (fun H locs hP hD hS => ?_)
    have hP : va_P D vwCl ([((t 0), .inr (5, [.int (zi t_corners), .ref (t 1), .ref (t 2), .ref (t 3), .ref (t 4), .ref (t 5), .ref (t 6), .int (zi t_lineCount), .int (zi t_cutCount)])), ((t 1), .inl (κ 1, 27, .inl (zc (zset t_lesser (Int.toNat t_lineCount) i1)))), ((t 2), .inl (κ 1, 27, .inl (zc (zset t_greater (Int.toNat t_lineCount) i2)))), ((t 3), .inl (κ 1, 81, .inl (zc (zset (zset t_numberOfLine (Int.toNat ((i1 * (9 : Int)) + i2)) t_lineCount) (Int.toNat ((i2 * (9 : Int)) + i1)) t_lineCount)))), ((t 4), .inl (κ 1, 27, .inl (zc t_crossers))), ((t 5), .inl (κ 1, 9, .inl (zc t_linesAt))), ((t 6), .inl (κ 1, 429, .inl (zc t_cuts)))]) H := hP
    have hD : va_D A ([((t 0), .inr (5, [.int (zi t_corners), .ref (t 1), .ref (t 2), .ref (t 3), .ref (t 4), .ref (t 5), .ref (t 6), .int (zi t_lineCount), .int (zi t_cutCount)])), ((t 1), .inl (κ 1, 27, .inl (zc (zset t_lesser (Int.toNat t_lineCount) i1)))), ((t 2), .inl (κ 1, 27, .inl (zc (zset t_greater (Int.toNat t_lineCount) i2)))), ((t 3), .inl (κ 1, 81, .inl (zc (zset (zset t_numberOfLine (Int.toNat ((i1 * (9 : Int)) + i2)) t_lineCount) (Int.toNat ((i2 * (9 : Int)) + i1)) t_lineCount)))), ((t 4), .inl (κ 1, 27, .inl (zc t_crossers))), ((t 5), .inl (κ 1, 9, .inl (zc t_linesAt))), ((t 6), .inl (κ 1, 429, .inl (zc t_cuts)))]) := hD
    refine lv_aload_n hx hb dX5_numberLine_60 rfl (lv_at hl 0 rfl) ?_
    refine va_get (D := D) (ci := 5) (v := .ref (t 5)) (C := RX5) (T := TX5) (N := 9) hx hb hts zi_X5_numberLine_X5 hown hK hP 0 rfl rfl 5 (by decide) (hts (.fieldLink RX5 24 "DiamondRows$Polygon" "linesAt" "[I") zl_X5_numberLine_24) (fun _ h9 => h9) rfl dX5_numberLine_61 ?_
    refine lv_iload_n hx hb dX5_numberLine_64 rfl (lv_at hl 1 rfl) ?_
    refine lv_dup2_11 hx hb dX5_numberLine_65 rfl rfl ?_
    obtain ⟨n5, hg⟩ := Go_n hg
    refine zv_iald hx hb hK hP 5 1 rfl rfl (by decide) n5 dX5_numberLine_66 ?_
    refine zv_iconst hx hb dX5_numberLine_67 ?_
    refine lv_aload_n hx hb dX5_numberLine_68 rfl (lv_at hl 0 rfl) ?_
    refine va_get (D := D) (ci := 5) (v := .int (zi t_lineCount)) (C := RX5) (T := TX5) (N := 9) hx hb hts zi_X5_numberLine_X5 hown hK hP 0 rfl rfl 7 (by decide) (hts (.fieldLink RX5 40 "DiamondRows$Polygon" "lineCount" "I") zl_X5_numberLine_40) (fun _ h9 => h9) rfl dX5_numberLine_69 ?_
    refine zv_ishl hx hb dX5_numberLine_72 ?_
    refine zv_ior hx hb dX5_numberLine_73 ?_
    refine zv_iast hx hb hK hP hD hS 5 1 rfl rfl (by decide) n5 dX5_numberLine_74 (fun H locs hP hD hS => ?_)
    have hP : va_P D vwCl ([((t 0), .inr (5, [.int (zi t_corners), .ref (t 1), .ref (t 2), .ref (t 3), .ref (t 4), .ref (t 5), .ref (t 6), .int (zi t_lineCount), .int (zi t_cutCount)])), ((t 1), .inl (κ 1, 27, .inl (zc (zset t_lesser (Int.toNat t_lineCount) i1)))), ((t 2), .inl (κ 1, 27, .inl (zc (zset t_greater (Int.toNat t_lineCount) i2)))), ((t 3), .inl (κ 1, 81, .inl (zc (zset (zset t_numberOfLine (Int.toNat ((i1 * (9 : Int)) + i2)) t_lineCount) (Int.toNat ((i2 * (9 : Int)) + i1)) t_lineCount)))), ((t 4), .inl (κ 1, 27, .inl (zc t_crossers))), ((t 5), .inl (κ 1, 9, .inl (zc (zset t_linesAt (Int.toNat i1) (zor (zget t_linesAt (Int.toNat i1)) (zshl (1 : Int) t_lineCount)))))), ((t 6), .inl (κ 1, 429, .inl (zc t_cuts)))]) H := hP
    have hD : va_D A ([((t 0), .inr (5, [.int (zi t_corners), .ref (t 1), .ref (t 2), .ref (t 3), .ref (t 4), .ref (t 5), .ref (t 6), .int (zi t_lineCount), .int (zi t_cutCount)])), ((t 1), .inl (κ 1, 27, .inl (zc (zset t_lesser (Int.toNat t_lineCount) i1)))), ((t 2), .inl (κ 1, 27, .inl (zc (zset t_greater (Int.toNat t_lineCount) i2)))), ((t 3), .inl (κ 1, 81, .inl (zc (zset (zset t_numberOfLine (Int.toNat ((i1 * (9 : Int)) + i2)) t_lineCount) (Int.toNat ((i2 * (9 : Int)) + i1)) t_lineCount)))), ((t 4), .inl (κ 1, 27, .inl (zc t_crossers))), ((t 5), .inl (κ 1, 9, .inl (zc (zset t_linesAt (Int.toNat i1) (zor (zget t_linesAt (Int.toNat i1)) (zshl (1 : Int) t_lineCount)))))), ((t 6), .inl (κ 1, 429, .inl (zc t_cuts)))]) := hD
    refine lv_aload_n hx hb dX5_numberLine_75 rfl (lv_at hl 0 rfl) ?_
    refine va_get (D := D) (ci := 5) (v := .ref (t 5)) (C := RX5) (T := TX5) (N := 9) hx hb hts zi_X5_numberLine_X5 hown hK hP 0 rfl rfl 5 (by decide) (hts (.fieldLink RX5 24 "DiamondRows$Polygon" "linesAt" "[I") zl_X5_numberLine_24) (fun _ h9 => h9) rfl dX5_numberLine_76 ?_
    refine lv_iload_n hx hb dX5_numberLine_79 rfl (lv_at hl 2 rfl) ?_
    refine lv_dup2_11 hx hb dX5_numberLine_80 rfl rfl ?_
    obtain ⟨n6, hg⟩ := Go_n hg
    refine zv_iald hx hb hK hP 5 1 rfl rfl (by decide) n6 dX5_numberLine_81 ?_
    refine zv_iconst hx hb dX5_numberLine_82 ?_
    refine lv_aload_n hx hb dX5_numberLine_83 rfl (lv_at hl 0 rfl) ?_
    refine va_get (D := D) (ci := 5) (v := .int (zi t_lineCount)) (C := RX5) (T := TX5) (N := 9) hx hb hts zi_X5_numberLine_X5 hown hK hP 0 rfl rfl 7 (by decide) (hts (.fieldLink RX5 40 "DiamondRows$Polygon" "lineCount" "I") zl_X5_numberLine_40) (fun _ h9 => h9) rfl dX5_numberLine_84 ?_
    refine zv_ishl hx hb dX5_numberLine_87 ?_
    refine zv_ior hx hb dX5_numberLine_88 ?_
    refine zv_iast hx hb hK hP hD hS 5 1 rfl rfl (by decide) n6 dX5_numberLine_89 (fun H locs hP hD hS => ?_)
    have hP : va_P D vwCl ([((t 0), .inr (5, [.int (zi t_corners), .ref (t 1), .ref (t 2), .ref (t 3), .ref (t 4), .ref (t 5), .ref (t 6), .int (zi t_lineCount), .int (zi t_cutCount)])), ((t 1), .inl (κ 1, 27, .inl (zc (zset t_lesser (Int.toNat t_lineCount) i1)))), ((t 2), .inl (κ 1, 27, .inl (zc (zset t_greater (Int.toNat t_lineCount) i2)))), ((t 3), .inl (κ 1, 81, .inl (zc (zset (zset t_numberOfLine (Int.toNat ((i1 * (9 : Int)) + i2)) t_lineCount) (Int.toNat ((i2 * (9 : Int)) + i1)) t_lineCount)))), ((t 4), .inl (κ 1, 27, .inl (zc t_crossers))), ((t 5), .inl (κ 1, 9, .inl (zc (zset (zset t_linesAt (Int.toNat i1) (zor (zget t_linesAt (Int.toNat i1)) (zshl (1 : Int) t_lineCount))) (Int.toNat i2) (zor (zget (zset t_linesAt (Int.toNat i1) (zor (zget t_linesAt (Int.toNat i1)) (zshl (1 : Int) t_lineCount))) (Int.toNat i2)) (zshl (1 : Int) t_lineCount)))))), ((t 6), .inl (κ 1, 429, .inl (zc t_cuts)))]) H := hP
    have hD : va_D A ([((t 0), .inr (5, [.int (zi t_corners), .ref (t 1), .ref (t 2), .ref (t 3), .ref (t 4), .ref (t 5), .ref (t 6), .int (zi t_lineCount), .int (zi t_cutCount)])), ((t 1), .inl (κ 1, 27, .inl (zc (zset t_lesser (Int.toNat t_lineCount) i1)))), ((t 2), .inl (κ 1, 27, .inl (zc (zset t_greater (Int.toNat t_lineCount) i2)))), ((t 3), .inl (κ 1, 81, .inl (zc (zset (zset t_numberOfLine (Int.toNat ((i1 * (9 : Int)) + i2)) t_lineCount) (Int.toNat ((i2 * (9 : Int)) + i1)) t_lineCount)))), ((t 4), .inl (κ 1, 27, .inl (zc t_crossers))), ((t 5), .inl (κ 1, 9, .inl (zc (zset (zset t_linesAt (Int.toNat i1) (zor (zget t_linesAt (Int.toNat i1)) (zshl (1 : Int) t_lineCount))) (Int.toNat i2) (zor (zget (zset t_linesAt (Int.toNat i1) (zor (zget t_linesAt (Int.toNat i1)) (zshl (1 : Int) t_lineCount))) (Int.toNat i2)) (zshl (1 : Int) t_lineCount)))))), ((t 6), .inl (κ 1, 429, .inl (zc t_cuts)))]) := hD
    refine lv_aload_n hx hb dX5_numberLine_90 rfl (lv_at hl 0 rfl) ?_
    refine lv_dup hx hb dX5_numberLine_91 rfl ?_
    refine va_get (D := D) (ci := 5) (v := .int (zi t_lineCount)) (C := RX5) (T := TX5) (N := 9) hx hb hts zi_X5_numberLine_X5 hown hK hP 0 rfl rfl 7 (by decide) (hts (.fieldLink RX5 40 "DiamondRows$Polygon" "lineCount" "I") zl_X5_numberLine_40) (fun _ h9 => h9) rfl dX5_numberLine_92 ?_
    refine zv_iconst hx hb dX5_numberLine_95 ?_
    refine zv_iadd hx hb dX5_numberLine_96 ?_
    refine va_put (D := D) (ci := 5) (v := .int (zi (t_lineCount + (1 : Int)))) (ty := .int) (C := RX5) (T := TX5) (N := 9) hx hb hts zi_X5_numberLine_X5 tyX5 tyX5_ok nmX5 hown hK hP hD hS 0 rfl rfl 7 (by decide) (hts (.fieldLink RX5 40 "DiamondRows$Polygon" "lineCount" "I") zl_X5_numberLine_40) (fun _ h9 => h9) rfl (by decide +kernel) rfl rfl (Nat.le_of_ble_eq_true rfl) dX5_numberLine_97 (fun H locs hP hD hS => ?_)
    have hP : va_P D vwCl ([((t 0), .inr (5, [.int (zi t_corners), .ref (t 1), .ref (t 2), .ref (t 3), .ref (t 4), .ref (t 5), .ref (t 6), .int (zi (t_lineCount + (1 : Int))), .int (zi t_cutCount)])), ((t 1), .inl (κ 1, 27, .inl (zc (zset t_lesser (Int.toNat t_lineCount) i1)))), ((t 2), .inl (κ 1, 27, .inl (zc (zset t_greater (Int.toNat t_lineCount) i2)))), ((t 3), .inl (κ 1, 81, .inl (zc (zset (zset t_numberOfLine (Int.toNat ((i1 * (9 : Int)) + i2)) t_lineCount) (Int.toNat ((i2 * (9 : Int)) + i1)) t_lineCount)))), ((t 4), .inl (κ 1, 27, .inl (zc t_crossers))), ((t 5), .inl (κ 1, 9, .inl (zc (zset (zset t_linesAt (Int.toNat i1) (zor (zget t_linesAt (Int.toNat i1)) (zshl (1 : Int) t_lineCount))) (Int.toNat i2) (zor (zget (zset t_linesAt (Int.toNat i1) (zor (zget t_linesAt (Int.toNat i1)) (zshl (1 : Int) t_lineCount))) (Int.toNat i2)) (zshl (1 : Int) t_lineCount)))))), ((t 6), .inl (κ 1, 429, .inl (zc t_cuts)))]) H := hP
    have hD : va_D A ([((t 0), .inr (5, [.int (zi t_corners), .ref (t 1), .ref (t 2), .ref (t 3), .ref (t 4), .ref (t 5), .ref (t 6), .int (zi (t_lineCount + (1 : Int))), .int (zi t_cutCount)])), ((t 1), .inl (κ 1, 27, .inl (zc (zset t_lesser (Int.toNat t_lineCount) i1)))), ((t 2), .inl (κ 1, 27, .inl (zc (zset t_greater (Int.toNat t_lineCount) i2)))), ((t 3), .inl (κ 1, 81, .inl (zc (zset (zset t_numberOfLine (Int.toNat ((i1 * (9 : Int)) + i2)) t_lineCount) (Int.toNat ((i2 * (9 : Int)) + i1)) t_lineCount)))), ((t 4), .inl (κ 1, 27, .inl (zc t_crossers))), ((t 5), .inl (κ 1, 9, .inl (zc (zset (zset t_linesAt (Int.toNat i1) (zor (zget t_linesAt (Int.toNat i1)) (zshl (1 : Int) t_lineCount))) (Int.toNat i2) (zor (zget (zset t_linesAt (Int.toNat i1) (zor (zget t_linesAt (Int.toNat i1)) (zshl (1 : Int) t_lineCount))) (Int.toNat i2)) (zshl (1 : Int) t_lineCount)))))), ((t 6), .inl (κ 1, 429, .inl (zc t_cuts)))]) := hD
    exact (Go_s hg) _ _ _ _ hP hD hS dX5_numberLine_100
  · have hg := Go_f c7 hg
    exact (Go_s hg) _ _ _ _ hP hD hS dX5_numberLine_9
set_option maxHeartbeats 4000000 in
set_option maxRecDepth 100000 in
theorem zc_X5_numberLine (l : Launch) (D : va_G) (κ : Nat → ClassId) (t : Nat → Nat) (sz : Nat) (t_corners : Int) (t_lineCount : Int) (t_cutCount : Int) (t_lesser : Nat) (t_greater : Nat) (t_numberOfLine : Nat) (t_crossers : Nat) (t_linesAt : Nat) (t_cuts : Nat) (i1 : Int) (i2 : Int) (out : Int × Nat × Nat × Nat × Nat) (h : zf_X5_numberLine t_lineCount t_lesser t_greater t_numberOfLine t_linesAt i1 i2 = some out) : Met l yX5_numberLine wsX5_numberLine zr_X5_numberLine (va_Pc [.ref (t 0), .int (zi i1), .int (zi i2)] (zW D κ ([((t 0), .inr (5, [.int (zi t_corners), .ref (t 1), .ref (t 2), .ref (t 3), .ref (t 4), .ref (t 5), .ref (t 6), .int (zi t_lineCount), .int (zi t_cutCount)])), ((t 1), .inl (κ 1, 27, .inl (zc t_lesser))), ((t 2), .inl (κ 1, 27, .inl (zc t_greater))), ((t 3), .inl (κ 1, 81, .inl (zc t_numberOfLine))), ((t 4), .inl (κ 1, 27, .inl (zc t_crossers))), ((t 5), .inl (κ 1, 9, .inl (zc t_linesAt))), ((t 6), .inl (κ 1, 429, .inl (zc t_cuts)))]) sz)) (va_Qv (fun (_ : Unit) => True) (fun _ => zB D κ (va_A ([((t 0), .inr (5, [.int (zi t_corners), .ref (t 1), .ref (t 2), .ref (t 3), .ref (t 4), .ref (t 5), .ref (t 6), .int (zi t_lineCount), .int (zi t_cutCount)])), ((t 1), .inl (κ 1, 27, .inl (zc t_lesser))), ((t 2), .inl (κ 1, 27, .inl (zc t_greater))), ((t 3), .inl (κ 1, 81, .inl (zc t_numberOfLine))), ((t 4), .inl (κ 1, 27, .inl (zc t_crossers))), ((t 5), .inl (κ 1, 9, .inl (zc t_linesAt))), ((t 6), .inl (κ 1, 429, .inl (zc t_cuts)))]) sz) ([((t 0), .inr (5, [.int (zi t_corners), .ref (t 1), .ref (t 2), .ref (t 3), .ref (t 4), .ref (t 5), .ref (t 6), .int (zi (out.1)), .int (zi t_cutCount)])), ((t 1), .inl (κ 1, 27, .inl (zc (out.2.1)))), ((t 2), .inl (κ 1, 27, .inl (zc (out.2.2.1)))), ((t 3), .inl (κ 1, 81, .inl (zc (out.2.2.2.1)))), ((t 4), .inl (κ 1, 27, .inl (zc t_crossers))), ((t 5), .inl (κ 1, 9, .inl (zc (out.2.2.2.2)))), ((t 6), .inl (κ 1, 429, .inl (zc t_cuts)))])) (va_A ([((t 0), .inr (5, [.int (zi t_corners), .ref (t 1), .ref (t 2), .ref (t 3), .ref (t 4), .ref (t 5), .ref (t 6), .int (zi t_lineCount), .int (zi t_cutCount)])), ((t 1), .inl (κ 1, 27, .inl (zc t_lesser))), ((t 2), .inl (κ 1, 27, .inl (zc t_greater))), ((t 3), .inl (κ 1, 81, .inl (zc t_numberOfLine))), ((t 4), .inl (κ 1, 27, .inl (zc t_crossers))), ((t 5), .inl (κ 1, 9, .inl (zc t_linesAt))), ((t 6), .inl (κ 1, 429, .inl (zc t_cuts)))]) sz)) 0 0 (va_A ([((t 0), .inr (5, [.int (zi t_corners), .ref (t 1), .ref (t 2), .ref (t 3), .ref (t 4), .ref (t 5), .ref (t 6), .int (zi t_lineCount), .int (zi t_cutCount)])), ((t 1), .inl (κ 1, 27, .inl (zc t_lesser))), ((t 2), .inl (κ 1, 27, .inl (zc t_greater))), ((t 3), .inl (κ 1, 81, .inl (zc t_numberOfLine))), ((t 4), .inl (κ 1, 27, .inl (zc t_crossers))), ((t 5), .inl (κ 1, 9, .inl (zc t_linesAt))), ((t 6), .inl (κ 1, 429, .inl (zc t_cuts)))]) sz) := by
  refine Met.ofW (cc := cX5_numberLine) (maxL := 3) (ret := none) (by decide +kernel) rfl ?_
  intro p e s m args below meth c s₁ B hml hv
  obtain ⟨rfl, hsz, hP, hK, hD0⟩ := hv
  have hx := B.exec
  have hb := B.bytes
  have hr := B.returns
  have hts := atoms_spec (ws := wsX5_numberLine) B.pre
  have hown : s.vm.findClass RX5 = some m.cls := findClass_of_methodNamed B.named
  have hlocks := B.notSynchronized
  subst hsz
  have hD := hD0.self (sz := s.heap.size)
  generalize hAe : va_A ([((t 0), .inr (5, [.int (zi t_corners), .ref (t 1), .ref (t 2), .ref (t 3), .ref (t 4), .ref (t 5), .ref (t 6), .int (zi t_lineCount), .int (zi t_cutCount)])), ((t 1), .inl (κ 1, 27, .inl (zc t_lesser))), ((t 2), .inl (κ 1, 27, .inl (zc t_greater))), ((t 3), .inl (κ 1, 81, .inl (zc t_numberOfLine))), ((t 4), .inl (κ 1, 27, .inl (zc t_crossers))), ((t 5), .inl (κ 1, 9, .inl (zc t_linesAt))), ((t 6), .inl (κ 1, 429, .inl (zc t_cuts)))]) s.heap.size = A at hD ⊢
  have hA : ∀ q : Nat, s.heap.size ≤ q → A q := fun q h => by rw [← hAe]; exact Or.inr h
  have hS : va_S A s.heap s.heap [] := va_S.rf
  have hl := lv_entry ([.ref (t 0), .int (zi i1), .int (zi i2)]) (n := 3) (Nat.le_of_ble_eq_true rfl)
  rw [lg_entry_eq]
  generalize (lg_sl ([.ref (t 0), .int (zi i1), .int (zi i2)]) ++ List.replicate (3 - (lg_sl ([.ref (t 0), .int (zi i1), .int (zi i2)])).length) Slot.unset).toArray = ls at hl ⊢
  have hl : lv_has ls 3 [(0, .ref (t 0)), (1, .int (zi i1)), (2, .int (zi i2))] := hl
  refine zs_X5_numberLine t t_corners t_lineCount t_cutCount t_lesser t_greater t_numberOfLine t_crossers t_linesAt t_cuts i1 i2 hx hb hml hown hts hK hA s.heap [] ls hP hD hS hl ⟨out, h, ?_⟩
  exact fun H locs ls pc hP hD hS hd => W.vret hx hb hr (fun t ht hW => ⟨⟨(), rfl, trivial, by rw [ht]; exact hP, va_K.moved hW.alike hK, hD⟩, hS.F ht⟩) hS.2.2 hd
/-! DiamondRows$Polygon.numberLines()V -/
abbrev zr_X5_numberLines : Room := { frames := 1, cells := 0, slots := 0, locals := 22 }
abbrev zS_X5_numberLines : Type := Nat × Int × Int × Int × Int × Nat × Nat × Nat × Nat
abbrev zO_X5_numberLines : Type := Int × Nat × Nat × Nat × Nat
noncomputable def zg_X5_numberLines_0  (t_corners : Int) (i1 : Int) (i2 : Int) (i3 : Int) (t_lineCount : Int) (t_lesser : Nat) (t_greater : Nat) (t_numberOfLine : Nat) (t_linesAt : Nat) : Option (zO_X5_numberLines ⊕ zS_X5_numberLines) :=
  some (.inr (2, (0 : Int), 0, 0, t_lineCount, t_lesser, t_greater, t_numberOfLine, t_linesAt))
noncomputable def zg_X5_numberLines_2  (t_corners : Int) (i1 : Int) (i2 : Int) (i3 : Int) (t_lineCount : Int) (t_lesser : Nat) (t_greater : Nat) (t_numberOfLine : Nat) (t_linesAt : Nat) : Option (zO_X5_numberLines ⊕ zS_X5_numberLines) :=
  if zout i1 then none else
  if zout t_corners then none else
  if t_corners ≤ i1 then
  some (.inr (46, (0 : Int), 0, 0, t_lineCount, t_lesser, t_greater, t_numberOfLine, t_linesAt))
  else
  some (.inr (12, i1, (0 : Int), 0, t_lineCount, t_lesser, t_greater, t_numberOfLine, t_linesAt))
noncomputable def zg_X5_numberLines_12  (t_corners : Int) (i1 : Int) (i2 : Int) (i3 : Int) (t_lineCount : Int) (t_lesser : Nat) (t_greater : Nat) (t_numberOfLine : Nat) (t_linesAt : Nat) : Option (zO_X5_numberLines ⊕ zS_X5_numberLines) :=
  if zout i2 then none else
  if zout t_corners then none else
  if t_corners ≤ i2 then
  some (.inr (2, (i1 + (1 : Int)), i2, 0, t_lineCount, t_lesser, t_greater, t_numberOfLine, t_linesAt))
  else
  if ((i1 * (9 : Int)) + i2) < 0 ∨ 81 ≤ ((i1 * (9 : Int)) + i2) then none else
  some (.inr (12, i1, (i2 + (1 : Int)), 0, t_lineCount, t_lesser, t_greater, (zset t_numberOfLine (Int.toNat ((i1 * (9 : Int)) + i2)) (-1 : Int)), t_linesAt))
noncomputable def zg_X5_numberLines_46  (t_corners : Int) (i1 : Int) (i2 : Int) (i3 : Int) (t_lineCount : Int) (t_lesser : Nat) (t_greater : Nat) (t_numberOfLine : Nat) (t_linesAt : Nat) : Option (zO_X5_numberLines ⊕ zS_X5_numberLines) :=
  if zout i1 then none else
  if zout t_corners then none else
  if t_corners ≤ i1 then
  some (.inl (t_lineCount, t_lesser, t_greater, t_numberOfLine, t_linesAt))
  else
  if i1 = 0 then
  some (.inr (76, i1, (t_corners - (1 : Int)), (i1 + (2 : Int)), t_lineCount, t_lesser, t_greater, t_numberOfLine, t_linesAt))
  else
  some (.inr (76, i1, t_corners, (i1 + (2 : Int)), t_lineCount, t_lesser, t_greater, t_numberOfLine, t_linesAt))
noncomputable def zg_X5_numberLines_76  (t_corners : Int) (i1 : Int) (i2 : Int) (i3 : Int) (t_lineCount : Int) (t_lesser : Nat) (t_greater : Nat) (t_numberOfLine : Nat) (t_linesAt : Nat) : Option (zO_X5_numberLines ⊕ zS_X5_numberLines) :=
  if zout i3 then none else
  if zout i2 then none else
  if i2 ≤ i3 then
  some (.inr (46, (i1 + (1 : Int)), i2, i3, t_lineCount, t_lesser, t_greater, t_numberOfLine, t_linesAt))
  else
  Option.bind (zf_X5_numberLine t_lineCount t_lesser t_greater t_numberOfLine t_linesAt i1 i3) (fun o14 =>
  some (.inr (76, i1, i2, (i3 + (1 : Int)), (o14.1), (o14.2.1), (o14.2.2.1), (o14.2.2.2.1), (o14.2.2.2.2))))
noncomputable def zg_X5_numberLines  (t_corners : Int) (st : zS_X5_numberLines) : Option (zO_X5_numberLines ⊕ zS_X5_numberLines) := match st with
  | (lab, i1, i2, i3, t_lineCount, t_lesser, t_greater, t_numberOfLine, t_linesAt) => if lab = 0 then zg_X5_numberLines_0 t_corners i1 i2 i3 t_lineCount t_lesser t_greater t_numberOfLine t_linesAt else if lab = 2 then zg_X5_numberLines_2 t_corners i1 i2 i3 t_lineCount t_lesser t_greater t_numberOfLine t_linesAt else if lab = 12 then zg_X5_numberLines_12 t_corners i1 i2 i3 t_lineCount t_lesser t_greater t_numberOfLine t_linesAt else if lab = 46 then zg_X5_numberLines_46 t_corners i1 i2 i3 t_lineCount t_lesser t_greater t_numberOfLine t_linesAt else if lab = 76 then zg_X5_numberLines_76 t_corners i1 i2 i3 t_lineCount t_lesser t_greater t_numberOfLine t_linesAt else none
noncomputable def zf_X5_numberLines  (t_corners : Int) (t_lineCount : Int) (t_lesser : Nat) (t_greater : Nat) (t_numberOfLine : Nat) (t_linesAt : Nat)  : Option (Int × Nat × Nat × Nat × Nat) := jrun (zg_X5_numberLines t_corners) jfuel (0, 0, 0, 0, t_lineCount, t_lesser, t_greater, t_numberOfLine, t_linesAt)
theorem zi_X5_numberLines_X5 : ∀ w ∈ u_ws RX5 TX5 9, w ∈ wsX5_numberLines := fun w h => (List.mem_cons_of_mem _ (List.mem_append_right _ (List.mem_append_left _ h)))
theorem zl_X5_numberLines_18 : Cond.fieldLink RX5 18 "DiamondRows$Polygon" "numberOfLine" "[I" ∈ wsX5_numberLines := (List.mem_cons_of_mem _ (List.mem_append_left _ (List.mem_of_getElem? (i := 1) rfl)))
theorem zl_X5_numberLines_30 : Cond.fieldLink RX5 30 "DiamondRows$Polygon" "corners" "I" ∈ wsX5_numberLines := (List.mem_cons_of_mem _ (List.mem_append_left _ (List.mem_of_getElem? (i := 0) rfl)))
def zQ_X5_numberLines (p : Program) (l : Launch) (e : Env) (s : State) (m : MethodId) (args : Array Value) (below : List Frame) (meth : Method) (c : Code) (Q : State → Prop) (D : va_G) (κ : Nat → ClassId) (A : Nat → Prop) (H0 : Heap) (t : Nat → Nat) (t_corners : Int) (t_cutCount : Int) (t_crossers : Nat) (t_cuts : Nat) (o : Int × Nat × Nat × Nat × Nat) : Prop := ∀ (H : Heap) (locs : List Loc) (ls : Array Slot) (pc : Nat), va_P D vwCl ([((t 0), .inr (5, [.int (zi t_corners), .ref (t 1), .ref (t 2), .ref (t 3), .ref (t 4), .ref (t 5), .ref (t 6), .int (zi (o.1)), .int (zi t_cutCount)])), ((t 1), .inl (κ 1, 27, .inl (zc (o.2.1)))), ((t 2), .inl (κ 1, 27, .inl (zc (o.2.2.1)))), ((t 3), .inl (κ 1, 81, .inl (zc (o.2.2.2.1)))), ((t 4), .inl (κ 1, 27, .inl (zc t_crossers))), ((t 5), .inl (κ 1, 9, .inl (zc (o.2.2.2.2)))), ((t 6), .inl (κ 1, 429, .inl (zc t_cuts)))]) H → va_D A ([((t 0), .inr (5, [.int (zi t_corners), .ref (t 1), .ref (t 2), .ref (t 3), .ref (t 4), .ref (t 5), .ref (t 6), .int (zi (o.1)), .int (zi t_cutCount)])), ((t 1), .inl (κ 1, 27, .inl (zc (o.2.1)))), ((t 2), .inl (κ 1, 27, .inl (zc (o.2.2.1)))), ((t 3), .inl (κ 1, 81, .inl (zc (o.2.2.2.1)))), ((t 4), .inl (κ 1, 27, .inl (zc t_crossers))), ((t 5), .inl (κ 1, 9, .inl (zc (o.2.2.2.2)))), ((t 6), .inl (κ 1, 429, .inl (zc t_cuts)))]) → va_S A H0 H locs → decode cX5_numberLines pc = .ok (.return_, 1) → W p l e zr_X5_numberLines s m args below meth c H locs 0 0 Q (F0 m pc ls [])
def zA_X5_numberLines_0 (p : Program) (l : Launch) (e : Env) (s : State) (m : MethodId) (args : Array Value) (below : List Frame) (meth : Method) (c : Code) (Q : State → Prop) (D : va_G) (κ : Nat → ClassId) (A : Nat → Prop) (H0 : Heap) (t : Nat → Nat) (t_corners : Int) (t_cutCount : Int) (t_crossers : Nat) (t_cuts : Nat) (i1 : Int) (i2 : Int) (i3 : Int) (t_lineCount : Int) (t_lesser : Nat) (t_greater : Nat) (t_numberOfLine : Nat) (t_linesAt : Nat) : Prop := ∀ (H : Heap) (locs : List Loc) (ls : Array Slot), va_P D vwCl ([((t 0), .inr (5, [.int (zi t_corners), .ref (t 1), .ref (t 2), .ref (t 3), .ref (t 4), .ref (t 5), .ref (t 6), .int (zi t_lineCount), .int (zi t_cutCount)])), ((t 1), .inl (κ 1, 27, .inl (zc t_lesser))), ((t 2), .inl (κ 1, 27, .inl (zc t_greater))), ((t 3), .inl (κ 1, 81, .inl (zc t_numberOfLine))), ((t 4), .inl (κ 1, 27, .inl (zc t_crossers))), ((t 5), .inl (κ 1, 9, .inl (zc t_linesAt))), ((t 6), .inl (κ 1, 429, .inl (zc t_cuts)))]) H → va_D A ([((t 0), .inr (5, [.int (zi t_corners), .ref (t 1), .ref (t 2), .ref (t 3), .ref (t 4), .ref (t 5), .ref (t 6), .int (zi t_lineCount), .int (zi t_cutCount)])), ((t 1), .inl (κ 1, 27, .inl (zc t_lesser))), ((t 2), .inl (κ 1, 27, .inl (zc t_greater))), ((t 3), .inl (κ 1, 81, .inl (zc t_numberOfLine))), ((t 4), .inl (κ 1, 27, .inl (zc t_crossers))), ((t 5), .inl (κ 1, 9, .inl (zc t_linesAt))), ((t 6), .inl (κ 1, 429, .inl (zc t_cuts)))]) → va_S A H0 H locs → lv_has ls 4 [(0, .ref (t 0))] → W p l e zr_X5_numberLines s m args below meth c H locs 0 0 Q (F0 m 0 ls [])
def zA_X5_numberLines_2 (p : Program) (l : Launch) (e : Env) (s : State) (m : MethodId) (args : Array Value) (below : List Frame) (meth : Method) (c : Code) (Q : State → Prop) (D : va_G) (κ : Nat → ClassId) (A : Nat → Prop) (H0 : Heap) (t : Nat → Nat) (t_corners : Int) (t_cutCount : Int) (t_crossers : Nat) (t_cuts : Nat) (i1 : Int) (i2 : Int) (i3 : Int) (t_lineCount : Int) (t_lesser : Nat) (t_greater : Nat) (t_numberOfLine : Nat) (t_linesAt : Nat) : Prop := ∀ (H : Heap) (locs : List Loc) (ls : Array Slot), va_P D vwCl ([((t 0), .inr (5, [.int (zi t_corners), .ref (t 1), .ref (t 2), .ref (t 3), .ref (t 4), .ref (t 5), .ref (t 6), .int (zi t_lineCount), .int (zi t_cutCount)])), ((t 1), .inl (κ 1, 27, .inl (zc t_lesser))), ((t 2), .inl (κ 1, 27, .inl (zc t_greater))), ((t 3), .inl (κ 1, 81, .inl (zc t_numberOfLine))), ((t 4), .inl (κ 1, 27, .inl (zc t_crossers))), ((t 5), .inl (κ 1, 9, .inl (zc t_linesAt))), ((t 6), .inl (κ 1, 429, .inl (zc t_cuts)))]) H → va_D A ([((t 0), .inr (5, [.int (zi t_corners), .ref (t 1), .ref (t 2), .ref (t 3), .ref (t 4), .ref (t 5), .ref (t 6), .int (zi t_lineCount), .int (zi t_cutCount)])), ((t 1), .inl (κ 1, 27, .inl (zc t_lesser))), ((t 2), .inl (κ 1, 27, .inl (zc t_greater))), ((t 3), .inl (κ 1, 81, .inl (zc t_numberOfLine))), ((t 4), .inl (κ 1, 27, .inl (zc t_crossers))), ((t 5), .inl (κ 1, 9, .inl (zc t_linesAt))), ((t 6), .inl (κ 1, 429, .inl (zc t_cuts)))]) → va_S A H0 H locs → lv_has ls 4 [(0, .ref (t 0)), (1, .int (zi i1))] → W p l e zr_X5_numberLines s m args below meth c H locs 0 0 Q (F0 m 2 ls [])
def zA_X5_numberLines_12 (p : Program) (l : Launch) (e : Env) (s : State) (m : MethodId) (args : Array Value) (below : List Frame) (meth : Method) (c : Code) (Q : State → Prop) (D : va_G) (κ : Nat → ClassId) (A : Nat → Prop) (H0 : Heap) (t : Nat → Nat) (t_corners : Int) (t_cutCount : Int) (t_crossers : Nat) (t_cuts : Nat) (i1 : Int) (i2 : Int) (i3 : Int) (t_lineCount : Int) (t_lesser : Nat) (t_greater : Nat) (t_numberOfLine : Nat) (t_linesAt : Nat) : Prop := ∀ (H : Heap) (locs : List Loc) (ls : Array Slot), va_P D vwCl ([((t 0), .inr (5, [.int (zi t_corners), .ref (t 1), .ref (t 2), .ref (t 3), .ref (t 4), .ref (t 5), .ref (t 6), .int (zi t_lineCount), .int (zi t_cutCount)])), ((t 1), .inl (κ 1, 27, .inl (zc t_lesser))), ((t 2), .inl (κ 1, 27, .inl (zc t_greater))), ((t 3), .inl (κ 1, 81, .inl (zc t_numberOfLine))), ((t 4), .inl (κ 1, 27, .inl (zc t_crossers))), ((t 5), .inl (κ 1, 9, .inl (zc t_linesAt))), ((t 6), .inl (κ 1, 429, .inl (zc t_cuts)))]) H → va_D A ([((t 0), .inr (5, [.int (zi t_corners), .ref (t 1), .ref (t 2), .ref (t 3), .ref (t 4), .ref (t 5), .ref (t 6), .int (zi t_lineCount), .int (zi t_cutCount)])), ((t 1), .inl (κ 1, 27, .inl (zc t_lesser))), ((t 2), .inl (κ 1, 27, .inl (zc t_greater))), ((t 3), .inl (κ 1, 81, .inl (zc t_numberOfLine))), ((t 4), .inl (κ 1, 27, .inl (zc t_crossers))), ((t 5), .inl (κ 1, 9, .inl (zc t_linesAt))), ((t 6), .inl (κ 1, 429, .inl (zc t_cuts)))]) → va_S A H0 H locs → lv_has ls 4 [(0, .ref (t 0)), (1, .int (zi i1)), (2, .int (zi i2))] → W p l e zr_X5_numberLines s m args below meth c H locs 0 0 Q (F0 m 12 ls [])
def zA_X5_numberLines_46 (p : Program) (l : Launch) (e : Env) (s : State) (m : MethodId) (args : Array Value) (below : List Frame) (meth : Method) (c : Code) (Q : State → Prop) (D : va_G) (κ : Nat → ClassId) (A : Nat → Prop) (H0 : Heap) (t : Nat → Nat) (t_corners : Int) (t_cutCount : Int) (t_crossers : Nat) (t_cuts : Nat) (i1 : Int) (i2 : Int) (i3 : Int) (t_lineCount : Int) (t_lesser : Nat) (t_greater : Nat) (t_numberOfLine : Nat) (t_linesAt : Nat) : Prop := ∀ (H : Heap) (locs : List Loc) (ls : Array Slot), va_P D vwCl ([((t 0), .inr (5, [.int (zi t_corners), .ref (t 1), .ref (t 2), .ref (t 3), .ref (t 4), .ref (t 5), .ref (t 6), .int (zi t_lineCount), .int (zi t_cutCount)])), ((t 1), .inl (κ 1, 27, .inl (zc t_lesser))), ((t 2), .inl (κ 1, 27, .inl (zc t_greater))), ((t 3), .inl (κ 1, 81, .inl (zc t_numberOfLine))), ((t 4), .inl (κ 1, 27, .inl (zc t_crossers))), ((t 5), .inl (κ 1, 9, .inl (zc t_linesAt))), ((t 6), .inl (κ 1, 429, .inl (zc t_cuts)))]) H → va_D A ([((t 0), .inr (5, [.int (zi t_corners), .ref (t 1), .ref (t 2), .ref (t 3), .ref (t 4), .ref (t 5), .ref (t 6), .int (zi t_lineCount), .int (zi t_cutCount)])), ((t 1), .inl (κ 1, 27, .inl (zc t_lesser))), ((t 2), .inl (κ 1, 27, .inl (zc t_greater))), ((t 3), .inl (κ 1, 81, .inl (zc t_numberOfLine))), ((t 4), .inl (κ 1, 27, .inl (zc t_crossers))), ((t 5), .inl (κ 1, 9, .inl (zc t_linesAt))), ((t 6), .inl (κ 1, 429, .inl (zc t_cuts)))]) → va_S A H0 H locs → lv_has ls 4 [(0, .ref (t 0)), (1, .int (zi i1))] → W p l e zr_X5_numberLines s m args below meth c H locs 0 0 Q (F0 m 46 ls [])
def zA_X5_numberLines_76 (p : Program) (l : Launch) (e : Env) (s : State) (m : MethodId) (args : Array Value) (below : List Frame) (meth : Method) (c : Code) (Q : State → Prop) (D : va_G) (κ : Nat → ClassId) (A : Nat → Prop) (H0 : Heap) (t : Nat → Nat) (t_corners : Int) (t_cutCount : Int) (t_crossers : Nat) (t_cuts : Nat) (i1 : Int) (i2 : Int) (i3 : Int) (t_lineCount : Int) (t_lesser : Nat) (t_greater : Nat) (t_numberOfLine : Nat) (t_linesAt : Nat) : Prop := ∀ (H : Heap) (locs : List Loc) (ls : Array Slot), va_P D vwCl ([((t 0), .inr (5, [.int (zi t_corners), .ref (t 1), .ref (t 2), .ref (t 3), .ref (t 4), .ref (t 5), .ref (t 6), .int (zi t_lineCount), .int (zi t_cutCount)])), ((t 1), .inl (κ 1, 27, .inl (zc t_lesser))), ((t 2), .inl (κ 1, 27, .inl (zc t_greater))), ((t 3), .inl (κ 1, 81, .inl (zc t_numberOfLine))), ((t 4), .inl (κ 1, 27, .inl (zc t_crossers))), ((t 5), .inl (κ 1, 9, .inl (zc t_linesAt))), ((t 6), .inl (κ 1, 429, .inl (zc t_cuts)))]) H → va_D A ([((t 0), .inr (5, [.int (zi t_corners), .ref (t 1), .ref (t 2), .ref (t 3), .ref (t 4), .ref (t 5), .ref (t 6), .int (zi t_lineCount), .int (zi t_cutCount)])), ((t 1), .inl (κ 1, 27, .inl (zc t_lesser))), ((t 2), .inl (κ 1, 27, .inl (zc t_greater))), ((t 3), .inl (κ 1, 81, .inl (zc t_numberOfLine))), ((t 4), .inl (κ 1, 27, .inl (zc t_crossers))), ((t 5), .inl (κ 1, 9, .inl (zc t_linesAt))), ((t 6), .inl (κ 1, 429, .inl (zc t_cuts)))]) → va_S A H0 H locs → lv_has ls 4 [(0, .ref (t 0)), (1, .int (zi i1)), (2, .int (zi i2)), (3, .int (zi i3))] → W p l e zr_X5_numberLines s m args below meth c H locs 0 0 Q (F0 m 76 ls [])
def zA_X5_numberLines (p : Program) (l : Launch) (e : Env) (s : State) (m : MethodId) (args : Array Value) (below : List Frame) (meth : Method) (c : Code) (Q : State → Prop) (D : va_G) (κ : Nat → ClassId) (A : Nat → Prop) (H0 : Heap) (t : Nat → Nat) (t_corners : Int) (t_cutCount : Int) (t_crossers : Nat) (t_cuts : Nat) (st : zS_X5_numberLines) : Prop := match st with
  | (lab, i1, i2, i3, t_lineCount, t_lesser, t_greater, t_numberOfLine, t_linesAt) => if lab = 0 then zA_X5_numberLines_0 p l e s m args below meth c Q D κ A H0 t t_corners t_cutCount t_crossers t_cuts i1 i2 i3 t_lineCount t_lesser t_greater t_numberOfLine t_linesAt else if lab = 2 then zA_X5_numberLines_2 p l e s m args below meth c Q D κ A H0 t t_corners t_cutCount t_crossers t_cuts i1 i2 i3 t_lineCount t_lesser t_greater t_numberOfLine t_linesAt else if lab = 12 then zA_X5_numberLines_12 p l e s m args below meth c Q D κ A H0 t t_corners t_cutCount t_crossers t_cuts i1 i2 i3 t_lineCount t_lesser t_greater t_numberOfLine t_linesAt else if lab = 46 then zA_X5_numberLines_46 p l e s m args below meth c Q D κ A H0 t t_corners t_cutCount t_crossers t_cuts i1 i2 i3 t_lineCount t_lesser t_greater t_numberOfLine t_linesAt else if lab = 76 then zA_X5_numberLines_76 p l e s m args below meth c Q D κ A H0 t t_corners t_cutCount t_crossers t_cuts i1 i2 i3 t_lineCount t_lesser t_greater t_numberOfLine t_linesAt else True
set_option maxHeartbeats 4000000 in
set_option maxRecDepth 100000 in
theorem zs_X5_numberLines_0 {p : Program} {l : Launch} {e : Env} {s : State} {m : MethodId} {args : Array Value} {below : List Frame} {meth : Method} {c : Code} {Q : State → Prop} {D : va_G} {κ : Nat → ClassId} {A : Nat → Prop} {H0 : Heap} (t : Nat → Nat) (t_corners : Int) (t_cutCount : Int) (t_crossers : Nat) (t_cuts : Nat) (hx : p.tables.exec = Jvm.exec) (hb : c.code = cX5_numberLines) (hml : c.maxLocals = 4) (hown : s.vm.findClass RX5 = some m.cls) (hts : ∀ w ∈ wsX5_numberLines, w.before args s = true) (hK : va_K D vwCl (zTY κ) s) (hA : ∀ q : Nat, H0.size ≤ q → A q) (i1 : Int) (i2 : Int) (i3 : Int) (t_lineCount : Int) (t_lesser : Nat) (t_greater : Nat) (t_numberOfLine : Nat) (t_linesAt : Nat) (hg : Go (GoE (zA_X5_numberLines p l e s m args below meth c Q D κ A H0 t t_corners t_cutCount t_crossers t_cuts) (zQ_X5_numberLines p l e s m args below meth c Q D κ A H0 t t_corners t_cutCount t_crossers t_cuts)) (zg_X5_numberLines_0 t_corners i1 i2 i3 t_lineCount t_lesser t_greater t_numberOfLine t_linesAt)) : zA_X5_numberLines_0 p l e s m args below meth c Q D κ A H0 t t_corners t_cutCount t_crossers t_cuts i1 i2 i3 t_lineCount t_lesser t_greater t_numberOfLine t_linesAt := by
  intro H locs ls hP hD hS hl
  unfold zg_X5_numberLines_0 at hg
  refine zv_iconst hx hb dX5_numberLines_0 ?_
  refine lv_istore_n (lv' := [(1, .int (zi (0 : Int))), (0, .ref (t 0))]) hx hb dX5_numberLines_1 rfl hl (by decide) rfl (fun ls hl => ?_)
  exact (Go_s hg) H locs ls hP hD hS (lv_sub hl [1, 0] rfl)
set_option maxHeartbeats 4000000 in
set_option maxRecDepth 100000 in
theorem zs_X5_numberLines_2 {p : Program} {l : Launch} {e : Env} {s : State} {m : MethodId} {args : Array Value} {below : List Frame} {meth : Method} {c : Code} {Q : State → Prop} {D : va_G} {κ : Nat → ClassId} {A : Nat → Prop} {H0 : Heap} (t : Nat → Nat) (t_corners : Int) (t_cutCount : Int) (t_crossers : Nat) (t_cuts : Nat) (hx : p.tables.exec = Jvm.exec) (hb : c.code = cX5_numberLines) (hml : c.maxLocals = 4) (hown : s.vm.findClass RX5 = some m.cls) (hts : ∀ w ∈ wsX5_numberLines, w.before args s = true) (hK : va_K D vwCl (zTY κ) s) (hA : ∀ q : Nat, H0.size ≤ q → A q) (i1 : Int) (i2 : Int) (i3 : Int) (t_lineCount : Int) (t_lesser : Nat) (t_greater : Nat) (t_numberOfLine : Nat) (t_linesAt : Nat) (hg : Go (GoE (zA_X5_numberLines p l e s m args below meth c Q D κ A H0 t t_corners t_cutCount t_crossers t_cuts) (zQ_X5_numberLines p l e s m args below meth c Q D κ A H0 t t_corners t_cutCount t_crossers t_cuts)) (zg_X5_numberLines_2 t_corners i1 i2 i3 t_lineCount t_lesser t_greater t_numberOfLine t_linesAt)) : zA_X5_numberLines_2 p l e s m args below meth c Q D κ A H0 t t_corners t_cutCount t_crossers t_cuts i1 i2 i3 t_lineCount t_lesser t_greater t_numberOfLine t_linesAt := by
  intro H locs ls hP hD hS hl
  unfold zg_X5_numberLines_2 at hg
  refine lv_iload_n hx hb dX5_numberLines_2 rfl (lv_at hl 1 rfl) ?_
  refine lv_aload_n hx hb dX5_numberLines_3 rfl (lv_at hl 0 rfl) ?_
  refine va_get (D := D) (ci := 5) (v := .int (zi t_corners)) (C := RX5) (T := TX5) (N := 9) hx hb hts zi_X5_numberLines_X5 hown hK hP 0 rfl rfl 0 (by decide) (hts (.fieldLink RX5 30 "DiamondRows$Polygon" "corners" "I") zl_X5_numberLines_30) (fun _ h9 => h9) rfl dX5_numberLines_4 ?_
  obtain ⟨b1, hg⟩ := Go_n hg
  obtain ⟨b2, hg⟩ := Go_n hg
  refine zv_icmp_ge (tgt := 44) hx hb dX5_numberLines_7 (by decide) b1 b2 (fun c3 => ?_) (fun c3 => ?_)
  · have hg := Go_t c3 hg
    refine zv_iconst hx hb dX5_numberLines_44 ?_
    refine lv_istore_n (lv' := [(1, .int (zi (0 : Int))), (0, .ref (t 0))]) hx hb dX5_numberLines_45 rfl hl (by decide) rfl (fun ls hl => ?_)
    exact (Go_s hg) H locs ls hP hD hS (lv_sub hl [1, 0] rfl)
  · have hg := Go_f c3 hg
    refine zv_iconst hx hb dX5_numberLines_10 ?_
    refine lv_istore_n (lv' := [(2, .int (zi (0 : Int))), (0, .ref (t 0)), (1, .int (zi i1))]) hx hb dX5_numberLines_11 rfl hl (by decide) rfl (fun ls hl => ?_)
    exact (Go_s hg) H locs ls hP hD hS (lv_sub hl [1, 2, 0] rfl)
set_option maxHeartbeats 4000000 in
set_option maxRecDepth 100000 in
theorem zs_X5_numberLines_12 {p : Program} {l : Launch} {e : Env} {s : State} {m : MethodId} {args : Array Value} {below : List Frame} {meth : Method} {c : Code} {Q : State → Prop} {D : va_G} {κ : Nat → ClassId} {A : Nat → Prop} {H0 : Heap} (t : Nat → Nat) (t_corners : Int) (t_cutCount : Int) (t_crossers : Nat) (t_cuts : Nat) (hx : p.tables.exec = Jvm.exec) (hb : c.code = cX5_numberLines) (hml : c.maxLocals = 4) (hown : s.vm.findClass RX5 = some m.cls) (hts : ∀ w ∈ wsX5_numberLines, w.before args s = true) (hK : va_K D vwCl (zTY κ) s) (hA : ∀ q : Nat, H0.size ≤ q → A q) (i1 : Int) (i2 : Int) (i3 : Int) (t_lineCount : Int) (t_lesser : Nat) (t_greater : Nat) (t_numberOfLine : Nat) (t_linesAt : Nat) (hg : Go (GoE (zA_X5_numberLines p l e s m args below meth c Q D κ A H0 t t_corners t_cutCount t_crossers t_cuts) (zQ_X5_numberLines p l e s m args below meth c Q D κ A H0 t t_corners t_cutCount t_crossers t_cuts)) (zg_X5_numberLines_12 t_corners i1 i2 i3 t_lineCount t_lesser t_greater t_numberOfLine t_linesAt)) : zA_X5_numberLines_12 p l e s m args below meth c Q D κ A H0 t t_corners t_cutCount t_crossers t_cuts i1 i2 i3 t_lineCount t_lesser t_greater t_numberOfLine t_linesAt := by
  intro H locs ls hP hD hS hl
  unfold zg_X5_numberLines_12 at hg
  refine lv_iload_n hx hb dX5_numberLines_12 rfl (lv_at hl 2 rfl) ?_
  refine lv_aload_n hx hb dX5_numberLines_13 rfl (lv_at hl 0 rfl) ?_
  refine va_get (D := D) (ci := 5) (v := .int (zi t_corners)) (C := RX5) (T := TX5) (N := 9) hx hb hts zi_X5_numberLines_X5 hown hK hP 0 rfl rfl 0 (by decide) (hts (.fieldLink RX5 30 "DiamondRows$Polygon" "corners" "I") zl_X5_numberLines_30) (fun _ h9 => h9) rfl dX5_numberLines_14 ?_
  obtain ⟨b4, hg⟩ := Go_n hg
  obtain ⟨b5, hg⟩ := Go_n hg
  refine zv_icmp_ge (tgt := 38) hx hb dX5_numberLines_17 (by decide) b4 b5 (fun c7 => ?_) (fun c7 => ?_)
  · have hg := Go_t c7 hg
    refine lv_iinc (v := zi (i1 + (1 : Int))) (lv' := [(1, .int (zi (i1 + (1 : Int)))), (0, .ref (t 0)), (2, .int (zi i2))]) hx hb dX5_numberLines_38 hl (k := 1) rfl (zi_add i1 _) (by decide) rfl (fun ls hl => ?_)
    refine lv_goto (tgt := 2) hx hb dX5_numberLines_41 (by decide) ?_
    exact (Go_s hg) H locs ls hP hD hS (lv_sub hl [1, 0] rfl)
  · have hg := Go_f c7 hg
    refine lv_aload_n hx hb dX5_numberLines_20 rfl (lv_at hl 0 rfl) ?_
    refine va_get (D := D) (ci := 5) (v := .ref (t 3)) (C := RX5) (T := TX5) (N := 9) hx hb hts zi_X5_numberLines_X5 hown hK hP 0 rfl rfl 3 (by decide) (hts (.fieldLink RX5 18 "DiamondRows$Polygon" "numberOfLine" "[I") zl_X5_numberLines_18) (fun _ h9 => h9) rfl dX5_numberLines_21 ?_
    refine lv_iload_n hx hb dX5_numberLines_24 rfl (lv_at hl 1 rfl) ?_
    refine zv_bipush hx hb dX5_numberLines_25 (by decide) ?_
    refine zv_imul hx hb dX5_numberLines_27 ?_
    refine lv_iload_n hx hb dX5_numberLines_28 rfl (lv_at hl 2 rfl) ?_
    refine zv_iadd hx hb dX5_numberLines_29 ?_
    refine zv_iconst hx hb dX5_numberLines_30 ?_
    obtain ⟨n6, hg⟩ := Go_n hg
    refine zv_iast hx hb hK hP hD hS 3 1 rfl rfl (by decide) n6 dX5_numberLines_31 (fun H locs hP hD hS => ?_)
    have hP : va_P D vwCl ([((t 0), .inr (5, [.int (zi t_corners), .ref (t 1), .ref (t 2), .ref (t 3), .ref (t 4), .ref (t 5), .ref (t 6), .int (zi t_lineCount), .int (zi t_cutCount)])), ((t 1), .inl (κ 1, 27, .inl (zc t_lesser))), ((t 2), .inl (κ 1, 27, .inl (zc t_greater))), ((t 3), .inl (κ 1, 81, .inl (zc (zset t_numberOfLine (Int.toNat ((i1 * (9 : Int)) + i2)) (-1 : Int))))), ((t 4), .inl (κ 1, 27, .inl (zc t_crossers))), ((t 5), .inl (κ 1, 9, .inl (zc t_linesAt))), ((t 6), .inl (κ 1, 429, .inl (zc t_cuts)))]) H := hP
    have hD : va_D A ([((t 0), .inr (5, [.int (zi t_corners), .ref (t 1), .ref (t 2), .ref (t 3), .ref (t 4), .ref (t 5), .ref (t 6), .int (zi t_lineCount), .int (zi t_cutCount)])), ((t 1), .inl (κ 1, 27, .inl (zc t_lesser))), ((t 2), .inl (κ 1, 27, .inl (zc t_greater))), ((t 3), .inl (κ 1, 81, .inl (zc (zset t_numberOfLine (Int.toNat ((i1 * (9 : Int)) + i2)) (-1 : Int))))), ((t 4), .inl (κ 1, 27, .inl (zc t_crossers))), ((t 5), .inl (κ 1, 9, .inl (zc t_linesAt))), ((t 6), .inl (κ 1, 429, .inl (zc t_cuts)))]) := hD
    refine lv_iinc (v := zi (i2 + (1 : Int))) (lv' := [(2, .int (zi (i2 + (1 : Int)))), (0, .ref (t 0)), (1, .int (zi i1))]) hx hb dX5_numberLines_32 hl (k := 2) rfl (zi_add i2 _) (by decide) rfl (fun ls hl => ?_)
    refine lv_goto (tgt := 12) hx hb dX5_numberLines_35 (by decide) ?_
    exact (Go_s hg) H locs ls hP hD hS (lv_sub hl [1, 2, 0] rfl)
set_option maxHeartbeats 4000000 in
set_option maxRecDepth 100000 in
theorem zs_X5_numberLines_46 {p : Program} {l : Launch} {e : Env} {s : State} {m : MethodId} {args : Array Value} {below : List Frame} {meth : Method} {c : Code} {Q : State → Prop} {D : va_G} {κ : Nat → ClassId} {A : Nat → Prop} {H0 : Heap} (t : Nat → Nat) (t_corners : Int) (t_cutCount : Int) (t_crossers : Nat) (t_cuts : Nat) (hx : p.tables.exec = Jvm.exec) (hb : c.code = cX5_numberLines) (hml : c.maxLocals = 4) (hown : s.vm.findClass RX5 = some m.cls) (hts : ∀ w ∈ wsX5_numberLines, w.before args s = true) (hK : va_K D vwCl (zTY κ) s) (hA : ∀ q : Nat, H0.size ≤ q → A q) (i1 : Int) (i2 : Int) (i3 : Int) (t_lineCount : Int) (t_lesser : Nat) (t_greater : Nat) (t_numberOfLine : Nat) (t_linesAt : Nat) (hg : Go (GoE (zA_X5_numberLines p l e s m args below meth c Q D κ A H0 t t_corners t_cutCount t_crossers t_cuts) (zQ_X5_numberLines p l e s m args below meth c Q D κ A H0 t t_corners t_cutCount t_crossers t_cuts)) (zg_X5_numberLines_46 t_corners i1 i2 i3 t_lineCount t_lesser t_greater t_numberOfLine t_linesAt)) : zA_X5_numberLines_46 p l e s m args below meth c Q D κ A H0 t t_corners t_cutCount t_crossers t_cuts i1 i2 i3 t_lineCount t_lesser t_greater t_numberOfLine t_linesAt := by
  intro H locs ls hP hD hS hl
  unfold zg_X5_numberLines_46 at hg
  refine lv_iload_n hx hb dX5_numberLines_46 rfl (lv_at hl 1 rfl) ?_
  refine lv_aload_n hx hb dX5_numberLines_47 rfl (lv_at hl 0 rfl) ?_
  refine va_get (D := D) (ci := 5) (v := .int (zi t_corners)) (C := RX5) (T := TX5) (N := 9) hx hb hts zi_X5_numberLines_X5 hown hK hP 0 rfl rfl 0 (by decide) (hts (.fieldLink RX5 30 "DiamondRows$Polygon" "corners" "I") zl_X5_numberLines_30) (fun _ h9 => h9) rfl dX5_numberLines_48 ?_
  obtain ⟨b8, hg⟩ := Go_n hg
  obtain ⟨b9, hg⟩ := Go_n hg
  refine zv_icmp_ge (tgt := 99) hx hb dX5_numberLines_51 (by decide) b8 b9 (fun c11 => ?_) (fun c11 => ?_)
  · have hg := Go_t c11 hg
    exact (Go_s hg) _ _ _ _ hP hD hS dX5_numberLines_99
  · have hg := Go_f c11 hg
    refine lv_iload_n hx hb dX5_numberLines_54 rfl (lv_at hl 1 rfl) ?_
    refine zv_if_ne (tgt := 67) hx hb dX5_numberLines_55 (by decide) b8 (fun c10 => ?_) (fun c10 => ?_)
    · have hg := Go_f c10 hg
      refine lv_aload_n hx hb dX5_numberLines_67 rfl (lv_at hl 0 rfl) ?_
      refine va_get (D := D) (ci := 5) (v := .int (zi t_corners)) (C := RX5) (T := TX5) (N := 9) hx hb hts zi_X5_numberLines_X5 hown hK hP 0 rfl rfl 0 (by decide) (hts (.fieldLink RX5 30 "DiamondRows$Polygon" "corners" "I") zl_X5_numberLines_30) (fun _ h9 => h9) rfl dX5_numberLines_68 ?_
      refine lv_istore_n (lv' := [(2, .int (zi t_corners)), (0, .ref (t 0)), (1, .int (zi i1))]) hx hb dX5_numberLines_71 rfl hl (by decide) rfl (fun ls hl => ?_)
      refine lv_iload_n hx hb dX5_numberLines_72 rfl (lv_at hl 2 rfl) ?_
      refine zv_iconst hx hb dX5_numberLines_73 ?_
      refine zv_iadd hx hb dX5_numberLines_74 ?_
      refine lv_istore_n (lv' := [(3, .int (zi (i1 + (2 : Int)))), (2, .int (zi t_corners)), (0, .ref (t 0)), (1, .int (zi i1))]) hx hb dX5_numberLines_75 rfl hl (by decide) rfl (fun ls hl => ?_)
      exact (Go_s hg) H locs ls hP hD hS (lv_sub hl [2, 3, 1, 0] rfl)
    · have hg := Go_t c10 hg
      refine lv_aload_n hx hb dX5_numberLines_58 rfl (lv_at hl 0 rfl) ?_
      refine va_get (D := D) (ci := 5) (v := .int (zi t_corners)) (C := RX5) (T := TX5) (N := 9) hx hb hts zi_X5_numberLines_X5 hown hK hP 0 rfl rfl 0 (by decide) (hts (.fieldLink RX5 30 "DiamondRows$Polygon" "corners" "I") zl_X5_numberLines_30) (fun _ h9 => h9) rfl dX5_numberLines_59 ?_
      refine zv_iconst hx hb dX5_numberLines_62 ?_
      refine zv_isub hx hb dX5_numberLines_63 ?_
      refine lv_goto (tgt := 71) hx hb dX5_numberLines_64 (by decide) ?_
      refine lv_istore_n (lv' := [(2, .int (zi (t_corners - (1 : Int)))), (0, .ref (t 0)), (1, .int (zi i1))]) hx hb dX5_numberLines_71 rfl hl (by decide) rfl (fun ls hl => ?_)
      refine lv_iload_n hx hb dX5_numberLines_72 rfl (lv_at hl 2 rfl) ?_
      refine zv_iconst hx hb dX5_numberLines_73 ?_
      refine zv_iadd hx hb dX5_numberLines_74 ?_
      refine lv_istore_n (lv' := [(3, .int (zi (i1 + (2 : Int)))), (2, .int (zi (t_corners - (1 : Int)))), (0, .ref (t 0)), (1, .int (zi i1))]) hx hb dX5_numberLines_75 rfl hl (by decide) rfl (fun ls hl => ?_)
      exact (Go_s hg) H locs ls hP hD hS (lv_sub hl [2, 3, 1, 0] rfl)
set_option maxHeartbeats 4000000 in
set_option maxRecDepth 100000 in
theorem zs_X5_numberLines_76 {p : Program} {l : Launch} {e : Env} {s : State} {m : MethodId} {args : Array Value} {below : List Frame} {meth : Method} {c : Code} {Q : State → Prop} {D : va_G} {κ : Nat → ClassId} {A : Nat → Prop} {H0 : Heap} (t : Nat → Nat) (t_corners : Int) (t_cutCount : Int) (t_crossers : Nat) (t_cuts : Nat) (hx : p.tables.exec = Jvm.exec) (hb : c.code = cX5_numberLines) (hml : c.maxLocals = 4) (hown : s.vm.findClass RX5 = some m.cls) (hts : ∀ w ∈ wsX5_numberLines, w.before args s = true) (hK : va_K D vwCl (zTY κ) s) (hA : ∀ q : Nat, H0.size ≤ q → A q) (i1 : Int) (i2 : Int) (i3 : Int) (t_lineCount : Int) (t_lesser : Nat) (t_greater : Nat) (t_numberOfLine : Nat) (t_linesAt : Nat) (hg : Go (GoE (zA_X5_numberLines p l e s m args below meth c Q D κ A H0 t t_corners t_cutCount t_crossers t_cuts) (zQ_X5_numberLines p l e s m args below meth c Q D κ A H0 t t_corners t_cutCount t_crossers t_cuts)) (zg_X5_numberLines_76 t_corners i1 i2 i3 t_lineCount t_lesser t_greater t_numberOfLine t_linesAt)) : zA_X5_numberLines_76 p l e s m args below meth c Q D κ A H0 t t_corners t_cutCount t_crossers t_cuts i1 i2 i3 t_lineCount t_lesser t_greater t_numberOfLine t_linesAt := by
  intro H locs ls hP hD hS hl
  unfold zg_X5_numberLines_76 at hg
  refine lv_iload_n hx hb dX5_numberLines_76 rfl (lv_at hl 3 rfl) ?_
  refine lv_iload_n hx hb dX5_numberLines_77 rfl (lv_at hl 2 rfl) ?_
  obtain ⟨b12, hg⟩ := Go_n hg
  obtain ⟨b13, hg⟩ := Go_n hg
  refine zv_icmp_ge (tgt := 93) hx hb dX5_numberLines_78 (by decide) b12 b13 (fun c15 => ?_) (fun c15 => ?_)
  · have hg := Go_t c15 hg
    refine lv_iinc (v := zi (i1 + (1 : Int))) (lv' := [(1, .int (zi (i1 + (1 : Int)))), (0, .ref (t 0)), (2, .int (zi i2)), (3, .int (zi i3))]) hx hb dX5_numberLines_93 hl (k := 1) rfl (zi_add i1 _) (by decide) rfl (fun ls hl => ?_)
    refine lv_goto (tgt := 46) hx hb dX5_numberLines_96 (by decide) ?_
    exact (Go_s hg) H locs ls hP hD hS (lv_sub hl [1, 0] rfl)
  · have hg := Go_f c15 hg
    refine lv_aload_n hx hb dX5_numberLines_81 rfl (lv_at hl 0 rfl) ?_
    refine lv_iload_n hx hb dX5_numberLines_82 rfl (lv_at hl 1 rfl) ?_
    refine lv_iload_n hx hb dX5_numberLines_83 rfl (lv_at hl 3 rfl) ?_
    obtain ⟨o14, ho14, hg⟩ := Go_b hg
    refine zj_v (wr := []) (ws1 := [((t 0), .inr (5, [.int (zi t_corners), .ref (t 1), .ref (t 2), .ref (t 3), .ref (t 4), .ref (t 5), .ref (t 6), .int (zi (o14.1)), .int (zi t_cutCount)])), ((t 1), .inl (κ 1, 27, .inl (zc (o14.2.1)))), ((t 2), .inl (κ 1, 27, .inl (zc (o14.2.2.1)))), ((t 3), .inl (κ 1, 81, .inl (zc (o14.2.2.2.1)))), ((t 4), .inl (κ 1, 27, .inl (zc t_crossers))), ((t 5), .inl (κ 1, 9, .inl (zc (o14.2.2.2.2)))), ((t 6), .inl (κ 1, 429, .inl (zc t_cuts)))]) (va_runV (rest := []) ⟨hx, hb, hml, hown, hts⟩ (zc_X5_numberLine l D κ t H.size t_corners t_lineCount t_cutCount t_lesser t_greater t_numberOfLine t_crossers t_linesAt t_cuts i1 i3 o14 ho14) (cwV 2 hts gX5_numberLines_X5_numberLine rfl rfl rfl hv_X5_numberLine ⟨Nat.le_of_ble_eq_true rfl, Nat.le_of_ble_eq_true rfl⟩) (zpreWV hK (hP.sub [0, 1, 2, 3, 4, 5, 6] rfl) (hD.sub [0, 1, 2, 3, 4, 5, 6] (by decide) rfl) 5 0 rfl rfl) rfl rfl hl.1 rfl (lv_room (Nat.le_of_ble_eq_true rfl)) dX5_numberLines_84 ⟨Nat.zero_le _, Nat.zero_le _⟩) hP hD hS hA [0, 1, 2, 3, 4, 5, 6] [] [0, 1, 2, 3, 4, 5, 6] rfl rfl (by decide) (by decide) rfl rfl (by decide) (fun H locs hP hD hS => ?_)
    refine lv_iinc (v := zi (i3 + (1 : Int))) (lv' := [(3, .int (zi (i3 + (1 : Int)))), (0, .ref (t 0)), (1, .int (zi i1)), (2, .int (zi i2))]) hx hb dX5_numberLines_87 hl (k := 3) rfl (zi_add i3 _) (by decide) rfl (fun ls hl => ?_)
    refine lv_goto (tgt := 76) hx hb dX5_numberLines_90 (by decide) ?_
    exact (Go_s hg) H locs ls hP hD hS (lv_sub hl [1, 2, 3, 0] rfl)
set_option maxHeartbeats 4000000 in
set_option maxRecDepth 100000 in
theorem zw_X5_numberLines {p : Program} {l : Launch} {e : Env} {s : State} {m : MethodId} {args : Array Value} {below : List Frame} {meth : Method} {c : Code} {Q : State → Prop} {D : va_G} {κ : Nat → ClassId} {A : Nat → Prop} {H0 : Heap} (t : Nat → Nat) (t_corners : Int) (t_cutCount : Int) (t_crossers : Nat) (t_cuts : Nat) (t_lineCount : Int) (t_lesser : Nat) (t_greater : Nat) (t_numberOfLine : Nat) (t_linesAt : Nat)  (hx : p.tables.exec = Jvm.exec) (hb : c.code = cX5_numberLines) (hml : c.maxLocals = 4) (hown : s.vm.findClass RX5 = some m.cls) (hts : ∀ w ∈ wsX5_numberLines, w.before args s = true) (hK : va_K D vwCl (zTY κ) s) (hA : ∀ q : Nat, H0.size ≤ q → A q) (out : Int × Nat × Nat × Nat × Nat) (h : zf_X5_numberLines t_corners t_lineCount t_lesser t_greater t_numberOfLine t_linesAt  = some out) (hq : zQ_X5_numberLines p l e s m args below meth c Q D κ A H0 t t_corners t_cutCount t_crossers t_cuts out) : zA_X5_numberLines_0 p l e s m args below meth c Q D κ A H0 t t_corners t_cutCount t_crossers t_cuts 0 0 0 t_lineCount t_lesser t_greater t_numberOfLine t_linesAt := by
  have hst : ∀ st : zS_X5_numberLines, Go (GoE (zA_X5_numberLines p l e s m args below meth c Q D κ A H0 t t_corners t_cutCount t_crossers t_cuts) (zQ_X5_numberLines p l e s m args below meth c Q D κ A H0 t t_corners t_cutCount t_crossers t_cuts)) (zg_X5_numberLines t_corners st) → zA_X5_numberLines p l e s m args below meth c Q D κ A H0 t t_corners t_cutCount t_crossers t_cuts st := by
    intro st hg
    obtain ⟨lab, i1, i2, i3, t_lineCount, t_lesser, t_greater, t_numberOfLine, t_linesAt⟩ := st
    by_cases h0 : lab = 0
    · subst h0
      exact zs_X5_numberLines_0 t t_corners t_cutCount t_crossers t_cuts hx hb hml hown hts hK hA i1 i2 i3 t_lineCount t_lesser t_greater t_numberOfLine t_linesAt hg
    by_cases h2 : lab = 2
    · subst h2
      exact zs_X5_numberLines_2 t t_corners t_cutCount t_crossers t_cuts hx hb hml hown hts hK hA i1 i2 i3 t_lineCount t_lesser t_greater t_numberOfLine t_linesAt hg
    by_cases h12 : lab = 12
    · subst h12
      exact zs_X5_numberLines_12 t t_corners t_cutCount t_crossers t_cuts hx hb hml hown hts hK hA i1 i2 i3 t_lineCount t_lesser t_greater t_numberOfLine t_linesAt hg
    by_cases h46 : lab = 46
    · subst h46
      exact zs_X5_numberLines_46 t t_corners t_cutCount t_crossers t_cuts hx hb hml hown hts hK hA i1 i2 i3 t_lineCount t_lesser t_greater t_numberOfLine t_linesAt hg
    by_cases h76 : lab = 76
    · subst h76
      exact zs_X5_numberLines_76 t t_corners t_cutCount t_crossers t_cuts hx hb hml hown hts hK hA i1 i2 i3 t_lineCount t_lesser t_greater t_numberOfLine t_linesAt hg
    have hz : zg_X5_numberLines t_corners (lab, i1, i2, i3, t_lineCount, t_lesser, t_greater, t_numberOfLine, t_linesAt) = none := by simp [zg_X5_numberLines, h0, h2, h12, h46, h76]
    rw [hz] at hg
    obtain ⟨a, h1, -⟩ := hg
    cases h1
  exact jwalk (At := zA_X5_numberLines p l e s m args below meth c Q D κ A H0 t t_corners t_cutCount t_crossers t_cuts) (Ret := zQ_X5_numberLines p l e s m args below meth c Q D κ A H0 t t_corners t_cutCount t_crossers t_cuts) hst _ _ _ h hq
set_option maxHeartbeats 4000000 in
set_option maxRecDepth 100000 in
theorem zc_X5_numberLines (l : Launch) (D : va_G) (κ : Nat → ClassId) (t : Nat → Nat) (sz : Nat) (t_corners : Int) (t_lineCount : Int) (t_cutCount : Int) (t_lesser : Nat) (t_greater : Nat) (t_numberOfLine : Nat) (t_crossers : Nat) (t_linesAt : Nat) (t_cuts : Nat)  (out : Int × Nat × Nat × Nat × Nat) (h : zf_X5_numberLines t_corners t_lineCount t_lesser t_greater t_numberOfLine t_linesAt  = some out) : Met l yX5_numberLines wsX5_numberLines zr_X5_numberLines (va_Pc [.ref (t 0)] (zW D κ ([((t 0), .inr (5, [.int (zi t_corners), .ref (t 1), .ref (t 2), .ref (t 3), .ref (t 4), .ref (t 5), .ref (t 6), .int (zi t_lineCount), .int (zi t_cutCount)])), ((t 1), .inl (κ 1, 27, .inl (zc t_lesser))), ((t 2), .inl (κ 1, 27, .inl (zc t_greater))), ((t 3), .inl (κ 1, 81, .inl (zc t_numberOfLine))), ((t 4), .inl (κ 1, 27, .inl (zc t_crossers))), ((t 5), .inl (κ 1, 9, .inl (zc t_linesAt))), ((t 6), .inl (κ 1, 429, .inl (zc t_cuts)))]) sz)) (va_Qv (fun (_ : Unit) => True) (fun _ => zB D κ (va_A ([((t 0), .inr (5, [.int (zi t_corners), .ref (t 1), .ref (t 2), .ref (t 3), .ref (t 4), .ref (t 5), .ref (t 6), .int (zi t_lineCount), .int (zi t_cutCount)])), ((t 1), .inl (κ 1, 27, .inl (zc t_lesser))), ((t 2), .inl (κ 1, 27, .inl (zc t_greater))), ((t 3), .inl (κ 1, 81, .inl (zc t_numberOfLine))), ((t 4), .inl (κ 1, 27, .inl (zc t_crossers))), ((t 5), .inl (κ 1, 9, .inl (zc t_linesAt))), ((t 6), .inl (κ 1, 429, .inl (zc t_cuts)))]) sz) ([((t 0), .inr (5, [.int (zi t_corners), .ref (t 1), .ref (t 2), .ref (t 3), .ref (t 4), .ref (t 5), .ref (t 6), .int (zi (out.1)), .int (zi t_cutCount)])), ((t 1), .inl (κ 1, 27, .inl (zc (out.2.1)))), ((t 2), .inl (κ 1, 27, .inl (zc (out.2.2.1)))), ((t 3), .inl (κ 1, 81, .inl (zc (out.2.2.2.1)))), ((t 4), .inl (κ 1, 27, .inl (zc t_crossers))), ((t 5), .inl (κ 1, 9, .inl (zc (out.2.2.2.2)))), ((t 6), .inl (κ 1, 429, .inl (zc t_cuts)))])) (va_A ([((t 0), .inr (5, [.int (zi t_corners), .ref (t 1), .ref (t 2), .ref (t 3), .ref (t 4), .ref (t 5), .ref (t 6), .int (zi t_lineCount), .int (zi t_cutCount)])), ((t 1), .inl (κ 1, 27, .inl (zc t_lesser))), ((t 2), .inl (κ 1, 27, .inl (zc t_greater))), ((t 3), .inl (κ 1, 81, .inl (zc t_numberOfLine))), ((t 4), .inl (κ 1, 27, .inl (zc t_crossers))), ((t 5), .inl (κ 1, 9, .inl (zc t_linesAt))), ((t 6), .inl (κ 1, 429, .inl (zc t_cuts)))]) sz)) 0 0 (va_A ([((t 0), .inr (5, [.int (zi t_corners), .ref (t 1), .ref (t 2), .ref (t 3), .ref (t 4), .ref (t 5), .ref (t 6), .int (zi t_lineCount), .int (zi t_cutCount)])), ((t 1), .inl (κ 1, 27, .inl (zc t_lesser))), ((t 2), .inl (κ 1, 27, .inl (zc t_greater))), ((t 3), .inl (κ 1, 81, .inl (zc t_numberOfLine))), ((t 4), .inl (κ 1, 27, .inl (zc t_crossers))), ((t 5), .inl (κ 1, 9, .inl (zc t_linesAt))), ((t 6), .inl (κ 1, 429, .inl (zc t_cuts)))]) sz) := by
  refine Met.ofW (cc := cX5_numberLines) (maxL := 4) (ret := none) (by decide +kernel) rfl ?_
  intro p e s m args below meth c s₁ B hml hv
  obtain ⟨rfl, hsz, hP, hK, hD0⟩ := hv
  have hx := B.exec
  have hb := B.bytes
  have hr := B.returns
  have hts := atoms_spec (ws := wsX5_numberLines) B.pre
  have hown : s.vm.findClass RX5 = some m.cls := findClass_of_methodNamed B.named
  have hlocks := B.notSynchronized
  subst hsz
  have hD := hD0.self (sz := s.heap.size)
  generalize hAe : va_A ([((t 0), .inr (5, [.int (zi t_corners), .ref (t 1), .ref (t 2), .ref (t 3), .ref (t 4), .ref (t 5), .ref (t 6), .int (zi t_lineCount), .int (zi t_cutCount)])), ((t 1), .inl (κ 1, 27, .inl (zc t_lesser))), ((t 2), .inl (κ 1, 27, .inl (zc t_greater))), ((t 3), .inl (κ 1, 81, .inl (zc t_numberOfLine))), ((t 4), .inl (κ 1, 27, .inl (zc t_crossers))), ((t 5), .inl (κ 1, 9, .inl (zc t_linesAt))), ((t 6), .inl (κ 1, 429, .inl (zc t_cuts)))]) s.heap.size = A at hD ⊢
  have hA : ∀ q : Nat, s.heap.size ≤ q → A q := fun q h => by rw [← hAe]; exact Or.inr h
  have hS : va_S A s.heap s.heap [] := va_S.rf
  have hl := lv_entry ([.ref (t 0)]) (n := 4) (Nat.le_of_ble_eq_true rfl)
  rw [lg_entry_eq]
  generalize (lg_sl ([.ref (t 0)]) ++ List.replicate (4 - (lg_sl ([.ref (t 0)])).length) Slot.unset).toArray = ls at hl ⊢
  have hl : lv_has ls 4 [(0, .ref (t 0))] := hl
  refine (zw_X5_numberLines t t_corners t_cutCount t_crossers t_cuts t_lineCount t_lesser t_greater t_numberOfLine t_linesAt  hx hb hml hown hts hK hA out h ?_) s.heap [] ls hP hD hS (lv_sub hl [0] rfl)
  exact fun H locs ls pc hP hD hS hd => W.vret hx hb hr (fun t ht hW => ⟨⟨(), rfl, trivial, by rw [ht]; exact hP, va_K.moved hW.alike hK, hD⟩, hS.F ht⟩) hS.2.2 hd
/-! DiamondRows$Polygon.cross(IIII)Z -/
abbrev zr_X5_cross : Room := { frames := 0, cells := 0, slots := 0, locals := 0 }
noncomputable def zf_X5_cross   (i0 : Int) (i1 : Int) (i2 : Int) (i3 : Int) : Option (Bool) :=
  if zout i0 then none else
  if zout i2 then none else
  if i2 ≤ i0 then
  if i0 ≤ i2 then
  some (false)
  else
  if zout i3 then none else
  if i3 ≤ i0 then
  some (false)
  else
  if zout i1 then none else
  if i1 ≤ i3 then
  some (false)
  else
  some (true)
  else
  if zout i1 then none else
  if i1 ≤ i2 then
  if i0 ≤ i2 then
  some (false)
  else
  if zout i3 then none else
  if i3 ≤ i0 then
  some (false)
  else
  if i1 ≤ i3 then
  some (false)
  else
  some (true)
  else
  if zout i3 then none else
  if i1 < i3 then
  some (true)
  else
  if i0 ≤ i2 then
  some (false)
  else
  if i3 ≤ i0 then
  some (false)
  else
  if i1 ≤ i3 then
  some (false)
  else
  some (true)
def zQ_X5_cross (p : Program) (l : Launch) (e : Env) (s : State) (m : MethodId) (args : Array Value) (below : List Frame) (meth : Method) (c : Code) (Q : State → Prop) (H : Heap) (locs : List Loc)  (o : Bool) : Prop := ∀ (ls : Array Slot) (pc : Nat), decode cX5_cross pc = .ok (.ireturn, 1) → W p l e zr_X5_cross s m args below meth c H locs 0 0 Q (F0 m pc ls [.int (zi (bI o))])
set_option maxHeartbeats 4000000 in
set_option maxRecDepth 100000 in
theorem zs_X5_cross {p : Program} {l : Launch} {e : Env} {s : State} {m : MethodId} {args : Array Value} {below : List Frame} {meth : Method} {c : Code} {Q : State → Prop} {D : va_G} {κ : Nat → ClassId} {H : Heap} {locs : List Loc}   (i0 : Int) (i1 : Int) (i2 : Int) (i3 : Int) (hx : p.tables.exec = Jvm.exec) (hb : c.code = cX5_cross) (hml : c.maxLocals = 4) (hown : s.vm.findClass RX5 = some m.cls) (hts : ∀ w ∈ wsX5_cross, w.before args s = true) (hK : va_K D vwCl (zTY κ) s) (hP : va_P D vwCl ([]) H) (ls : Array Slot) (hl : lv_has ls 4 [(0, .int (zi i0)), (1, .int (zi i1)), (2, .int (zi i2)), (3, .int (zi i3))]) (hg : Go (zQ_X5_cross p l e s m args below meth c Q H locs) (zf_X5_cross  i0 i1 i2 i3)) : W p l e zr_X5_cross s m args below meth c H locs 0 0 Q (F0 m 0 ls []) := by
  unfold zf_X5_cross at hg
  refine lv_iload_n hx hb dX5_cross_0 rfl (lv_at hl 0 rfl) ?_
  refine lv_iload_n hx hb dX5_cross_1 rfl (lv_at hl 2 rfl) ?_
  obtain ⟨b1, hg⟩ := Go_n hg
  obtain ⟨b2, hg⟩ := Go_n hg
  refine zv_icmp_ge (tgt := 15) hx hb dX5_cross_2 (by decide) b1 b2 (fun c19 => ?_) (fun c19 => ?_)
  · have hg := Go_t c19 hg
    refine lv_iload_n hx hb dX5_cross_15 rfl (lv_at hl 2 rfl) ?_
    refine lv_iload_n hx hb dX5_cross_16 rfl (lv_at hl 0 rfl) ?_
    refine zv_icmp_ge (tgt := 34) hx hb dX5_cross_17 (by decide) b2 b1 (fun c7 => ?_) (fun c7 => ?_)
    · have hg := Go_t c7 hg
      refine zv_iconst hx hb dX5_cross_34 ?_
      exact (Go_s hg) _ _ dX5_cross_35
    · have hg := Go_f c7 hg
      refine lv_iload_n hx hb dX5_cross_20 rfl (lv_at hl 0 rfl) ?_
      refine lv_iload_n hx hb dX5_cross_21 rfl (lv_at hl 3 rfl) ?_
      obtain ⟨b3, hg⟩ := Go_n hg
      refine zv_icmp_ge (tgt := 34) hx hb dX5_cross_22 (by decide) b1 b3 (fun c6 => ?_) (fun c6 => ?_)
      · have hg := Go_t c6 hg
        refine zv_iconst hx hb dX5_cross_34 ?_
        exact (Go_s hg) _ _ dX5_cross_35
      · have hg := Go_f c6 hg
        refine lv_iload_n hx hb dX5_cross_25 rfl (lv_at hl 3 rfl) ?_
        refine lv_iload_n hx hb dX5_cross_26 rfl (lv_at hl 1 rfl) ?_
        obtain ⟨b4, hg⟩ := Go_n hg
        refine zv_icmp_ge (tgt := 34) hx hb dX5_cross_27 (by decide) b3 b4 (fun c5 => ?_) (fun c5 => ?_)
        · have hg := Go_t c5 hg
          refine zv_iconst hx hb dX5_cross_34 ?_
          exact (Go_s hg) _ _ dX5_cross_35
        · have hg := Go_f c5 hg
          refine zv_iconst hx hb dX5_cross_30 ?_
          refine lv_goto (tgt := 35) hx hb dX5_cross_31 (by decide) ?_
          exact (Go_s hg) _ _ dX5_cross_35
  · have hg := Go_f c19 hg
    refine lv_iload_n hx hb dX5_cross_5 rfl (lv_at hl 2 rfl) ?_
    refine lv_iload_n hx hb dX5_cross_6 rfl (lv_at hl 1 rfl) ?_
    obtain ⟨b8, hg⟩ := Go_n hg
    refine zv_icmp_ge (tgt := 15) hx hb dX5_cross_7 (by decide) b2 b8 (fun c18 => ?_) (fun c18 => ?_)
    · have hg := Go_t c18 hg
      refine lv_iload_n hx hb dX5_cross_15 rfl (lv_at hl 2 rfl) ?_
      refine lv_iload_n hx hb dX5_cross_16 rfl (lv_at hl 0 rfl) ?_
      refine zv_icmp_ge (tgt := 34) hx hb dX5_cross_17 (by decide) b2 b1 (fun c12 => ?_) (fun c12 => ?_)
      · have hg := Go_t c12 hg
        refine zv_iconst hx hb dX5_cross_34 ?_
        exact (Go_s hg) _ _ dX5_cross_35
      · have hg := Go_f c12 hg
        refine lv_iload_n hx hb dX5_cross_20 rfl (lv_at hl 0 rfl) ?_
        refine lv_iload_n hx hb dX5_cross_21 rfl (lv_at hl 3 rfl) ?_
        obtain ⟨b9, hg⟩ := Go_n hg
        refine zv_icmp_ge (tgt := 34) hx hb dX5_cross_22 (by decide) b1 b9 (fun c11 => ?_) (fun c11 => ?_)
        · have hg := Go_t c11 hg
          refine zv_iconst hx hb dX5_cross_34 ?_
          exact (Go_s hg) _ _ dX5_cross_35
        · have hg := Go_f c11 hg
          refine lv_iload_n hx hb dX5_cross_25 rfl (lv_at hl 3 rfl) ?_
          refine lv_iload_n hx hb dX5_cross_26 rfl (lv_at hl 1 rfl) ?_
          refine zv_icmp_ge (tgt := 34) hx hb dX5_cross_27 (by decide) b9 b8 (fun c10 => ?_) (fun c10 => ?_)
          · have hg := Go_t c10 hg
            refine zv_iconst hx hb dX5_cross_34 ?_
            exact (Go_s hg) _ _ dX5_cross_35
          · have hg := Go_f c10 hg
            refine zv_iconst hx hb dX5_cross_30 ?_
            refine lv_goto (tgt := 35) hx hb dX5_cross_31 (by decide) ?_
            exact (Go_s hg) _ _ dX5_cross_35
    · have hg := Go_f c18 hg
      refine lv_iload_n hx hb dX5_cross_10 rfl (lv_at hl 1 rfl) ?_
      refine lv_iload_n hx hb dX5_cross_11 rfl (lv_at hl 3 rfl) ?_
      obtain ⟨b13, hg⟩ := Go_n hg
      refine zv_icmp_lt (tgt := 30) hx hb dX5_cross_12 (by decide) b8 b13 (fun c17 => ?_) (fun c17 => ?_)
      · have hg := Go_t c17 hg
        refine zv_iconst hx hb dX5_cross_30 ?_
        refine lv_goto (tgt := 35) hx hb dX5_cross_31 (by decide) ?_
        exact (Go_s hg) _ _ dX5_cross_35
      · have hg := Go_f c17 hg
        refine lv_iload_n hx hb dX5_cross_15 rfl (lv_at hl 2 rfl) ?_
        refine lv_iload_n hx hb dX5_cross_16 rfl (lv_at hl 0 rfl) ?_
        refine zv_icmp_ge (tgt := 34) hx hb dX5_cross_17 (by decide) b2 b1 (fun c16 => ?_) (fun c16 => ?_)
        · have hg := Go_t c16 hg
          refine zv_iconst hx hb dX5_cross_34 ?_
          exact (Go_s hg) _ _ dX5_cross_35
        · have hg := Go_f c16 hg
          refine lv_iload_n hx hb dX5_cross_20 rfl (lv_at hl 0 rfl) ?_
          refine lv_iload_n hx hb dX5_cross_21 rfl (lv_at hl 3 rfl) ?_
          refine zv_icmp_ge (tgt := 34) hx hb dX5_cross_22 (by decide) b1 b13 (fun c15 => ?_) (fun c15 => ?_)
          · have hg := Go_t c15 hg
            refine zv_iconst hx hb dX5_cross_34 ?_
            exact (Go_s hg) _ _ dX5_cross_35
          · have hg := Go_f c15 hg
            refine lv_iload_n hx hb dX5_cross_25 rfl (lv_at hl 3 rfl) ?_
            refine lv_iload_n hx hb dX5_cross_26 rfl (lv_at hl 1 rfl) ?_
            refine zv_icmp_ge (tgt := 34) hx hb dX5_cross_27 (by decide) b13 b8 (fun c14 => ?_) (fun c14 => ?_)
            · have hg := Go_t c14 hg
              refine zv_iconst hx hb dX5_cross_34 ?_
              exact (Go_s hg) _ _ dX5_cross_35
            · have hg := Go_f c14 hg
              refine zv_iconst hx hb dX5_cross_30 ?_
              refine lv_goto (tgt := 35) hx hb dX5_cross_31 (by decide) ?_
              exact (Go_s hg) _ _ dX5_cross_35
set_option maxHeartbeats 4000000 in
set_option maxRecDepth 100000 in
theorem zc_X5_cross (l : Launch) (D : va_G) (κ : Nat → ClassId)   (i0 : Int) (i1 : Int) (i2 : Int) (i3 : Int) (out : Bool) (h : zf_X5_cross  i0 i1 i2 i3 = some out) : Met l yX5_cross wsX5_cross zr_X5_cross (va_Pc [.int (zi i0), .int (zi i1), .int (zi i2), .int (zi i3)] (zR D κ ([]))) (vp_Si (fun x => x = zi (bI out))) 0 0 (fun _ => False) := by
  refine Met.ofW (cc := cX5_cross) (maxL := 4) (ret := (some .boolean)) (by decide +kernel) rfl ?_
  intro p e s m args below meth c s₁ B hml hv
  obtain ⟨rfl, hP, hK⟩ := hv
  have hx := B.exec
  have hb := B.bytes
  have hr := B.returns
  have hts := atoms_spec (ws := wsX5_cross) B.pre
  have hown : s.vm.findClass RX5 = some m.cls := findClass_of_methodNamed B.named
  have hlocks := B.notSynchronized
  have hl := lv_entry ([.int (zi i0), .int (zi i1), .int (zi i2), .int (zi i3)]) (n := 4) (Nat.le_of_ble_eq_true rfl)
  rw [lg_entry_eq]
  generalize (lg_sl ([.int (zi i0), .int (zi i1), .int (zi i2), .int (zi i3)]) ++ List.replicate (4 - (lg_sl ([.int (zi i0), .int (zi i1), .int (zi i2), .int (zi i3)])).length) Slot.unset).toArray = ls at hl ⊢
  have hl : lv_has ls 4 [(0, .int (zi i0)), (1, .int (zi i1)), (2, .int (zi i2)), (3, .int (zi i3))] := hl
  refine zs_X5_cross   i0 i1 i2 i3 hx hb hml hown hts hK hP ls hl ⟨out, h, ?_⟩
  exact fun ls pc hd => W.zret hx hb hr (bI_nar _) (fun t ht hW => ⟨_, rfl, rfl, ht⟩) (fun _ h => by cases h) hd
/-! DiamondRows$Polygon.findCrossers()V -/
abbrev zr_X5_findCrossers : Room := { frames := 1, cells := 0, slots := 0, locals := 23 }
abbrev zS_X5_findCrossers : Type := Nat × Int × Int × Nat
abbrev zO_X5_findCrossers : Type := Nat
noncomputable def zg_X5_findCrossers_0  (t_lineCount : Int) (t_lesser : Nat) (t_greater : Nat) (i1 : Int) (i2 : Int) (t_crossers : Nat) : Option (zO_X5_findCrossers ⊕ zS_X5_findCrossers) :=
  some (.inr (2, (0 : Int), 0, t_crossers))
noncomputable def zg_X5_findCrossers_2  (t_lineCount : Int) (t_lesser : Nat) (t_greater : Nat) (i1 : Int) (i2 : Int) (t_crossers : Nat) : Option (zO_X5_findCrossers ⊕ zS_X5_findCrossers) :=
  if zout i1 then none else
  if zout t_lineCount then none else
  if t_lineCount ≤ i1 then
  some (.inl (t_crossers))
  else
  some (.inr (12, i1, (0 : Int), t_crossers))
noncomputable def zg_X5_findCrossers_12  (t_lineCount : Int) (t_lesser : Nat) (t_greater : Nat) (i1 : Int) (i2 : Int) (t_crossers : Nat) : Option (zO_X5_findCrossers ⊕ zS_X5_findCrossers) :=
  if zout i2 then none else
  if zout t_lineCount then none else
  if t_lineCount ≤ i2 then
  some (.inr (2, (i1 + (1 : Int)), i2, t_crossers))
  else
  if i1 < 0 ∨ 27 ≤ i1 then none else
  if i2 < 0 ∨ 27 ≤ i2 then none else
  Option.bind (zf_X5_cross (zget t_lesser (Int.toNat i1)) (zget t_greater (Int.toNat i1)) (zget t_lesser (Int.toNat i2)) (zget t_greater (Int.toNat i2))) (fun o8 =>
  if o8 = false then
  some (.inr (12, i1, (i2 + (1 : Int)), t_crossers))
  else
  some (.inr (12, i1, (i2 + (1 : Int)), (zset t_crossers (Int.toNat i1) (zor (zget t_crossers (Int.toNat i1)) (zshl (1 : Int) i2))))))
noncomputable def zg_X5_findCrossers  (t_lineCount : Int) (t_lesser : Nat) (t_greater : Nat) (st : zS_X5_findCrossers) : Option (zO_X5_findCrossers ⊕ zS_X5_findCrossers) := match st with
  | (lab, i1, i2, t_crossers) => if lab = 0 then zg_X5_findCrossers_0 t_lineCount t_lesser t_greater i1 i2 t_crossers else if lab = 2 then zg_X5_findCrossers_2 t_lineCount t_lesser t_greater i1 i2 t_crossers else if lab = 12 then zg_X5_findCrossers_12 t_lineCount t_lesser t_greater i1 i2 t_crossers else none
noncomputable def zf_X5_findCrossers  (t_lineCount : Int) (t_lesser : Nat) (t_greater : Nat) (t_crossers : Nat)  : Option (Nat) := jrun (zg_X5_findCrossers t_lineCount t_lesser t_greater) jfuel (0, 0, 0, t_crossers)
theorem zi_X5_findCrossers_X5 : ∀ w ∈ u_ws RX5 TX5 9, w ∈ wsX5_findCrossers := fun w h => (List.mem_cons_of_mem _ (List.mem_append_right _ (List.mem_append_left _ h)))
theorem zl_X5_findCrossers_9 : Cond.fieldLink RX5 9 "DiamondRows$Polygon" "lesser" "[I" ∈ wsX5_findCrossers := (List.mem_cons_of_mem _ (List.mem_append_left _ (List.mem_of_getElem? (i := 1) rfl)))
theorem zl_X5_findCrossers_15 : Cond.fieldLink RX5 15 "DiamondRows$Polygon" "greater" "[I" ∈ wsX5_findCrossers := (List.mem_cons_of_mem _ (List.mem_append_left _ (List.mem_of_getElem? (i := 2) rfl)))
theorem zl_X5_findCrossers_21 : Cond.fieldLink RX5 21 "DiamondRows$Polygon" "crossers" "[I" ∈ wsX5_findCrossers := (List.mem_cons_of_mem _ (List.mem_append_left _ (List.mem_of_getElem? (i := 3) rfl)))
theorem zl_X5_findCrossers_40 : Cond.fieldLink RX5 40 "DiamondRows$Polygon" "lineCount" "I" ∈ wsX5_findCrossers := (List.mem_cons_of_mem _ (List.mem_append_left _ (List.mem_of_getElem? (i := 0) rfl)))
def zQ_X5_findCrossers (p : Program) (l : Launch) (e : Env) (s : State) (m : MethodId) (args : Array Value) (below : List Frame) (meth : Method) (c : Code) (Q : State → Prop) (D : va_G) (κ : Nat → ClassId) (A : Nat → Prop) (H0 : Heap) (t : Nat → Nat) (t_corners : Int) (t_lineCount : Int) (t_cutCount : Int) (t_lesser : Nat) (t_greater : Nat) (t_numberOfLine : Nat) (t_linesAt : Nat) (t_cuts : Nat) (o : Nat) : Prop := ∀ (H : Heap) (locs : List Loc) (ls : Array Slot) (pc : Nat), va_P D vwCl ([((t 0), .inr (5, [.int (zi t_corners), .ref (t 1), .ref (t 2), .ref (t 3), .ref (t 4), .ref (t 5), .ref (t 6), .int (zi t_lineCount), .int (zi t_cutCount)])), ((t 1), .inl (κ 1, 27, .inl (zc t_lesser))), ((t 2), .inl (κ 1, 27, .inl (zc t_greater))), ((t 3), .inl (κ 1, 81, .inl (zc t_numberOfLine))), ((t 4), .inl (κ 1, 27, .inl (zc o))), ((t 5), .inl (κ 1, 9, .inl (zc t_linesAt))), ((t 6), .inl (κ 1, 429, .inl (zc t_cuts)))]) H → va_D A ([((t 0), .inr (5, [.int (zi t_corners), .ref (t 1), .ref (t 2), .ref (t 3), .ref (t 4), .ref (t 5), .ref (t 6), .int (zi t_lineCount), .int (zi t_cutCount)])), ((t 1), .inl (κ 1, 27, .inl (zc t_lesser))), ((t 2), .inl (κ 1, 27, .inl (zc t_greater))), ((t 3), .inl (κ 1, 81, .inl (zc t_numberOfLine))), ((t 4), .inl (κ 1, 27, .inl (zc o))), ((t 5), .inl (κ 1, 9, .inl (zc t_linesAt))), ((t 6), .inl (κ 1, 429, .inl (zc t_cuts)))]) → va_S A H0 H locs → decode cX5_findCrossers pc = .ok (.return_, 1) → W p l e zr_X5_findCrossers s m args below meth c H locs 0 0 Q (F0 m pc ls [])
def zA_X5_findCrossers_0 (p : Program) (l : Launch) (e : Env) (s : State) (m : MethodId) (args : Array Value) (below : List Frame) (meth : Method) (c : Code) (Q : State → Prop) (D : va_G) (κ : Nat → ClassId) (A : Nat → Prop) (H0 : Heap) (t : Nat → Nat) (t_corners : Int) (t_lineCount : Int) (t_cutCount : Int) (t_lesser : Nat) (t_greater : Nat) (t_numberOfLine : Nat) (t_linesAt : Nat) (t_cuts : Nat) (i1 : Int) (i2 : Int) (t_crossers : Nat) : Prop := ∀ (H : Heap) (locs : List Loc) (ls : Array Slot), va_P D vwCl ([((t 0), .inr (5, [.int (zi t_corners), .ref (t 1), .ref (t 2), .ref (t 3), .ref (t 4), .ref (t 5), .ref (t 6), .int (zi t_lineCount), .int (zi t_cutCount)])), ((t 1), .inl (κ 1, 27, .inl (zc t_lesser))), ((t 2), .inl (κ 1, 27, .inl (zc t_greater))), ((t 3), .inl (κ 1, 81, .inl (zc t_numberOfLine))), ((t 4), .inl (κ 1, 27, .inl (zc t_crossers))), ((t 5), .inl (κ 1, 9, .inl (zc t_linesAt))), ((t 6), .inl (κ 1, 429, .inl (zc t_cuts)))]) H → va_D A ([((t 0), .inr (5, [.int (zi t_corners), .ref (t 1), .ref (t 2), .ref (t 3), .ref (t 4), .ref (t 5), .ref (t 6), .int (zi t_lineCount), .int (zi t_cutCount)])), ((t 1), .inl (κ 1, 27, .inl (zc t_lesser))), ((t 2), .inl (κ 1, 27, .inl (zc t_greater))), ((t 3), .inl (κ 1, 81, .inl (zc t_numberOfLine))), ((t 4), .inl (κ 1, 27, .inl (zc t_crossers))), ((t 5), .inl (κ 1, 9, .inl (zc t_linesAt))), ((t 6), .inl (κ 1, 429, .inl (zc t_cuts)))]) → va_S A H0 H locs → lv_has ls 3 [(0, .ref (t 0))] → W p l e zr_X5_findCrossers s m args below meth c H locs 0 0 Q (F0 m 0 ls [])
def zA_X5_findCrossers_2 (p : Program) (l : Launch) (e : Env) (s : State) (m : MethodId) (args : Array Value) (below : List Frame) (meth : Method) (c : Code) (Q : State → Prop) (D : va_G) (κ : Nat → ClassId) (A : Nat → Prop) (H0 : Heap) (t : Nat → Nat) (t_corners : Int) (t_lineCount : Int) (t_cutCount : Int) (t_lesser : Nat) (t_greater : Nat) (t_numberOfLine : Nat) (t_linesAt : Nat) (t_cuts : Nat) (i1 : Int) (i2 : Int) (t_crossers : Nat) : Prop := ∀ (H : Heap) (locs : List Loc) (ls : Array Slot), va_P D vwCl ([((t 0), .inr (5, [.int (zi t_corners), .ref (t 1), .ref (t 2), .ref (t 3), .ref (t 4), .ref (t 5), .ref (t 6), .int (zi t_lineCount), .int (zi t_cutCount)])), ((t 1), .inl (κ 1, 27, .inl (zc t_lesser))), ((t 2), .inl (κ 1, 27, .inl (zc t_greater))), ((t 3), .inl (κ 1, 81, .inl (zc t_numberOfLine))), ((t 4), .inl (κ 1, 27, .inl (zc t_crossers))), ((t 5), .inl (κ 1, 9, .inl (zc t_linesAt))), ((t 6), .inl (κ 1, 429, .inl (zc t_cuts)))]) H → va_D A ([((t 0), .inr (5, [.int (zi t_corners), .ref (t 1), .ref (t 2), .ref (t 3), .ref (t 4), .ref (t 5), .ref (t 6), .int (zi t_lineCount), .int (zi t_cutCount)])), ((t 1), .inl (κ 1, 27, .inl (zc t_lesser))), ((t 2), .inl (κ 1, 27, .inl (zc t_greater))), ((t 3), .inl (κ 1, 81, .inl (zc t_numberOfLine))), ((t 4), .inl (κ 1, 27, .inl (zc t_crossers))), ((t 5), .inl (κ 1, 9, .inl (zc t_linesAt))), ((t 6), .inl (κ 1, 429, .inl (zc t_cuts)))]) → va_S A H0 H locs → lv_has ls 3 [(0, .ref (t 0)), (1, .int (zi i1))] → W p l e zr_X5_findCrossers s m args below meth c H locs 0 0 Q (F0 m 2 ls [])
def zA_X5_findCrossers_12 (p : Program) (l : Launch) (e : Env) (s : State) (m : MethodId) (args : Array Value) (below : List Frame) (meth : Method) (c : Code) (Q : State → Prop) (D : va_G) (κ : Nat → ClassId) (A : Nat → Prop) (H0 : Heap) (t : Nat → Nat) (t_corners : Int) (t_lineCount : Int) (t_cutCount : Int) (t_lesser : Nat) (t_greater : Nat) (t_numberOfLine : Nat) (t_linesAt : Nat) (t_cuts : Nat) (i1 : Int) (i2 : Int) (t_crossers : Nat) : Prop := ∀ (H : Heap) (locs : List Loc) (ls : Array Slot), va_P D vwCl ([((t 0), .inr (5, [.int (zi t_corners), .ref (t 1), .ref (t 2), .ref (t 3), .ref (t 4), .ref (t 5), .ref (t 6), .int (zi t_lineCount), .int (zi t_cutCount)])), ((t 1), .inl (κ 1, 27, .inl (zc t_lesser))), ((t 2), .inl (κ 1, 27, .inl (zc t_greater))), ((t 3), .inl (κ 1, 81, .inl (zc t_numberOfLine))), ((t 4), .inl (κ 1, 27, .inl (zc t_crossers))), ((t 5), .inl (κ 1, 9, .inl (zc t_linesAt))), ((t 6), .inl (κ 1, 429, .inl (zc t_cuts)))]) H → va_D A ([((t 0), .inr (5, [.int (zi t_corners), .ref (t 1), .ref (t 2), .ref (t 3), .ref (t 4), .ref (t 5), .ref (t 6), .int (zi t_lineCount), .int (zi t_cutCount)])), ((t 1), .inl (κ 1, 27, .inl (zc t_lesser))), ((t 2), .inl (κ 1, 27, .inl (zc t_greater))), ((t 3), .inl (κ 1, 81, .inl (zc t_numberOfLine))), ((t 4), .inl (κ 1, 27, .inl (zc t_crossers))), ((t 5), .inl (κ 1, 9, .inl (zc t_linesAt))), ((t 6), .inl (κ 1, 429, .inl (zc t_cuts)))]) → va_S A H0 H locs → lv_has ls 3 [(0, .ref (t 0)), (1, .int (zi i1)), (2, .int (zi i2))] → W p l e zr_X5_findCrossers s m args below meth c H locs 0 0 Q (F0 m 12 ls [])
def zA_X5_findCrossers (p : Program) (l : Launch) (e : Env) (s : State) (m : MethodId) (args : Array Value) (below : List Frame) (meth : Method) (c : Code) (Q : State → Prop) (D : va_G) (κ : Nat → ClassId) (A : Nat → Prop) (H0 : Heap) (t : Nat → Nat) (t_corners : Int) (t_lineCount : Int) (t_cutCount : Int) (t_lesser : Nat) (t_greater : Nat) (t_numberOfLine : Nat) (t_linesAt : Nat) (t_cuts : Nat) (st : zS_X5_findCrossers) : Prop := match st with
  | (lab, i1, i2, t_crossers) => if lab = 0 then zA_X5_findCrossers_0 p l e s m args below meth c Q D κ A H0 t t_corners t_lineCount t_cutCount t_lesser t_greater t_numberOfLine t_linesAt t_cuts i1 i2 t_crossers else if lab = 2 then zA_X5_findCrossers_2 p l e s m args below meth c Q D κ A H0 t t_corners t_lineCount t_cutCount t_lesser t_greater t_numberOfLine t_linesAt t_cuts i1 i2 t_crossers else if lab = 12 then zA_X5_findCrossers_12 p l e s m args below meth c Q D κ A H0 t t_corners t_lineCount t_cutCount t_lesser t_greater t_numberOfLine t_linesAt t_cuts i1 i2 t_crossers else True
set_option maxHeartbeats 4000000 in
set_option maxRecDepth 100000 in
theorem zs_X5_findCrossers_0 {p : Program} {l : Launch} {e : Env} {s : State} {m : MethodId} {args : Array Value} {below : List Frame} {meth : Method} {c : Code} {Q : State → Prop} {D : va_G} {κ : Nat → ClassId} {A : Nat → Prop} {H0 : Heap} (t : Nat → Nat) (t_corners : Int) (t_lineCount : Int) (t_cutCount : Int) (t_lesser : Nat) (t_greater : Nat) (t_numberOfLine : Nat) (t_linesAt : Nat) (t_cuts : Nat) (hx : p.tables.exec = Jvm.exec) (hb : c.code = cX5_findCrossers) (hml : c.maxLocals = 3) (hown : s.vm.findClass RX5 = some m.cls) (hts : ∀ w ∈ wsX5_findCrossers, w.before args s = true) (hK : va_K D vwCl (zTY κ) s) (hA : ∀ q : Nat, H0.size ≤ q → A q) (i1 : Int) (i2 : Int) (t_crossers : Nat) (hg : Go (GoE (zA_X5_findCrossers p l e s m args below meth c Q D κ A H0 t t_corners t_lineCount t_cutCount t_lesser t_greater t_numberOfLine t_linesAt t_cuts) (zQ_X5_findCrossers p l e s m args below meth c Q D κ A H0 t t_corners t_lineCount t_cutCount t_lesser t_greater t_numberOfLine t_linesAt t_cuts)) (zg_X5_findCrossers_0 t_lineCount t_lesser t_greater i1 i2 t_crossers)) : zA_X5_findCrossers_0 p l e s m args below meth c Q D κ A H0 t t_corners t_lineCount t_cutCount t_lesser t_greater t_numberOfLine t_linesAt t_cuts i1 i2 t_crossers := by
  intro H locs ls hP hD hS hl
  unfold zg_X5_findCrossers_0 at hg
  refine zv_iconst hx hb dX5_findCrossers_0 ?_
  refine lv_istore_n (lv' := [(1, .int (zi (0 : Int))), (0, .ref (t 0))]) hx hb dX5_findCrossers_1 rfl hl (by decide) rfl (fun ls hl => ?_)
  exact (Go_s hg) H locs ls hP hD hS (lv_sub hl [1, 0] rfl)
set_option maxHeartbeats 4000000 in
set_option maxRecDepth 100000 in
theorem zs_X5_findCrossers_2 {p : Program} {l : Launch} {e : Env} {s : State} {m : MethodId} {args : Array Value} {below : List Frame} {meth : Method} {c : Code} {Q : State → Prop} {D : va_G} {κ : Nat → ClassId} {A : Nat → Prop} {H0 : Heap} (t : Nat → Nat) (t_corners : Int) (t_lineCount : Int) (t_cutCount : Int) (t_lesser : Nat) (t_greater : Nat) (t_numberOfLine : Nat) (t_linesAt : Nat) (t_cuts : Nat) (hx : p.tables.exec = Jvm.exec) (hb : c.code = cX5_findCrossers) (hml : c.maxLocals = 3) (hown : s.vm.findClass RX5 = some m.cls) (hts : ∀ w ∈ wsX5_findCrossers, w.before args s = true) (hK : va_K D vwCl (zTY κ) s) (hA : ∀ q : Nat, H0.size ≤ q → A q) (i1 : Int) (i2 : Int) (t_crossers : Nat) (hg : Go (GoE (zA_X5_findCrossers p l e s m args below meth c Q D κ A H0 t t_corners t_lineCount t_cutCount t_lesser t_greater t_numberOfLine t_linesAt t_cuts) (zQ_X5_findCrossers p l e s m args below meth c Q D κ A H0 t t_corners t_lineCount t_cutCount t_lesser t_greater t_numberOfLine t_linesAt t_cuts)) (zg_X5_findCrossers_2 t_lineCount t_lesser t_greater i1 i2 t_crossers)) : zA_X5_findCrossers_2 p l e s m args below meth c Q D κ A H0 t t_corners t_lineCount t_cutCount t_lesser t_greater t_numberOfLine t_linesAt t_cuts i1 i2 t_crossers := by
  intro H locs ls hP hD hS hl
  unfold zg_X5_findCrossers_2 at hg
  refine lv_iload_n hx hb dX5_findCrossers_2 rfl (lv_at hl 1 rfl) ?_
  refine lv_aload_n hx hb dX5_findCrossers_3 rfl (lv_at hl 0 rfl) ?_
  refine va_get (D := D) (ci := 5) (v := .int (zi t_lineCount)) (C := RX5) (T := TX5) (N := 9) hx hb hts zi_X5_findCrossers_X5 hown hK hP 0 rfl rfl 7 (by decide) (hts (.fieldLink RX5 40 "DiamondRows$Polygon" "lineCount" "I") zl_X5_findCrossers_40) (fun _ h9 => h9) rfl dX5_findCrossers_4 ?_
  obtain ⟨b1, hg⟩ := Go_n hg
  obtain ⟨b2, hg⟩ := Go_n hg
  refine zv_icmp_ge (tgt := 74) hx hb dX5_findCrossers_7 (by decide) b1 b2 (fun c3 => ?_) (fun c3 => ?_)
  · have hg := Go_t c3 hg
    exact (Go_s hg) _ _ _ _ hP hD hS dX5_findCrossers_74
  · have hg := Go_f c3 hg
    refine zv_iconst hx hb dX5_findCrossers_10 ?_
    refine lv_istore_n (lv' := [(2, .int (zi (0 : Int))), (0, .ref (t 0)), (1, .int (zi i1))]) hx hb dX5_findCrossers_11 rfl hl (by decide) rfl (fun ls hl => ?_)
    exact (Go_s hg) H locs ls hP hD hS (lv_sub hl [1, 2, 0] rfl)
set_option maxHeartbeats 4000000 in
set_option maxRecDepth 100000 in
theorem zs_X5_findCrossers_12 {p : Program} {l : Launch} {e : Env} {s : State} {m : MethodId} {args : Array Value} {below : List Frame} {meth : Method} {c : Code} {Q : State → Prop} {D : va_G} {κ : Nat → ClassId} {A : Nat → Prop} {H0 : Heap} (t : Nat → Nat) (t_corners : Int) (t_lineCount : Int) (t_cutCount : Int) (t_lesser : Nat) (t_greater : Nat) (t_numberOfLine : Nat) (t_linesAt : Nat) (t_cuts : Nat) (hx : p.tables.exec = Jvm.exec) (hb : c.code = cX5_findCrossers) (hml : c.maxLocals = 3) (hown : s.vm.findClass RX5 = some m.cls) (hts : ∀ w ∈ wsX5_findCrossers, w.before args s = true) (hK : va_K D vwCl (zTY κ) s) (hA : ∀ q : Nat, H0.size ≤ q → A q) (i1 : Int) (i2 : Int) (t_crossers : Nat) (hg : Go (GoE (zA_X5_findCrossers p l e s m args below meth c Q D κ A H0 t t_corners t_lineCount t_cutCount t_lesser t_greater t_numberOfLine t_linesAt t_cuts) (zQ_X5_findCrossers p l e s m args below meth c Q D κ A H0 t t_corners t_lineCount t_cutCount t_lesser t_greater t_numberOfLine t_linesAt t_cuts)) (zg_X5_findCrossers_12 t_lineCount t_lesser t_greater i1 i2 t_crossers)) : zA_X5_findCrossers_12 p l e s m args below meth c Q D κ A H0 t t_corners t_lineCount t_cutCount t_lesser t_greater t_numberOfLine t_linesAt t_cuts i1 i2 t_crossers := by
  intro H locs ls hP hD hS hl
  unfold zg_X5_findCrossers_12 at hg
  refine lv_iload_n hx hb dX5_findCrossers_12 rfl (lv_at hl 2 rfl) ?_
  refine lv_aload_n hx hb dX5_findCrossers_13 rfl (lv_at hl 0 rfl) ?_
  refine va_get (D := D) (ci := 5) (v := .int (zi t_lineCount)) (C := RX5) (T := TX5) (N := 9) hx hb hts zi_X5_findCrossers_X5 hown hK hP 0 rfl rfl 7 (by decide) (hts (.fieldLink RX5 40 "DiamondRows$Polygon" "lineCount" "I") zl_X5_findCrossers_40) (fun _ h9 => h9) rfl dX5_findCrossers_14 ?_
  obtain ⟨b4, hg⟩ := Go_n hg
  obtain ⟨b5, hg⟩ := Go_n hg
  refine zv_icmp_ge (tgt := 68) hx hb dX5_findCrossers_17 (by decide) b4 b5 (fun c10 => ?_) (fun c10 => ?_)
  · have hg := Go_t c10 hg
    refine lv_iinc (v := zi (i1 + (1 : Int))) (lv' := [(1, .int (zi (i1 + (1 : Int)))), (0, .ref (t 0)), (2, .int (zi i2))]) hx hb dX5_findCrossers_68 hl (k := 1) rfl (zi_add i1 _) (by decide) rfl (fun ls hl => ?_)
    refine lv_goto (tgt := 2) hx hb dX5_findCrossers_71 (by decide) ?_
    exact (Go_s hg) H locs ls hP hD hS (lv_sub hl [1, 0] rfl)
  · have hg := Go_f c10 hg
    refine lv_aload_n hx hb dX5_findCrossers_20 rfl (lv_at hl 0 rfl) ?_
    refine va_get (D := D) (ci := 5) (v := .ref (t 1)) (C := RX5) (T := TX5) (N := 9) hx hb hts zi_X5_findCrossers_X5 hown hK hP 0 rfl rfl 1 (by decide) (hts (.fieldLink RX5 9 "DiamondRows$Polygon" "lesser" "[I") zl_X5_findCrossers_9) (fun _ h9 => h9) rfl dX5_findCrossers_21 ?_
    refine lv_iload_n hx hb dX5_findCrossers_24 rfl (lv_at hl 1 rfl) ?_
    obtain ⟨n6, hg⟩ := Go_n hg
    refine zv_iald hx hb hK hP 1 1 rfl rfl (by decide) n6 dX5_findCrossers_25 ?_
    refine lv_aload_n hx hb dX5_findCrossers_26 rfl (lv_at hl 0 rfl) ?_
    refine va_get (D := D) (ci := 5) (v := .ref (t 2)) (C := RX5) (T := TX5) (N := 9) hx hb hts zi_X5_findCrossers_X5 hown hK hP 0 rfl rfl 2 (by decide) (hts (.fieldLink RX5 15 "DiamondRows$Polygon" "greater" "[I") zl_X5_findCrossers_15) (fun _ h9 => h9) rfl dX5_findCrossers_27 ?_
    refine lv_iload_n hx hb dX5_findCrossers_30 rfl (lv_at hl 1 rfl) ?_
    refine zv_iald hx hb hK hP 2 1 rfl rfl (by decide) n6 dX5_findCrossers_31 ?_
    refine lv_aload_n hx hb dX5_findCrossers_32 rfl (lv_at hl 0 rfl) ?_
    refine va_get (D := D) (ci := 5) (v := .ref (t 1)) (C := RX5) (T := TX5) (N := 9) hx hb hts zi_X5_findCrossers_X5 hown hK hP 0 rfl rfl 1 (by decide) (hts (.fieldLink RX5 9 "DiamondRows$Polygon" "lesser" "[I") zl_X5_findCrossers_9) (fun _ h9 => h9) rfl dX5_findCrossers_33 ?_
    refine lv_iload_n hx hb dX5_findCrossers_36 rfl (lv_at hl 2 rfl) ?_
    obtain ⟨n7, hg⟩ := Go_n hg
    refine zv_iald hx hb hK hP 1 1 rfl rfl (by decide) n7 dX5_findCrossers_37 ?_
    refine lv_aload_n hx hb dX5_findCrossers_38 rfl (lv_at hl 0 rfl) ?_
    refine va_get (D := D) (ci := 5) (v := .ref (t 2)) (C := RX5) (T := TX5) (N := 9) hx hb hts zi_X5_findCrossers_X5 hown hK hP 0 rfl rfl 2 (by decide) (hts (.fieldLink RX5 15 "DiamondRows$Polygon" "greater" "[I") zl_X5_findCrossers_15) (fun _ h9 => h9) rfl dX5_findCrossers_39 ?_
    refine lv_iload_n hx hb dX5_findCrossers_42 rfl (lv_at hl 2 rfl) ?_
    refine zv_iald hx hb hK hP 2 1 rfl rfl (by decide) n7 dX5_findCrossers_43 ?_
    obtain ⟨o8, ho8, hg⟩ := Go_b hg
    refine zc_si (rest := []) ⟨hx, hb, hml, hown, hts⟩ (zc_X5_cross l D κ (zget t_lesser (Int.toNat i1)) (zget t_greater (Int.toNat i1)) (zget t_lesser (Int.toNat i2)) (zget t_greater (Int.toNat i2)) o8 ho8) (va_cwS 4 hts gX5_findCrossers_X5_cross rfl rfl rfl hs_X5_cross ⟨Nat.le_of_ble_eq_true rfl, Nat.le_of_ble_eq_true rfl⟩) (zpreS hK (hP.sub [] rfl)) rfl hl.1 rfl (Nat.le_of_ble_eq_true rfl) dX5_findCrossers_44 ⟨Nat.zero_le _, Nat.zero_le _⟩ ?_
    refine zv_ifb_eq (tgt := 62) hx hb dX5_findCrossers_47 (by decide) (fun c9 => ?_) (fun c9 => ?_)
    · have hg := Go_t c9 hg
      refine lv_iinc (v := zi (i2 + (1 : Int))) (lv' := [(2, .int (zi (i2 + (1 : Int)))), (0, .ref (t 0)), (1, .int (zi i1))]) hx hb dX5_findCrossers_62 hl (k := 2) rfl (zi_add i2 _) (by decide) rfl (fun ls hl => ?_)
      refine lv_goto (tgt := 12) hx hb dX5_findCrossers_65 (by decide) ?_
      exact (Go_s hg) H locs ls hP hD hS (lv_sub hl [1, 2, 0] rfl)
    · have hg := Go_f c9 hg
      refine lv_aload_n hx hb dX5_findCrossers_50 rfl (lv_at hl 0 rfl) ?_
      refine va_get (D := D) (ci := 5) (v := .ref (t 4)) (C := RX5) (T := TX5) (N := 9) hx hb hts zi_X5_findCrossers_X5 hown hK hP 0 rfl rfl 4 (by decide) (hts (.fieldLink RX5 21 "DiamondRows$Polygon" "crossers" "[I") zl_X5_findCrossers_21) (fun _ h9 => h9) rfl dX5_findCrossers_51 ?_
      refine lv_iload_n hx hb dX5_findCrossers_54 rfl (lv_at hl 1 rfl) ?_
      refine lv_dup2_11 hx hb dX5_findCrossers_55 rfl rfl ?_
      refine zv_iald hx hb hK hP 4 1 rfl rfl (by decide) n6 dX5_findCrossers_56 ?_
      refine zv_iconst hx hb dX5_findCrossers_57 ?_
      refine lv_iload_n hx hb dX5_findCrossers_58 rfl (lv_at hl 2 rfl) ?_
      refine zv_ishl hx hb dX5_findCrossers_59 ?_
      refine zv_ior hx hb dX5_findCrossers_60 ?_
      refine zv_iast hx hb hK hP hD hS 4 1 rfl rfl (by decide) n6 dX5_findCrossers_61 (fun H locs hP hD hS => ?_)
      have hP : va_P D vwCl ([((t 0), .inr (5, [.int (zi t_corners), .ref (t 1), .ref (t 2), .ref (t 3), .ref (t 4), .ref (t 5), .ref (t 6), .int (zi t_lineCount), .int (zi t_cutCount)])), ((t 1), .inl (κ 1, 27, .inl (zc t_lesser))), ((t 2), .inl (κ 1, 27, .inl (zc t_greater))), ((t 3), .inl (κ 1, 81, .inl (zc t_numberOfLine))), ((t 4), .inl (κ 1, 27, .inl (zc (zset t_crossers (Int.toNat i1) (zor (zget t_crossers (Int.toNat i1)) (zshl (1 : Int) i2)))))), ((t 5), .inl (κ 1, 9, .inl (zc t_linesAt))), ((t 6), .inl (κ 1, 429, .inl (zc t_cuts)))]) H := hP
      have hD : va_D A ([((t 0), .inr (5, [.int (zi t_corners), .ref (t 1), .ref (t 2), .ref (t 3), .ref (t 4), .ref (t 5), .ref (t 6), .int (zi t_lineCount), .int (zi t_cutCount)])), ((t 1), .inl (κ 1, 27, .inl (zc t_lesser))), ((t 2), .inl (κ 1, 27, .inl (zc t_greater))), ((t 3), .inl (κ 1, 81, .inl (zc t_numberOfLine))), ((t 4), .inl (κ 1, 27, .inl (zc (zset t_crossers (Int.toNat i1) (zor (zget t_crossers (Int.toNat i1)) (zshl (1 : Int) i2)))))), ((t 5), .inl (κ 1, 9, .inl (zc t_linesAt))), ((t 6), .inl (κ 1, 429, .inl (zc t_cuts)))]) := hD
      refine lv_iinc (v := zi (i2 + (1 : Int))) (lv' := [(2, .int (zi (i2 + (1 : Int)))), (0, .ref (t 0)), (1, .int (zi i1))]) hx hb dX5_findCrossers_62 hl (k := 2) rfl (zi_add i2 _) (by decide) rfl (fun ls hl => ?_)
      refine lv_goto (tgt := 12) hx hb dX5_findCrossers_65 (by decide) ?_
      exact (Go_s hg) H locs ls hP hD hS (lv_sub hl [1, 2, 0] rfl)
set_option maxHeartbeats 4000000 in
set_option maxRecDepth 100000 in
theorem zw_X5_findCrossers {p : Program} {l : Launch} {e : Env} {s : State} {m : MethodId} {args : Array Value} {below : List Frame} {meth : Method} {c : Code} {Q : State → Prop} {D : va_G} {κ : Nat → ClassId} {A : Nat → Prop} {H0 : Heap} (t : Nat → Nat) (t_corners : Int) (t_lineCount : Int) (t_cutCount : Int) (t_lesser : Nat) (t_greater : Nat) (t_numberOfLine : Nat) (t_linesAt : Nat) (t_cuts : Nat) (t_crossers : Nat)  (hx : p.tables.exec = Jvm.exec) (hb : c.code = cX5_findCrossers) (hml : c.maxLocals = 3) (hown : s.vm.findClass RX5 = some m.cls) (hts : ∀ w ∈ wsX5_findCrossers, w.before args s = true) (hK : va_K D vwCl (zTY κ) s) (hA : ∀ q : Nat, H0.size ≤ q → A q) (out : Nat) (h : zf_X5_findCrossers t_lineCount t_lesser t_greater t_crossers  = some out) (hq : zQ_X5_findCrossers p l e s m args below meth c Q D κ A H0 t t_corners t_lineCount t_cutCount t_lesser t_greater t_numberOfLine t_linesAt t_cuts out) : zA_X5_findCrossers_0 p l e s m args below meth c Q D κ A H0 t t_corners t_lineCount t_cutCount t_lesser t_greater t_numberOfLine t_linesAt t_cuts 0 0 t_crossers := by
  have hst : ∀ st : zS_X5_findCrossers, Go (GoE (zA_X5_findCrossers p l e s m args below meth c Q D κ A H0 t t_corners t_lineCount t_cutCount t_lesser t_greater t_numberOfLine t_linesAt t_cuts) (zQ_X5_findCrossers p l e s m args below meth c Q D κ A H0 t t_corners t_lineCount t_cutCount t_lesser t_greater t_numberOfLine t_linesAt t_cuts)) (zg_X5_findCrossers t_lineCount t_lesser t_greater st) → zA_X5_findCrossers p l e s m args below meth c Q D κ A H0 t t_corners t_lineCount t_cutCount t_lesser t_greater t_numberOfLine t_linesAt t_cuts st := by
    intro st hg
    obtain ⟨lab, i1, i2, t_crossers⟩ := st
    by_cases h0 : lab = 0
    · subst h0
      exact zs_X5_findCrossers_0 t t_corners t_lineCount t_cutCount t_lesser t_greater t_numberOfLine t_linesAt t_cuts hx hb hml hown hts hK hA i1 i2 t_crossers hg
    by_cases h2 : lab = 2
    · subst h2
      exact zs_X5_findCrossers_2 t t_corners t_lineCount t_cutCount t_lesser t_greater t_numberOfLine t_linesAt t_cuts hx hb hml hown hts hK hA i1 i2 t_crossers hg
    by_cases h12 : lab = 12
    · subst h12
      exact zs_X5_findCrossers_12 t t_corners t_lineCount t_cutCount t_lesser t_greater t_numberOfLine t_linesAt t_cuts hx hb hml hown hts hK hA i1 i2 t_crossers hg
    have hz : zg_X5_findCrossers t_lineCount t_lesser t_greater (lab, i1, i2, t_crossers) = none := by simp [zg_X5_findCrossers, h0, h2, h12]
    rw [hz] at hg
    obtain ⟨a, h1, -⟩ := hg
    cases h1
  exact jwalk (At := zA_X5_findCrossers p l e s m args below meth c Q D κ A H0 t t_corners t_lineCount t_cutCount t_lesser t_greater t_numberOfLine t_linesAt t_cuts) (Ret := zQ_X5_findCrossers p l e s m args below meth c Q D κ A H0 t t_corners t_lineCount t_cutCount t_lesser t_greater t_numberOfLine t_linesAt t_cuts) hst _ _ _ h hq
set_option maxHeartbeats 4000000 in
set_option maxRecDepth 100000 in
theorem zc_X5_findCrossers (l : Launch) (D : va_G) (κ : Nat → ClassId) (t : Nat → Nat) (sz : Nat) (t_corners : Int) (t_lineCount : Int) (t_cutCount : Int) (t_lesser : Nat) (t_greater : Nat) (t_numberOfLine : Nat) (t_crossers : Nat) (t_linesAt : Nat) (t_cuts : Nat)  (out : Nat) (h : zf_X5_findCrossers t_lineCount t_lesser t_greater t_crossers  = some out) : Met l yX5_findCrossers wsX5_findCrossers zr_X5_findCrossers (va_Pc [.ref (t 0)] (zW D κ ([((t 0), .inr (5, [.int (zi t_corners), .ref (t 1), .ref (t 2), .ref (t 3), .ref (t 4), .ref (t 5), .ref (t 6), .int (zi t_lineCount), .int (zi t_cutCount)])), ((t 1), .inl (κ 1, 27, .inl (zc t_lesser))), ((t 2), .inl (κ 1, 27, .inl (zc t_greater))), ((t 3), .inl (κ 1, 81, .inl (zc t_numberOfLine))), ((t 4), .inl (κ 1, 27, .inl (zc t_crossers))), ((t 5), .inl (κ 1, 9, .inl (zc t_linesAt))), ((t 6), .inl (κ 1, 429, .inl (zc t_cuts)))]) sz)) (va_Qv (fun (_ : Unit) => True) (fun _ => zB D κ (va_A ([((t 0), .inr (5, [.int (zi t_corners), .ref (t 1), .ref (t 2), .ref (t 3), .ref (t 4), .ref (t 5), .ref (t 6), .int (zi t_lineCount), .int (zi t_cutCount)])), ((t 1), .inl (κ 1, 27, .inl (zc t_lesser))), ((t 2), .inl (κ 1, 27, .inl (zc t_greater))), ((t 3), .inl (κ 1, 81, .inl (zc t_numberOfLine))), ((t 4), .inl (κ 1, 27, .inl (zc t_crossers))), ((t 5), .inl (κ 1, 9, .inl (zc t_linesAt))), ((t 6), .inl (κ 1, 429, .inl (zc t_cuts)))]) sz) ([((t 0), .inr (5, [.int (zi t_corners), .ref (t 1), .ref (t 2), .ref (t 3), .ref (t 4), .ref (t 5), .ref (t 6), .int (zi t_lineCount), .int (zi t_cutCount)])), ((t 1), .inl (κ 1, 27, .inl (zc t_lesser))), ((t 2), .inl (κ 1, 27, .inl (zc t_greater))), ((t 3), .inl (κ 1, 81, .inl (zc t_numberOfLine))), ((t 4), .inl (κ 1, 27, .inl (zc out))), ((t 5), .inl (κ 1, 9, .inl (zc t_linesAt))), ((t 6), .inl (κ 1, 429, .inl (zc t_cuts)))])) (va_A ([((t 0), .inr (5, [.int (zi t_corners), .ref (t 1), .ref (t 2), .ref (t 3), .ref (t 4), .ref (t 5), .ref (t 6), .int (zi t_lineCount), .int (zi t_cutCount)])), ((t 1), .inl (κ 1, 27, .inl (zc t_lesser))), ((t 2), .inl (κ 1, 27, .inl (zc t_greater))), ((t 3), .inl (κ 1, 81, .inl (zc t_numberOfLine))), ((t 4), .inl (κ 1, 27, .inl (zc t_crossers))), ((t 5), .inl (κ 1, 9, .inl (zc t_linesAt))), ((t 6), .inl (κ 1, 429, .inl (zc t_cuts)))]) sz)) 0 0 (va_A ([((t 0), .inr (5, [.int (zi t_corners), .ref (t 1), .ref (t 2), .ref (t 3), .ref (t 4), .ref (t 5), .ref (t 6), .int (zi t_lineCount), .int (zi t_cutCount)])), ((t 1), .inl (κ 1, 27, .inl (zc t_lesser))), ((t 2), .inl (κ 1, 27, .inl (zc t_greater))), ((t 3), .inl (κ 1, 81, .inl (zc t_numberOfLine))), ((t 4), .inl (κ 1, 27, .inl (zc t_crossers))), ((t 5), .inl (κ 1, 9, .inl (zc t_linesAt))), ((t 6), .inl (κ 1, 429, .inl (zc t_cuts)))]) sz) := by
  refine Met.ofW (cc := cX5_findCrossers) (maxL := 3) (ret := none) (by decide +kernel) rfl ?_
  intro p e s m args below meth c s₁ B hml hv
  obtain ⟨rfl, hsz, hP, hK, hD0⟩ := hv
  have hx := B.exec
  have hb := B.bytes
  have hr := B.returns
  have hts := atoms_spec (ws := wsX5_findCrossers) B.pre
  have hown : s.vm.findClass RX5 = some m.cls := findClass_of_methodNamed B.named
  have hlocks := B.notSynchronized
  subst hsz
  have hD := hD0.self (sz := s.heap.size)
  generalize hAe : va_A ([((t 0), .inr (5, [.int (zi t_corners), .ref (t 1), .ref (t 2), .ref (t 3), .ref (t 4), .ref (t 5), .ref (t 6), .int (zi t_lineCount), .int (zi t_cutCount)])), ((t 1), .inl (κ 1, 27, .inl (zc t_lesser))), ((t 2), .inl (κ 1, 27, .inl (zc t_greater))), ((t 3), .inl (κ 1, 81, .inl (zc t_numberOfLine))), ((t 4), .inl (κ 1, 27, .inl (zc t_crossers))), ((t 5), .inl (κ 1, 9, .inl (zc t_linesAt))), ((t 6), .inl (κ 1, 429, .inl (zc t_cuts)))]) s.heap.size = A at hD ⊢
  have hA : ∀ q : Nat, s.heap.size ≤ q → A q := fun q h => by rw [← hAe]; exact Or.inr h
  have hS : va_S A s.heap s.heap [] := va_S.rf
  have hl := lv_entry ([.ref (t 0)]) (n := 3) (Nat.le_of_ble_eq_true rfl)
  rw [lg_entry_eq]
  generalize (lg_sl ([.ref (t 0)]) ++ List.replicate (3 - (lg_sl ([.ref (t 0)])).length) Slot.unset).toArray = ls at hl ⊢
  have hl : lv_has ls 3 [(0, .ref (t 0))] := hl
  refine (zw_X5_findCrossers t t_corners t_lineCount t_cutCount t_lesser t_greater t_numberOfLine t_linesAt t_cuts t_crossers  hx hb hml hown hts hK hA out h ?_) s.heap [] ls hP hD hS (lv_sub hl [0] rfl)
  exact fun H locs ls pc hP hD hS hd => W.vret hx hb hr (fun t ht hW => ⟨⟨(), rfl, trivial, by rw [ht]; exact hP, va_K.moved hW.alike hK, hD⟩, hS.F ht⟩) hS.2.2 hd
/-! DiamondRows$Polygon.keepCut(I)V -/
abbrev zr_X5_keepCut : Room := { frames := 0, cells := 0, slots := 0, locals := 0 }
noncomputable def zf_X5_keepCut  (t_cutCount : Int) (t_cuts : Nat) (i1 : Int) : Option (Int × Nat) :=
  if zout t_cutCount then none else
  if (429 : Int) ≤ t_cutCount then
  some (t_cutCount, t_cuts)
  else
  if t_cutCount < 0 ∨ 429 ≤ t_cutCount then none else
  some ((t_cutCount + (1 : Int)), (zset t_cuts (Int.toNat t_cutCount) i1))
theorem zi_X5_keepCut_X5 : ∀ w ∈ u_ws RX5 TX5 9, w ∈ wsX5_keepCut := fun w h => (List.mem_cons_of_mem _ (List.mem_append_right _ h))
theorem zl_X5_keepCut_27 : Cond.fieldLink RX5 27 "DiamondRows$Polygon" "cuts" "[I" ∈ wsX5_keepCut := (List.mem_cons_of_mem _ (List.mem_append_left _ (List.mem_of_getElem? (i := 1) rfl)))
theorem zl_X5_keepCut_65 : Cond.fieldLink RX5 65 "DiamondRows$Polygon" "cutCount" "I" ∈ wsX5_keepCut := (List.mem_cons_of_mem _ (List.mem_append_left _ (List.mem_of_getElem? (i := 0) rfl)))
def zQ_X5_keepCut (p : Program) (l : Launch) (e : Env) (s : State) (m : MethodId) (args : Array Value) (below : List Frame) (meth : Method) (c : Code) (Q : State → Prop) (D : va_G) (κ : Nat → ClassId) (A : Nat → Prop) (H0 : Heap) (t : Nat → Nat) (t_corners : Int) (t_lineCount : Int) (t_lesser : Nat) (t_greater : Nat) (t_numberOfLine : Nat) (t_crossers : Nat) (t_linesAt : Nat) (o : Int × Nat) : Prop := ∀ (H : Heap) (locs : List Loc) (ls : Array Slot) (pc : Nat), va_P D vwCl ([((t 0), .inr (5, [.int (zi t_corners), .ref (t 1), .ref (t 2), .ref (t 3), .ref (t 4), .ref (t 5), .ref (t 6), .int (zi t_lineCount), .int (zi (o.1))])), ((t 1), .inl (κ 1, 27, .inl (zc t_lesser))), ((t 2), .inl (κ 1, 27, .inl (zc t_greater))), ((t 3), .inl (κ 1, 81, .inl (zc t_numberOfLine))), ((t 4), .inl (κ 1, 27, .inl (zc t_crossers))), ((t 5), .inl (κ 1, 9, .inl (zc t_linesAt))), ((t 6), .inl (κ 1, 429, .inl (zc (o.2))))]) H → va_D A ([((t 0), .inr (5, [.int (zi t_corners), .ref (t 1), .ref (t 2), .ref (t 3), .ref (t 4), .ref (t 5), .ref (t 6), .int (zi t_lineCount), .int (zi (o.1))])), ((t 1), .inl (κ 1, 27, .inl (zc t_lesser))), ((t 2), .inl (κ 1, 27, .inl (zc t_greater))), ((t 3), .inl (κ 1, 81, .inl (zc t_numberOfLine))), ((t 4), .inl (κ 1, 27, .inl (zc t_crossers))), ((t 5), .inl (κ 1, 9, .inl (zc t_linesAt))), ((t 6), .inl (κ 1, 429, .inl (zc (o.2))))]) → va_S A H0 H locs → decode cX5_keepCut pc = .ok (.return_, 1) → W p l e zr_X5_keepCut s m args below meth c H locs 0 0 Q (F0 m pc ls [])
set_option maxHeartbeats 4000000 in
set_option maxRecDepth 100000 in
theorem zs_X5_keepCut {p : Program} {l : Launch} {e : Env} {s : State} {m : MethodId} {args : Array Value} {below : List Frame} {meth : Method} {c : Code} {Q : State → Prop} {D : va_G} {κ : Nat → ClassId} {A : Nat → Prop} {H0 : Heap} (t : Nat → Nat) (t_corners : Int) (t_lineCount : Int) (t_cutCount : Int) (t_lesser : Nat) (t_greater : Nat) (t_numberOfLine : Nat) (t_crossers : Nat) (t_linesAt : Nat) (t_cuts : Nat) (i1 : Int) (hx : p.tables.exec = Jvm.exec) (hb : c.code = cX5_keepCut) (hml : c.maxLocals = 2) (hown : s.vm.findClass RX5 = some m.cls) (hts : ∀ w ∈ wsX5_keepCut, w.before args s = true) (hK : va_K D vwCl (zTY κ) s) (hA : ∀ q : Nat, H0.size ≤ q → A q) (H : Heap) (locs : List Loc) (ls : Array Slot) (hP : va_P D vwCl ([((t 0), .inr (5, [.int (zi t_corners), .ref (t 1), .ref (t 2), .ref (t 3), .ref (t 4), .ref (t 5), .ref (t 6), .int (zi t_lineCount), .int (zi t_cutCount)])), ((t 1), .inl (κ 1, 27, .inl (zc t_lesser))), ((t 2), .inl (κ 1, 27, .inl (zc t_greater))), ((t 3), .inl (κ 1, 81, .inl (zc t_numberOfLine))), ((t 4), .inl (κ 1, 27, .inl (zc t_crossers))), ((t 5), .inl (κ 1, 9, .inl (zc t_linesAt))), ((t 6), .inl (κ 1, 429, .inl (zc t_cuts)))]) H) (hD : va_D A ([((t 0), .inr (5, [.int (zi t_corners), .ref (t 1), .ref (t 2), .ref (t 3), .ref (t 4), .ref (t 5), .ref (t 6), .int (zi t_lineCount), .int (zi t_cutCount)])), ((t 1), .inl (κ 1, 27, .inl (zc t_lesser))), ((t 2), .inl (κ 1, 27, .inl (zc t_greater))), ((t 3), .inl (κ 1, 81, .inl (zc t_numberOfLine))), ((t 4), .inl (κ 1, 27, .inl (zc t_crossers))), ((t 5), .inl (κ 1, 9, .inl (zc t_linesAt))), ((t 6), .inl (κ 1, 429, .inl (zc t_cuts)))])) (hS : va_S A H0 H locs) (hl : lv_has ls 2 [(0, .ref (t 0)), (1, .int (zi i1))]) (hg : Go (zQ_X5_keepCut p l e s m args below meth c Q D κ A H0 t t_corners t_lineCount t_lesser t_greater t_numberOfLine t_crossers t_linesAt) (zf_X5_keepCut t_cutCount t_cuts i1)) : W p l e zr_X5_keepCut s m args below meth c H locs 0 0 Q (F0 m 0 ls []) := by
  unfold zf_X5_keepCut at hg
  refine lv_aload_n hx hb dX5_keepCut_0 rfl (lv_at hl 0 rfl) ?_
  refine va_get (D := D) (ci := 5) (v := .int (zi t_cutCount)) (C := RX5) (T := TX5) (N := 9) hx hb hts zi_X5_keepCut_X5 hown hK hP 0 rfl rfl 8 (by decide) (hts (.fieldLink RX5 65 "DiamondRows$Polygon" "cutCount" "I") zl_X5_keepCut_65) (fun _ h9 => h9) rfl dX5_keepCut_1 ?_
  refine zv_sipush hx hb dX5_keepCut_4 (by decide) ?_
  obtain ⟨b1, hg⟩ := Go_n hg
  refine zv_icmp_ge (tgt := 30) hx hb dX5_keepCut_7 (by decide) b1 (by decide) (fun c3 => ?_) (fun c3 => ?_)
  · have hg := Go_t c3 hg
    exact (Go_s hg) _ _ _ _ hP hD hS dX5_keepCut_30
  · have hg := Go_f c3 hg
    refine lv_aload_n hx hb dX5_keepCut_10 rfl (lv_at hl 0 rfl) ?_
    refine va_get (D := D) (ci := 5) (v := .ref (t 6)) (C := RX5) (T := TX5) (N := 9) hx hb hts zi_X5_keepCut_X5 hown hK hP 0 rfl rfl 6 (by decide) (hts (.fieldLink RX5 27 "DiamondRows$Polygon" "cuts" "[I") zl_X5_keepCut_27) (fun _ h9 => h9) rfl dX5_keepCut_11 ?_
    refine lv_aload_n hx hb dX5_keepCut_14 rfl (lv_at hl 0 rfl) ?_
    refine va_get (D := D) (ci := 5) (v := .int (zi t_cutCount)) (C := RX5) (T := TX5) (N := 9) hx hb hts zi_X5_keepCut_X5 hown hK hP 0 rfl rfl 8 (by decide) (hts (.fieldLink RX5 65 "DiamondRows$Polygon" "cutCount" "I") zl_X5_keepCut_65) (fun _ h9 => h9) rfl dX5_keepCut_15 ?_
    refine lv_iload_n hx hb dX5_keepCut_18 rfl (lv_at hl 1 rfl) ?_
    obtain ⟨n2, hg⟩ := Go_n hg
    refine zv_iast hx hb hK hP hD hS 6 1 rfl rfl (by decide) n2 dX5_keepCut_19 (fun H locs hP hD hS => ?_)
    have hP : va_P D vwCl ([((t 0), .inr (5, [.int (zi t_corners), .ref (t 1), .ref (t 2), .ref (t 3), .ref (t 4), .ref (t 5), .ref (t 6), .int (zi t_lineCount), .int (zi t_cutCount)])), ((t 1), .inl (κ 1, 27, .inl (zc t_lesser))), ((t 2), .inl (κ 1, 27, .inl (zc t_greater))), ((t 3), .inl (κ 1, 81, .inl (zc t_numberOfLine))), ((t 4), .inl (κ 1, 27, .inl (zc t_crossers))), ((t 5), .inl (κ 1, 9, .inl (zc t_linesAt))), ((t 6), .inl (κ 1, 429, .inl (zc (zset t_cuts (Int.toNat t_cutCount) i1))))]) H := hP
    have hD : va_D A ([((t 0), .inr (5, [.int (zi t_corners), .ref (t 1), .ref (t 2), .ref (t 3), .ref (t 4), .ref (t 5), .ref (t 6), .int (zi t_lineCount), .int (zi t_cutCount)])), ((t 1), .inl (κ 1, 27, .inl (zc t_lesser))), ((t 2), .inl (κ 1, 27, .inl (zc t_greater))), ((t 3), .inl (κ 1, 81, .inl (zc t_numberOfLine))), ((t 4), .inl (κ 1, 27, .inl (zc t_crossers))), ((t 5), .inl (κ 1, 9, .inl (zc t_linesAt))), ((t 6), .inl (κ 1, 429, .inl (zc (zset t_cuts (Int.toNat t_cutCount) i1))))]) := hD
    refine lv_aload_n hx hb dX5_keepCut_20 rfl (lv_at hl 0 rfl) ?_
    refine lv_dup hx hb dX5_keepCut_21 rfl ?_
    refine va_get (D := D) (ci := 5) (v := .int (zi t_cutCount)) (C := RX5) (T := TX5) (N := 9) hx hb hts zi_X5_keepCut_X5 hown hK hP 0 rfl rfl 8 (by decide) (hts (.fieldLink RX5 65 "DiamondRows$Polygon" "cutCount" "I") zl_X5_keepCut_65) (fun _ h9 => h9) rfl dX5_keepCut_22 ?_
    refine zv_iconst hx hb dX5_keepCut_25 ?_
    refine zv_iadd hx hb dX5_keepCut_26 ?_
    refine va_put (D := D) (ci := 5) (v := .int (zi (t_cutCount + (1 : Int)))) (ty := .int) (C := RX5) (T := TX5) (N := 9) hx hb hts zi_X5_keepCut_X5 tyX5 tyX5_ok nmX5 hown hK hP hD hS 0 rfl rfl 8 (by decide) (hts (.fieldLink RX5 65 "DiamondRows$Polygon" "cutCount" "I") zl_X5_keepCut_65) (fun _ h9 => h9) rfl (by decide +kernel) rfl rfl (Nat.le_of_ble_eq_true rfl) dX5_keepCut_27 (fun H locs hP hD hS => ?_)
    have hP : va_P D vwCl ([((t 0), .inr (5, [.int (zi t_corners), .ref (t 1), .ref (t 2), .ref (t 3), .ref (t 4), .ref (t 5), .ref (t 6), .int (zi t_lineCount), .int (zi (t_cutCount + (1 : Int)))])), ((t 1), .inl (κ 1, 27, .inl (zc t_lesser))), ((t 2), .inl (κ 1, 27, .inl (zc t_greater))), ((t 3), .inl (κ 1, 81, .inl (zc t_numberOfLine))), ((t 4), .inl (κ 1, 27, .inl (zc t_crossers))), ((t 5), .inl (κ 1, 9, .inl (zc t_linesAt))), ((t 6), .inl (κ 1, 429, .inl (zc (zset t_cuts (Int.toNat t_cutCount) i1))))]) H := hP
    have hD : va_D A ([((t 0), .inr (5, [.int (zi t_corners), .ref (t 1), .ref (t 2), .ref (t 3), .ref (t 4), .ref (t 5), .ref (t 6), .int (zi t_lineCount), .int (zi (t_cutCount + (1 : Int)))])), ((t 1), .inl (κ 1, 27, .inl (zc t_lesser))), ((t 2), .inl (κ 1, 27, .inl (zc t_greater))), ((t 3), .inl (κ 1, 81, .inl (zc t_numberOfLine))), ((t 4), .inl (κ 1, 27, .inl (zc t_crossers))), ((t 5), .inl (κ 1, 9, .inl (zc t_linesAt))), ((t 6), .inl (κ 1, 429, .inl (zc (zset t_cuts (Int.toNat t_cutCount) i1))))]) := hD
    exact (Go_s hg) _ _ _ _ hP hD hS dX5_keepCut_30
set_option maxHeartbeats 4000000 in
set_option maxRecDepth 100000 in
theorem zc_X5_keepCut (l : Launch) (D : va_G) (κ : Nat → ClassId) (t : Nat → Nat) (sz : Nat) (t_corners : Int) (t_lineCount : Int) (t_cutCount : Int) (t_lesser : Nat) (t_greater : Nat) (t_numberOfLine : Nat) (t_crossers : Nat) (t_linesAt : Nat) (t_cuts : Nat) (i1 : Int) (out : Int × Nat) (h : zf_X5_keepCut t_cutCount t_cuts i1 = some out) : Met l yX5_keepCut wsX5_keepCut zr_X5_keepCut (va_Pc [.ref (t 0), .int (zi i1)] (zW D κ ([((t 0), .inr (5, [.int (zi t_corners), .ref (t 1), .ref (t 2), .ref (t 3), .ref (t 4), .ref (t 5), .ref (t 6), .int (zi t_lineCount), .int (zi t_cutCount)])), ((t 1), .inl (κ 1, 27, .inl (zc t_lesser))), ((t 2), .inl (κ 1, 27, .inl (zc t_greater))), ((t 3), .inl (κ 1, 81, .inl (zc t_numberOfLine))), ((t 4), .inl (κ 1, 27, .inl (zc t_crossers))), ((t 5), .inl (κ 1, 9, .inl (zc t_linesAt))), ((t 6), .inl (κ 1, 429, .inl (zc t_cuts)))]) sz)) (va_Qv (fun (_ : Unit) => True) (fun _ => zB D κ (va_A ([((t 0), .inr (5, [.int (zi t_corners), .ref (t 1), .ref (t 2), .ref (t 3), .ref (t 4), .ref (t 5), .ref (t 6), .int (zi t_lineCount), .int (zi t_cutCount)])), ((t 1), .inl (κ 1, 27, .inl (zc t_lesser))), ((t 2), .inl (κ 1, 27, .inl (zc t_greater))), ((t 3), .inl (κ 1, 81, .inl (zc t_numberOfLine))), ((t 4), .inl (κ 1, 27, .inl (zc t_crossers))), ((t 5), .inl (κ 1, 9, .inl (zc t_linesAt))), ((t 6), .inl (κ 1, 429, .inl (zc t_cuts)))]) sz) ([((t 0), .inr (5, [.int (zi t_corners), .ref (t 1), .ref (t 2), .ref (t 3), .ref (t 4), .ref (t 5), .ref (t 6), .int (zi t_lineCount), .int (zi (out.1))])), ((t 1), .inl (κ 1, 27, .inl (zc t_lesser))), ((t 2), .inl (κ 1, 27, .inl (zc t_greater))), ((t 3), .inl (κ 1, 81, .inl (zc t_numberOfLine))), ((t 4), .inl (κ 1, 27, .inl (zc t_crossers))), ((t 5), .inl (κ 1, 9, .inl (zc t_linesAt))), ((t 6), .inl (κ 1, 429, .inl (zc (out.2))))])) (va_A ([((t 0), .inr (5, [.int (zi t_corners), .ref (t 1), .ref (t 2), .ref (t 3), .ref (t 4), .ref (t 5), .ref (t 6), .int (zi t_lineCount), .int (zi t_cutCount)])), ((t 1), .inl (κ 1, 27, .inl (zc t_lesser))), ((t 2), .inl (κ 1, 27, .inl (zc t_greater))), ((t 3), .inl (κ 1, 81, .inl (zc t_numberOfLine))), ((t 4), .inl (κ 1, 27, .inl (zc t_crossers))), ((t 5), .inl (κ 1, 9, .inl (zc t_linesAt))), ((t 6), .inl (κ 1, 429, .inl (zc t_cuts)))]) sz)) 0 0 (va_A ([((t 0), .inr (5, [.int (zi t_corners), .ref (t 1), .ref (t 2), .ref (t 3), .ref (t 4), .ref (t 5), .ref (t 6), .int (zi t_lineCount), .int (zi t_cutCount)])), ((t 1), .inl (κ 1, 27, .inl (zc t_lesser))), ((t 2), .inl (κ 1, 27, .inl (zc t_greater))), ((t 3), .inl (κ 1, 81, .inl (zc t_numberOfLine))), ((t 4), .inl (κ 1, 27, .inl (zc t_crossers))), ((t 5), .inl (κ 1, 9, .inl (zc t_linesAt))), ((t 6), .inl (κ 1, 429, .inl (zc t_cuts)))]) sz) := by
  refine Met.ofW (cc := cX5_keepCut) (maxL := 2) (ret := none) (by decide +kernel) rfl ?_
  intro p e s m args below meth c s₁ B hml hv
  obtain ⟨rfl, hsz, hP, hK, hD0⟩ := hv
  have hx := B.exec
  have hb := B.bytes
  have hr := B.returns
  have hts := atoms_spec (ws := wsX5_keepCut) B.pre
  have hown : s.vm.findClass RX5 = some m.cls := findClass_of_methodNamed B.named
  have hlocks := B.notSynchronized
  subst hsz
  have hD := hD0.self (sz := s.heap.size)
  generalize hAe : va_A ([((t 0), .inr (5, [.int (zi t_corners), .ref (t 1), .ref (t 2), .ref (t 3), .ref (t 4), .ref (t 5), .ref (t 6), .int (zi t_lineCount), .int (zi t_cutCount)])), ((t 1), .inl (κ 1, 27, .inl (zc t_lesser))), ((t 2), .inl (κ 1, 27, .inl (zc t_greater))), ((t 3), .inl (κ 1, 81, .inl (zc t_numberOfLine))), ((t 4), .inl (κ 1, 27, .inl (zc t_crossers))), ((t 5), .inl (κ 1, 9, .inl (zc t_linesAt))), ((t 6), .inl (κ 1, 429, .inl (zc t_cuts)))]) s.heap.size = A at hD ⊢
  have hA : ∀ q : Nat, s.heap.size ≤ q → A q := fun q h => by rw [← hAe]; exact Or.inr h
  have hS : va_S A s.heap s.heap [] := va_S.rf
  have hl := lv_entry ([.ref (t 0), .int (zi i1)]) (n := 2) (Nat.le_of_ble_eq_true rfl)
  rw [lg_entry_eq]
  generalize (lg_sl ([.ref (t 0), .int (zi i1)]) ++ List.replicate (2 - (lg_sl ([.ref (t 0), .int (zi i1)])).length) Slot.unset).toArray = ls at hl ⊢
  have hl : lv_has ls 2 [(0, .ref (t 0)), (1, .int (zi i1))] := hl
  refine zs_X5_keepCut t t_corners t_lineCount t_cutCount t_lesser t_greater t_numberOfLine t_crossers t_linesAt t_cuts i1 hx hb hml hown hts hK hA s.heap [] ls hP hD hS hl ⟨out, h, ?_⟩
  exact fun H locs ls pc hP hD hS hd => W.vret hx hb hr (fun t ht hW => ⟨⟨(), rfl, trivial, by rw [ht]; exact hP, va_K.moved hW.alike hK, hD⟩, hS.F ht⟩) hS.2.2 hd
/-! DiamondRows$Polygon.gatherCuts(IIII)V -/
abbrev zr_X5_gatherCuts (d : Nat) : Room := { frames := 1 + d, cells := 0, slots := 0, locals := 21 + d * 26 }
noncomputable def zh_X5_gatherCuts (rec : Int → Nat → Nat → Int → Int → Int → Int → Option (Int × Nat))  (t_cutCount : Int) (t_crossers : Nat) (t_cuts : Nat) (i1 : Int) (i2 : Int) (i3 : Int) (i4 : Int) : Option (Int × Nat) :=
  if zout i4 then none else
  if i4 = 0 then
  Option.bind (zf_X5_keepCut t_cutCount t_cuts i2) (fun o11 =>
  some ((o11.1), (o11.2)))
  else
  if zout i1 then none else
  if i1 < 0 then
  some (t_cutCount, t_cuts)
  else
  Option.bind (zf_J6_bitCount_0f7a4 i3) (fun o3 =>
  if zout o3 then none else
  if i4 ≤ o3 then
  Option.bind (rec t_cutCount t_crossers t_cuts (i1 - (1 : Int)) i2 (zand i3 (zxor (zshl (1 : Int) i1) (-1 : Int))) i4) (fun o5 =>
  if (zand i3 (zshl (1 : Int) i1)) = 0 then
  some ((o5.1), (o5.2))
  else
  if i1 < 0 ∨ 27 ≤ i1 then none else
  Option.bind (rec (o5.1) t_crossers (o5.2) (i1 - (1 : Int)) (zor i2 (zshl (1 : Int) i1)) (zand (zand i3 (zxor (zshl (1 : Int) i1) (-1 : Int))) (zxor (zget t_crossers (Int.toNat i1)) (-1 : Int))) (i4 - (1 : Int))) (fun o7 =>
  some ((o7.1), (o7.2))))
  else
  some (t_cutCount, t_cuts))
noncomputable def zf_X5_gatherCuts (d : Nat) : Int → Nat → Nat → Int → Int → Int → Int → Option (Int × Nat) := Nat.rec (fun _ _ _ _ _ _ _ => none) (fun _ rec t_cutCount t_crossers t_cuts i1 i2 i3 i4 => zh_X5_gatherCuts rec t_cutCount t_crossers t_cuts i1 i2 i3 i4) d
theorem zi_X5_gatherCuts_X5 : ∀ w ∈ u_ws RX5 TX5 9, w ∈ wsX5_gatherCuts := fun w h => (List.mem_cons_of_mem _ (List.mem_append_right _ (List.mem_append_left _ h)))
theorem zl_X5_gatherCuts_21 : Cond.fieldLink RX5 21 "DiamondRows$Polygon" "crossers" "[I" ∈ wsX5_gatherCuts := (List.mem_cons_of_mem _ (List.mem_append_left _ (List.mem_of_getElem? (i := 0) rfl)))
def zQ_X5_gatherCuts (d : Nat) (p : Program) (l : Launch) (e : Env) (s : State) (m : MethodId) (args : Array Value) (below : List Frame) (meth : Method) (c : Code) (Q : State → Prop) (D : va_G) (κ : Nat → ClassId) (A : Nat → Prop) (H0 : Heap) (t : Nat → Nat) (t_corners : Int) (t_lineCount : Int) (t_lesser : Nat) (t_greater : Nat) (t_numberOfLine : Nat) (t_crossers : Nat) (t_linesAt : Nat) (o : Int × Nat) : Prop := ∀ (H : Heap) (locs : List Loc) (ls : Array Slot) (pc : Nat), va_P D vwCl ([((t 0), .inr (5, [.int (zi t_corners), .ref (t 1), .ref (t 2), .ref (t 3), .ref (t 4), .ref (t 5), .ref (t 6), .int (zi t_lineCount), .int (zi (o.1))])), ((t 1), .inl (κ 1, 27, .inl (zc t_lesser))), ((t 2), .inl (κ 1, 27, .inl (zc t_greater))), ((t 3), .inl (κ 1, 81, .inl (zc t_numberOfLine))), ((t 4), .inl (κ 1, 27, .inl (zc t_crossers))), ((t 5), .inl (κ 1, 9, .inl (zc t_linesAt))), ((t 6), .inl (κ 1, 429, .inl (zc (o.2))))]) H → va_D A ([((t 0), .inr (5, [.int (zi t_corners), .ref (t 1), .ref (t 2), .ref (t 3), .ref (t 4), .ref (t 5), .ref (t 6), .int (zi t_lineCount), .int (zi (o.1))])), ((t 1), .inl (κ 1, 27, .inl (zc t_lesser))), ((t 2), .inl (κ 1, 27, .inl (zc t_greater))), ((t 3), .inl (κ 1, 81, .inl (zc t_numberOfLine))), ((t 4), .inl (κ 1, 27, .inl (zc t_crossers))), ((t 5), .inl (κ 1, 9, .inl (zc t_linesAt))), ((t 6), .inl (κ 1, 429, .inl (zc (o.2))))]) → va_S A H0 H locs → decode cX5_gatherCuts pc = .ok (.return_, 1) → W p l e (zr_X5_gatherCuts (d + 1)) s m args below meth c H locs 0 0 Q (F0 m pc ls [])
set_option maxHeartbeats 4000000 in
set_option maxRecDepth 100000 in
theorem zs_X5_gatherCuts {d : Nat} {p : Program} {l : Launch} {e : Env} {s : State} {m : MethodId} {args : Array Value} {below : List Frame} {meth : Method} {c : Code} {Q : State → Prop} {D : va_G} {κ : Nat → ClassId} {A : Nat → Prop} {H0 : Heap} (t : Nat → Nat) (t_corners : Int) (t_lineCount : Int) (t_cutCount : Int) (t_lesser : Nat) (t_greater : Nat) (t_numberOfLine : Nat) (t_crossers : Nat) (t_linesAt : Nat) (t_cuts : Nat) (i1 : Int) (i2 : Int) (i3 : Int) (i4 : Int) (rec : Int → Nat → Nat → Int → Int → Int → Int → Option (Int × Nat)) (hrec : ∀ (sz : Nat) (t_corners : Int) (t_lineCount : Int) (t_cutCount : Int) (t_lesser : Nat) (t_greater : Nat) (t_numberOfLine : Nat) (t_crossers : Nat) (t_linesAt : Nat) (t_cuts : Nat) (i1 : Int) (i2 : Int) (i3 : Int) (i4 : Int) (out : Int × Nat), rec t_cutCount t_crossers t_cuts i1 i2 i3 i4 = some out → Met l yX5_gatherCuts wsX5_gatherCuts (zr_X5_gatherCuts d) (va_Pc [.ref (t 0), .int (zi i1), .int (zi i2), .int (zi i3), .int (zi i4)] (zW D κ ([((t 0), .inr (5, [.int (zi t_corners), .ref (t 1), .ref (t 2), .ref (t 3), .ref (t 4), .ref (t 5), .ref (t 6), .int (zi t_lineCount), .int (zi t_cutCount)])), ((t 1), .inl (κ 1, 27, .inl (zc t_lesser))), ((t 2), .inl (κ 1, 27, .inl (zc t_greater))), ((t 3), .inl (κ 1, 81, .inl (zc t_numberOfLine))), ((t 4), .inl (κ 1, 27, .inl (zc t_crossers))), ((t 5), .inl (κ 1, 9, .inl (zc t_linesAt))), ((t 6), .inl (κ 1, 429, .inl (zc t_cuts)))]) sz)) (va_Qv (fun (_ : Unit) => True) (fun _ => zB D κ (va_A ([((t 0), .inr (5, [.int (zi t_corners), .ref (t 1), .ref (t 2), .ref (t 3), .ref (t 4), .ref (t 5), .ref (t 6), .int (zi t_lineCount), .int (zi t_cutCount)])), ((t 1), .inl (κ 1, 27, .inl (zc t_lesser))), ((t 2), .inl (κ 1, 27, .inl (zc t_greater))), ((t 3), .inl (κ 1, 81, .inl (zc t_numberOfLine))), ((t 4), .inl (κ 1, 27, .inl (zc t_crossers))), ((t 5), .inl (κ 1, 9, .inl (zc t_linesAt))), ((t 6), .inl (κ 1, 429, .inl (zc t_cuts)))]) sz) ([((t 0), .inr (5, [.int (zi t_corners), .ref (t 1), .ref (t 2), .ref (t 3), .ref (t 4), .ref (t 5), .ref (t 6), .int (zi t_lineCount), .int (zi (out.1))])), ((t 1), .inl (κ 1, 27, .inl (zc t_lesser))), ((t 2), .inl (κ 1, 27, .inl (zc t_greater))), ((t 3), .inl (κ 1, 81, .inl (zc t_numberOfLine))), ((t 4), .inl (κ 1, 27, .inl (zc t_crossers))), ((t 5), .inl (κ 1, 9, .inl (zc t_linesAt))), ((t 6), .inl (κ 1, 429, .inl (zc (out.2))))])) (va_A ([((t 0), .inr (5, [.int (zi t_corners), .ref (t 1), .ref (t 2), .ref (t 3), .ref (t 4), .ref (t 5), .ref (t 6), .int (zi t_lineCount), .int (zi t_cutCount)])), ((t 1), .inl (κ 1, 27, .inl (zc t_lesser))), ((t 2), .inl (κ 1, 27, .inl (zc t_greater))), ((t 3), .inl (κ 1, 81, .inl (zc t_numberOfLine))), ((t 4), .inl (κ 1, 27, .inl (zc t_crossers))), ((t 5), .inl (κ 1, 9, .inl (zc t_linesAt))), ((t 6), .inl (κ 1, 429, .inl (zc t_cuts)))]) sz)) 0 0 (va_A ([((t 0), .inr (5, [.int (zi t_corners), .ref (t 1), .ref (t 2), .ref (t 3), .ref (t 4), .ref (t 5), .ref (t 6), .int (zi t_lineCount), .int (zi t_cutCount)])), ((t 1), .inl (κ 1, 27, .inl (zc t_lesser))), ((t 2), .inl (κ 1, 27, .inl (zc t_greater))), ((t 3), .inl (κ 1, 81, .inl (zc t_numberOfLine))), ((t 4), .inl (κ 1, 27, .inl (zc t_crossers))), ((t 5), .inl (κ 1, 9, .inl (zc t_linesAt))), ((t 6), .inl (κ 1, 429, .inl (zc t_cuts)))]) sz)) (hx : p.tables.exec = Jvm.exec) (hb : c.code = cX5_gatherCuts) (hml : c.maxLocals = 7) (hown : s.vm.findClass RX5 = some m.cls) (hts : ∀ w ∈ wsX5_gatherCuts, w.before args s = true) (hK : va_K D vwCl (zTY κ) s) (hA : ∀ q : Nat, H0.size ≤ q → A q) (H : Heap) (locs : List Loc) (ls : Array Slot) (hP : va_P D vwCl ([((t 0), .inr (5, [.int (zi t_corners), .ref (t 1), .ref (t 2), .ref (t 3), .ref (t 4), .ref (t 5), .ref (t 6), .int (zi t_lineCount), .int (zi t_cutCount)])), ((t 1), .inl (κ 1, 27, .inl (zc t_lesser))), ((t 2), .inl (κ 1, 27, .inl (zc t_greater))), ((t 3), .inl (κ 1, 81, .inl (zc t_numberOfLine))), ((t 4), .inl (κ 1, 27, .inl (zc t_crossers))), ((t 5), .inl (κ 1, 9, .inl (zc t_linesAt))), ((t 6), .inl (κ 1, 429, .inl (zc t_cuts)))]) H) (hD : va_D A ([((t 0), .inr (5, [.int (zi t_corners), .ref (t 1), .ref (t 2), .ref (t 3), .ref (t 4), .ref (t 5), .ref (t 6), .int (zi t_lineCount), .int (zi t_cutCount)])), ((t 1), .inl (κ 1, 27, .inl (zc t_lesser))), ((t 2), .inl (κ 1, 27, .inl (zc t_greater))), ((t 3), .inl (κ 1, 81, .inl (zc t_numberOfLine))), ((t 4), .inl (κ 1, 27, .inl (zc t_crossers))), ((t 5), .inl (κ 1, 9, .inl (zc t_linesAt))), ((t 6), .inl (κ 1, 429, .inl (zc t_cuts)))])) (hS : va_S A H0 H locs) (hl : lv_has ls 7 [(0, .ref (t 0)), (1, .int (zi i1)), (2, .int (zi i2)), (3, .int (zi i3)), (4, .int (zi i4))]) (hg : Go (zQ_X5_gatherCuts d p l e s m args below meth c Q D κ A H0 t t_corners t_lineCount t_lesser t_greater t_numberOfLine t_crossers t_linesAt) (zh_X5_gatherCuts rec t_cutCount t_crossers t_cuts i1 i2 i3 i4)) : W p l e (zr_X5_gatherCuts (d + 1)) s m args below meth c H locs 0 0 Q (F0 m 0 ls []) := by
  unfold zh_X5_gatherCuts at hg
  refine lv_iload hx hb dX5_gatherCuts_0 (lv_at hl 4 rfl) ?_
  obtain ⟨b1, hg⟩ := Go_n hg
  refine zv_if_ne (tgt := 11) hx hb dX5_gatherCuts_2 (by decide) b1 (fun c12 => ?_) (fun c12 => ?_)
  · have hg := Go_f c12 hg
    refine lv_iload_n hx hb dX5_gatherCuts_11 rfl (lv_at hl 1 rfl) ?_
    obtain ⟨b2, hg⟩ := Go_n hg
    refine zv_if_lt (tgt := 24) hx hb dX5_gatherCuts_12 (by decide) b2 (fun c10 => ?_) (fun c10 => ?_)
    · have hg := Go_t c10 hg
      exact (Go_s hg) _ _ _ _ hP hD hS dX5_gatherCuts_24
    · have hg := Go_f c10 hg
      refine lv_iload_n hx hb dX5_gatherCuts_15 rfl (lv_at hl 3 rfl) ?_
      obtain ⟨o3, ho3, hg⟩ := Go_b hg
      refine zc_si (rest := []) ⟨hx, hb, hml, hown, hts⟩ (zc_J6_bitCount_0f7a4 l D κ i3 o3 ho3) (va_cwS 1 hts gX5_gatherCuts_J6_bitCount_0f7a4 rfl rfl rfl hs_J6_bitCount_0f7a4 ⟨(by show 0 + 1 ≤ 1 + (d + 1); omega), (by show 8 + (1 + 11) + 0 ≤ 21 + (d + 1) * 26; omega)⟩) (zpreS hK (hP.sub [] rfl)) rfl hl.1 rfl (Nat.le_of_ble_eq_true rfl) dX5_gatherCuts_16 ⟨Nat.zero_le _, Nat.zero_le _⟩ ?_
      refine lv_iload hx hb dX5_gatherCuts_19 (lv_at hl 4 rfl) ?_
      obtain ⟨b4, hg⟩ := Go_n hg
      refine zv_icmp_ge (tgt := 25) hx hb dX5_gatherCuts_21 (by decide) b4 b1 (fun c9 => ?_) (fun c9 => ?_)
      · have hg := Go_t c9 hg
        refine zv_iconst hx hb dX5_gatherCuts_25 ?_
        refine lv_iload_n hx hb dX5_gatherCuts_26 rfl (lv_at hl 1 rfl) ?_
        refine zv_ishl hx hb dX5_gatherCuts_27 ?_
        refine lv_istore (lv' := [(5, .int (zi (zshl (1 : Int) i1))), (0, .ref (t 0)), (1, .int (zi i1)), (2, .int (zi i2)), (3, .int (zi i3)), (4, .int (zi i4))]) hx hb dX5_gatherCuts_28 hl (by decide) rfl (fun ls hl => ?_)
        refine lv_iload_n hx hb dX5_gatherCuts_30 rfl (lv_at hl 4 rfl) ?_
        refine lv_iload hx hb dX5_gatherCuts_31 (lv_at hl 0 rfl) ?_
        refine zv_iconst hx hb dX5_gatherCuts_33 ?_
        refine zv_ixor hx hb dX5_gatherCuts_34 ?_
        refine zv_iand hx hb dX5_gatherCuts_35 ?_
        refine lv_istore (lv' := [(6, .int (zi (zand i3 (zxor (zshl (1 : Int) i1) (-1 : Int))))), (5, .int (zi (zshl (1 : Int) i1))), (0, .ref (t 0)), (1, .int (zi i1)), (2, .int (zi i2)), (3, .int (zi i3)), (4, .int (zi i4))]) hx hb dX5_gatherCuts_36 hl (by decide) rfl (fun ls hl => ?_)
        refine lv_aload_n hx hb dX5_gatherCuts_38 rfl (lv_at hl 2 rfl) ?_
        refine lv_iload_n hx hb dX5_gatherCuts_39 rfl (lv_at hl 3 rfl) ?_
        refine zv_iconst hx hb dX5_gatherCuts_40 ?_
        refine zv_isub hx hb dX5_gatherCuts_41 ?_
        refine lv_iload_n hx hb dX5_gatherCuts_42 rfl (lv_at hl 4 rfl) ?_
        refine lv_iload hx hb dX5_gatherCuts_43 (lv_at hl 0 rfl) ?_
        refine lv_iload hx hb dX5_gatherCuts_45 (lv_at hl 6 rfl) ?_
        obtain ⟨o5, ho5, hg⟩ := Go_b hg
        refine zj_v (wr := []) (ws1 := [((t 0), .inr (5, [.int (zi t_corners), .ref (t 1), .ref (t 2), .ref (t 3), .ref (t 4), .ref (t 5), .ref (t 6), .int (zi t_lineCount), .int (zi (o5.1))])), ((t 1), .inl (κ 1, 27, .inl (zc t_lesser))), ((t 2), .inl (κ 1, 27, .inl (zc t_greater))), ((t 3), .inl (κ 1, 81, .inl (zc t_numberOfLine))), ((t 4), .inl (κ 1, 27, .inl (zc t_crossers))), ((t 5), .inl (κ 1, 9, .inl (zc t_linesAt))), ((t 6), .inl (κ 1, 429, .inl (zc (o5.2))))]) (va_runV (rest := []) ⟨hx, hb, hml, hown, hts⟩ (hrec H.size t_corners t_lineCount t_cutCount t_lesser t_greater t_numberOfLine t_crossers t_linesAt t_cuts (i1 - (1 : Int)) i2 (zand i3 (zxor (zshl (1 : Int) i1) (-1 : Int))) i4 o5 ho5) (cwV 4 hts gX5_gatherCuts_X5_gatherCuts rfl rfl rfl hv_X5_gatherCuts ⟨(by show 1 + d + 1 ≤ 1 + (d + 1); omega), (by show 8 + (7 + 11) + (21 + d * 26) ≤ 21 + (d + 1) * 26; omega)⟩) (zpreWV hK (hP.sub [0, 1, 2, 3, 4, 5, 6] rfl) (hD.sub [0, 1, 2, 3, 4, 5, 6] (by decide) rfl) 5 0 rfl rfl) rfl rfl hl.1 rfl (lv_room (Nat.le_of_ble_eq_true rfl)) dX5_gatherCuts_47 ⟨Nat.zero_le _, Nat.zero_le _⟩) hP hD hS hA [0, 1, 2, 3, 4, 5, 6] [] [0, 1, 2, 3, 4, 5, 6] rfl rfl (by decide) (by decide) rfl rfl (by decide) (fun H locs hP hD hS => ?_)
        refine lv_iload_n hx hb dX5_gatherCuts_50 rfl (lv_at hl 5 rfl) ?_
        refine lv_iload hx hb dX5_gatherCuts_51 (lv_at hl 1 rfl) ?_
        refine zv_iand hx hb dX5_gatherCuts_53 ?_
        refine zv_if_eq (tgt := 83) hx hb dX5_gatherCuts_54 (by decide) (zand_in _ _) (fun c8 => ?_) (fun c8 => ?_)
        · have hg := Go_t c8 hg
          exact (Go_s hg) _ _ _ _ hP hD hS dX5_gatherCuts_83
        · have hg := Go_f c8 hg
          refine lv_aload_n hx hb dX5_gatherCuts_57 rfl (lv_at hl 2 rfl) ?_
          refine lv_iload_n hx hb dX5_gatherCuts_58 rfl (lv_at hl 3 rfl) ?_
          refine zv_iconst hx hb dX5_gatherCuts_59 ?_
          refine zv_isub hx hb dX5_gatherCuts_60 ?_
          refine lv_iload_n hx hb dX5_gatherCuts_61 rfl (lv_at hl 4 rfl) ?_
          refine lv_iload hx hb dX5_gatherCuts_62 (lv_at hl 1 rfl) ?_
          refine zv_ior hx hb dX5_gatherCuts_64 ?_
          refine lv_iload hx hb dX5_gatherCuts_65 (lv_at hl 0 rfl) ?_
          refine lv_aload_n hx hb dX5_gatherCuts_67 rfl (lv_at hl 2 rfl) ?_
          refine va_get (D := D) (ci := 5) (v := .ref (t 4)) (C := RX5) (T := TX5) (N := 9) hx hb hts zi_X5_gatherCuts_X5 hown hK hP 0 rfl rfl 4 (by decide) (hts (.fieldLink RX5 21 "DiamondRows$Polygon" "crossers" "[I") zl_X5_gatherCuts_21) (fun _ h9 => h9) rfl dX5_gatherCuts_68 ?_
          refine lv_iload_n hx hb dX5_gatherCuts_71 rfl (lv_at hl 3 rfl) ?_
          obtain ⟨n6, hg⟩ := Go_n hg
          refine zv_iald hx hb hK hP 4 1 rfl rfl (by decide) n6 dX5_gatherCuts_72 ?_
          refine zv_iconst hx hb dX5_gatherCuts_73 ?_
          refine zv_ixor hx hb dX5_gatherCuts_74 ?_
          refine zv_iand hx hb dX5_gatherCuts_75 ?_
          refine lv_iload hx hb dX5_gatherCuts_76 (lv_at hl 6 rfl) ?_
          refine zv_iconst hx hb dX5_gatherCuts_78 ?_
          refine zv_isub hx hb dX5_gatherCuts_79 ?_
          obtain ⟨o7, ho7, hg⟩ := Go_b hg
          refine zj_v (wr := []) (ws1 := [((t 0), .inr (5, [.int (zi t_corners), .ref (t 1), .ref (t 2), .ref (t 3), .ref (t 4), .ref (t 5), .ref (t 6), .int (zi t_lineCount), .int (zi (o7.1))])), ((t 1), .inl (κ 1, 27, .inl (zc t_lesser))), ((t 2), .inl (κ 1, 27, .inl (zc t_greater))), ((t 3), .inl (κ 1, 81, .inl (zc t_numberOfLine))), ((t 4), .inl (κ 1, 27, .inl (zc t_crossers))), ((t 5), .inl (κ 1, 9, .inl (zc t_linesAt))), ((t 6), .inl (κ 1, 429, .inl (zc (o7.2))))]) (va_runV (rest := []) ⟨hx, hb, hml, hown, hts⟩ (hrec H.size t_corners t_lineCount (o5.1) t_lesser t_greater t_numberOfLine t_crossers t_linesAt (o5.2) (i1 - (1 : Int)) (zor i2 (zshl (1 : Int) i1)) (zand (zand i3 (zxor (zshl (1 : Int) i1) (-1 : Int))) (zxor (zget t_crossers (Int.toNat i1)) (-1 : Int))) (i4 - (1 : Int)) o7 ho7) (cwV 4 hts gX5_gatherCuts_X5_gatherCuts rfl rfl rfl hv_X5_gatherCuts ⟨(by show 1 + d + 1 ≤ 1 + (d + 1); omega), (by show 8 + (7 + 11) + (21 + d * 26) ≤ 21 + (d + 1) * 26; omega)⟩) (zpreWV hK (hP.sub [0, 1, 2, 3, 4, 5, 6] rfl) (hD.sub [0, 1, 2, 3, 4, 5, 6] (by decide) rfl) 5 0 rfl rfl) rfl rfl hl.1 rfl (lv_room (Nat.le_of_ble_eq_true rfl)) dX5_gatherCuts_80 ⟨Nat.zero_le _, Nat.zero_le _⟩) hP hD hS hA [0, 1, 2, 3, 4, 5, 6] [] [0, 1, 2, 3, 4, 5, 6] rfl rfl (by decide) (by decide) rfl rfl (by decide) (fun H locs hP hD hS => ?_)
          exact (Go_s hg) _ _ _ _ hP hD hS dX5_gatherCuts_83
      · have hg := Go_f c9 hg
        exact (Go_s hg) _ _ _ _ hP hD hS dX5_gatherCuts_24
  · have hg := Go_t c12 hg
    refine lv_aload_n hx hb dX5_gatherCuts_5 rfl (lv_at hl 0 rfl) ?_
    refine lv_iload_n hx hb dX5_gatherCuts_6 rfl (lv_at hl 2 rfl) ?_
    obtain ⟨o11, ho11, hg⟩ := Go_b hg
    refine zj_v (wr := []) (ws1 := [((t 0), .inr (5, [.int (zi t_corners), .ref (t 1), .ref (t 2), .ref (t 3), .ref (t 4), .ref (t 5), .ref (t 6), .int (zi t_lineCount), .int (zi (o11.1))])), ((t 1), .inl (κ 1, 27, .inl (zc t_lesser))), ((t 2), .inl (κ 1, 27, .inl (zc t_greater))), ((t 3), .inl (κ 1, 81, .inl (zc t_numberOfLine))), ((t 4), .inl (κ 1, 27, .inl (zc t_crossers))), ((t 5), .inl (κ 1, 9, .inl (zc t_linesAt))), ((t 6), .inl (κ 1, 429, .inl (zc (o11.2))))]) (va_runV (rest := []) ⟨hx, hb, hml, hown, hts⟩ (zc_X5_keepCut l D κ t H.size t_corners t_lineCount t_cutCount t_lesser t_greater t_numberOfLine t_crossers t_linesAt t_cuts i2 o11 ho11) (cwV 1 hts gX5_gatherCuts_X5_keepCut rfl rfl rfl hv_X5_keepCut ⟨(by show 0 + 1 ≤ 1 + (d + 1); omega), (by show 8 + (2 + 11) + 0 ≤ 21 + (d + 1) * 26; omega)⟩) (zpreWV hK (hP.sub [0, 1, 2, 3, 4, 5, 6] rfl) (hD.sub [0, 1, 2, 3, 4, 5, 6] (by decide) rfl) 5 0 rfl rfl) rfl rfl hl.1 rfl (lv_room (Nat.le_of_ble_eq_true rfl)) dX5_gatherCuts_7 ⟨Nat.zero_le _, Nat.zero_le _⟩) hP hD hS hA [0, 1, 2, 3, 4, 5, 6] [] [0, 1, 2, 3, 4, 5, 6] rfl rfl (by decide) (by decide) rfl rfl (by decide) (fun H locs hP hD hS => ?_)
    exact (Go_s hg) _ _ _ _ hP hD hS dX5_gatherCuts_10
set_option maxHeartbeats 4000000 in
set_option maxRecDepth 100000 in
theorem zc_X5_gatherCuts (l : Launch) (D : va_G) (κ : Nat → ClassId) (t : Nat → Nat) (d : Nat) : ∀ (sz : Nat) (t_corners : Int) (t_lineCount : Int) (t_cutCount : Int) (t_lesser : Nat) (t_greater : Nat) (t_numberOfLine : Nat) (t_crossers : Nat) (t_linesAt : Nat) (t_cuts : Nat) (i1 : Int) (i2 : Int) (i3 : Int) (i4 : Int) (out : Int × Nat), zf_X5_gatherCuts d t_cutCount t_crossers t_cuts i1 i2 i3 i4 = some out → Met l yX5_gatherCuts wsX5_gatherCuts (zr_X5_gatherCuts d) (va_Pc [.ref (t 0), .int (zi i1), .int (zi i2), .int (zi i3), .int (zi i4)] (zW D κ ([((t 0), .inr (5, [.int (zi t_corners), .ref (t 1), .ref (t 2), .ref (t 3), .ref (t 4), .ref (t 5), .ref (t 6), .int (zi t_lineCount), .int (zi t_cutCount)])), ((t 1), .inl (κ 1, 27, .inl (zc t_lesser))), ((t 2), .inl (κ 1, 27, .inl (zc t_greater))), ((t 3), .inl (κ 1, 81, .inl (zc t_numberOfLine))), ((t 4), .inl (κ 1, 27, .inl (zc t_crossers))), ((t 5), .inl (κ 1, 9, .inl (zc t_linesAt))), ((t 6), .inl (κ 1, 429, .inl (zc t_cuts)))]) sz)) (va_Qv (fun (_ : Unit) => True) (fun _ => zB D κ (va_A ([((t 0), .inr (5, [.int (zi t_corners), .ref (t 1), .ref (t 2), .ref (t 3), .ref (t 4), .ref (t 5), .ref (t 6), .int (zi t_lineCount), .int (zi t_cutCount)])), ((t 1), .inl (κ 1, 27, .inl (zc t_lesser))), ((t 2), .inl (κ 1, 27, .inl (zc t_greater))), ((t 3), .inl (κ 1, 81, .inl (zc t_numberOfLine))), ((t 4), .inl (κ 1, 27, .inl (zc t_crossers))), ((t 5), .inl (κ 1, 9, .inl (zc t_linesAt))), ((t 6), .inl (κ 1, 429, .inl (zc t_cuts)))]) sz) ([((t 0), .inr (5, [.int (zi t_corners), .ref (t 1), .ref (t 2), .ref (t 3), .ref (t 4), .ref (t 5), .ref (t 6), .int (zi t_lineCount), .int (zi (out.1))])), ((t 1), .inl (κ 1, 27, .inl (zc t_lesser))), ((t 2), .inl (κ 1, 27, .inl (zc t_greater))), ((t 3), .inl (κ 1, 81, .inl (zc t_numberOfLine))), ((t 4), .inl (κ 1, 27, .inl (zc t_crossers))), ((t 5), .inl (κ 1, 9, .inl (zc t_linesAt))), ((t 6), .inl (κ 1, 429, .inl (zc (out.2))))])) (va_A ([((t 0), .inr (5, [.int (zi t_corners), .ref (t 1), .ref (t 2), .ref (t 3), .ref (t 4), .ref (t 5), .ref (t 6), .int (zi t_lineCount), .int (zi t_cutCount)])), ((t 1), .inl (κ 1, 27, .inl (zc t_lesser))), ((t 2), .inl (κ 1, 27, .inl (zc t_greater))), ((t 3), .inl (κ 1, 81, .inl (zc t_numberOfLine))), ((t 4), .inl (κ 1, 27, .inl (zc t_crossers))), ((t 5), .inl (κ 1, 9, .inl (zc t_linesAt))), ((t 6), .inl (κ 1, 429, .inl (zc t_cuts)))]) sz)) 0 0 (va_A ([((t 0), .inr (5, [.int (zi t_corners), .ref (t 1), .ref (t 2), .ref (t 3), .ref (t 4), .ref (t 5), .ref (t 6), .int (zi t_lineCount), .int (zi t_cutCount)])), ((t 1), .inl (κ 1, 27, .inl (zc t_lesser))), ((t 2), .inl (κ 1, 27, .inl (zc t_greater))), ((t 3), .inl (κ 1, 81, .inl (zc t_numberOfLine))), ((t 4), .inl (κ 1, 27, .inl (zc t_crossers))), ((t 5), .inl (κ 1, 9, .inl (zc t_linesAt))), ((t 6), .inl (κ 1, 429, .inl (zc t_cuts)))]) sz) := by
  induction d with
  | zero => intro sz t_corners t_lineCount t_cutCount t_lesser t_greater t_numberOfLine t_crossers t_linesAt t_cuts i1 i2 i3 i4 out h; cases h
  | succ d ih =>
    intro sz t_corners t_lineCount t_cutCount t_lesser t_greater t_numberOfLine t_crossers t_linesAt t_cuts i1 i2 i3 i4 out h
    have h : zh_X5_gatherCuts (zf_X5_gatherCuts d) t_cutCount t_crossers t_cuts i1 i2 i3 i4 = some out := h
    refine Met.ofW (cc := cX5_gatherCuts) (maxL := 7) (ret := none) (by decide +kernel) rfl ?_
    intro p e s m args below meth c s₁ B hml hv
    obtain ⟨rfl, hsz, hP, hK, hD0⟩ := hv
    have hx := B.exec
    have hb := B.bytes
    have hr := B.returns
    have hts := atoms_spec (ws := wsX5_gatherCuts) B.pre
    have hown : s.vm.findClass RX5 = some m.cls := findClass_of_methodNamed B.named
    have hlocks := B.notSynchronized
    subst hsz
    have hD := hD0.self (sz := s.heap.size)
    generalize hAe : va_A ([((t 0), .inr (5, [.int (zi t_corners), .ref (t 1), .ref (t 2), .ref (t 3), .ref (t 4), .ref (t 5), .ref (t 6), .int (zi t_lineCount), .int (zi t_cutCount)])), ((t 1), .inl (κ 1, 27, .inl (zc t_lesser))), ((t 2), .inl (κ 1, 27, .inl (zc t_greater))), ((t 3), .inl (κ 1, 81, .inl (zc t_numberOfLine))), ((t 4), .inl (κ 1, 27, .inl (zc t_crossers))), ((t 5), .inl (κ 1, 9, .inl (zc t_linesAt))), ((t 6), .inl (κ 1, 429, .inl (zc t_cuts)))]) s.heap.size = A at hD ⊢
    have hA : ∀ q : Nat, s.heap.size ≤ q → A q := fun q h => by rw [← hAe]; exact Or.inr h
    have hS : va_S A s.heap s.heap [] := va_S.rf
    have hl := lv_entry ([.ref (t 0), .int (zi i1), .int (zi i2), .int (zi i3), .int (zi i4)]) (n := 7) (Nat.le_of_ble_eq_true rfl)
    rw [lg_entry_eq]
    generalize (lg_sl ([.ref (t 0), .int (zi i1), .int (zi i2), .int (zi i3), .int (zi i4)]) ++ List.replicate (7 - (lg_sl ([.ref (t 0), .int (zi i1), .int (zi i2), .int (zi i3), .int (zi i4)])).length) Slot.unset).toArray = ls at hl ⊢
    have hl : lv_has ls 7 [(0, .ref (t 0)), (1, .int (zi i1)), (2, .int (zi i2)), (3, .int (zi i3)), (4, .int (zi i4))] := hl
    refine zs_X5_gatherCuts t t_corners t_lineCount t_cutCount t_lesser t_greater t_numberOfLine t_crossers t_linesAt t_cuts i1 i2 i3 i4 (zf_X5_gatherCuts d) ih hx hb hml hown hts hK hA s.heap [] ls hP hD hS hl ⟨out, h, ?_⟩
    exact fun H locs ls pc hP hD hS hd => W.vret hx hb hr (fun t ht hW => ⟨⟨(), rfl, trivial, by rw [ht]; exact hP, va_K.moved hW.alike hK, hD⟩, hS.F ht⟩) hS.2.2 hd
/-! DiamondRows$Polygon.corners()I -/
abbrev zr_X5_corners : Room := { frames := 0, cells := 0, slots := 0, locals := 0 }
noncomputable def zf_X5_corners (n : Nat)   : Option (Int) :=
  some ((n : Int))
theorem zi_X5_corners_X5 : ∀ w ∈ u_ws RX5 TX5 9, w ∈ wsX5_corners := fun w h => (List.mem_cons_of_mem _ (List.mem_append_right _ h))
theorem zl_X5_corners_30 : Cond.fieldLink RX5 30 "DiamondRows$Polygon" "corners" "I" ∈ wsX5_corners := (List.mem_cons_of_mem _ (List.mem_append_left _ (List.mem_of_getElem? (i := 0) rfl)))
def zQ_X5_corners (p : Program) (l : Launch) (e : Env) (s : State) (m : MethodId) (args : Array Value) (below : List Frame) (meth : Method) (c : Code) (Q : State → Prop) (H : Heap) (locs : List Loc)  (o : Int) : Prop := ∀ (ls : Array Slot) (pc : Nat), decode cX5_corners pc = .ok (.ireturn, 1) → W p l e zr_X5_corners s m args below meth c H locs 0 0 Q (F0 m pc ls [.int (zi o)])
set_option maxHeartbeats 4000000 in
set_option maxRecDepth 100000 in
theorem zs_X5_corners {p : Program} {l : Launch} {e : Env} {s : State} {m : MethodId} {args : Array Value} {below : List Frame} {meth : Method} {c : Code} {Q : State → Prop} {D : va_G} {κ : Nat → ClassId} {H : Heap} {locs : List Loc} (t : Nat → Nat) (n : Nat)   (hx : p.tables.exec = Jvm.exec) (hb : c.code = cX5_corners) (hml : c.maxLocals = 1) (hown : s.vm.findClass RX5 = some m.cls) (hts : ∀ w ∈ wsX5_corners, w.before args s = true) (hK : va_K D vwCl (zTY κ) s) (hP : va_P D vwCl (zpgc κ t n) H) (ls : Array Slot) (hl : lv_has ls 1 [(0, .ref (t 0))]) (hg : Go (zQ_X5_corners p l e s m args below meth c Q H locs) (zf_X5_corners n )) : W p l e zr_X5_corners s m args below meth c H locs 0 0 Q (F0 m 0 ls []) := by
  unfold zf_X5_corners at hg
  refine lv_aload_n hx hb dX5_corners_0 rfl (lv_at hl 0 rfl) ?_
  refine va_get (D := D) (ci := 5) (v := .int (zi (n : Int))) (C := RX5) (T := TX5) (N := 9) hx hb hts zi_X5_corners_X5 hown hK hP 0 rfl rfl 0 (by decide) (hts (.fieldLink RX5 30 "DiamondRows$Polygon" "corners" "I") zl_X5_corners_30) (fun _ h9 => h9) rfl dX5_corners_1 ?_
  exact (Go_s hg) _ _ dX5_corners_4
set_option maxHeartbeats 4000000 in
set_option maxRecDepth 100000 in
theorem zc_X5_corners (l : Launch) (D : va_G) (κ : Nat → ClassId) (t : Nat → Nat) (n : Nat)   (out : Int) (h : zf_X5_corners n  = some out) : Met l yX5_corners wsX5_corners zr_X5_corners (va_Pc [.ref (t 0)] (zR D κ (zpgc κ t n))) (vp_Si (fun x => x = zi out)) 0 0 (fun _ => False) := by
  refine Met.ofW (cc := cX5_corners) (maxL := 1) (ret := (some .int)) (by decide +kernel) rfl ?_
  intro p e s m args below meth c s₁ B hml hv
  obtain ⟨rfl, hP, hK⟩ := hv
  have hx := B.exec
  have hb := B.bytes
  have hr := B.returns
  have hts := atoms_spec (ws := wsX5_corners) B.pre
  have hown : s.vm.findClass RX5 = some m.cls := findClass_of_methodNamed B.named
  have hlocks := B.notSynchronized
  have hl := lv_entry ([.ref (t 0)]) (n := 1) (Nat.le_of_ble_eq_true rfl)
  rw [lg_entry_eq]
  generalize (lg_sl ([.ref (t 0)]) ++ List.replicate (1 - (lg_sl ([.ref (t 0)])).length) Slot.unset).toArray = ls at hl ⊢
  have hl : lv_has ls 1 [(0, .ref (t 0))] := hl
  refine zs_X5_corners t n   hx hb hml hown hts hK hP ls hl ⟨out, h, ?_⟩
  exact fun ls pc hd => W.iret hx hb hr (fun t ht hW => ⟨_, rfl, rfl, ht⟩) (fun _ h => by cases h) hd
/-! DiamondRows$Polygon.lineCount()I -/
abbrev zr_X5_lineCount : Room := { frames := 0, cells := 0, slots := 0, locals := 0 }
noncomputable def zf_X5_lineCount (n : Nat)   : Option (Int) :=
  some ((pg7 n))
theorem zi_X5_lineCount_X5 : ∀ w ∈ u_ws RX5 TX5 9, w ∈ wsX5_lineCount := fun w h => (List.mem_cons_of_mem _ (List.mem_append_right _ h))
theorem zl_X5_lineCount_40 : Cond.fieldLink RX5 40 "DiamondRows$Polygon" "lineCount" "I" ∈ wsX5_lineCount := (List.mem_cons_of_mem _ (List.mem_append_left _ (List.mem_of_getElem? (i := 0) rfl)))
def zQ_X5_lineCount (p : Program) (l : Launch) (e : Env) (s : State) (m : MethodId) (args : Array Value) (below : List Frame) (meth : Method) (c : Code) (Q : State → Prop) (H : Heap) (locs : List Loc)  (o : Int) : Prop := ∀ (ls : Array Slot) (pc : Nat), decode cX5_lineCount pc = .ok (.ireturn, 1) → W p l e zr_X5_lineCount s m args below meth c H locs 0 0 Q (F0 m pc ls [.int (zi o)])
set_option maxHeartbeats 4000000 in
set_option maxRecDepth 100000 in
theorem zs_X5_lineCount {p : Program} {l : Launch} {e : Env} {s : State} {m : MethodId} {args : Array Value} {below : List Frame} {meth : Method} {c : Code} {Q : State → Prop} {D : va_G} {κ : Nat → ClassId} {H : Heap} {locs : List Loc} (t : Nat → Nat) (n : Nat)   (hx : p.tables.exec = Jvm.exec) (hb : c.code = cX5_lineCount) (hml : c.maxLocals = 1) (hown : s.vm.findClass RX5 = some m.cls) (hts : ∀ w ∈ wsX5_lineCount, w.before args s = true) (hK : va_K D vwCl (zTY κ) s) (hP : va_P D vwCl (zpgc κ t n) H) (ls : Array Slot) (hl : lv_has ls 1 [(0, .ref (t 0))]) (hg : Go (zQ_X5_lineCount p l e s m args below meth c Q H locs) (zf_X5_lineCount n )) : W p l e zr_X5_lineCount s m args below meth c H locs 0 0 Q (F0 m 0 ls []) := by
  unfold zf_X5_lineCount at hg
  refine lv_aload_n hx hb dX5_lineCount_0 rfl (lv_at hl 0 rfl) ?_
  refine va_get (D := D) (ci := 5) (v := .int (zi (pg7 n))) (C := RX5) (T := TX5) (N := 9) hx hb hts zi_X5_lineCount_X5 hown hK hP 0 rfl rfl 7 (by decide) (hts (.fieldLink RX5 40 "DiamondRows$Polygon" "lineCount" "I") zl_X5_lineCount_40) (fun _ h9 => h9) rfl dX5_lineCount_1 ?_
  exact (Go_s hg) _ _ dX5_lineCount_4
set_option maxHeartbeats 4000000 in
set_option maxRecDepth 100000 in
theorem zc_X5_lineCount (l : Launch) (D : va_G) (κ : Nat → ClassId) (t : Nat → Nat) (n : Nat)   (out : Int) (h : zf_X5_lineCount n  = some out) : Met l yX5_lineCount wsX5_lineCount zr_X5_lineCount (va_Pc [.ref (t 0)] (zR D κ (zpgc κ t n))) (vp_Si (fun x => x = zi out)) 0 0 (fun _ => False) := by
  refine Met.ofW (cc := cX5_lineCount) (maxL := 1) (ret := (some .int)) (by decide +kernel) rfl ?_
  intro p e s m args below meth c s₁ B hml hv
  obtain ⟨rfl, hP, hK⟩ := hv
  have hx := B.exec
  have hb := B.bytes
  have hr := B.returns
  have hts := atoms_spec (ws := wsX5_lineCount) B.pre
  have hown : s.vm.findClass RX5 = some m.cls := findClass_of_methodNamed B.named
  have hlocks := B.notSynchronized
  have hl := lv_entry ([.ref (t 0)]) (n := 1) (Nat.le_of_ble_eq_true rfl)
  rw [lg_entry_eq]
  generalize (lg_sl ([.ref (t 0)]) ++ List.replicate (1 - (lg_sl ([.ref (t 0)])).length) Slot.unset).toArray = ls at hl ⊢
  have hl : lv_has ls 1 [(0, .ref (t 0))] := hl
  refine zs_X5_lineCount t n   hx hb hml hown hts hK hP ls hl ⟨out, h, ?_⟩
  exact fun ls pc hd => W.iret hx hb hr (fun t ht hW => ⟨_, rfl, rfl, ht⟩) (fun _ h => by cases h) hd
/-! DiamondRows$Polygon.cutCount()I -/
abbrev zr_X5_cutCount : Room := { frames := 0, cells := 0, slots := 0, locals := 0 }
noncomputable def zf_X5_cutCount (n : Nat)   : Option (Int) :=
  some ((pg8 n))
theorem zi_X5_cutCount_X5 : ∀ w ∈ u_ws RX5 TX5 9, w ∈ wsX5_cutCount := fun w h => (List.mem_cons_of_mem _ (List.mem_append_right _ h))
theorem zl_X5_cutCount_65 : Cond.fieldLink RX5 65 "DiamondRows$Polygon" "cutCount" "I" ∈ wsX5_cutCount := (List.mem_cons_of_mem _ (List.mem_append_left _ (List.mem_of_getElem? (i := 0) rfl)))
def zQ_X5_cutCount (p : Program) (l : Launch) (e : Env) (s : State) (m : MethodId) (args : Array Value) (below : List Frame) (meth : Method) (c : Code) (Q : State → Prop) (H : Heap) (locs : List Loc)  (o : Int) : Prop := ∀ (ls : Array Slot) (pc : Nat), decode cX5_cutCount pc = .ok (.ireturn, 1) → W p l e zr_X5_cutCount s m args below meth c H locs 0 0 Q (F0 m pc ls [.int (zi o)])
set_option maxHeartbeats 4000000 in
set_option maxRecDepth 100000 in
theorem zs_X5_cutCount {p : Program} {l : Launch} {e : Env} {s : State} {m : MethodId} {args : Array Value} {below : List Frame} {meth : Method} {c : Code} {Q : State → Prop} {D : va_G} {κ : Nat → ClassId} {H : Heap} {locs : List Loc} (t : Nat → Nat) (n : Nat)   (hx : p.tables.exec = Jvm.exec) (hb : c.code = cX5_cutCount) (hml : c.maxLocals = 1) (hown : s.vm.findClass RX5 = some m.cls) (hts : ∀ w ∈ wsX5_cutCount, w.before args s = true) (hK : va_K D vwCl (zTY κ) s) (hP : va_P D vwCl (zpgc κ t n) H) (ls : Array Slot) (hl : lv_has ls 1 [(0, .ref (t 0))]) (hg : Go (zQ_X5_cutCount p l e s m args below meth c Q H locs) (zf_X5_cutCount n )) : W p l e zr_X5_cutCount s m args below meth c H locs 0 0 Q (F0 m 0 ls []) := by
  unfold zf_X5_cutCount at hg
  refine lv_aload_n hx hb dX5_cutCount_0 rfl (lv_at hl 0 rfl) ?_
  refine va_get (D := D) (ci := 5) (v := .int (zi (pg8 n))) (C := RX5) (T := TX5) (N := 9) hx hb hts zi_X5_cutCount_X5 hown hK hP 0 rfl rfl 8 (by decide) (hts (.fieldLink RX5 65 "DiamondRows$Polygon" "cutCount" "I") zl_X5_cutCount_65) (fun _ h9 => h9) rfl dX5_cutCount_1 ?_
  exact (Go_s hg) _ _ dX5_cutCount_4
set_option maxHeartbeats 4000000 in
set_option maxRecDepth 100000 in
theorem zc_X5_cutCount (l : Launch) (D : va_G) (κ : Nat → ClassId) (t : Nat → Nat) (n : Nat)   (out : Int) (h : zf_X5_cutCount n  = some out) : Met l yX5_cutCount wsX5_cutCount zr_X5_cutCount (va_Pc [.ref (t 0)] (zR D κ (zpgc κ t n))) (vp_Si (fun x => x = zi out)) 0 0 (fun _ => False) := by
  refine Met.ofW (cc := cX5_cutCount) (maxL := 1) (ret := (some .int)) (by decide +kernel) rfl ?_
  intro p e s m args below meth c s₁ B hml hv
  obtain ⟨rfl, hP, hK⟩ := hv
  have hx := B.exec
  have hb := B.bytes
  have hr := B.returns
  have hts := atoms_spec (ws := wsX5_cutCount) B.pre
  have hown : s.vm.findClass RX5 = some m.cls := findClass_of_methodNamed B.named
  have hlocks := B.notSynchronized
  have hl := lv_entry ([.ref (t 0)]) (n := 1) (Nat.le_of_ble_eq_true rfl)
  rw [lg_entry_eq]
  generalize (lg_sl ([.ref (t 0)]) ++ List.replicate (1 - (lg_sl ([.ref (t 0)])).length) Slot.unset).toArray = ls at hl ⊢
  have hl : lv_has ls 1 [(0, .ref (t 0))] := hl
  refine zs_X5_cutCount t n   hx hb hml hown hts hK hP ls hl ⟨out, h, ?_⟩
  exact fun ls pc hd => W.iret hx hb hr (fun t ht hW => ⟨_, rfl, rfl, ht⟩) (fun _ h => by cases h) hd
/-! DiamondRows$Polygon.hasCorner(I)Z -/
abbrev zr_X5_hasCorner : Room := { frames := 0, cells := 0, slots := 0, locals := 0 }
noncomputable def zf_X5_hasCorner (n : Nat)  (i1 : Int) : Option (Bool) :=
  if zout i1 then none else
  if i1 < 0 then
  some (false)
  else
  if zout (n : Int) then none else
  if (n : Int) ≤ i1 then
  some (false)
  else
  some (true)
theorem zi_X5_hasCorner_X5 : ∀ w ∈ u_ws RX5 TX5 9, w ∈ wsX5_hasCorner := fun w h => (List.mem_cons_of_mem _ (List.mem_append_right _ h))
theorem zl_X5_hasCorner_30 : Cond.fieldLink RX5 30 "DiamondRows$Polygon" "corners" "I" ∈ wsX5_hasCorner := (List.mem_cons_of_mem _ (List.mem_append_left _ (List.mem_of_getElem? (i := 0) rfl)))
def zQ_X5_hasCorner (p : Program) (l : Launch) (e : Env) (s : State) (m : MethodId) (args : Array Value) (below : List Frame) (meth : Method) (c : Code) (Q : State → Prop) (H : Heap) (locs : List Loc)  (o : Bool) : Prop := ∀ (ls : Array Slot) (pc : Nat), decode cX5_hasCorner pc = .ok (.ireturn, 1) → W p l e zr_X5_hasCorner s m args below meth c H locs 0 0 Q (F0 m pc ls [.int (zi (bI o))])
set_option maxHeartbeats 4000000 in
set_option maxRecDepth 100000 in
theorem zs_X5_hasCorner {p : Program} {l : Launch} {e : Env} {s : State} {m : MethodId} {args : Array Value} {below : List Frame} {meth : Method} {c : Code} {Q : State → Prop} {D : va_G} {κ : Nat → ClassId} {H : Heap} {locs : List Loc} (t : Nat → Nat) (n : Nat)  (i1 : Int) (hx : p.tables.exec = Jvm.exec) (hb : c.code = cX5_hasCorner) (hml : c.maxLocals = 2) (hown : s.vm.findClass RX5 = some m.cls) (hts : ∀ w ∈ wsX5_hasCorner, w.before args s = true) (hK : va_K D vwCl (zTY κ) s) (hP : va_P D vwCl (zpgc κ t n) H) (ls : Array Slot) (hl : lv_has ls 2 [(0, .ref (t 0)), (1, .int (zi i1))]) (hg : Go (zQ_X5_hasCorner p l e s m args below meth c Q H locs) (zf_X5_hasCorner n i1)) : W p l e zr_X5_hasCorner s m args below meth c H locs 0 0 Q (F0 m 0 ls []) := by
  unfold zf_X5_hasCorner at hg
  refine lv_iload_n hx hb dX5_hasCorner_0 rfl (lv_at hl 1 rfl) ?_
  obtain ⟨b1, hg⟩ := Go_n hg
  refine zv_if_lt (tgt := 16) hx hb dX5_hasCorner_1 (by decide) b1 (fun c4 => ?_) (fun c4 => ?_)
  · have hg := Go_t c4 hg
    refine zv_iconst hx hb dX5_hasCorner_16 ?_
    exact (Go_s hg) _ _ dX5_hasCorner_17
  · have hg := Go_f c4 hg
    refine lv_iload_n hx hb dX5_hasCorner_4 rfl (lv_at hl 1 rfl) ?_
    refine lv_aload_n hx hb dX5_hasCorner_5 rfl (lv_at hl 0 rfl) ?_
    refine va_get (D := D) (ci := 5) (v := .int (zi (n : Int))) (C := RX5) (T := TX5) (N := 9) hx hb hts zi_X5_hasCorner_X5 hown hK hP 0 rfl rfl 0 (by decide) (hts (.fieldLink RX5 30 "DiamondRows$Polygon" "corners" "I") zl_X5_hasCorner_30) (fun _ h9 => h9) rfl dX5_hasCorner_6 ?_
    obtain ⟨b2, hg⟩ := Go_n hg
    refine zv_icmp_ge (tgt := 16) hx hb dX5_hasCorner_9 (by decide) b1 b2 (fun c3 => ?_) (fun c3 => ?_)
    · have hg := Go_t c3 hg
      refine zv_iconst hx hb dX5_hasCorner_16 ?_
      exact (Go_s hg) _ _ dX5_hasCorner_17
    · have hg := Go_f c3 hg
      refine zv_iconst hx hb dX5_hasCorner_12 ?_
      refine lv_goto (tgt := 17) hx hb dX5_hasCorner_13 (by decide) ?_
      exact (Go_s hg) _ _ dX5_hasCorner_17
set_option maxHeartbeats 4000000 in
set_option maxRecDepth 100000 in
theorem zc_X5_hasCorner (l : Launch) (D : va_G) (κ : Nat → ClassId) (t : Nat → Nat) (n : Nat)  (i1 : Int) (out : Bool) (h : zf_X5_hasCorner n i1 = some out) : Met l yX5_hasCorner wsX5_hasCorner zr_X5_hasCorner (va_Pc [.ref (t 0), .int (zi i1)] (zR D κ (zpgc κ t n))) (vp_Si (fun x => x = zi (bI out))) 0 0 (fun _ => False) := by
  refine Met.ofW (cc := cX5_hasCorner) (maxL := 2) (ret := (some .boolean)) (by decide +kernel) rfl ?_
  intro p e s m args below meth c s₁ B hml hv
  obtain ⟨rfl, hP, hK⟩ := hv
  have hx := B.exec
  have hb := B.bytes
  have hr := B.returns
  have hts := atoms_spec (ws := wsX5_hasCorner) B.pre
  have hown : s.vm.findClass RX5 = some m.cls := findClass_of_methodNamed B.named
  have hlocks := B.notSynchronized
  have hl := lv_entry ([.ref (t 0), .int (zi i1)]) (n := 2) (Nat.le_of_ble_eq_true rfl)
  rw [lg_entry_eq]
  generalize (lg_sl ([.ref (t 0), .int (zi i1)]) ++ List.replicate (2 - (lg_sl ([.ref (t 0), .int (zi i1)])).length) Slot.unset).toArray = ls at hl ⊢
  have hl : lv_has ls 2 [(0, .ref (t 0)), (1, .int (zi i1))] := hl
  refine zs_X5_hasCorner t n  i1 hx hb hml hown hts hK hP ls hl ⟨out, h, ?_⟩
  exact fun ls pc hd => W.zret hx hb hr (bI_nar _) (fun t ht hW => ⟨_, rfl, rfl, ht⟩) (fun _ h => by cases h) hd
/-! DiamondRows$Polygon.hasCut(I)Z -/
abbrev zr_X5_hasCut : Room := { frames := 0, cells := 0, slots := 0, locals := 0 }
noncomputable def zf_X5_hasCut (n : Nat)  (i1 : Int) : Option (Bool) :=
  if zout i1 then none else
  if i1 < 0 then
  some (false)
  else
  if zout (pg8 n) then none else
  if (pg8 n) ≤ i1 then
  some (false)
  else
  some (true)
theorem zi_X5_hasCut_X5 : ∀ w ∈ u_ws RX5 TX5 9, w ∈ wsX5_hasCut := fun w h => (List.mem_cons_of_mem _ (List.mem_append_right _ h))
theorem zl_X5_hasCut_65 : Cond.fieldLink RX5 65 "DiamondRows$Polygon" "cutCount" "I" ∈ wsX5_hasCut := (List.mem_cons_of_mem _ (List.mem_append_left _ (List.mem_of_getElem? (i := 0) rfl)))
def zQ_X5_hasCut (p : Program) (l : Launch) (e : Env) (s : State) (m : MethodId) (args : Array Value) (below : List Frame) (meth : Method) (c : Code) (Q : State → Prop) (H : Heap) (locs : List Loc)  (o : Bool) : Prop := ∀ (ls : Array Slot) (pc : Nat), decode cX5_hasCut pc = .ok (.ireturn, 1) → W p l e zr_X5_hasCut s m args below meth c H locs 0 0 Q (F0 m pc ls [.int (zi (bI o))])
set_option maxHeartbeats 4000000 in
set_option maxRecDepth 100000 in
theorem zs_X5_hasCut {p : Program} {l : Launch} {e : Env} {s : State} {m : MethodId} {args : Array Value} {below : List Frame} {meth : Method} {c : Code} {Q : State → Prop} {D : va_G} {κ : Nat → ClassId} {H : Heap} {locs : List Loc} (t : Nat → Nat) (n : Nat)  (i1 : Int) (hx : p.tables.exec = Jvm.exec) (hb : c.code = cX5_hasCut) (hml : c.maxLocals = 2) (hown : s.vm.findClass RX5 = some m.cls) (hts : ∀ w ∈ wsX5_hasCut, w.before args s = true) (hK : va_K D vwCl (zTY κ) s) (hP : va_P D vwCl (zpgc κ t n) H) (ls : Array Slot) (hl : lv_has ls 2 [(0, .ref (t 0)), (1, .int (zi i1))]) (hg : Go (zQ_X5_hasCut p l e s m args below meth c Q H locs) (zf_X5_hasCut n i1)) : W p l e zr_X5_hasCut s m args below meth c H locs 0 0 Q (F0 m 0 ls []) := by
  unfold zf_X5_hasCut at hg
  refine lv_iload_n hx hb dX5_hasCut_0 rfl (lv_at hl 1 rfl) ?_
  obtain ⟨b1, hg⟩ := Go_n hg
  refine zv_if_lt (tgt := 16) hx hb dX5_hasCut_1 (by decide) b1 (fun c4 => ?_) (fun c4 => ?_)
  · have hg := Go_t c4 hg
    refine zv_iconst hx hb dX5_hasCut_16 ?_
    exact (Go_s hg) _ _ dX5_hasCut_17
  · have hg := Go_f c4 hg
    refine lv_iload_n hx hb dX5_hasCut_4 rfl (lv_at hl 1 rfl) ?_
    refine lv_aload_n hx hb dX5_hasCut_5 rfl (lv_at hl 0 rfl) ?_
    refine va_get (D := D) (ci := 5) (v := .int (zi (pg8 n))) (C := RX5) (T := TX5) (N := 9) hx hb hts zi_X5_hasCut_X5 hown hK hP 0 rfl rfl 8 (by decide) (hts (.fieldLink RX5 65 "DiamondRows$Polygon" "cutCount" "I") zl_X5_hasCut_65) (fun _ h9 => h9) rfl dX5_hasCut_6 ?_
    obtain ⟨b2, hg⟩ := Go_n hg
    refine zv_icmp_ge (tgt := 16) hx hb dX5_hasCut_9 (by decide) b1 b2 (fun c3 => ?_) (fun c3 => ?_)
    · have hg := Go_t c3 hg
      refine zv_iconst hx hb dX5_hasCut_16 ?_
      exact (Go_s hg) _ _ dX5_hasCut_17
    · have hg := Go_f c3 hg
      refine zv_iconst hx hb dX5_hasCut_12 ?_
      refine lv_goto (tgt := 17) hx hb dX5_hasCut_13 (by decide) ?_
      exact (Go_s hg) _ _ dX5_hasCut_17
set_option maxHeartbeats 4000000 in
set_option maxRecDepth 100000 in
theorem zc_X5_hasCut (l : Launch) (D : va_G) (κ : Nat → ClassId) (t : Nat → Nat) (n : Nat)  (i1 : Int) (out : Bool) (h : zf_X5_hasCut n i1 = some out) : Met l yX5_hasCut wsX5_hasCut zr_X5_hasCut (va_Pc [.ref (t 0), .int (zi i1)] (zR D κ (zpgc κ t n))) (vp_Si (fun x => x = zi (bI out))) 0 0 (fun _ => False) := by
  refine Met.ofW (cc := cX5_hasCut) (maxL := 2) (ret := (some .boolean)) (by decide +kernel) rfl ?_
  intro p e s m args below meth c s₁ B hml hv
  obtain ⟨rfl, hP, hK⟩ := hv
  have hx := B.exec
  have hb := B.bytes
  have hr := B.returns
  have hts := atoms_spec (ws := wsX5_hasCut) B.pre
  have hown : s.vm.findClass RX5 = some m.cls := findClass_of_methodNamed B.named
  have hlocks := B.notSynchronized
  have hl := lv_entry ([.ref (t 0), .int (zi i1)]) (n := 2) (Nat.le_of_ble_eq_true rfl)
  rw [lg_entry_eq]
  generalize (lg_sl ([.ref (t 0), .int (zi i1)]) ++ List.replicate (2 - (lg_sl ([.ref (t 0), .int (zi i1)])).length) Slot.unset).toArray = ls at hl ⊢
  have hl : lv_has ls 2 [(0, .ref (t 0)), (1, .int (zi i1))] := hl
  refine zs_X5_hasCut t n  i1 hx hb hml hown hts hK hP ls hl ⟨out, h, ?_⟩
  exact fun ls pc hd => W.zret hx hb hr (bI_nar _) (fun t ht hW => ⟨_, rfl, rfl, ht⟩) (fun _ h => by cases h) hd
/-! DiamondRows$Polygon.cutAt(I)I -/
abbrev zr_X5_cutAt : Room := { frames := 1, cells := 0, slots := 0, locals := 21 }
noncomputable def zf_X5_cutAt (n : Nat)  (i1 : Int) : Option (Int) :=
  Option.bind (zf_X5_hasCut n i1) (fun o1 =>
  if o1 = false then
  some ((-1 : Int))
  else
  if i1 < 0 ∨ 429 ≤ i1 then none else
  some ((zget (pg6 n) (Int.toNat i1))))
theorem zi_X5_cutAt_X5 : ∀ w ∈ u_ws RX5 TX5 9, w ∈ wsX5_cutAt := fun w h => (List.mem_cons_of_mem _ (List.mem_append_right _ (List.mem_append_left _ h)))
theorem zl_X5_cutAt_27 : Cond.fieldLink RX5 27 "DiamondRows$Polygon" "cuts" "[I" ∈ wsX5_cutAt := (List.mem_cons_of_mem _ (List.mem_append_left _ (List.mem_of_getElem? (i := 0) rfl)))
def zQ_X5_cutAt (p : Program) (l : Launch) (e : Env) (s : State) (m : MethodId) (args : Array Value) (below : List Frame) (meth : Method) (c : Code) (Q : State → Prop) (H : Heap) (locs : List Loc)  (o : Int) : Prop := ∀ (ls : Array Slot) (pc : Nat), decode cX5_cutAt pc = .ok (.ireturn, 1) → W p l e zr_X5_cutAt s m args below meth c H locs 0 0 Q (F0 m pc ls [.int (zi o)])
set_option maxHeartbeats 4000000 in
set_option maxRecDepth 100000 in
theorem zs_X5_cutAt {p : Program} {l : Launch} {e : Env} {s : State} {m : MethodId} {args : Array Value} {below : List Frame} {meth : Method} {c : Code} {Q : State → Prop} {D : va_G} {κ : Nat → ClassId} {H : Heap} {locs : List Loc} (t : Nat → Nat) (n : Nat)  (i1 : Int) (hx : p.tables.exec = Jvm.exec) (hb : c.code = cX5_cutAt) (hml : c.maxLocals = 2) (hown : s.vm.findClass RX5 = some m.cls) (hts : ∀ w ∈ wsX5_cutAt, w.before args s = true) (hK : va_K D vwCl (zTY κ) s) (hP : va_P D vwCl (zpgc κ t n) H) (ls : Array Slot) (hl : lv_has ls 2 [(0, .ref (t 0)), (1, .int (zi i1))]) (hg : Go (zQ_X5_cutAt p l e s m args below meth c Q H locs) (zf_X5_cutAt n i1)) : W p l e zr_X5_cutAt s m args below meth c H locs 0 0 Q (F0 m 0 ls []) := by
  unfold zf_X5_cutAt at hg
  refine lv_aload_n hx hb dX5_cutAt_0 rfl (lv_at hl 0 rfl) ?_
  refine lv_iload_n hx hb dX5_cutAt_1 rfl (lv_at hl 1 rfl) ?_
  obtain ⟨o1, ho1, hg⟩ := Go_b hg
  refine zc_vi (rest := []) ⟨hx, hb, hml, hown, hts⟩ (zc_X5_hasCut l D κ t n i1 o1 ho1) (cwV 1 hts gX5_cutAt_X5_hasCut rfl rfl rfl hv_X5_hasCut ⟨Nat.le_of_ble_eq_true rfl, Nat.le_of_ble_eq_true rfl⟩) (zpreV hK (hP.sub [0, 1, 2, 3, 4, 5, 6] rfl) 5 0 rfl rfl) rfl hl.1 rfl (Nat.le_of_ble_eq_true rfl) dX5_cutAt_2 ⟨Nat.zero_le _, Nat.zero_le _⟩ ?_
  refine zv_ifb_eq (tgt := 17) hx hb dX5_cutAt_5 (by decide) (fun c3 => ?_) (fun c3 => ?_)
  · have hg := Go_t c3 hg
    refine zv_iconst hx hb dX5_cutAt_17 ?_
    exact (Go_s hg) _ _ dX5_cutAt_18
  · have hg := Go_f c3 hg
    refine lv_aload_n hx hb dX5_cutAt_8 rfl (lv_at hl 0 rfl) ?_
    refine va_get (D := D) (ci := 5) (v := .ref (t 6)) (C := RX5) (T := TX5) (N := 9) hx hb hts zi_X5_cutAt_X5 hown hK hP 0 rfl rfl 6 (by decide) (hts (.fieldLink RX5 27 "DiamondRows$Polygon" "cuts" "[I") zl_X5_cutAt_27) (fun _ h9 => h9) rfl dX5_cutAt_9 ?_
    refine lv_iload_n hx hb dX5_cutAt_12 rfl (lv_at hl 1 rfl) ?_
    obtain ⟨n2, hg⟩ := Go_n hg
    refine zv_iald hx hb hK hP 6 1 rfl rfl (by decide) n2 dX5_cutAt_13 ?_
    refine lv_goto (tgt := 18) hx hb dX5_cutAt_14 (by decide) ?_
    exact (Go_s hg) _ _ dX5_cutAt_18
set_option maxHeartbeats 4000000 in
set_option maxRecDepth 100000 in
theorem zc_X5_cutAt (l : Launch) (D : va_G) (κ : Nat → ClassId) (t : Nat → Nat) (n : Nat)  (i1 : Int) (out : Int) (h : zf_X5_cutAt n i1 = some out) : Met l yX5_cutAt wsX5_cutAt zr_X5_cutAt (va_Pc [.ref (t 0), .int (zi i1)] (zR D κ (zpgc κ t n))) (vp_Si (fun x => x = zi out)) 0 0 (fun _ => False) := by
  refine Met.ofW (cc := cX5_cutAt) (maxL := 2) (ret := (some .int)) (by decide +kernel) rfl ?_
  intro p e s m args below meth c s₁ B hml hv
  obtain ⟨rfl, hP, hK⟩ := hv
  have hx := B.exec
  have hb := B.bytes
  have hr := B.returns
  have hts := atoms_spec (ws := wsX5_cutAt) B.pre
  have hown : s.vm.findClass RX5 = some m.cls := findClass_of_methodNamed B.named
  have hlocks := B.notSynchronized
  have hl := lv_entry ([.ref (t 0), .int (zi i1)]) (n := 2) (Nat.le_of_ble_eq_true rfl)
  rw [lg_entry_eq]
  generalize (lg_sl ([.ref (t 0), .int (zi i1)]) ++ List.replicate (2 - (lg_sl ([.ref (t 0), .int (zi i1)])).length) Slot.unset).toArray = ls at hl ⊢
  have hl : lv_has ls 2 [(0, .ref (t 0)), (1, .int (zi i1))] := hl
  refine zs_X5_cutAt t n  i1 hx hb hml hown hts hK hP ls hl ⟨out, h, ?_⟩
  exact fun ls pc hd => W.iret hx hb hr (fun t ht hW => ⟨_, rfl, rfl, ht⟩) (fun _ h => by cases h) hd
/-! DiamondRows$Polygon.numberOf(I)I -/
abbrev zr_X5_numberOf : Room := { frames := 0, cells := 0, slots := 0, locals := 0 }
abbrev zS_X5_numberOf : Type := Nat × Int × Int × Int × Int
abbrev zO_X5_numberOf : Type := Int
noncomputable def zg_X5_numberOf_0 (n : Nat)  (i1 : Int) (i2 : Int) (i3 : Int) (i4 : Int) : Option (zO_X5_numberOf ⊕ zS_X5_numberOf) :=
  some (.inr (12, i1, (0 : Int), ((pg8 n) - (1 : Int)), (0 : Int)))
noncomputable def zg_X5_numberOf_12 (n : Nat)  (i1 : Int) (i2 : Int) (i3 : Int) (i4 : Int) : Option (zO_X5_numberOf ⊕ zS_X5_numberOf) :=
  if zout i4 then none else
  if (429 : Int) ≤ i4 then
  some (.inl ((-1 : Int)))
  else
  if zout i2 then none else
  if zout i3 then none else
  if i3 < i2 then
  some (.inl ((-1 : Int)))
  else
  if (zshr (i2 + i3) (1 : Int)) < 0 ∨ 429 ≤ (zshr (i2 + i3) (1 : Int)) then none else
  if zout i1 then none else
  if (zget (pg6 n) (Int.toNat (zshr (i2 + i3) (1 : Int)))) = i1 then
  some (.inl ((zshr (i2 + i3) (1 : Int))))
  else
  if i1 ≤ (zget (pg6 n) (Int.toNat (zshr (i2 + i3) (1 : Int)))) then
  some (.inr (12, i1, i2, ((zshr (i2 + i3) (1 : Int)) - (1 : Int)), (i4 + (1 : Int))))
  else
  some (.inr (12, i1, ((zshr (i2 + i3) (1 : Int)) + (1 : Int)), i3, (i4 + (1 : Int))))
noncomputable def zg_X5_numberOf (n : Nat)  (st : zS_X5_numberOf) : Option (zO_X5_numberOf ⊕ zS_X5_numberOf) := match st with
  | (lab, i1, i2, i3, i4) => if lab = 0 then zg_X5_numberOf_0 n i1 i2 i3 i4 else if lab = 12 then zg_X5_numberOf_12 n i1 i2 i3 i4 else none
noncomputable def zf_X5_numberOf (n : Nat)  (i1 : Int) : Option (Int) := jrun (zg_X5_numberOf n) jfuel (0, i1, 0, 0, 0)
theorem zi_X5_numberOf_X5 : ∀ w ∈ u_ws RX5 TX5 9, w ∈ wsX5_numberOf := fun w h => (List.mem_cons_of_mem _ (List.mem_append_right _ h))
theorem zl_X5_numberOf_27 : Cond.fieldLink RX5 27 "DiamondRows$Polygon" "cuts" "[I" ∈ wsX5_numberOf := (List.mem_cons_of_mem _ (List.mem_append_left _ (List.mem_of_getElem? (i := 1) rfl)))
theorem zl_X5_numberOf_65 : Cond.fieldLink RX5 65 "DiamondRows$Polygon" "cutCount" "I" ∈ wsX5_numberOf := (List.mem_cons_of_mem _ (List.mem_append_left _ (List.mem_of_getElem? (i := 0) rfl)))
def zQ_X5_numberOf (p : Program) (l : Launch) (e : Env) (s : State) (m : MethodId) (args : Array Value) (below : List Frame) (meth : Method) (c : Code) (Q : State → Prop) (H : Heap) (locs : List Loc)  (o : Int) : Prop := ∀ (ls : Array Slot) (pc : Nat), decode cX5_numberOf pc = .ok (.ireturn, 1) → W p l e zr_X5_numberOf s m args below meth c H locs 0 0 Q (F0 m pc ls [.int (zi o)])
def zA_X5_numberOf_0 (p : Program) (l : Launch) (e : Env) (s : State) (m : MethodId) (args : Array Value) (below : List Frame) (meth : Method) (c : Code) (Q : State → Prop) (H : Heap) (locs : List Loc) (t : Nat → Nat) (n : Nat)  (i1 : Int) (i2 : Int) (i3 : Int) (i4 : Int) : Prop := ∀ ls : Array Slot, lv_has ls 6 [(0, .ref (t 0)), (1, .int (zi i1))] → W p l e zr_X5_numberOf s m args below meth c H locs 0 0 Q (F0 m 0 ls [])
def zA_X5_numberOf_12 (p : Program) (l : Launch) (e : Env) (s : State) (m : MethodId) (args : Array Value) (below : List Frame) (meth : Method) (c : Code) (Q : State → Prop) (H : Heap) (locs : List Loc) (t : Nat → Nat) (n : Nat)  (i1 : Int) (i2 : Int) (i3 : Int) (i4 : Int) : Prop := ∀ ls : Array Slot, lv_has ls 6 [(0, .ref (t 0)), (1, .int (zi i1)), (2, .int (zi i2)), (3, .int (zi i3)), (4, .int (zi i4))] → W p l e zr_X5_numberOf s m args below meth c H locs 0 0 Q (F0 m 12 ls [])
def zA_X5_numberOf (p : Program) (l : Launch) (e : Env) (s : State) (m : MethodId) (args : Array Value) (below : List Frame) (meth : Method) (c : Code) (Q : State → Prop) (H : Heap) (locs : List Loc) (t : Nat → Nat) (n : Nat)  (st : zS_X5_numberOf) : Prop := match st with
  | (lab, i1, i2, i3, i4) => if lab = 0 then zA_X5_numberOf_0 p l e s m args below meth c Q H locs t n  i1 i2 i3 i4 else if lab = 12 then zA_X5_numberOf_12 p l e s m args below meth c Q H locs t n  i1 i2 i3 i4 else True
set_option maxHeartbeats 4000000 in
set_option maxRecDepth 100000 in
theorem zs_X5_numberOf_0 {p : Program} {l : Launch} {e : Env} {s : State} {m : MethodId} {args : Array Value} {below : List Frame} {meth : Method} {c : Code} {Q : State → Prop} {D : va_G} {κ : Nat → ClassId} {H : Heap} {locs : List Loc} (t : Nat → Nat) (n : Nat)   (hx : p.tables.exec = Jvm.exec) (hb : c.code = cX5_numberOf) (hml : c.maxLocals = 6) (hown : s.vm.findClass RX5 = some m.cls) (hts : ∀ w ∈ wsX5_numberOf, w.before args s = true) (hK : va_K D vwCl (zTY κ) s) (hP : va_P D vwCl (zpgc κ t n) H) (i1 : Int) (i2 : Int) (i3 : Int) (i4 : Int) (hg : Go (GoE (zA_X5_numberOf p l e s m args below meth c Q H locs t n ) (zQ_X5_numberOf p l e s m args below meth c Q H locs)) (zg_X5_numberOf_0 n i1 i2 i3 i4)) : zA_X5_numberOf_0 p l e s m args below meth c Q H locs t n  i1 i2 i3 i4 := by
  intro ls hl
  unfold zg_X5_numberOf_0 at hg
  refine zv_iconst hx hb dX5_numberOf_0 ?_
  refine lv_istore_n (lv' := [(2, .int (zi (0 : Int))), (0, .ref (t 0)), (1, .int (zi i1))]) hx hb dX5_numberOf_1 rfl hl (by decide) rfl (fun ls hl => ?_)
  refine lv_aload_n hx hb dX5_numberOf_2 rfl (lv_at hl 1 rfl) ?_
  refine va_get (D := D) (ci := 5) (v := .int (zi (pg8 n))) (C := RX5) (T := TX5) (N := 9) hx hb hts zi_X5_numberOf_X5 hown hK hP 0 rfl rfl 8 (by decide) (hts (.fieldLink RX5 65 "DiamondRows$Polygon" "cutCount" "I") zl_X5_numberOf_65) (fun _ h9 => h9) rfl dX5_numberOf_3 ?_
  refine zv_iconst hx hb dX5_numberOf_6 ?_
  refine zv_isub hx hb dX5_numberOf_7 ?_
  refine lv_istore_n (lv' := [(3, .int (zi ((pg8 n) - (1 : Int)))), (2, .int (zi (0 : Int))), (0, .ref (t 0)), (1, .int (zi i1))]) hx hb dX5_numberOf_8 rfl hl (by decide) rfl (fun ls hl => ?_)
  refine zv_iconst hx hb dX5_numberOf_9 ?_
  refine lv_istore (lv' := [(4, .int (zi (0 : Int))), (3, .int (zi ((pg8 n) - (1 : Int)))), (2, .int (zi (0 : Int))), (0, .ref (t 0)), (1, .int (zi i1))]) hx hb dX5_numberOf_10 hl (by decide) rfl (fun ls hl => ?_)
  exact (Go_s hg) ls (lv_sub hl [3, 4, 2, 1, 0] rfl)
set_option maxHeartbeats 4000000 in
set_option maxRecDepth 100000 in
theorem zs_X5_numberOf_12 {p : Program} {l : Launch} {e : Env} {s : State} {m : MethodId} {args : Array Value} {below : List Frame} {meth : Method} {c : Code} {Q : State → Prop} {D : va_G} {κ : Nat → ClassId} {H : Heap} {locs : List Loc} (t : Nat → Nat) (n : Nat)   (hx : p.tables.exec = Jvm.exec) (hb : c.code = cX5_numberOf) (hml : c.maxLocals = 6) (hown : s.vm.findClass RX5 = some m.cls) (hts : ∀ w ∈ wsX5_numberOf, w.before args s = true) (hK : va_K D vwCl (zTY κ) s) (hP : va_P D vwCl (zpgc κ t n) H) (i1 : Int) (i2 : Int) (i3 : Int) (i4 : Int) (hg : Go (GoE (zA_X5_numberOf p l e s m args below meth c Q H locs t n ) (zQ_X5_numberOf p l e s m args below meth c Q H locs)) (zg_X5_numberOf_12 n i1 i2 i3 i4)) : zA_X5_numberOf_12 p l e s m args below meth c Q H locs t n  i1 i2 i3 i4 := by
  intro ls hl
  unfold zg_X5_numberOf_12 at hg
  refine lv_iload hx hb dX5_numberOf_12 (lv_at hl 4 rfl) ?_
  refine zv_sipush hx hb dX5_numberOf_14 (by decide) ?_
  obtain ⟨b1, hg⟩ := Go_n hg
  refine zv_icmp_ge (tgt := 76) hx hb dX5_numberOf_17 (by decide) b1 (by decide) (fun c9 => ?_) (fun c9 => ?_)
  · have hg := Go_t c9 hg
    refine zv_iconst hx hb dX5_numberOf_76 ?_
    exact (Go_s hg) _ _ dX5_numberOf_77
  · have hg := Go_f c9 hg
    refine lv_iload_n hx hb dX5_numberOf_20 rfl (lv_at hl 2 rfl) ?_
    refine lv_iload_n hx hb dX5_numberOf_21 rfl (lv_at hl 3 rfl) ?_
    obtain ⟨b2, hg⟩ := Go_n hg
    obtain ⟨b3, hg⟩ := Go_n hg
    refine zv_icmp_gt (tgt := 76) hx hb dX5_numberOf_22 (by decide) b2 b3 (fun c8 => ?_) (fun c8 => ?_)
    · have hg := Go_t c8 hg
      refine zv_iconst hx hb dX5_numberOf_76 ?_
      exact (Go_s hg) _ _ dX5_numberOf_77
    · have hg := Go_f c8 hg
      refine lv_iload_n hx hb dX5_numberOf_25 rfl (lv_at hl 2 rfl) ?_
      refine lv_iload_n hx hb dX5_numberOf_26 rfl (lv_at hl 3 rfl) ?_
      refine zv_iadd hx hb dX5_numberOf_27 ?_
      refine zv_iconst hx hb dX5_numberOf_28 ?_
      refine zv_ishr hx hb dX5_numberOf_29 ?_
      refine lv_istore (lv' := [(5, .int (zi (zshr (i2 + i3) (1 : Int)))), (0, .ref (t 0)), (1, .int (zi i1)), (2, .int (zi i2)), (3, .int (zi i3)), (4, .int (zi i4))]) hx hb dX5_numberOf_30 hl (by decide) rfl (fun ls hl => ?_)
      refine lv_aload_n hx hb dX5_numberOf_32 rfl (lv_at hl 1 rfl) ?_
      refine va_get (D := D) (ci := 5) (v := .ref (t 6)) (C := RX5) (T := TX5) (N := 9) hx hb hts zi_X5_numberOf_X5 hown hK hP 0 rfl rfl 6 (by decide) (hts (.fieldLink RX5 27 "DiamondRows$Polygon" "cuts" "[I") zl_X5_numberOf_27) (fun _ h9 => h9) rfl dX5_numberOf_33 ?_
      refine lv_iload hx hb dX5_numberOf_36 (lv_at hl 0 rfl) ?_
      obtain ⟨n4, hg⟩ := Go_n hg
      refine zv_iald hx hb hK hP 6 1 rfl rfl (by decide) n4 dX5_numberOf_38 ?_
      refine lv_iload_n hx hb dX5_numberOf_39 rfl (lv_at hl 2 rfl) ?_
      obtain ⟨b5, hg⟩ := Go_n hg
      refine zv_icmp_ne (tgt := 46) hx hb dX5_numberOf_40 (by decide) (zget_in _ _) b5 (fun c7 => ?_) (fun c7 => ?_)
      · have hg := Go_f c7 hg
        refine lv_aload_n hx hb dX5_numberOf_46 rfl (lv_at hl 1 rfl) ?_
        refine va_get (D := D) (ci := 5) (v := .ref (t 6)) (C := RX5) (T := TX5) (N := 9) hx hb hts zi_X5_numberOf_X5 hown hK hP 0 rfl rfl 6 (by decide) (hts (.fieldLink RX5 27 "DiamondRows$Polygon" "cuts" "[I") zl_X5_numberOf_27) (fun _ h9 => h9) rfl dX5_numberOf_47 ?_
        refine lv_iload hx hb dX5_numberOf_50 (lv_at hl 0 rfl) ?_
        refine zv_iald hx hb hK hP 6 1 rfl rfl (by decide) n4 dX5_numberOf_52 ?_
        refine lv_iload_n hx hb dX5_numberOf_53 rfl (lv_at hl 2 rfl) ?_
        refine zv_icmp_ge (tgt := 65) hx hb dX5_numberOf_54 (by decide) (zget_in _ _) b5 (fun c6 => ?_) (fun c6 => ?_)
        · have hg := Go_t c6 hg
          refine lv_iload hx hb dX5_numberOf_65 (lv_at hl 0 rfl) ?_
          refine zv_iconst hx hb dX5_numberOf_67 ?_
          refine zv_isub hx hb dX5_numberOf_68 ?_
          refine lv_istore_n (lv' := [(3, .int (zi ((zshr (i2 + i3) (1 : Int)) - (1 : Int)))), (5, .int (zi (zshr (i2 + i3) (1 : Int)))), (0, .ref (t 0)), (1, .int (zi i1)), (2, .int (zi i2)), (4, .int (zi i4))]) hx hb dX5_numberOf_69 rfl hl (by decide) rfl (fun ls hl => ?_)
          refine lv_iinc (v := zi (i4 + (1 : Int))) (lv' := [(4, .int (zi (i4 + (1 : Int)))), (3, .int (zi ((zshr (i2 + i3) (1 : Int)) - (1 : Int)))), (5, .int (zi (zshr (i2 + i3) (1 : Int)))), (0, .ref (t 0)), (1, .int (zi i1)), (2, .int (zi i2))]) hx hb dX5_numberOf_70 hl (k := 5) rfl (zi_add i4 _) (by decide) rfl (fun ls hl => ?_)
          refine lv_goto (tgt := 12) hx hb dX5_numberOf_73 (by decide) ?_
          exact (Go_s hg) ls (lv_sub hl [3, 4, 5, 1, 0] rfl)
        · have hg := Go_f c6 hg
          refine lv_iload hx hb dX5_numberOf_57 (lv_at hl 0 rfl) ?_
          refine zv_iconst hx hb dX5_numberOf_59 ?_
          refine zv_iadd hx hb dX5_numberOf_60 ?_
          refine lv_istore_n (lv' := [(2, .int (zi ((zshr (i2 + i3) (1 : Int)) + (1 : Int)))), (5, .int (zi (zshr (i2 + i3) (1 : Int)))), (0, .ref (t 0)), (1, .int (zi i1)), (3, .int (zi i3)), (4, .int (zi i4))]) hx hb dX5_numberOf_61 rfl hl (by decide) rfl (fun ls hl => ?_)
          refine lv_goto (tgt := 70) hx hb dX5_numberOf_62 (by decide) ?_
          refine lv_iinc (v := zi (i4 + (1 : Int))) (lv' := [(4, .int (zi (i4 + (1 : Int)))), (2, .int (zi ((zshr (i2 + i3) (1 : Int)) + (1 : Int)))), (5, .int (zi (zshr (i2 + i3) (1 : Int)))), (0, .ref (t 0)), (1, .int (zi i1)), (3, .int (zi i3))]) hx hb dX5_numberOf_70 hl (k := 5) rfl (zi_add i4 _) (by decide) rfl (fun ls hl => ?_)
          refine lv_goto (tgt := 12) hx hb dX5_numberOf_73 (by decide) ?_
          exact (Go_s hg) ls (lv_sub hl [3, 4, 1, 5, 0] rfl)
      · have hg := Go_t c7 hg
        refine lv_iload hx hb dX5_numberOf_43 (lv_at hl 0 rfl) ?_
        exact (Go_s hg) _ _ dX5_numberOf_45
set_option maxHeartbeats 4000000 in
set_option maxRecDepth 100000 in
theorem zw_X5_numberOf {p : Program} {l : Launch} {e : Env} {s : State} {m : MethodId} {args : Array Value} {below : List Frame} {meth : Method} {c : Code} {Q : State → Prop} {D : va_G} {κ : Nat → ClassId} {H : Heap} {locs : List Loc} (t : Nat → Nat) (n : Nat)   (i1 : Int) (hx : p.tables.exec = Jvm.exec) (hb : c.code = cX5_numberOf) (hml : c.maxLocals = 6) (hown : s.vm.findClass RX5 = some m.cls) (hts : ∀ w ∈ wsX5_numberOf, w.before args s = true) (hK : va_K D vwCl (zTY κ) s) (hP : va_P D vwCl (zpgc κ t n) H) (out : Int) (h : zf_X5_numberOf n i1 = some out) (hq : zQ_X5_numberOf p l e s m args below meth c Q H locs out) : zA_X5_numberOf_0 p l e s m args below meth c Q H locs t n  i1 0 0 0 := by
  have hst : ∀ st : zS_X5_numberOf, Go (GoE (zA_X5_numberOf p l e s m args below meth c Q H locs t n ) (zQ_X5_numberOf p l e s m args below meth c Q H locs)) (zg_X5_numberOf n st) → zA_X5_numberOf p l e s m args below meth c Q H locs t n  st := by
    intro st hg
    obtain ⟨lab, i1, i2, i3, i4⟩ := st
    by_cases h0 : lab = 0
    · subst h0
      exact zs_X5_numberOf_0 t n   hx hb hml hown hts hK hP i1 i2 i3 i4 hg
    by_cases h12 : lab = 12
    · subst h12
      exact zs_X5_numberOf_12 t n   hx hb hml hown hts hK hP i1 i2 i3 i4 hg
    have hz : zg_X5_numberOf n (lab, i1, i2, i3, i4) = none := by simp [zg_X5_numberOf, h0, h12]
    rw [hz] at hg
    obtain ⟨a, h1, -⟩ := hg
    cases h1
  exact jwalk (At := zA_X5_numberOf p l e s m args below meth c Q H locs t n ) (Ret := zQ_X5_numberOf p l e s m args below meth c Q H locs) hst _ _ _ h hq
set_option maxHeartbeats 4000000 in
set_option maxRecDepth 100000 in
theorem zc_X5_numberOf (l : Launch) (D : va_G) (κ : Nat → ClassId) (t : Nat → Nat) (n : Nat)  (i1 : Int) (out : Int) (h : zf_X5_numberOf n i1 = some out) : Met l yX5_numberOf wsX5_numberOf zr_X5_numberOf (va_Pc [.ref (t 0), .int (zi i1)] (zR D κ (zpgc κ t n))) (vp_Si (fun x => x = zi out)) 0 0 (fun _ => False) := by
  refine Met.ofW (cc := cX5_numberOf) (maxL := 6) (ret := (some .int)) (by decide +kernel) rfl ?_
  intro p e s m args below meth c s₁ B hml hv
  obtain ⟨rfl, hP, hK⟩ := hv
  have hx := B.exec
  have hb := B.bytes
  have hr := B.returns
  have hts := atoms_spec (ws := wsX5_numberOf) B.pre
  have hown : s.vm.findClass RX5 = some m.cls := findClass_of_methodNamed B.named
  have hlocks := B.notSynchronized
  have hl := lv_entry ([.ref (t 0), .int (zi i1)]) (n := 6) (Nat.le_of_ble_eq_true rfl)
  rw [lg_entry_eq]
  generalize (lg_sl ([.ref (t 0), .int (zi i1)]) ++ List.replicate (6 - (lg_sl ([.ref (t 0), .int (zi i1)])).length) Slot.unset).toArray = ls at hl ⊢
  have hl : lv_has ls 6 [(0, .ref (t 0)), (1, .int (zi i1))] := hl
  refine (zw_X5_numberOf t n   i1 hx hb hml hown hts hK hP out h ?_) ls (lv_sub hl [0, 1] rfl)
  exact fun ls pc hd => W.iret hx hb hr (fun t ht hW => ⟨_, rfl, rfl, ht⟩) (fun _ h => by cases h) hd
/-! DiamondRows$Polygon.areNext(II)Z -/
abbrev zr_X5_areNext : Room := { frames := 1, cells := 0, slots := 0, locals := 30 }
noncomputable def zf_X5_areNext (n : Nat)  (i1 : Int) (i2 : Int) : Option (Bool) :=
  if zout (i1 - i2) then none else
  if zout (zabs (i1 - i2)) then none else
  if (zabs (i1 - i2)) = (1 : Int) then
  some (true)
  else
  if zout ((n : Int) - (1 : Int)) then none else
  if (zabs (i1 - i2)) = ((n : Int) - (1 : Int)) then
  some (true)
  else
  some (false)
theorem zi_X5_areNext_X5 : ∀ w ∈ u_ws RX5 TX5 9, w ∈ wsX5_areNext := fun w h => (List.mem_cons_of_mem _ (List.mem_append_right _ h))
theorem zl_X5_areNext_30 : Cond.fieldLink RX5 30 "DiamondRows$Polygon" "corners" "I" ∈ wsX5_areNext := (List.mem_cons_of_mem _ (List.mem_append_left _ (List.mem_of_getElem? (i := 4) rfl)))
def zQ_X5_areNext (p : Program) (l : Launch) (e : Env) (s : State) (m : MethodId) (args : Array Value) (below : List Frame) (meth : Method) (c : Code) (Q : State → Prop) (H : Heap) (locs : List Loc)  (o : Bool) : Prop := ∀ (ls : Array Slot) (pc : Nat), decode cX5_areNext pc = .ok (.ireturn, 1) → W p l e zr_X5_areNext s m args below meth c H locs 0 0 Q (F0 m pc ls [.int (zi (bI o))])
set_option maxHeartbeats 4000000 in
set_option maxRecDepth 100000 in
theorem zs_X5_areNext {p : Program} {l : Launch} {e : Env} {s : State} {m : MethodId} {args : Array Value} {below : List Frame} {meth : Method} {c : Code} {Q : State → Prop} {D : va_G} {κ : Nat → ClassId} {H : Heap} {locs : List Loc} (t : Nat → Nat) (n : Nat)  (i1 : Int) (i2 : Int) (hx : p.tables.exec = Jvm.exec) (hb : c.code = cX5_areNext) (hml : c.maxLocals = 4) (hown : s.vm.findClass RX5 = some m.cls) (hts : ∀ w ∈ wsX5_areNext, w.before args s = true) (hK : va_K D vwCl (zTY κ) s) (hP : va_P D vwCl (zpgc κ t n) H) (ls : Array Slot) (hl : lv_has ls 4 [(0, .ref (t 0)), (1, .int (zi i1)), (2, .int (zi i2))]) (hg : Go (zQ_X5_areNext p l e s m args below meth c Q H locs) (zf_X5_areNext n i1 i2)) : W p l e zr_X5_areNext s m args below meth c H locs 0 0 Q (F0 m 0 ls []) := by
  unfold zf_X5_areNext at hg
  refine lv_iload_n hx hb dX5_areNext_0 rfl (lv_at hl 1 rfl) ?_
  refine lv_iload_n hx hb dX5_areNext_1 rfl (lv_at hl 2 rfl) ?_
  refine zv_isub hx hb dX5_areNext_2 ?_
  obtain ⟨b1, hg⟩ := Go_n hg
  refine va_mabs hx hb (by rw [hml]; exact hl.1.symm) hown (hts (.methodLink RX5 72 Lib.Math.abs.name) (List.mem_cons_of_mem _ (List.mem_append_left _ (List.mem_of_getElem? (i := 0) rfl)))) (hts (.static Lib.Math.abs.name) (List.mem_cons_of_mem _ (List.mem_append_left _ (List.mem_of_getElem? (i := 1) rfl)))) (hts (.initialized "java/lang/Math") (List.mem_cons_of_mem _ (List.mem_append_left _ (List.mem_of_getElem? (i := 2) rfl)))) (hts (.code Lib.Math.abs.name Lib.Math.abs.code 1 (some .int)) (List.mem_cons_of_mem _ (List.mem_append_left _ (List.mem_of_getElem? (i := 3) rfl)))) (Nat.le_of_ble_eq_true rfl) (Nat.le_of_ble_eq_true rfl) (Nat.zero_le _) (Nat.zero_le _) dX5_areNext_3 ?_
  rw [zi_abs b1]
  refine lv_istore_n (lv' := [(3, .int (zi (zabs (i1 - i2)))), (0, .ref (t 0)), (1, .int (zi i1)), (2, .int (zi i2))]) hx hb dX5_areNext_6 rfl hl (by decide) rfl (fun ls hl => ?_)
  refine lv_iload_n hx hb dX5_areNext_7 rfl (lv_at hl 0 rfl) ?_
  refine zv_iconst hx hb dX5_areNext_8 ?_
  obtain ⟨b2, hg⟩ := Go_n hg
  refine zv_icmp_eq (tgt := 22) hx hb dX5_areNext_9 (by decide) b2 (by decide) (fun c5 => ?_) (fun c5 => ?_)
  · have hg := Go_t c5 hg
    refine zv_iconst hx hb dX5_areNext_22 ?_
    refine lv_goto (tgt := 27) hx hb dX5_areNext_23 (by decide) ?_
    exact (Go_s hg) _ _ dX5_areNext_27
  · have hg := Go_f c5 hg
    refine lv_iload_n hx hb dX5_areNext_12 rfl (lv_at hl 0 rfl) ?_
    refine lv_aload_n hx hb dX5_areNext_13 rfl (lv_at hl 1 rfl) ?_
    refine va_get (D := D) (ci := 5) (v := .int (zi (n : Int))) (C := RX5) (T := TX5) (N := 9) hx hb hts zi_X5_areNext_X5 hown hK hP 0 rfl rfl 0 (by decide) (hts (.fieldLink RX5 30 "DiamondRows$Polygon" "corners" "I") zl_X5_areNext_30) (fun _ h9 => h9) rfl dX5_areNext_14 ?_
    refine zv_iconst hx hb dX5_areNext_17 ?_
    refine zv_isub hx hb dX5_areNext_18 ?_
    obtain ⟨b3, hg⟩ := Go_n hg
    refine zv_icmp_ne (tgt := 26) hx hb dX5_areNext_19 (by decide) b2 b3 (fun c4 => ?_) (fun c4 => ?_)
    · have hg := Go_f c4 hg
      refine zv_iconst hx hb dX5_areNext_26 ?_
      exact (Go_s hg) _ _ dX5_areNext_27
    · have hg := Go_t c4 hg
      refine zv_iconst hx hb dX5_areNext_22 ?_
      refine lv_goto (tgt := 27) hx hb dX5_areNext_23 (by decide) ?_
      exact (Go_s hg) _ _ dX5_areNext_27
set_option maxHeartbeats 4000000 in
set_option maxRecDepth 100000 in
theorem zc_X5_areNext (l : Launch) (D : va_G) (κ : Nat → ClassId) (t : Nat → Nat) (n : Nat)  (i1 : Int) (i2 : Int) (out : Bool) (h : zf_X5_areNext n i1 i2 = some out) : Met l yX5_areNext wsX5_areNext zr_X5_areNext (va_Pc [.ref (t 0), .int (zi i1), .int (zi i2)] (zR D κ (zpgc κ t n))) (vp_Si (fun x => x = zi (bI out))) 0 0 (fun _ => False) := by
  refine Met.ofW (cc := cX5_areNext) (maxL := 4) (ret := (some .boolean)) (by decide +kernel) rfl ?_
  intro p e s m args below meth c s₁ B hml hv
  obtain ⟨rfl, hP, hK⟩ := hv
  have hx := B.exec
  have hb := B.bytes
  have hr := B.returns
  have hts := atoms_spec (ws := wsX5_areNext) B.pre
  have hown : s.vm.findClass RX5 = some m.cls := findClass_of_methodNamed B.named
  have hlocks := B.notSynchronized
  have hl := lv_entry ([.ref (t 0), .int (zi i1), .int (zi i2)]) (n := 4) (Nat.le_of_ble_eq_true rfl)
  rw [lg_entry_eq]
  generalize (lg_sl ([.ref (t 0), .int (zi i1), .int (zi i2)]) ++ List.replicate (4 - (lg_sl ([.ref (t 0), .int (zi i1), .int (zi i2)])).length) Slot.unset).toArray = ls at hl ⊢
  have hl : lv_has ls 4 [(0, .ref (t 0)), (1, .int (zi i1)), (2, .int (zi i2))] := hl
  refine zs_X5_areNext t n  i1 i2 hx hb hml hown hts hK hP ls hl ⟨out, h, ?_⟩
  exact fun ls pc hd => W.zret hx hb hr (bI_nar _) (fun t ht hW => ⟨_, rfl, rfl, ht⟩) (fun _ h => by cases h) hd
/-! DiamondRows$Polygon.lineOf(II)I -/
abbrev zr_X5_lineOf : Room := { frames := 1, cells := 0, slots := 0, locals := 21 }
noncomputable def zf_X5_lineOf (n : Nat)  (i1 : Int) (i2 : Int) : Option (Int) :=
  Option.bind (zf_X5_hasCorner n i1) (fun o1 =>
  if o1 = false then
  some ((-1 : Int))
  else
  Option.bind (zf_X5_hasCorner n i2) (fun o2 =>
  if o2 = false then
  some ((-1 : Int))
  else
  if ((i1 * (9 : Int)) + i2) < 0 ∨ 81 ≤ ((i1 * (9 : Int)) + i2) then none else
  some ((zget (pg3 n) (Int.toNat ((i1 * (9 : Int)) + i2))))))
theorem zi_X5_lineOf_X5 : ∀ w ∈ u_ws RX5 TX5 9, w ∈ wsX5_lineOf := fun w h => (List.mem_cons_of_mem _ (List.mem_append_right _ (List.mem_append_left _ h)))
theorem zl_X5_lineOf_18 : Cond.fieldLink RX5 18 "DiamondRows$Polygon" "numberOfLine" "[I" ∈ wsX5_lineOf := (List.mem_cons_of_mem _ (List.mem_append_left _ (List.mem_of_getElem? (i := 0) rfl)))
def zQ_X5_lineOf (p : Program) (l : Launch) (e : Env) (s : State) (m : MethodId) (args : Array Value) (below : List Frame) (meth : Method) (c : Code) (Q : State → Prop) (H : Heap) (locs : List Loc)  (o : Int) : Prop := ∀ (ls : Array Slot) (pc : Nat), decode cX5_lineOf pc = .ok (.ireturn, 1) → W p l e zr_X5_lineOf s m args below meth c H locs 0 0 Q (F0 m pc ls [.int (zi o)])
set_option maxHeartbeats 4000000 in
set_option maxRecDepth 100000 in
theorem zs_X5_lineOf {p : Program} {l : Launch} {e : Env} {s : State} {m : MethodId} {args : Array Value} {below : List Frame} {meth : Method} {c : Code} {Q : State → Prop} {D : va_G} {κ : Nat → ClassId} {H : Heap} {locs : List Loc} (t : Nat → Nat) (n : Nat)  (i1 : Int) (i2 : Int) (hx : p.tables.exec = Jvm.exec) (hb : c.code = cX5_lineOf) (hml : c.maxLocals = 3) (hown : s.vm.findClass RX5 = some m.cls) (hts : ∀ w ∈ wsX5_lineOf, w.before args s = true) (hK : va_K D vwCl (zTY κ) s) (hP : va_P D vwCl (zpgc κ t n) H) (ls : Array Slot) (hl : lv_has ls 3 [(0, .ref (t 0)), (1, .int (zi i1)), (2, .int (zi i2))]) (hg : Go (zQ_X5_lineOf p l e s m args below meth c Q H locs) (zf_X5_lineOf n i1 i2)) : W p l e zr_X5_lineOf s m args below meth c H locs 0 0 Q (F0 m 0 ls []) := by
  unfold zf_X5_lineOf at hg
  refine lv_aload_n hx hb dX5_lineOf_0 rfl (lv_at hl 0 rfl) ?_
  refine lv_iload_n hx hb dX5_lineOf_1 rfl (lv_at hl 1 rfl) ?_
  obtain ⟨o1, ho1, hg⟩ := Go_b hg
  refine zc_vi (rest := []) ⟨hx, hb, hml, hown, hts⟩ (zc_X5_hasCorner l D κ t n i1 o1 ho1) (cwV 1 hts gX5_lineOf_X5_hasCorner rfl rfl rfl hv_X5_hasCorner ⟨Nat.le_of_ble_eq_true rfl, Nat.le_of_ble_eq_true rfl⟩) (zpreV hK (hP.sub [0, 1, 2, 3, 4, 5, 6] rfl) 5 0 rfl rfl) rfl hl.1 rfl (Nat.le_of_ble_eq_true rfl) dX5_lineOf_2 ⟨Nat.zero_le _, Nat.zero_le _⟩ ?_
  refine zv_ifb_eq (tgt := 30) hx hb dX5_lineOf_5 (by decide) (fun c5 => ?_) (fun c5 => ?_)
  · have hg := Go_t c5 hg
    refine zv_iconst hx hb dX5_lineOf_30 ?_
    exact (Go_s hg) _ _ dX5_lineOf_31
  · have hg := Go_f c5 hg
    refine lv_aload_n hx hb dX5_lineOf_8 rfl (lv_at hl 0 rfl) ?_
    refine lv_iload_n hx hb dX5_lineOf_9 rfl (lv_at hl 2 rfl) ?_
    obtain ⟨o2, ho2, hg⟩ := Go_b hg
    refine zc_vi (rest := []) ⟨hx, hb, hml, hown, hts⟩ (zc_X5_hasCorner l D κ t n i2 o2 ho2) (cwV 1 hts gX5_lineOf_X5_hasCorner rfl rfl rfl hv_X5_hasCorner ⟨Nat.le_of_ble_eq_true rfl, Nat.le_of_ble_eq_true rfl⟩) (zpreV hK (hP.sub [0, 1, 2, 3, 4, 5, 6] rfl) 5 0 rfl rfl) rfl hl.1 rfl (Nat.le_of_ble_eq_true rfl) dX5_lineOf_10 ⟨Nat.zero_le _, Nat.zero_le _⟩ ?_
    refine zv_ifb_eq (tgt := 30) hx hb dX5_lineOf_13 (by decide) (fun c4 => ?_) (fun c4 => ?_)
    · have hg := Go_t c4 hg
      refine zv_iconst hx hb dX5_lineOf_30 ?_
      exact (Go_s hg) _ _ dX5_lineOf_31
    · have hg := Go_f c4 hg
      refine lv_aload_n hx hb dX5_lineOf_16 rfl (lv_at hl 0 rfl) ?_
      refine va_get (D := D) (ci := 5) (v := .ref (t 3)) (C := RX5) (T := TX5) (N := 9) hx hb hts zi_X5_lineOf_X5 hown hK hP 0 rfl rfl 3 (by decide) (hts (.fieldLink RX5 18 "DiamondRows$Polygon" "numberOfLine" "[I") zl_X5_lineOf_18) (fun _ h9 => h9) rfl dX5_lineOf_17 ?_
      refine lv_iload_n hx hb dX5_lineOf_20 rfl (lv_at hl 1 rfl) ?_
      refine zv_bipush hx hb dX5_lineOf_21 (by decide) ?_
      refine zv_imul hx hb dX5_lineOf_23 ?_
      refine lv_iload_n hx hb dX5_lineOf_24 rfl (lv_at hl 2 rfl) ?_
      refine zv_iadd hx hb dX5_lineOf_25 ?_
      obtain ⟨n3, hg⟩ := Go_n hg
      refine zv_iald hx hb hK hP 3 1 rfl rfl (by decide) n3 dX5_lineOf_26 ?_
      refine lv_goto (tgt := 31) hx hb dX5_lineOf_27 (by decide) ?_
      exact (Go_s hg) _ _ dX5_lineOf_31
set_option maxHeartbeats 4000000 in
set_option maxRecDepth 100000 in
theorem zc_X5_lineOf (l : Launch) (D : va_G) (κ : Nat → ClassId) (t : Nat → Nat) (n : Nat)  (i1 : Int) (i2 : Int) (out : Int) (h : zf_X5_lineOf n i1 i2 = some out) : Met l yX5_lineOf wsX5_lineOf zr_X5_lineOf (va_Pc [.ref (t 0), .int (zi i1), .int (zi i2)] (zR D κ (zpgc κ t n))) (vp_Si (fun x => x = zi out)) 0 0 (fun _ => False) := by
  refine Met.ofW (cc := cX5_lineOf) (maxL := 3) (ret := (some .int)) (by decide +kernel) rfl ?_
  intro p e s m args below meth c s₁ B hml hv
  obtain ⟨rfl, hP, hK⟩ := hv
  have hx := B.exec
  have hb := B.bytes
  have hr := B.returns
  have hts := atoms_spec (ws := wsX5_lineOf) B.pre
  have hown : s.vm.findClass RX5 = some m.cls := findClass_of_methodNamed B.named
  have hlocks := B.notSynchronized
  have hl := lv_entry ([.ref (t 0), .int (zi i1), .int (zi i2)]) (n := 3) (Nat.le_of_ble_eq_true rfl)
  rw [lg_entry_eq]
  generalize (lg_sl ([.ref (t 0), .int (zi i1), .int (zi i2)]) ++ List.replicate (3 - (lg_sl ([.ref (t 0), .int (zi i1), .int (zi i2)])).length) Slot.unset).toArray = ls at hl ⊢
  have hl : lv_has ls 3 [(0, .ref (t 0)), (1, .int (zi i1)), (2, .int (zi i2))] := hl
  refine zs_X5_lineOf t n  i1 i2 hx hb hml hown hts hK hP ls hl ⟨out, h, ?_⟩
  exact fun ls pc hd => W.iret hx hb hr (fun t ht hW => ⟨_, rfl, rfl, ht⟩) (fun _ h => by cases h) hd
/-! DiamondRows$Polygon.hasLine(I)Z -/
abbrev zr_X5_hasLine : Room := { frames := 0, cells := 0, slots := 0, locals := 0 }
noncomputable def zf_X5_hasLine (n : Nat)  (i1 : Int) : Option (Bool) :=
  if zout i1 then none else
  if i1 < 0 then
  some (false)
  else
  if zout (pg7 n) then none else
  if (pg7 n) ≤ i1 then
  some (false)
  else
  some (true)
theorem zi_X5_hasLine_X5 : ∀ w ∈ u_ws RX5 TX5 9, w ∈ wsX5_hasLine := fun w h => (List.mem_cons_of_mem _ (List.mem_append_right _ h))
theorem zl_X5_hasLine_40 : Cond.fieldLink RX5 40 "DiamondRows$Polygon" "lineCount" "I" ∈ wsX5_hasLine := (List.mem_cons_of_mem _ (List.mem_append_left _ (List.mem_of_getElem? (i := 0) rfl)))
def zQ_X5_hasLine (p : Program) (l : Launch) (e : Env) (s : State) (m : MethodId) (args : Array Value) (below : List Frame) (meth : Method) (c : Code) (Q : State → Prop) (H : Heap) (locs : List Loc)  (o : Bool) : Prop := ∀ (ls : Array Slot) (pc : Nat), decode cX5_hasLine pc = .ok (.ireturn, 1) → W p l e zr_X5_hasLine s m args below meth c H locs 0 0 Q (F0 m pc ls [.int (zi (bI o))])
set_option maxHeartbeats 4000000 in
set_option maxRecDepth 100000 in
theorem zs_X5_hasLine {p : Program} {l : Launch} {e : Env} {s : State} {m : MethodId} {args : Array Value} {below : List Frame} {meth : Method} {c : Code} {Q : State → Prop} {D : va_G} {κ : Nat → ClassId} {H : Heap} {locs : List Loc} (t : Nat → Nat) (n : Nat)  (i1 : Int) (hx : p.tables.exec = Jvm.exec) (hb : c.code = cX5_hasLine) (hml : c.maxLocals = 2) (hown : s.vm.findClass RX5 = some m.cls) (hts : ∀ w ∈ wsX5_hasLine, w.before args s = true) (hK : va_K D vwCl (zTY κ) s) (hP : va_P D vwCl (zpgc κ t n) H) (ls : Array Slot) (hl : lv_has ls 2 [(0, .ref (t 0)), (1, .int (zi i1))]) (hg : Go (zQ_X5_hasLine p l e s m args below meth c Q H locs) (zf_X5_hasLine n i1)) : W p l e zr_X5_hasLine s m args below meth c H locs 0 0 Q (F0 m 0 ls []) := by
  unfold zf_X5_hasLine at hg
  refine lv_iload_n hx hb dX5_hasLine_0 rfl (lv_at hl 1 rfl) ?_
  obtain ⟨b1, hg⟩ := Go_n hg
  refine zv_if_lt (tgt := 16) hx hb dX5_hasLine_1 (by decide) b1 (fun c4 => ?_) (fun c4 => ?_)
  · have hg := Go_t c4 hg
    refine zv_iconst hx hb dX5_hasLine_16 ?_
    exact (Go_s hg) _ _ dX5_hasLine_17
  · have hg := Go_f c4 hg
    refine lv_iload_n hx hb dX5_hasLine_4 rfl (lv_at hl 1 rfl) ?_
    refine lv_aload_n hx hb dX5_hasLine_5 rfl (lv_at hl 0 rfl) ?_
    refine va_get (D := D) (ci := 5) (v := .int (zi (pg7 n))) (C := RX5) (T := TX5) (N := 9) hx hb hts zi_X5_hasLine_X5 hown hK hP 0 rfl rfl 7 (by decide) (hts (.fieldLink RX5 40 "DiamondRows$Polygon" "lineCount" "I") zl_X5_hasLine_40) (fun _ h9 => h9) rfl dX5_hasLine_6 ?_
    obtain ⟨b2, hg⟩ := Go_n hg
    refine zv_icmp_ge (tgt := 16) hx hb dX5_hasLine_9 (by decide) b1 b2 (fun c3 => ?_) (fun c3 => ?_)
    · have hg := Go_t c3 hg
      refine zv_iconst hx hb dX5_hasLine_16 ?_
      exact (Go_s hg) _ _ dX5_hasLine_17
    · have hg := Go_f c3 hg
      refine zv_iconst hx hb dX5_hasLine_12 ?_
      refine lv_goto (tgt := 17) hx hb dX5_hasLine_13 (by decide) ?_
      exact (Go_s hg) _ _ dX5_hasLine_17
set_option maxHeartbeats 4000000 in
set_option maxRecDepth 100000 in
theorem zc_X5_hasLine (l : Launch) (D : va_G) (κ : Nat → ClassId) (t : Nat → Nat) (n : Nat)  (i1 : Int) (out : Bool) (h : zf_X5_hasLine n i1 = some out) : Met l yX5_hasLine wsX5_hasLine zr_X5_hasLine (va_Pc [.ref (t 0), .int (zi i1)] (zR D κ (zpgc κ t n))) (vp_Si (fun x => x = zi (bI out))) 0 0 (fun _ => False) := by
  refine Met.ofW (cc := cX5_hasLine) (maxL := 2) (ret := (some .boolean)) (by decide +kernel) rfl ?_
  intro p e s m args below meth c s₁ B hml hv
  obtain ⟨rfl, hP, hK⟩ := hv
  have hx := B.exec
  have hb := B.bytes
  have hr := B.returns
  have hts := atoms_spec (ws := wsX5_hasLine) B.pre
  have hown : s.vm.findClass RX5 = some m.cls := findClass_of_methodNamed B.named
  have hlocks := B.notSynchronized
  have hl := lv_entry ([.ref (t 0), .int (zi i1)]) (n := 2) (Nat.le_of_ble_eq_true rfl)
  rw [lg_entry_eq]
  generalize (lg_sl ([.ref (t 0), .int (zi i1)]) ++ List.replicate (2 - (lg_sl ([.ref (t 0), .int (zi i1)])).length) Slot.unset).toArray = ls at hl ⊢
  have hl : lv_has ls 2 [(0, .ref (t 0)), (1, .int (zi i1))] := hl
  refine zs_X5_hasLine t n  i1 hx hb hml hown hts hK hP ls hl ⟨out, h, ?_⟩
  exact fun ls pc hd => W.zret hx hb hr (bI_nar _) (fun t ht hW => ⟨_, rfl, rfl, ht⟩) (fun _ h => by cases h) hd
/-! DiamondRows$Polygon.pairOf(I)I -/
abbrev zr_X5_pairOf : Room := { frames := 1, cells := 0, slots := 0, locals := 21 }
noncomputable def zf_X5_pairOf (n : Nat)  (i1 : Int) : Option (Int) :=
  Option.bind (zf_X5_hasLine n i1) (fun o1 =>
  if o1 = false then
  some ((-1 : Int))
  else
  if i1 < 0 ∨ 27 ≤ i1 then none else
  some ((((16 : Int) * (zget (pg1 n) (Int.toNat i1))) + (zget (pg2 n) (Int.toNat i1)))))
theorem zi_X5_pairOf_X5 : ∀ w ∈ u_ws RX5 TX5 9, w ∈ wsX5_pairOf := fun w h => (List.mem_cons_of_mem _ (List.mem_append_right _ (List.mem_append_left _ h)))
theorem zl_X5_pairOf_9 : Cond.fieldLink RX5 9 "DiamondRows$Polygon" "lesser" "[I" ∈ wsX5_pairOf := (List.mem_cons_of_mem _ (List.mem_append_left _ (List.mem_of_getElem? (i := 0) rfl)))
theorem zl_X5_pairOf_15 : Cond.fieldLink RX5 15 "DiamondRows$Polygon" "greater" "[I" ∈ wsX5_pairOf := (List.mem_cons_of_mem _ (List.mem_append_left _ (List.mem_of_getElem? (i := 1) rfl)))
def zQ_X5_pairOf (p : Program) (l : Launch) (e : Env) (s : State) (m : MethodId) (args : Array Value) (below : List Frame) (meth : Method) (c : Code) (Q : State → Prop) (H : Heap) (locs : List Loc)  (o : Int) : Prop := ∀ (ls : Array Slot) (pc : Nat), decode cX5_pairOf pc = .ok (.ireturn, 1) → W p l e zr_X5_pairOf s m args below meth c H locs 0 0 Q (F0 m pc ls [.int (zi o)])
set_option maxHeartbeats 4000000 in
set_option maxRecDepth 100000 in
theorem zs_X5_pairOf {p : Program} {l : Launch} {e : Env} {s : State} {m : MethodId} {args : Array Value} {below : List Frame} {meth : Method} {c : Code} {Q : State → Prop} {D : va_G} {κ : Nat → ClassId} {H : Heap} {locs : List Loc} (t : Nat → Nat) (n : Nat)  (i1 : Int) (hx : p.tables.exec = Jvm.exec) (hb : c.code = cX5_pairOf) (hml : c.maxLocals = 2) (hown : s.vm.findClass RX5 = some m.cls) (hts : ∀ w ∈ wsX5_pairOf, w.before args s = true) (hK : va_K D vwCl (zTY κ) s) (hP : va_P D vwCl (zpgc κ t n) H) (ls : Array Slot) (hl : lv_has ls 2 [(0, .ref (t 0)), (1, .int (zi i1))]) (hg : Go (zQ_X5_pairOf p l e s m args below meth c Q H locs) (zf_X5_pairOf n i1)) : W p l e zr_X5_pairOf s m args below meth c H locs 0 0 Q (F0 m 0 ls []) := by
  unfold zf_X5_pairOf at hg
  refine lv_aload_n hx hb dX5_pairOf_0 rfl (lv_at hl 0 rfl) ?_
  refine lv_iload_n hx hb dX5_pairOf_1 rfl (lv_at hl 1 rfl) ?_
  obtain ⟨o1, ho1, hg⟩ := Go_b hg
  refine zc_vi (rest := []) ⟨hx, hb, hml, hown, hts⟩ (zc_X5_hasLine l D κ t n i1 o1 ho1) (cwV 1 hts gX5_pairOf_X5_hasLine rfl rfl rfl hv_X5_hasLine ⟨Nat.le_of_ble_eq_true rfl, Nat.le_of_ble_eq_true rfl⟩) (zpreV hK (hP.sub [0, 1, 2, 3, 4, 5, 6] rfl) 5 0 rfl rfl) rfl hl.1 rfl (Nat.le_of_ble_eq_true rfl) dX5_pairOf_2 ⟨Nat.zero_le _, Nat.zero_le _⟩ ?_
  refine zv_ifb_eq (tgt := 27) hx hb dX5_pairOf_5 (by decide) (fun c3 => ?_) (fun c3 => ?_)
  · have hg := Go_t c3 hg
    refine zv_iconst hx hb dX5_pairOf_27 ?_
    exact (Go_s hg) _ _ dX5_pairOf_28
  · have hg := Go_f c3 hg
    refine zv_bipush hx hb dX5_pairOf_8 (by decide) ?_
    refine lv_aload_n hx hb dX5_pairOf_10 rfl (lv_at hl 0 rfl) ?_
    refine va_get (D := D) (ci := 5) (v := .ref (t 1)) (C := RX5) (T := TX5) (N := 9) hx hb hts zi_X5_pairOf_X5 hown hK hP 0 rfl rfl 1 (by decide) (hts (.fieldLink RX5 9 "DiamondRows$Polygon" "lesser" "[I") zl_X5_pairOf_9) (fun _ h9 => h9) rfl dX5_pairOf_11 ?_
    refine lv_iload_n hx hb dX5_pairOf_14 rfl (lv_at hl 1 rfl) ?_
    obtain ⟨n2, hg⟩ := Go_n hg
    refine zv_iald hx hb hK hP 1 1 rfl rfl (by decide) n2 dX5_pairOf_15 ?_
    refine zv_imul hx hb dX5_pairOf_16 ?_
    refine lv_aload_n hx hb dX5_pairOf_17 rfl (lv_at hl 0 rfl) ?_
    refine va_get (D := D) (ci := 5) (v := .ref (t 2)) (C := RX5) (T := TX5) (N := 9) hx hb hts zi_X5_pairOf_X5 hown hK hP 0 rfl rfl 2 (by decide) (hts (.fieldLink RX5 15 "DiamondRows$Polygon" "greater" "[I") zl_X5_pairOf_15) (fun _ h9 => h9) rfl dX5_pairOf_18 ?_
    refine lv_iload_n hx hb dX5_pairOf_21 rfl (lv_at hl 1 rfl) ?_
    refine zv_iald hx hb hK hP 2 1 rfl rfl (by decide) n2 dX5_pairOf_22 ?_
    refine zv_iadd hx hb dX5_pairOf_23 ?_
    refine lv_goto (tgt := 28) hx hb dX5_pairOf_24 (by decide) ?_
    exact (Go_s hg) _ _ dX5_pairOf_28
set_option maxHeartbeats 4000000 in
set_option maxRecDepth 100000 in
theorem zc_X5_pairOf (l : Launch) (D : va_G) (κ : Nat → ClassId) (t : Nat → Nat) (n : Nat)  (i1 : Int) (out : Int) (h : zf_X5_pairOf n i1 = some out) : Met l yX5_pairOf wsX5_pairOf zr_X5_pairOf (va_Pc [.ref (t 0), .int (zi i1)] (zR D κ (zpgc κ t n))) (vp_Si (fun x => x = zi out)) 0 0 (fun _ => False) := by
  refine Met.ofW (cc := cX5_pairOf) (maxL := 2) (ret := (some .int)) (by decide +kernel) rfl ?_
  intro p e s m args below meth c s₁ B hml hv
  obtain ⟨rfl, hP, hK⟩ := hv
  have hx := B.exec
  have hb := B.bytes
  have hr := B.returns
  have hts := atoms_spec (ws := wsX5_pairOf) B.pre
  have hown : s.vm.findClass RX5 = some m.cls := findClass_of_methodNamed B.named
  have hlocks := B.notSynchronized
  have hl := lv_entry ([.ref (t 0), .int (zi i1)]) (n := 2) (Nat.le_of_ble_eq_true rfl)
  rw [lg_entry_eq]
  generalize (lg_sl ([.ref (t 0), .int (zi i1)]) ++ List.replicate (2 - (lg_sl ([.ref (t 0), .int (zi i1)])).length) Slot.unset).toArray = ls at hl ⊢
  have hl : lv_has ls 2 [(0, .ref (t 0)), (1, .int (zi i1))] := hl
  refine zs_X5_pairOf t n  i1 hx hb hml hown hts hK hP ls hl ⟨out, h, ?_⟩
  exact fun ls pc hd => W.iret hx hb hr (fun t ht hW => ⟨_, rfl, rfl, ht⟩) (fun _ h => by cases h) hd
/-! DiamondRows$Polygon.lesserOf(I)I -/
abbrev zr_X5_lesserOf : Room := { frames := 1, cells := 0, slots := 0, locals := 21 }
noncomputable def zf_X5_lesserOf (n : Nat)  (i1 : Int) : Option (Int) :=
  Option.bind (zf_X5_hasLine n i1) (fun o1 =>
  if o1 = false then
  some ((-1 : Int))
  else
  if i1 < 0 ∨ 27 ≤ i1 then none else
  some ((zget (pg1 n) (Int.toNat i1))))
theorem zi_X5_lesserOf_X5 : ∀ w ∈ u_ws RX5 TX5 9, w ∈ wsX5_lesserOf := fun w h => (List.mem_cons_of_mem _ (List.mem_append_right _ (List.mem_append_left _ h)))
theorem zl_X5_lesserOf_9 : Cond.fieldLink RX5 9 "DiamondRows$Polygon" "lesser" "[I" ∈ wsX5_lesserOf := (List.mem_cons_of_mem _ (List.mem_append_left _ (List.mem_of_getElem? (i := 0) rfl)))
def zQ_X5_lesserOf (p : Program) (l : Launch) (e : Env) (s : State) (m : MethodId) (args : Array Value) (below : List Frame) (meth : Method) (c : Code) (Q : State → Prop) (H : Heap) (locs : List Loc)  (o : Int) : Prop := ∀ (ls : Array Slot) (pc : Nat), decode cX5_lesserOf pc = .ok (.ireturn, 1) → W p l e zr_X5_lesserOf s m args below meth c H locs 0 0 Q (F0 m pc ls [.int (zi o)])
set_option maxHeartbeats 4000000 in
set_option maxRecDepth 100000 in
theorem zs_X5_lesserOf {p : Program} {l : Launch} {e : Env} {s : State} {m : MethodId} {args : Array Value} {below : List Frame} {meth : Method} {c : Code} {Q : State → Prop} {D : va_G} {κ : Nat → ClassId} {H : Heap} {locs : List Loc} (t : Nat → Nat) (n : Nat)  (i1 : Int) (hx : p.tables.exec = Jvm.exec) (hb : c.code = cX5_lesserOf) (hml : c.maxLocals = 2) (hown : s.vm.findClass RX5 = some m.cls) (hts : ∀ w ∈ wsX5_lesserOf, w.before args s = true) (hK : va_K D vwCl (zTY κ) s) (hP : va_P D vwCl (zpgc κ t n) H) (ls : Array Slot) (hl : lv_has ls 2 [(0, .ref (t 0)), (1, .int (zi i1))]) (hg : Go (zQ_X5_lesserOf p l e s m args below meth c Q H locs) (zf_X5_lesserOf n i1)) : W p l e zr_X5_lesserOf s m args below meth c H locs 0 0 Q (F0 m 0 ls []) := by
  unfold zf_X5_lesserOf at hg
  refine lv_aload_n hx hb dX5_lesserOf_0 rfl (lv_at hl 0 rfl) ?_
  refine lv_iload_n hx hb dX5_lesserOf_1 rfl (lv_at hl 1 rfl) ?_
  obtain ⟨o1, ho1, hg⟩ := Go_b hg
  refine zc_vi (rest := []) ⟨hx, hb, hml, hown, hts⟩ (zc_X5_hasLine l D κ t n i1 o1 ho1) (cwV 1 hts gX5_lesserOf_X5_hasLine rfl rfl rfl hv_X5_hasLine ⟨Nat.le_of_ble_eq_true rfl, Nat.le_of_ble_eq_true rfl⟩) (zpreV hK (hP.sub [0, 1, 2, 3, 4, 5, 6] rfl) 5 0 rfl rfl) rfl hl.1 rfl (Nat.le_of_ble_eq_true rfl) dX5_lesserOf_2 ⟨Nat.zero_le _, Nat.zero_le _⟩ ?_
  refine zv_ifb_eq (tgt := 17) hx hb dX5_lesserOf_5 (by decide) (fun c3 => ?_) (fun c3 => ?_)
  · have hg := Go_t c3 hg
    refine zv_iconst hx hb dX5_lesserOf_17 ?_
    exact (Go_s hg) _ _ dX5_lesserOf_18
  · have hg := Go_f c3 hg
    refine lv_aload_n hx hb dX5_lesserOf_8 rfl (lv_at hl 0 rfl) ?_
    refine va_get (D := D) (ci := 5) (v := .ref (t 1)) (C := RX5) (T := TX5) (N := 9) hx hb hts zi_X5_lesserOf_X5 hown hK hP 0 rfl rfl 1 (by decide) (hts (.fieldLink RX5 9 "DiamondRows$Polygon" "lesser" "[I") zl_X5_lesserOf_9) (fun _ h9 => h9) rfl dX5_lesserOf_9 ?_
    refine lv_iload_n hx hb dX5_lesserOf_12 rfl (lv_at hl 1 rfl) ?_
    obtain ⟨n2, hg⟩ := Go_n hg
    refine zv_iald hx hb hK hP 1 1 rfl rfl (by decide) n2 dX5_lesserOf_13 ?_
    refine lv_goto (tgt := 18) hx hb dX5_lesserOf_14 (by decide) ?_
    exact (Go_s hg) _ _ dX5_lesserOf_18
set_option maxHeartbeats 4000000 in
set_option maxRecDepth 100000 in
theorem zc_X5_lesserOf (l : Launch) (D : va_G) (κ : Nat → ClassId) (t : Nat → Nat) (n : Nat)  (i1 : Int) (out : Int) (h : zf_X5_lesserOf n i1 = some out) : Met l yX5_lesserOf wsX5_lesserOf zr_X5_lesserOf (va_Pc [.ref (t 0), .int (zi i1)] (zR D κ (zpgc κ t n))) (vp_Si (fun x => x = zi out)) 0 0 (fun _ => False) := by
  refine Met.ofW (cc := cX5_lesserOf) (maxL := 2) (ret := (some .int)) (by decide +kernel) rfl ?_
  intro p e s m args below meth c s₁ B hml hv
  obtain ⟨rfl, hP, hK⟩ := hv
  have hx := B.exec
  have hb := B.bytes
  have hr := B.returns
  have hts := atoms_spec (ws := wsX5_lesserOf) B.pre
  have hown : s.vm.findClass RX5 = some m.cls := findClass_of_methodNamed B.named
  have hlocks := B.notSynchronized
  have hl := lv_entry ([.ref (t 0), .int (zi i1)]) (n := 2) (Nat.le_of_ble_eq_true rfl)
  rw [lg_entry_eq]
  generalize (lg_sl ([.ref (t 0), .int (zi i1)]) ++ List.replicate (2 - (lg_sl ([.ref (t 0), .int (zi i1)])).length) Slot.unset).toArray = ls at hl ⊢
  have hl : lv_has ls 2 [(0, .ref (t 0)), (1, .int (zi i1))] := hl
  refine zs_X5_lesserOf t n  i1 hx hb hml hown hts hK hP ls hl ⟨out, h, ?_⟩
  exact fun ls pc hd => W.iret hx hb hr (fun t ht hW => ⟨_, rfl, rfl, ht⟩) (fun _ h => by cases h) hd
/-! DiamondRows$Polygon.greaterOf(I)I -/
abbrev zr_X5_greaterOf : Room := { frames := 1, cells := 0, slots := 0, locals := 21 }
noncomputable def zf_X5_greaterOf (n : Nat)  (i1 : Int) : Option (Int) :=
  Option.bind (zf_X5_hasLine n i1) (fun o1 =>
  if o1 = false then
  some ((-1 : Int))
  else
  if i1 < 0 ∨ 27 ≤ i1 then none else
  some ((zget (pg2 n) (Int.toNat i1))))
theorem zi_X5_greaterOf_X5 : ∀ w ∈ u_ws RX5 TX5 9, w ∈ wsX5_greaterOf := fun w h => (List.mem_cons_of_mem _ (List.mem_append_right _ (List.mem_append_left _ h)))
theorem zl_X5_greaterOf_15 : Cond.fieldLink RX5 15 "DiamondRows$Polygon" "greater" "[I" ∈ wsX5_greaterOf := (List.mem_cons_of_mem _ (List.mem_append_left _ (List.mem_of_getElem? (i := 0) rfl)))
def zQ_X5_greaterOf (p : Program) (l : Launch) (e : Env) (s : State) (m : MethodId) (args : Array Value) (below : List Frame) (meth : Method) (c : Code) (Q : State → Prop) (H : Heap) (locs : List Loc)  (o : Int) : Prop := ∀ (ls : Array Slot) (pc : Nat), decode cX5_greaterOf pc = .ok (.ireturn, 1) → W p l e zr_X5_greaterOf s m args below meth c H locs 0 0 Q (F0 m pc ls [.int (zi o)])
set_option maxHeartbeats 4000000 in
set_option maxRecDepth 100000 in
theorem zs_X5_greaterOf {p : Program} {l : Launch} {e : Env} {s : State} {m : MethodId} {args : Array Value} {below : List Frame} {meth : Method} {c : Code} {Q : State → Prop} {D : va_G} {κ : Nat → ClassId} {H : Heap} {locs : List Loc} (t : Nat → Nat) (n : Nat)  (i1 : Int) (hx : p.tables.exec = Jvm.exec) (hb : c.code = cX5_greaterOf) (hml : c.maxLocals = 2) (hown : s.vm.findClass RX5 = some m.cls) (hts : ∀ w ∈ wsX5_greaterOf, w.before args s = true) (hK : va_K D vwCl (zTY κ) s) (hP : va_P D vwCl (zpgc κ t n) H) (ls : Array Slot) (hl : lv_has ls 2 [(0, .ref (t 0)), (1, .int (zi i1))]) (hg : Go (zQ_X5_greaterOf p l e s m args below meth c Q H locs) (zf_X5_greaterOf n i1)) : W p l e zr_X5_greaterOf s m args below meth c H locs 0 0 Q (F0 m 0 ls []) := by
  unfold zf_X5_greaterOf at hg
  refine lv_aload_n hx hb dX5_greaterOf_0 rfl (lv_at hl 0 rfl) ?_
  refine lv_iload_n hx hb dX5_greaterOf_1 rfl (lv_at hl 1 rfl) ?_
  obtain ⟨o1, ho1, hg⟩ := Go_b hg
  refine zc_vi (rest := []) ⟨hx, hb, hml, hown, hts⟩ (zc_X5_hasLine l D κ t n i1 o1 ho1) (cwV 1 hts gX5_greaterOf_X5_hasLine rfl rfl rfl hv_X5_hasLine ⟨Nat.le_of_ble_eq_true rfl, Nat.le_of_ble_eq_true rfl⟩) (zpreV hK (hP.sub [0, 1, 2, 3, 4, 5, 6] rfl) 5 0 rfl rfl) rfl hl.1 rfl (Nat.le_of_ble_eq_true rfl) dX5_greaterOf_2 ⟨Nat.zero_le _, Nat.zero_le _⟩ ?_
  refine zv_ifb_eq (tgt := 17) hx hb dX5_greaterOf_5 (by decide) (fun c3 => ?_) (fun c3 => ?_)
  · have hg := Go_t c3 hg
    refine zv_iconst hx hb dX5_greaterOf_17 ?_
    exact (Go_s hg) _ _ dX5_greaterOf_18
  · have hg := Go_f c3 hg
    refine lv_aload_n hx hb dX5_greaterOf_8 rfl (lv_at hl 0 rfl) ?_
    refine va_get (D := D) (ci := 5) (v := .ref (t 2)) (C := RX5) (T := TX5) (N := 9) hx hb hts zi_X5_greaterOf_X5 hown hK hP 0 rfl rfl 2 (by decide) (hts (.fieldLink RX5 15 "DiamondRows$Polygon" "greater" "[I") zl_X5_greaterOf_15) (fun _ h9 => h9) rfl dX5_greaterOf_9 ?_
    refine lv_iload_n hx hb dX5_greaterOf_12 rfl (lv_at hl 1 rfl) ?_
    obtain ⟨n2, hg⟩ := Go_n hg
    refine zv_iald hx hb hK hP 2 1 rfl rfl (by decide) n2 dX5_greaterOf_13 ?_
    refine lv_goto (tgt := 18) hx hb dX5_greaterOf_14 (by decide) ?_
    exact (Go_s hg) _ _ dX5_greaterOf_18
set_option maxHeartbeats 4000000 in
set_option maxRecDepth 100000 in
theorem zc_X5_greaterOf (l : Launch) (D : va_G) (κ : Nat → ClassId) (t : Nat → Nat) (n : Nat)  (i1 : Int) (out : Int) (h : zf_X5_greaterOf n i1 = some out) : Met l yX5_greaterOf wsX5_greaterOf zr_X5_greaterOf (va_Pc [.ref (t 0), .int (zi i1)] (zR D κ (zpgc κ t n))) (vp_Si (fun x => x = zi out)) 0 0 (fun _ => False) := by
  refine Met.ofW (cc := cX5_greaterOf) (maxL := 2) (ret := (some .int)) (by decide +kernel) rfl ?_
  intro p e s m args below meth c s₁ B hml hv
  obtain ⟨rfl, hP, hK⟩ := hv
  have hx := B.exec
  have hb := B.bytes
  have hr := B.returns
  have hts := atoms_spec (ws := wsX5_greaterOf) B.pre
  have hown : s.vm.findClass RX5 = some m.cls := findClass_of_methodNamed B.named
  have hlocks := B.notSynchronized
  have hl := lv_entry ([.ref (t 0), .int (zi i1)]) (n := 2) (Nat.le_of_ble_eq_true rfl)
  rw [lg_entry_eq]
  generalize (lg_sl ([.ref (t 0), .int (zi i1)]) ++ List.replicate (2 - (lg_sl ([.ref (t 0), .int (zi i1)])).length) Slot.unset).toArray = ls at hl ⊢
  have hl : lv_has ls 2 [(0, .ref (t 0)), (1, .int (zi i1))] := hl
  refine zs_X5_greaterOf t n  i1 hx hb hml hown hts hK hP ls hl ⟨out, h, ?_⟩
  exact fun ls pc hd => W.iret hx hb hr (fun t ht hW => ⟨_, rfl, rfl, ht⟩) (fun _ h => by cases h) hd
/-! DiamondRows$Polygon.crossersOf(I)I -/
abbrev zr_X5_crossersOf : Room := { frames := 1, cells := 0, slots := 0, locals := 21 }
noncomputable def zf_X5_crossersOf (n : Nat)  (i1 : Int) : Option (Int) :=
  Option.bind (zf_X5_hasLine n i1) (fun o1 =>
  if o1 = false then
  some ((0 : Int))
  else
  if i1 < 0 ∨ 27 ≤ i1 then none else
  some ((zget (pg4 n) (Int.toNat i1))))
theorem zi_X5_crossersOf_X5 : ∀ w ∈ u_ws RX5 TX5 9, w ∈ wsX5_crossersOf := fun w h => (List.mem_cons_of_mem _ (List.mem_append_right _ (List.mem_append_left _ h)))
theorem zl_X5_crossersOf_21 : Cond.fieldLink RX5 21 "DiamondRows$Polygon" "crossers" "[I" ∈ wsX5_crossersOf := (List.mem_cons_of_mem _ (List.mem_append_left _ (List.mem_of_getElem? (i := 0) rfl)))
def zQ_X5_crossersOf (p : Program) (l : Launch) (e : Env) (s : State) (m : MethodId) (args : Array Value) (below : List Frame) (meth : Method) (c : Code) (Q : State → Prop) (H : Heap) (locs : List Loc)  (o : Int) : Prop := ∀ (ls : Array Slot) (pc : Nat), decode cX5_crossersOf pc = .ok (.ireturn, 1) → W p l e zr_X5_crossersOf s m args below meth c H locs 0 0 Q (F0 m pc ls [.int (zi o)])
set_option maxHeartbeats 4000000 in
set_option maxRecDepth 100000 in
theorem zs_X5_crossersOf {p : Program} {l : Launch} {e : Env} {s : State} {m : MethodId} {args : Array Value} {below : List Frame} {meth : Method} {c : Code} {Q : State → Prop} {D : va_G} {κ : Nat → ClassId} {H : Heap} {locs : List Loc} (t : Nat → Nat) (n : Nat)  (i1 : Int) (hx : p.tables.exec = Jvm.exec) (hb : c.code = cX5_crossersOf) (hml : c.maxLocals = 2) (hown : s.vm.findClass RX5 = some m.cls) (hts : ∀ w ∈ wsX5_crossersOf, w.before args s = true) (hK : va_K D vwCl (zTY κ) s) (hP : va_P D vwCl (zpgc κ t n) H) (ls : Array Slot) (hl : lv_has ls 2 [(0, .ref (t 0)), (1, .int (zi i1))]) (hg : Go (zQ_X5_crossersOf p l e s m args below meth c Q H locs) (zf_X5_crossersOf n i1)) : W p l e zr_X5_crossersOf s m args below meth c H locs 0 0 Q (F0 m 0 ls []) := by
  unfold zf_X5_crossersOf at hg
  refine lv_aload_n hx hb dX5_crossersOf_0 rfl (lv_at hl 0 rfl) ?_
  refine lv_iload_n hx hb dX5_crossersOf_1 rfl (lv_at hl 1 rfl) ?_
  obtain ⟨o1, ho1, hg⟩ := Go_b hg
  refine zc_vi (rest := []) ⟨hx, hb, hml, hown, hts⟩ (zc_X5_hasLine l D κ t n i1 o1 ho1) (cwV 1 hts gX5_crossersOf_X5_hasLine rfl rfl rfl hv_X5_hasLine ⟨Nat.le_of_ble_eq_true rfl, Nat.le_of_ble_eq_true rfl⟩) (zpreV hK (hP.sub [0, 1, 2, 3, 4, 5, 6] rfl) 5 0 rfl rfl) rfl hl.1 rfl (Nat.le_of_ble_eq_true rfl) dX5_crossersOf_2 ⟨Nat.zero_le _, Nat.zero_le _⟩ ?_
  refine zv_ifb_eq (tgt := 17) hx hb dX5_crossersOf_5 (by decide) (fun c3 => ?_) (fun c3 => ?_)
  · have hg := Go_t c3 hg
    refine zv_iconst hx hb dX5_crossersOf_17 ?_
    exact (Go_s hg) _ _ dX5_crossersOf_18
  · have hg := Go_f c3 hg
    refine lv_aload_n hx hb dX5_crossersOf_8 rfl (lv_at hl 0 rfl) ?_
    refine va_get (D := D) (ci := 5) (v := .ref (t 4)) (C := RX5) (T := TX5) (N := 9) hx hb hts zi_X5_crossersOf_X5 hown hK hP 0 rfl rfl 4 (by decide) (hts (.fieldLink RX5 21 "DiamondRows$Polygon" "crossers" "[I") zl_X5_crossersOf_21) (fun _ h9 => h9) rfl dX5_crossersOf_9 ?_
    refine lv_iload_n hx hb dX5_crossersOf_12 rfl (lv_at hl 1 rfl) ?_
    obtain ⟨n2, hg⟩ := Go_n hg
    refine zv_iald hx hb hK hP 4 1 rfl rfl (by decide) n2 dX5_crossersOf_13 ?_
    refine lv_goto (tgt := 18) hx hb dX5_crossersOf_14 (by decide) ?_
    exact (Go_s hg) _ _ dX5_crossersOf_18
set_option maxHeartbeats 4000000 in
set_option maxRecDepth 100000 in
theorem zc_X5_crossersOf (l : Launch) (D : va_G) (κ : Nat → ClassId) (t : Nat → Nat) (n : Nat)  (i1 : Int) (out : Int) (h : zf_X5_crossersOf n i1 = some out) : Met l yX5_crossersOf wsX5_crossersOf zr_X5_crossersOf (va_Pc [.ref (t 0), .int (zi i1)] (zR D κ (zpgc κ t n))) (vp_Si (fun x => x = zi out)) 0 0 (fun _ => False) := by
  refine Met.ofW (cc := cX5_crossersOf) (maxL := 2) (ret := (some .int)) (by decide +kernel) rfl ?_
  intro p e s m args below meth c s₁ B hml hv
  obtain ⟨rfl, hP, hK⟩ := hv
  have hx := B.exec
  have hb := B.bytes
  have hr := B.returns
  have hts := atoms_spec (ws := wsX5_crossersOf) B.pre
  have hown : s.vm.findClass RX5 = some m.cls := findClass_of_methodNamed B.named
  have hlocks := B.notSynchronized
  have hl := lv_entry ([.ref (t 0), .int (zi i1)]) (n := 2) (Nat.le_of_ble_eq_true rfl)
  rw [lg_entry_eq]
  generalize (lg_sl ([.ref (t 0), .int (zi i1)]) ++ List.replicate (2 - (lg_sl ([.ref (t 0), .int (zi i1)])).length) Slot.unset).toArray = ls at hl ⊢
  have hl : lv_has ls 2 [(0, .ref (t 0)), (1, .int (zi i1))] := hl
  refine zs_X5_crossersOf t n  i1 hx hb hml hown hts hK hP ls hl ⟨out, h, ?_⟩
  exact fun ls pc hd => W.iret hx hb hr (fun t ht hW => ⟨_, rfl, rfl, ht⟩) (fun _ h => by cases h) hd
/-! DiamondRows$Polygon.has(II)Z -/
abbrev zr_X5_has : Room := { frames := 1, cells := 0, slots := 0, locals := 21 }
noncomputable def zf_X5_has (n : Nat)  (i1 : Int) (i2 : Int) : Option (Bool) :=
  Option.bind (zf_X5_hasLine n i2) (fun o1 =>
  if o1 = false then
  some (false)
  else
  if (zand (zshr i1 i2) (1 : Int)) = 0 then
  some (false)
  else
  some (true))
def zQ_X5_has (p : Program) (l : Launch) (e : Env) (s : State) (m : MethodId) (args : Array Value) (below : List Frame) (meth : Method) (c : Code) (Q : State → Prop) (H : Heap) (locs : List Loc)  (o : Bool) : Prop := ∀ (ls : Array Slot) (pc : Nat), decode cX5_has pc = .ok (.ireturn, 1) → W p l e zr_X5_has s m args below meth c H locs 0 0 Q (F0 m pc ls [.int (zi (bI o))])
set_option maxHeartbeats 4000000 in
set_option maxRecDepth 100000 in
theorem zs_X5_has {p : Program} {l : Launch} {e : Env} {s : State} {m : MethodId} {args : Array Value} {below : List Frame} {meth : Method} {c : Code} {Q : State → Prop} {D : va_G} {κ : Nat → ClassId} {H : Heap} {locs : List Loc} (t : Nat → Nat) (n : Nat)  (i1 : Int) (i2 : Int) (hx : p.tables.exec = Jvm.exec) (hb : c.code = cX5_has) (hml : c.maxLocals = 3) (hown : s.vm.findClass RX5 = some m.cls) (hts : ∀ w ∈ wsX5_has, w.before args s = true) (hK : va_K D vwCl (zTY κ) s) (hP : va_P D vwCl (zpgc κ t n) H) (ls : Array Slot) (hl : lv_has ls 3 [(0, .ref (t 0)), (1, .int (zi i1)), (2, .int (zi i2))]) (hg : Go (zQ_X5_has p l e s m args below meth c Q H locs) (zf_X5_has n i1 i2)) : W p l e zr_X5_has s m args below meth c H locs 0 0 Q (F0 m 0 ls []) := by
  unfold zf_X5_has at hg
  refine lv_aload_n hx hb dX5_has_0 rfl (lv_at hl 0 rfl) ?_
  refine lv_iload_n hx hb dX5_has_1 rfl (lv_at hl 2 rfl) ?_
  obtain ⟨o1, ho1, hg⟩ := Go_b hg
  refine zc_vi (rest := []) ⟨hx, hb, hml, hown, hts⟩ (zc_X5_hasLine l D κ t n i2 o1 ho1) (cwV 1 hts gX5_has_X5_hasLine rfl rfl rfl hv_X5_hasLine ⟨Nat.le_of_ble_eq_true rfl, Nat.le_of_ble_eq_true rfl⟩) (zpreV hK (hP.sub [0, 1, 2, 3, 4, 5, 6] rfl) 5 0 rfl rfl) rfl hl.1 rfl (Nat.le_of_ble_eq_true rfl) dX5_has_2 ⟨Nat.zero_le _, Nat.zero_le _⟩ ?_
  refine zv_ifb_eq (tgt := 20) hx hb dX5_has_5 (by decide) (fun c3 => ?_) (fun c3 => ?_)
  · have hg := Go_t c3 hg
    refine zv_iconst hx hb dX5_has_20 ?_
    exact (Go_s hg) _ _ dX5_has_21
  · have hg := Go_f c3 hg
    refine lv_iload_n hx hb dX5_has_8 rfl (lv_at hl 1 rfl) ?_
    refine lv_iload_n hx hb dX5_has_9 rfl (lv_at hl 2 rfl) ?_
    refine zv_ishr hx hb dX5_has_10 ?_
    refine zv_iconst hx hb dX5_has_11 ?_
    refine zv_iand hx hb dX5_has_12 ?_
    refine zv_if_eq (tgt := 20) hx hb dX5_has_13 (by decide) (zand_in _ _) (fun c2 => ?_) (fun c2 => ?_)
    · have hg := Go_t c2 hg
      refine zv_iconst hx hb dX5_has_20 ?_
      exact (Go_s hg) _ _ dX5_has_21
    · have hg := Go_f c2 hg
      refine zv_iconst hx hb dX5_has_16 ?_
      refine lv_goto (tgt := 21) hx hb dX5_has_17 (by decide) ?_
      exact (Go_s hg) _ _ dX5_has_21
set_option maxHeartbeats 4000000 in
set_option maxRecDepth 100000 in
theorem zc_X5_has (l : Launch) (D : va_G) (κ : Nat → ClassId) (t : Nat → Nat) (n : Nat)  (i1 : Int) (i2 : Int) (out : Bool) (h : zf_X5_has n i1 i2 = some out) : Met l yX5_has wsX5_has zr_X5_has (va_Pc [.ref (t 0), .int (zi i1), .int (zi i2)] (zR D κ (zpgc κ t n))) (vp_Si (fun x => x = zi (bI out))) 0 0 (fun _ => False) := by
  refine Met.ofW (cc := cX5_has) (maxL := 3) (ret := (some .boolean)) (by decide +kernel) rfl ?_
  intro p e s m args below meth c s₁ B hml hv
  obtain ⟨rfl, hP, hK⟩ := hv
  have hx := B.exec
  have hb := B.bytes
  have hr := B.returns
  have hts := atoms_spec (ws := wsX5_has) B.pre
  have hown : s.vm.findClass RX5 = some m.cls := findClass_of_methodNamed B.named
  have hlocks := B.notSynchronized
  have hl := lv_entry ([.ref (t 0), .int (zi i1), .int (zi i2)]) (n := 3) (Nat.le_of_ble_eq_true rfl)
  rw [lg_entry_eq]
  generalize (lg_sl ([.ref (t 0), .int (zi i1), .int (zi i2)]) ++ List.replicate (3 - (lg_sl ([.ref (t 0), .int (zi i1), .int (zi i2)])).length) Slot.unset).toArray = ls at hl ⊢
  have hl : lv_has ls 3 [(0, .ref (t 0)), (1, .int (zi i1)), (2, .int (zi i2))] := hl
  refine zs_X5_has t n  i1 i2 hx hb hml hown hts hK hP ls hl ⟨out, h, ?_⟩
  exact fun ls pc hd => W.zret hx hb hr (bI_nar _) (fun t ht hW => ⟨_, rfl, rfl, ht⟩) (fun _ h => by cases h) hd
/-! DiamondRows$Polygon.areJoined(III)Z -/
abbrev zr_X5_areJoined : Room := { frames := 2, cells := 0, slots := 0, locals := 53 }
noncomputable def zf_X5_areJoined (n : Nat)  (i1 : Int) (i2 : Int) (i3 : Int) : Option (Bool) :=
  Option.bind (zf_X5_areNext n i2 i3) (fun o1 =>
  if o1 = false then
  Option.bind (zf_X5_lineOf n i2 i3) (fun o2 =>
  Option.bind (zf_X5_has n i1 o2) (fun o3 =>
  if o3 = false then
  some (false)
  else
  some (true)))
  else
  some (true))
def zQ_X5_areJoined (p : Program) (l : Launch) (e : Env) (s : State) (m : MethodId) (args : Array Value) (below : List Frame) (meth : Method) (c : Code) (Q : State → Prop) (H : Heap) (locs : List Loc)  (o : Bool) : Prop := ∀ (ls : Array Slot) (pc : Nat), decode cX5_areJoined pc = .ok (.ireturn, 1) → W p l e zr_X5_areJoined s m args below meth c H locs 0 0 Q (F0 m pc ls [.int (zi (bI o))])
set_option maxHeartbeats 4000000 in
set_option maxRecDepth 100000 in
theorem zs_X5_areJoined {p : Program} {l : Launch} {e : Env} {s : State} {m : MethodId} {args : Array Value} {below : List Frame} {meth : Method} {c : Code} {Q : State → Prop} {D : va_G} {κ : Nat → ClassId} {H : Heap} {locs : List Loc} (t : Nat → Nat) (n : Nat)  (i1 : Int) (i2 : Int) (i3 : Int) (hx : p.tables.exec = Jvm.exec) (hb : c.code = cX5_areJoined) (hml : c.maxLocals = 4) (hown : s.vm.findClass RX5 = some m.cls) (hts : ∀ w ∈ wsX5_areJoined, w.before args s = true) (hK : va_K D vwCl (zTY κ) s) (hP : va_P D vwCl (zpgc κ t n) H) (ls : Array Slot) (hl : lv_has ls 4 [(0, .ref (t 0)), (1, .int (zi i1)), (2, .int (zi i2)), (3, .int (zi i3))]) (hg : Go (zQ_X5_areJoined p l e s m args below meth c Q H locs) (zf_X5_areJoined n i1 i2 i3)) : W p l e zr_X5_areJoined s m args below meth c H locs 0 0 Q (F0 m 0 ls []) := by
  unfold zf_X5_areJoined at hg
  refine lv_aload_n hx hb dX5_areJoined_0 rfl (lv_at hl 0 rfl) ?_
  refine lv_iload_n hx hb dX5_areJoined_1 rfl (lv_at hl 2 rfl) ?_
  refine lv_iload_n hx hb dX5_areJoined_2 rfl (lv_at hl 3 rfl) ?_
  obtain ⟨o1, ho1, hg⟩ := Go_b hg
  refine zc_vi (rest := []) ⟨hx, hb, hml, hown, hts⟩ (zc_X5_areNext l D κ t n i2 i3 o1 ho1) (cwV 2 hts gX5_areJoined_X5_areNext rfl rfl rfl hv_X5_areNext ⟨Nat.le_of_ble_eq_true rfl, Nat.le_of_ble_eq_true rfl⟩) (zpreV hK (hP.sub [0, 1, 2, 3, 4, 5, 6] rfl) 5 0 rfl rfl) rfl hl.1 rfl (Nat.le_of_ble_eq_true rfl) dX5_areJoined_3 ⟨Nat.zero_le _, Nat.zero_le _⟩ ?_
  refine zv_ifb_ne (tgt := 23) hx hb dX5_areJoined_6 (by decide) (fun c5 => ?_) (fun c5 => ?_)
  · have hg := Go_f c5 hg
    refine zv_iconst hx hb dX5_areJoined_23 ?_
    refine lv_goto (tgt := 28) hx hb dX5_areJoined_24 (by decide) ?_
    exact (Go_s hg) _ _ dX5_areJoined_28
  · have hg := Go_t c5 hg
    refine lv_aload_n hx hb dX5_areJoined_9 rfl (lv_at hl 0 rfl) ?_
    refine lv_iload_n hx hb dX5_areJoined_10 rfl (lv_at hl 1 rfl) ?_
    refine lv_aload_n hx hb dX5_areJoined_11 rfl (lv_at hl 0 rfl) ?_
    refine lv_iload_n hx hb dX5_areJoined_12 rfl (lv_at hl 2 rfl) ?_
    refine lv_iload_n hx hb dX5_areJoined_13 rfl (lv_at hl 3 rfl) ?_
    obtain ⟨o2, ho2, hg⟩ := Go_b hg
    refine zc_vi (rest := [.int (zi i1), .ref (t 0)]) ⟨hx, hb, hml, hown, hts⟩ (zc_X5_lineOf l D κ t n i2 i3 o2 ho2) (cwV 2 hts gX5_areJoined_X5_lineOf rfl rfl rfl hv_X5_lineOf ⟨Nat.le_of_ble_eq_true rfl, Nat.le_of_ble_eq_true rfl⟩) (zpreV hK (hP.sub [0, 1, 2, 3, 4, 5, 6] rfl) 5 0 rfl rfl) rfl hl.1 rfl (Nat.le_of_ble_eq_true rfl) dX5_areJoined_14 ⟨Nat.zero_le _, Nat.zero_le _⟩ ?_
    obtain ⟨o3, ho3, hg⟩ := Go_b hg
    refine zc_vi (rest := []) ⟨hx, hb, hml, hown, hts⟩ (zc_X5_has l D κ t n i1 o2 o3 ho3) (cwV 2 hts gX5_areJoined_X5_has rfl rfl rfl hv_X5_has ⟨Nat.le_of_ble_eq_true rfl, Nat.le_of_ble_eq_true rfl⟩) (zpreV hK (hP.sub [0, 1, 2, 3, 4, 5, 6] rfl) 5 0 rfl rfl) rfl hl.1 rfl (Nat.le_of_ble_eq_true rfl) dX5_areJoined_17 ⟨Nat.zero_le _, Nat.zero_le _⟩ ?_
    refine zv_ifb_eq (tgt := 27) hx hb dX5_areJoined_20 (by decide) (fun c4 => ?_) (fun c4 => ?_)
    · have hg := Go_t c4 hg
      refine zv_iconst hx hb dX5_areJoined_27 ?_
      exact (Go_s hg) _ _ dX5_areJoined_28
    · have hg := Go_f c4 hg
      refine zv_iconst hx hb dX5_areJoined_23 ?_
      refine lv_goto (tgt := 28) hx hb dX5_areJoined_24 (by decide) ?_
      exact (Go_s hg) _ _ dX5_areJoined_28
set_option maxHeartbeats 4000000 in
set_option maxRecDepth 100000 in
theorem zc_X5_areJoined (l : Launch) (D : va_G) (κ : Nat → ClassId) (t : Nat → Nat) (n : Nat)  (i1 : Int) (i2 : Int) (i3 : Int) (out : Bool) (h : zf_X5_areJoined n i1 i2 i3 = some out) : Met l yX5_areJoined wsX5_areJoined zr_X5_areJoined (va_Pc [.ref (t 0), .int (zi i1), .int (zi i2), .int (zi i3)] (zR D κ (zpgc κ t n))) (vp_Si (fun x => x = zi (bI out))) 0 0 (fun _ => False) := by
  refine Met.ofW (cc := cX5_areJoined) (maxL := 4) (ret := (some .boolean)) (by decide +kernel) rfl ?_
  intro p e s m args below meth c s₁ B hml hv
  obtain ⟨rfl, hP, hK⟩ := hv
  have hx := B.exec
  have hb := B.bytes
  have hr := B.returns
  have hts := atoms_spec (ws := wsX5_areJoined) B.pre
  have hown : s.vm.findClass RX5 = some m.cls := findClass_of_methodNamed B.named
  have hlocks := B.notSynchronized
  have hl := lv_entry ([.ref (t 0), .int (zi i1), .int (zi i2), .int (zi i3)]) (n := 4) (Nat.le_of_ble_eq_true rfl)
  rw [lg_entry_eq]
  generalize (lg_sl ([.ref (t 0), .int (zi i1), .int (zi i2), .int (zi i3)]) ++ List.replicate (4 - (lg_sl ([.ref (t 0), .int (zi i1), .int (zi i2), .int (zi i3)])).length) Slot.unset).toArray = ls at hl ⊢
  have hl : lv_has ls 4 [(0, .ref (t 0)), (1, .int (zi i1)), (2, .int (zi i2)), (3, .int (zi i3))] := hl
  refine zs_X5_areJoined t n  i1 i2 i3 hx hb hml hown hts hK hP ls hl ⟨out, h, ?_⟩
  exact fun ls pc hd => W.zret hx hb hr (bI_nar _) (fun t ht hW => ⟨_, rfl, rfl, ht⟩) (fun _ h => by cases h) hd
/-! DiamondRows$Polygon.ahead(II)I -/
abbrev zr_X5_ahead : Room := { frames := 0, cells := 0, slots := 0, locals := 0 }
noncomputable def zf_X5_ahead (n : Nat)  (i1 : Int) (i2 : Int) : Option (Int) :=
  if zout i2 then none else
  if zout i1 then none else
  if i2 < i1 then
  some (((i2 - i1) + (n : Int)))
  else
  some ((i2 - i1))
theorem zi_X5_ahead_X5 : ∀ w ∈ u_ws RX5 TX5 9, w ∈ wsX5_ahead := fun w h => (List.mem_cons_of_mem _ (List.mem_append_right _ h))
theorem zl_X5_ahead_30 : Cond.fieldLink RX5 30 "DiamondRows$Polygon" "corners" "I" ∈ wsX5_ahead := (List.mem_cons_of_mem _ (List.mem_append_left _ (List.mem_of_getElem? (i := 0) rfl)))
def zQ_X5_ahead (p : Program) (l : Launch) (e : Env) (s : State) (m : MethodId) (args : Array Value) (below : List Frame) (meth : Method) (c : Code) (Q : State → Prop) (H : Heap) (locs : List Loc)  (o : Int) : Prop := ∀ (ls : Array Slot) (pc : Nat), decode cX5_ahead pc = .ok (.ireturn, 1) → W p l e zr_X5_ahead s m args below meth c H locs 0 0 Q (F0 m pc ls [.int (zi o)])
set_option maxHeartbeats 4000000 in
set_option maxRecDepth 100000 in
theorem zs_X5_ahead {p : Program} {l : Launch} {e : Env} {s : State} {m : MethodId} {args : Array Value} {below : List Frame} {meth : Method} {c : Code} {Q : State → Prop} {D : va_G} {κ : Nat → ClassId} {H : Heap} {locs : List Loc} (t : Nat → Nat) (n : Nat)  (i1 : Int) (i2 : Int) (hx : p.tables.exec = Jvm.exec) (hb : c.code = cX5_ahead) (hml : c.maxLocals = 3) (hown : s.vm.findClass RX5 = some m.cls) (hts : ∀ w ∈ wsX5_ahead, w.before args s = true) (hK : va_K D vwCl (zTY κ) s) (hP : va_P D vwCl (zpgc κ t n) H) (ls : Array Slot) (hl : lv_has ls 3 [(0, .ref (t 0)), (1, .int (zi i1)), (2, .int (zi i2))]) (hg : Go (zQ_X5_ahead p l e s m args below meth c Q H locs) (zf_X5_ahead n i1 i2)) : W p l e zr_X5_ahead s m args below meth c H locs 0 0 Q (F0 m 0 ls []) := by
  unfold zf_X5_ahead at hg
  refine lv_iload_n hx hb dX5_ahead_0 rfl (lv_at hl 2 rfl) ?_
  refine lv_iload_n hx hb dX5_ahead_1 rfl (lv_at hl 1 rfl) ?_
  obtain ⟨b1, hg⟩ := Go_n hg
  obtain ⟨b2, hg⟩ := Go_n hg
  refine zv_icmp_lt (tgt := 11) hx hb dX5_ahead_2 (by decide) b1 b2 (fun c3 => ?_) (fun c3 => ?_)
  · have hg := Go_t c3 hg
    refine lv_iload_n hx hb dX5_ahead_11 rfl (lv_at hl 2 rfl) ?_
    refine lv_iload_n hx hb dX5_ahead_12 rfl (lv_at hl 1 rfl) ?_
    refine zv_isub hx hb dX5_ahead_13 ?_
    refine lv_aload_n hx hb dX5_ahead_14 rfl (lv_at hl 0 rfl) ?_
    refine va_get (D := D) (ci := 5) (v := .int (zi (n : Int))) (C := RX5) (T := TX5) (N := 9) hx hb hts zi_X5_ahead_X5 hown hK hP 0 rfl rfl 0 (by decide) (hts (.fieldLink RX5 30 "DiamondRows$Polygon" "corners" "I") zl_X5_ahead_30) (fun _ h9 => h9) rfl dX5_ahead_15 ?_
    refine zv_iadd hx hb dX5_ahead_18 ?_
    exact (Go_s hg) _ _ dX5_ahead_19
  · have hg := Go_f c3 hg
    refine lv_iload_n hx hb dX5_ahead_5 rfl (lv_at hl 2 rfl) ?_
    refine lv_iload_n hx hb dX5_ahead_6 rfl (lv_at hl 1 rfl) ?_
    refine zv_isub hx hb dX5_ahead_7 ?_
    refine lv_goto (tgt := 19) hx hb dX5_ahead_8 (by decide) ?_
    exact (Go_s hg) _ _ dX5_ahead_19
set_option maxHeartbeats 4000000 in
set_option maxRecDepth 100000 in
theorem zc_X5_ahead (l : Launch) (D : va_G) (κ : Nat → ClassId) (t : Nat → Nat) (n : Nat)  (i1 : Int) (i2 : Int) (out : Int) (h : zf_X5_ahead n i1 i2 = some out) : Met l yX5_ahead wsX5_ahead zr_X5_ahead (va_Pc [.ref (t 0), .int (zi i1), .int (zi i2)] (zR D κ (zpgc κ t n))) (vp_Si (fun x => x = zi out)) 0 0 (fun _ => False) := by
  refine Met.ofW (cc := cX5_ahead) (maxL := 3) (ret := (some .int)) (by decide +kernel) rfl ?_
  intro p e s m args below meth c s₁ B hml hv
  obtain ⟨rfl, hP, hK⟩ := hv
  have hx := B.exec
  have hb := B.bytes
  have hr := B.returns
  have hts := atoms_spec (ws := wsX5_ahead) B.pre
  have hown : s.vm.findClass RX5 = some m.cls := findClass_of_methodNamed B.named
  have hlocks := B.notSynchronized
  have hl := lv_entry ([.ref (t 0), .int (zi i1), .int (zi i2)]) (n := 3) (Nat.le_of_ble_eq_true rfl)
  rw [lg_entry_eq]
  generalize (lg_sl ([.ref (t 0), .int (zi i1), .int (zi i2)]) ++ List.replicate (3 - (lg_sl ([.ref (t 0), .int (zi i1), .int (zi i2)])).length) Slot.unset).toArray = ls at hl ⊢
  have hl : lv_has ls 3 [(0, .ref (t 0)), (1, .int (zi i1)), (2, .int (zi i2))] := hl
  refine zs_X5_ahead t n  i1 i2 hx hb hml hown hts hK hP ls hl ⟨out, h, ?_⟩
  exact fun ls pc hd => W.iret hx hb hr (fun t ht hW => ⟨_, rfl, rfl, ht⟩) (fun _ h => by cases h) hd
/-! DiamondRows$Polygon.trianglesAt(II)I -/
abbrev zr_X5_trianglesAt : Room := { frames := 1, cells := 0, slots := 0, locals := 21 }
noncomputable def zf_X5_trianglesAt (n : Nat)  (i1 : Int) (i2 : Int) : Option (Int) :=
  Option.bind (zf_X5_hasCorner n i2) (fun o1 =>
  if o1 = false then
  some ((0 : Int))
  else
  if i2 < 0 ∨ 9 ≤ i2 then none else
  Option.bind (zf_J6_bitCount_0f7a4 (zand i1 (zget (pg5 n) (Int.toNat i2)))) (fun o3 =>
  some (((1 : Int) + o3))))
theorem zi_X5_trianglesAt_X5 : ∀ w ∈ u_ws RX5 TX5 9, w ∈ wsX5_trianglesAt := fun w h => (List.mem_cons_of_mem _ (List.mem_append_right _ (List.mem_append_left _ h)))
theorem zl_X5_trianglesAt_24 : Cond.fieldLink RX5 24 "DiamondRows$Polygon" "linesAt" "[I" ∈ wsX5_trianglesAt := (List.mem_cons_of_mem _ (List.mem_append_left _ (List.mem_of_getElem? (i := 0) rfl)))
def zQ_X5_trianglesAt (p : Program) (l : Launch) (e : Env) (s : State) (m : MethodId) (args : Array Value) (below : List Frame) (meth : Method) (c : Code) (Q : State → Prop) (H : Heap) (locs : List Loc)  (o : Int) : Prop := ∀ (ls : Array Slot) (pc : Nat), decode cX5_trianglesAt pc = .ok (.ireturn, 1) → W p l e zr_X5_trianglesAt s m args below meth c H locs 0 0 Q (F0 m pc ls [.int (zi o)])
set_option maxHeartbeats 4000000 in
set_option maxRecDepth 100000 in
theorem zs_X5_trianglesAt {p : Program} {l : Launch} {e : Env} {s : State} {m : MethodId} {args : Array Value} {below : List Frame} {meth : Method} {c : Code} {Q : State → Prop} {D : va_G} {κ : Nat → ClassId} {H : Heap} {locs : List Loc} (t : Nat → Nat) (n : Nat)  (i1 : Int) (i2 : Int) (hx : p.tables.exec = Jvm.exec) (hb : c.code = cX5_trianglesAt) (hml : c.maxLocals = 3) (hown : s.vm.findClass RX5 = some m.cls) (hts : ∀ w ∈ wsX5_trianglesAt, w.before args s = true) (hK : va_K D vwCl (zTY κ) s) (hP : va_P D vwCl (zpgc κ t n) H) (ls : Array Slot) (hl : lv_has ls 3 [(0, .ref (t 0)), (1, .int (zi i1)), (2, .int (zi i2))]) (hg : Go (zQ_X5_trianglesAt p l e s m args below meth c Q H locs) (zf_X5_trianglesAt n i1 i2)) : W p l e zr_X5_trianglesAt s m args below meth c H locs 0 0 Q (F0 m 0 ls []) := by
  unfold zf_X5_trianglesAt at hg
  refine lv_aload_n hx hb dX5_trianglesAt_0 rfl (lv_at hl 0 rfl) ?_
  refine lv_iload_n hx hb dX5_trianglesAt_1 rfl (lv_at hl 2 rfl) ?_
  obtain ⟨o1, ho1, hg⟩ := Go_b hg
  refine zc_vi (rest := []) ⟨hx, hb, hml, hown, hts⟩ (zc_X5_hasCorner l D κ t n i2 o1 ho1) (cwV 1 hts gX5_trianglesAt_X5_hasCorner rfl rfl rfl hv_X5_hasCorner ⟨Nat.le_of_ble_eq_true rfl, Nat.le_of_ble_eq_true rfl⟩) (zpreV hK (hP.sub [0, 1, 2, 3, 4, 5, 6] rfl) 5 0 rfl rfl) rfl hl.1 rfl (Nat.le_of_ble_eq_true rfl) dX5_trianglesAt_2 ⟨Nat.zero_le _, Nat.zero_le _⟩ ?_
  refine zv_ifb_eq (tgt := 24) hx hb dX5_trianglesAt_5 (by decide) (fun c4 => ?_) (fun c4 => ?_)
  · have hg := Go_t c4 hg
    refine zv_iconst hx hb dX5_trianglesAt_24 ?_
    exact (Go_s hg) _ _ dX5_trianglesAt_25
  · have hg := Go_f c4 hg
    refine zv_iconst hx hb dX5_trianglesAt_8 ?_
    refine lv_iload_n hx hb dX5_trianglesAt_9 rfl (lv_at hl 1 rfl) ?_
    refine lv_aload_n hx hb dX5_trianglesAt_10 rfl (lv_at hl 0 rfl) ?_
    refine va_get (D := D) (ci := 5) (v := .ref (t 5)) (C := RX5) (T := TX5) (N := 9) hx hb hts zi_X5_trianglesAt_X5 hown hK hP 0 rfl rfl 5 (by decide) (hts (.fieldLink RX5 24 "DiamondRows$Polygon" "linesAt" "[I") zl_X5_trianglesAt_24) (fun _ h9 => h9) rfl dX5_trianglesAt_11 ?_
    refine lv_iload_n hx hb dX5_trianglesAt_14 rfl (lv_at hl 2 rfl) ?_
    obtain ⟨n2, hg⟩ := Go_n hg
    refine zv_iald hx hb hK hP 5 1 rfl rfl (by decide) n2 dX5_trianglesAt_15 ?_
    refine zv_iand hx hb dX5_trianglesAt_16 ?_
    obtain ⟨o3, ho3, hg⟩ := Go_b hg
    refine zc_si (rest := [.int (zi (1 : Int))]) ⟨hx, hb, hml, hown, hts⟩ (zc_J6_bitCount_0f7a4 l D κ (zand i1 (zget (pg5 n) (Int.toNat i2))) o3 ho3) (va_cwS 1 hts gX5_trianglesAt_J6_bitCount_0f7a4 rfl rfl rfl hs_J6_bitCount_0f7a4 ⟨Nat.le_of_ble_eq_true rfl, Nat.le_of_ble_eq_true rfl⟩) (zpreS hK (hP.sub [] rfl)) rfl hl.1 rfl (Nat.le_of_ble_eq_true rfl) dX5_trianglesAt_17 ⟨Nat.zero_le _, Nat.zero_le _⟩ ?_
    refine zv_iadd hx hb dX5_trianglesAt_20 ?_
    refine lv_goto (tgt := 25) hx hb dX5_trianglesAt_21 (by decide) ?_
    exact (Go_s hg) _ _ dX5_trianglesAt_25
set_option maxHeartbeats 4000000 in
set_option maxRecDepth 100000 in
theorem zc_X5_trianglesAt (l : Launch) (D : va_G) (κ : Nat → ClassId) (t : Nat → Nat) (n : Nat)  (i1 : Int) (i2 : Int) (out : Int) (h : zf_X5_trianglesAt n i1 i2 = some out) : Met l yX5_trianglesAt wsX5_trianglesAt zr_X5_trianglesAt (va_Pc [.ref (t 0), .int (zi i1), .int (zi i2)] (zR D κ (zpgc κ t n))) (vp_Si (fun x => x = zi out)) 0 0 (fun _ => False) := by
  refine Met.ofW (cc := cX5_trianglesAt) (maxL := 3) (ret := (some .int)) (by decide +kernel) rfl ?_
  intro p e s m args below meth c s₁ B hml hv
  obtain ⟨rfl, hP, hK⟩ := hv
  have hx := B.exec
  have hb := B.bytes
  have hr := B.returns
  have hts := atoms_spec (ws := wsX5_trianglesAt) B.pre
  have hown : s.vm.findClass RX5 = some m.cls := findClass_of_methodNamed B.named
  have hlocks := B.notSynchronized
  have hl := lv_entry ([.ref (t 0), .int (zi i1), .int (zi i2)]) (n := 3) (Nat.le_of_ble_eq_true rfl)
  rw [lg_entry_eq]
  generalize (lg_sl ([.ref (t 0), .int (zi i1), .int (zi i2)]) ++ List.replicate (3 - (lg_sl ([.ref (t 0), .int (zi i1), .int (zi i2)])).length) Slot.unset).toArray = ls at hl ⊢
  have hl : lv_has ls 3 [(0, .ref (t 0)), (1, .int (zi i1)), (2, .int (zi i2))] := hl
  refine zs_X5_trianglesAt t n  i1 i2 hx hb hml hown hts hK hP ls hl ⟨out, h, ?_⟩
  exact fun ls pc hd => W.iret hx hb hr (fun t ht hW => ⟨_, rfl, rfl, ht⟩) (fun _ h => by cases h) hd
/-! DiamondRows$Polygon.entryOf(III)I -/
abbrev zr_X5_entryOf : Room := { frames := 2, cells := 0, slots := 0, locals := 43 }
abbrev zS_X5_entryOf : Type := Nat × Int × Int × Int × Int × Int × Int
abbrev zO_X5_entryOf : Type := Int
noncomputable def zg_X5_entryOf_0 (n : Nat)  (i1 : Int) (i2 : Int) (i3 : Int) (i4 : Int) (i5 : Int) (i6 : Int) : Option (zO_X5_entryOf ⊕ zS_X5_entryOf) :=
  if zout i2 then none else
  if zout i3 then none else
  if i2 = i3 then
  some (.inl ((0 : Int)))
  else
  some (.inr (22, i1, i2, i3, (0 : Int), (1 : Int), ((zmin i2 i3) + (1 : Int))))
noncomputable def zg_X5_entryOf_22 (n : Nat)  (i1 : Int) (i2 : Int) (i3 : Int) (i4 : Int) (i5 : Int) (i6 : Int) : Option (zO_X5_entryOf ⊕ zS_X5_entryOf) :=
  if zout i2 then none else
  if zout i3 then none else
  if zout i6 then none else
  if zout (zmax i2 i3) then none else
  if (zmax i2 i3) ≤ i6 then
  some (.inl (i5))
  else
  Option.bind (zf_X5_trianglesAt n i1 i6) (fun o8 =>
  some (.inr (22, i1, i2, i3, i5, ((o8 * i5) - i4), (i6 + (1 : Int)))))
noncomputable def zg_X5_entryOf (n : Nat)  (st : zS_X5_entryOf) : Option (zO_X5_entryOf ⊕ zS_X5_entryOf) := match st with
  | (lab, i1, i2, i3, i4, i5, i6) => if lab = 0 then zg_X5_entryOf_0 n i1 i2 i3 i4 i5 i6 else if lab = 22 then zg_X5_entryOf_22 n i1 i2 i3 i4 i5 i6 else none
noncomputable def zf_X5_entryOf (n : Nat)  (i1 : Int) (i2 : Int) (i3 : Int) : Option (Int) := jrun (zg_X5_entryOf n) jfuel (0, i1, i2, i3, 0, 0, 0)
def zQ_X5_entryOf (p : Program) (l : Launch) (e : Env) (s : State) (m : MethodId) (args : Array Value) (below : List Frame) (meth : Method) (c : Code) (Q : State → Prop) (H : Heap) (locs : List Loc)  (o : Int) : Prop := ∀ (ls : Array Slot) (pc : Nat), decode cX5_entryOf pc = .ok (.ireturn, 1) → W p l e zr_X5_entryOf s m args below meth c H locs 0 0 Q (F0 m pc ls [.int (zi o)])
def zA_X5_entryOf_0 (p : Program) (l : Launch) (e : Env) (s : State) (m : MethodId) (args : Array Value) (below : List Frame) (meth : Method) (c : Code) (Q : State → Prop) (H : Heap) (locs : List Loc) (t : Nat → Nat) (n : Nat)  (i1 : Int) (i2 : Int) (i3 : Int) (i4 : Int) (i5 : Int) (i6 : Int) : Prop := ∀ ls : Array Slot, lv_has ls 8 [(0, .ref (t 0)), (1, .int (zi i1)), (2, .int (zi i2)), (3, .int (zi i3))] → W p l e zr_X5_entryOf s m args below meth c H locs 0 0 Q (F0 m 0 ls [])
def zA_X5_entryOf_22 (p : Program) (l : Launch) (e : Env) (s : State) (m : MethodId) (args : Array Value) (below : List Frame) (meth : Method) (c : Code) (Q : State → Prop) (H : Heap) (locs : List Loc) (t : Nat → Nat) (n : Nat)  (i1 : Int) (i2 : Int) (i3 : Int) (i4 : Int) (i5 : Int) (i6 : Int) : Prop := ∀ ls : Array Slot, lv_has ls 8 [(0, .ref (t 0)), (1, .int (zi i1)), (2, .int (zi i2)), (3, .int (zi i3)), (4, .int (zi i4)), (5, .int (zi i5)), (6, .int (zi i6))] → W p l e zr_X5_entryOf s m args below meth c H locs 0 0 Q (F0 m 22 ls [])
def zA_X5_entryOf (p : Program) (l : Launch) (e : Env) (s : State) (m : MethodId) (args : Array Value) (below : List Frame) (meth : Method) (c : Code) (Q : State → Prop) (H : Heap) (locs : List Loc) (t : Nat → Nat) (n : Nat)  (st : zS_X5_entryOf) : Prop := match st with
  | (lab, i1, i2, i3, i4, i5, i6) => if lab = 0 then zA_X5_entryOf_0 p l e s m args below meth c Q H locs t n  i1 i2 i3 i4 i5 i6 else if lab = 22 then zA_X5_entryOf_22 p l e s m args below meth c Q H locs t n  i1 i2 i3 i4 i5 i6 else True
set_option maxHeartbeats 4000000 in
set_option maxRecDepth 100000 in
theorem zs_X5_entryOf_0 {p : Program} {l : Launch} {e : Env} {s : State} {m : MethodId} {args : Array Value} {below : List Frame} {meth : Method} {c : Code} {Q : State → Prop} {D : va_G} {κ : Nat → ClassId} {H : Heap} {locs : List Loc} (t : Nat → Nat) (n : Nat)   (hx : p.tables.exec = Jvm.exec) (hb : c.code = cX5_entryOf) (hml : c.maxLocals = 8) (hown : s.vm.findClass RX5 = some m.cls) (hts : ∀ w ∈ wsX5_entryOf, w.before args s = true) (hK : va_K D vwCl (zTY κ) s) (hP : va_P D vwCl (zpgc κ t n) H) (i1 : Int) (i2 : Int) (i3 : Int) (i4 : Int) (i5 : Int) (i6 : Int) (hg : Go (GoE (zA_X5_entryOf p l e s m args below meth c Q H locs t n ) (zQ_X5_entryOf p l e s m args below meth c Q H locs)) (zg_X5_entryOf_0 n i1 i2 i3 i4 i5 i6)) : zA_X5_entryOf_0 p l e s m args below meth c Q H locs t n  i1 i2 i3 i4 i5 i6 := by
  intro ls hl
  unfold zg_X5_entryOf_0 at hg
  refine lv_iload_n hx hb dX5_entryOf_0 rfl (lv_at hl 2 rfl) ?_
  refine lv_iload_n hx hb dX5_entryOf_1 rfl (lv_at hl 3 rfl) ?_
  obtain ⟨b1, hg⟩ := Go_n hg
  obtain ⟨b2, hg⟩ := Go_n hg
  refine zv_icmp_ne (tgt := 7) hx hb dX5_entryOf_2 (by decide) b1 b2 (fun c3 => ?_) (fun c3 => ?_)
  · have hg := Go_f c3 hg
    refine zv_iconst hx hb dX5_entryOf_7 ?_
    refine lv_istore (lv' := [(4, .int (zi (0 : Int))), (0, .ref (t 0)), (1, .int (zi i1)), (2, .int (zi i2)), (3, .int (zi i3))]) hx hb dX5_entryOf_8 hl (by decide) rfl (fun ls hl => ?_)
    refine zv_iconst hx hb dX5_entryOf_10 ?_
    refine lv_istore (lv' := [(5, .int (zi (1 : Int))), (4, .int (zi (0 : Int))), (0, .ref (t 0)), (1, .int (zi i1)), (2, .int (zi i2)), (3, .int (zi i3))]) hx hb dX5_entryOf_11 hl (by decide) rfl (fun ls hl => ?_)
    refine lv_iload_n hx hb dX5_entryOf_13 rfl (lv_at hl 4 rfl) ?_
    refine lv_iload_n hx hb dX5_entryOf_14 rfl (lv_at hl 5 rfl) ?_
    refine va_mmin hx hb (by rw [hml]; exact hl.1.symm) hown (hts (.methodLink RX5 94 Lib.Math.min.name) (List.mem_cons_of_mem _ (List.mem_append_left _ (List.mem_of_getElem? (i := 0) rfl)))) (hts (.static Lib.Math.min.name) (List.mem_cons_of_mem _ (List.mem_append_left _ (List.mem_of_getElem? (i := 1) rfl)))) (hts (.initialized "java/lang/Math") (List.mem_cons_of_mem _ (List.mem_append_left _ (List.mem_of_getElem? (i := 2) rfl)))) (hts (.code Lib.Math.min.name Lib.Math.min.code 2 (some .int)) (List.mem_cons_of_mem _ (List.mem_append_left _ (List.mem_of_getElem? (i := 3) rfl)))) (Nat.le_of_ble_eq_true rfl) (Nat.le_of_ble_eq_true rfl) (Nat.zero_le _) (Nat.zero_le _) dX5_entryOf_15 ?_
    rw [zi_min b1 b2]
    refine zv_iconst hx hb dX5_entryOf_18 ?_
    refine zv_iadd hx hb dX5_entryOf_19 ?_
    refine lv_istore (lv' := [(6, .int (zi ((zmin i2 i3) + (1 : Int)))), (5, .int (zi (1 : Int))), (4, .int (zi (0 : Int))), (0, .ref (t 0)), (1, .int (zi i1)), (2, .int (zi i2)), (3, .int (zi i3))]) hx hb dX5_entryOf_20 hl (by decide) rfl (fun ls hl => ?_)
    exact (Go_s hg) ls (lv_sub hl [3, 4, 5, 6, 2, 1, 0] rfl)
  · have hg := Go_t c3 hg
    refine zv_iconst hx hb dX5_entryOf_5 ?_
    exact (Go_s hg) _ _ dX5_entryOf_6
set_option maxHeartbeats 4000000 in
set_option maxRecDepth 100000 in
theorem zs_X5_entryOf_22 {p : Program} {l : Launch} {e : Env} {s : State} {m : MethodId} {args : Array Value} {below : List Frame} {meth : Method} {c : Code} {Q : State → Prop} {D : va_G} {κ : Nat → ClassId} {H : Heap} {locs : List Loc} (t : Nat → Nat) (n : Nat)   (hx : p.tables.exec = Jvm.exec) (hb : c.code = cX5_entryOf) (hml : c.maxLocals = 8) (hown : s.vm.findClass RX5 = some m.cls) (hts : ∀ w ∈ wsX5_entryOf, w.before args s = true) (hK : va_K D vwCl (zTY κ) s) (hP : va_P D vwCl (zpgc κ t n) H) (i1 : Int) (i2 : Int) (i3 : Int) (i4 : Int) (i5 : Int) (i6 : Int) (hg : Go (GoE (zA_X5_entryOf p l e s m args below meth c Q H locs t n ) (zQ_X5_entryOf p l e s m args below meth c Q H locs)) (zg_X5_entryOf_22 n i1 i2 i3 i4 i5 i6)) : zA_X5_entryOf_22 p l e s m args below meth c Q H locs t n  i1 i2 i3 i4 i5 i6 := by
  intro ls hl
  unfold zg_X5_entryOf_22 at hg
  refine lv_iload hx hb dX5_entryOf_22 (lv_at hl 6 rfl) ?_
  refine lv_iload_n hx hb dX5_entryOf_24 rfl (lv_at hl 2 rfl) ?_
  refine lv_iload_n hx hb dX5_entryOf_25 rfl (lv_at hl 3 rfl) ?_
  obtain ⟨b4, hg⟩ := Go_n hg
  obtain ⟨b5, hg⟩ := Go_n hg
  refine va_mmax hx hb (by rw [hml]; exact hl.1.symm) hown (hts (.methodLink RX5 97 Lib.Math.max.name) (List.mem_cons_of_mem _ (List.mem_append_left _ (List.mem_of_getElem? (i := 4) rfl)))) (hts (.static Lib.Math.max.name) (List.mem_cons_of_mem _ (List.mem_append_left _ (List.mem_of_getElem? (i := 5) rfl)))) (hts (.initialized "java/lang/Math") (List.mem_cons_of_mem _ (List.mem_append_left _ (List.mem_of_getElem? (i := 2) rfl)))) (hts (.code Lib.Math.max.name Lib.Math.max.code 2 (some .int)) (List.mem_cons_of_mem _ (List.mem_append_left _ (List.mem_of_getElem? (i := 6) rfl)))) (Nat.le_of_ble_eq_true rfl) (Nat.le_of_ble_eq_true rfl) (Nat.zero_le _) (Nat.zero_le _) dX5_entryOf_26 ?_
  rw [zi_max b4 b5]
  obtain ⟨b6, hg⟩ := Go_n hg
  obtain ⟨b7, hg⟩ := Go_n hg
  refine zv_icmp_ge (tgt := 61) hx hb dX5_entryOf_29 (by decide) b6 b7 (fun c9 => ?_) (fun c9 => ?_)
  · have hg := Go_t c9 hg
    refine lv_iload hx hb dX5_entryOf_61 (lv_at hl 5 rfl) ?_
    exact (Go_s hg) _ _ dX5_entryOf_63
  · have hg := Go_f c9 hg
    refine lv_aload_n hx hb dX5_entryOf_32 rfl (lv_at hl 0 rfl) ?_
    refine lv_iload_n hx hb dX5_entryOf_33 rfl (lv_at hl 1 rfl) ?_
    refine lv_iload hx hb dX5_entryOf_34 (lv_at hl 6 rfl) ?_
    obtain ⟨o8, ho8, hg⟩ := Go_b hg
    refine zc_vi (rest := []) ⟨hx, hb, hml, hown, hts⟩ (zc_X5_trianglesAt l D κ t n i1 i6 o8 ho8) (cwV 2 hts gX5_entryOf_X5_trianglesAt rfl rfl rfl hv_X5_trianglesAt ⟨Nat.le_of_ble_eq_true rfl, Nat.le_of_ble_eq_true rfl⟩) (zpreV hK (hP.sub [0, 1, 2, 3, 4, 5, 6] rfl) 5 0 rfl rfl) rfl hl.1 rfl (Nat.le_of_ble_eq_true rfl) dX5_entryOf_36 ⟨Nat.zero_le _, Nat.zero_le _⟩ ?_
    refine lv_iload hx hb dX5_entryOf_39 (lv_at hl 5 rfl) ?_
    refine zv_imul hx hb dX5_entryOf_41 ?_
    refine lv_iload hx hb dX5_entryOf_42 (lv_at hl 4 rfl) ?_
    refine zv_isub hx hb dX5_entryOf_44 ?_
    refine lv_istore (lv' := [(7, .int (zi ((o8 * i5) - i4))), (0, .ref (t 0)), (1, .int (zi i1)), (2, .int (zi i2)), (3, .int (zi i3)), (4, .int (zi i4)), (5, .int (zi i5)), (6, .int (zi i6))]) hx hb dX5_entryOf_45 hl (by decide) rfl (fun ls hl => ?_)
    refine lv_iload hx hb dX5_entryOf_47 (lv_at hl 6 rfl) ?_
    refine lv_istore (lv' := [(4, .int (zi i5)), (7, .int (zi ((o8 * i5) - i4))), (0, .ref (t 0)), (1, .int (zi i1)), (2, .int (zi i2)), (3, .int (zi i3)), (5, .int (zi i5)), (6, .int (zi i6))]) hx hb dX5_entryOf_49 hl (by decide) rfl (fun ls hl => ?_)
    refine lv_iload hx hb dX5_entryOf_51 (lv_at hl 1 rfl) ?_
    refine lv_istore (lv' := [(5, .int (zi ((o8 * i5) - i4))), (4, .int (zi i5)), (7, .int (zi ((o8 * i5) - i4))), (0, .ref (t 0)), (1, .int (zi i1)), (2, .int (zi i2)), (3, .int (zi i3)), (6, .int (zi i6))]) hx hb dX5_entryOf_53 hl (by decide) rfl (fun ls hl => ?_)
    refine lv_iinc (v := zi (i6 + (1 : Int))) (lv' := [(6, .int (zi (i6 + (1 : Int)))), (5, .int (zi ((o8 * i5) - i4))), (4, .int (zi i5)), (7, .int (zi ((o8 * i5) - i4))), (0, .ref (t 0)), (1, .int (zi i1)), (2, .int (zi i2)), (3, .int (zi i3))]) hx hb dX5_entryOf_55 hl (k := 7) rfl (zi_add i6 _) (by decide) rfl (fun ls hl => ?_)
    refine lv_goto (tgt := 22) hx hb dX5_entryOf_58 (by decide) ?_
    exact (Go_s hg) ls (lv_sub hl [4, 5, 6, 7, 2, 1, 0] rfl)
set_option maxHeartbeats 4000000 in
set_option maxRecDepth 100000 in
theorem zw_X5_entryOf {p : Program} {l : Launch} {e : Env} {s : State} {m : MethodId} {args : Array Value} {below : List Frame} {meth : Method} {c : Code} {Q : State → Prop} {D : va_G} {κ : Nat → ClassId} {H : Heap} {locs : List Loc} (t : Nat → Nat) (n : Nat)   (i1 : Int) (i2 : Int) (i3 : Int) (hx : p.tables.exec = Jvm.exec) (hb : c.code = cX5_entryOf) (hml : c.maxLocals = 8) (hown : s.vm.findClass RX5 = some m.cls) (hts : ∀ w ∈ wsX5_entryOf, w.before args s = true) (hK : va_K D vwCl (zTY κ) s) (hP : va_P D vwCl (zpgc κ t n) H) (out : Int) (h : zf_X5_entryOf n i1 i2 i3 = some out) (hq : zQ_X5_entryOf p l e s m args below meth c Q H locs out) : zA_X5_entryOf_0 p l e s m args below meth c Q H locs t n  i1 i2 i3 0 0 0 := by
  have hst : ∀ st : zS_X5_entryOf, Go (GoE (zA_X5_entryOf p l e s m args below meth c Q H locs t n ) (zQ_X5_entryOf p l e s m args below meth c Q H locs)) (zg_X5_entryOf n st) → zA_X5_entryOf p l e s m args below meth c Q H locs t n  st := by
    intro st hg
    obtain ⟨lab, i1, i2, i3, i4, i5, i6⟩ := st
    by_cases h0 : lab = 0
    · subst h0
      exact zs_X5_entryOf_0 t n   hx hb hml hown hts hK hP i1 i2 i3 i4 i5 i6 hg
    by_cases h22 : lab = 22
    · subst h22
      exact zs_X5_entryOf_22 t n   hx hb hml hown hts hK hP i1 i2 i3 i4 i5 i6 hg
    have hz : zg_X5_entryOf n (lab, i1, i2, i3, i4, i5, i6) = none := by simp [zg_X5_entryOf, h0, h22]
    rw [hz] at hg
    obtain ⟨a, h1, -⟩ := hg
    cases h1
  exact jwalk (At := zA_X5_entryOf p l e s m args below meth c Q H locs t n ) (Ret := zQ_X5_entryOf p l e s m args below meth c Q H locs) hst _ _ _ h hq
set_option maxHeartbeats 4000000 in
set_option maxRecDepth 100000 in
theorem zc_X5_entryOf (l : Launch) (D : va_G) (κ : Nat → ClassId) (t : Nat → Nat) (n : Nat)  (i1 : Int) (i2 : Int) (i3 : Int) (out : Int) (h : zf_X5_entryOf n i1 i2 i3 = some out) : Met l yX5_entryOf wsX5_entryOf zr_X5_entryOf (va_Pc [.ref (t 0), .int (zi i1), .int (zi i2), .int (zi i3)] (zR D κ (zpgc κ t n))) (vp_Si (fun x => x = zi out)) 0 0 (fun _ => False) := by
  refine Met.ofW (cc := cX5_entryOf) (maxL := 8) (ret := (some .int)) (by decide +kernel) rfl ?_
  intro p e s m args below meth c s₁ B hml hv
  obtain ⟨rfl, hP, hK⟩ := hv
  have hx := B.exec
  have hb := B.bytes
  have hr := B.returns
  have hts := atoms_spec (ws := wsX5_entryOf) B.pre
  have hown : s.vm.findClass RX5 = some m.cls := findClass_of_methodNamed B.named
  have hlocks := B.notSynchronized
  have hl := lv_entry ([.ref (t 0), .int (zi i1), .int (zi i2), .int (zi i3)]) (n := 8) (Nat.le_of_ble_eq_true rfl)
  rw [lg_entry_eq]
  generalize (lg_sl ([.ref (t 0), .int (zi i1), .int (zi i2), .int (zi i3)]) ++ List.replicate (8 - (lg_sl ([.ref (t 0), .int (zi i1), .int (zi i2), .int (zi i3)])).length) Slot.unset).toArray = ls at hl ⊢
  have hl : lv_has ls 8 [(0, .ref (t 0)), (1, .int (zi i1)), (2, .int (zi i2)), (3, .int (zi i3))] := hl
  refine (zw_X5_entryOf t n   i1 i2 i3 hx hb hml hown hts hK hP out h ?_) ls (lv_sub hl [0, 1, 2, 3] rfl)
  exact fun ls pc hd => W.iret hx hb hr (fun t ht hW => ⟨_, rfl, rfl, ht⟩) (fun _ h => by cases h) hd
/-! DiamondRows$Polygon.otherLine(II)I -/
abbrev zr_X5_otherLine : Room := { frames := 0, cells := 0, slots := 0, locals := 0 }
abbrev zS_X5_otherLine : Type := Nat × Int × Int × Int
abbrev zO_X5_otherLine : Type := Int
noncomputable def zg_X5_otherLine_0 (n : Nat)  (i1 : Int) (i2 : Int) (i3 : Int) : Option (zO_X5_otherLine ⊕ zS_X5_otherLine) :=
  some (.inr (2, i1, i2, (0 : Int)))
noncomputable def zg_X5_otherLine_2 (n : Nat)  (i1 : Int) (i2 : Int) (i3 : Int) : Option (zO_X5_otherLine ⊕ zS_X5_otherLine) :=
  if zout i3 then none else
  if zout (pg7 n) then none else
  if (pg7 n) ≤ i3 then
  some (.inl ((-1 : Int)))
  else
  if i3 < 0 ∨ 27 ≤ i3 then none else
  if (zand (zget (pg4 n) (Int.toNat i3)) i1) = (zshl (1 : Int) i2) then
  some (.inl (i3))
  else
  some (.inr (2, i1, i2, (i3 + (1 : Int))))
noncomputable def zg_X5_otherLine (n : Nat)  (st : zS_X5_otherLine) : Option (zO_X5_otherLine ⊕ zS_X5_otherLine) := match st with
  | (lab, i1, i2, i3) => if lab = 0 then zg_X5_otherLine_0 n i1 i2 i3 else if lab = 2 then zg_X5_otherLine_2 n i1 i2 i3 else none
noncomputable def zf_X5_otherLine (n : Nat)  (i1 : Int) (i2 : Int) : Option (Int) := jrun (zg_X5_otherLine n) jfuel (0, i1, i2, 0)
theorem zi_X5_otherLine_X5 : ∀ w ∈ u_ws RX5 TX5 9, w ∈ wsX5_otherLine := fun w h => (List.mem_cons_of_mem _ (List.mem_append_right _ h))
theorem zl_X5_otherLine_21 : Cond.fieldLink RX5 21 "DiamondRows$Polygon" "crossers" "[I" ∈ wsX5_otherLine := (List.mem_cons_of_mem _ (List.mem_append_left _ (List.mem_of_getElem? (i := 1) rfl)))
theorem zl_X5_otherLine_40 : Cond.fieldLink RX5 40 "DiamondRows$Polygon" "lineCount" "I" ∈ wsX5_otherLine := (List.mem_cons_of_mem _ (List.mem_append_left _ (List.mem_of_getElem? (i := 0) rfl)))
def zQ_X5_otherLine (p : Program) (l : Launch) (e : Env) (s : State) (m : MethodId) (args : Array Value) (below : List Frame) (meth : Method) (c : Code) (Q : State → Prop) (H : Heap) (locs : List Loc)  (o : Int) : Prop := ∀ (ls : Array Slot) (pc : Nat), decode cX5_otherLine pc = .ok (.ireturn, 1) → W p l e zr_X5_otherLine s m args below meth c H locs 0 0 Q (F0 m pc ls [.int (zi o)])
def zA_X5_otherLine_0 (p : Program) (l : Launch) (e : Env) (s : State) (m : MethodId) (args : Array Value) (below : List Frame) (meth : Method) (c : Code) (Q : State → Prop) (H : Heap) (locs : List Loc) (t : Nat → Nat) (n : Nat)  (i1 : Int) (i2 : Int) (i3 : Int) : Prop := ∀ ls : Array Slot, lv_has ls 4 [(0, .ref (t 0)), (1, .int (zi i1)), (2, .int (zi i2))] → W p l e zr_X5_otherLine s m args below meth c H locs 0 0 Q (F0 m 0 ls [])
def zA_X5_otherLine_2 (p : Program) (l : Launch) (e : Env) (s : State) (m : MethodId) (args : Array Value) (below : List Frame) (meth : Method) (c : Code) (Q : State → Prop) (H : Heap) (locs : List Loc) (t : Nat → Nat) (n : Nat)  (i1 : Int) (i2 : Int) (i3 : Int) : Prop := ∀ ls : Array Slot, lv_has ls 4 [(0, .ref (t 0)), (1, .int (zi i1)), (2, .int (zi i2)), (3, .int (zi i3))] → W p l e zr_X5_otherLine s m args below meth c H locs 0 0 Q (F0 m 2 ls [])
def zA_X5_otherLine (p : Program) (l : Launch) (e : Env) (s : State) (m : MethodId) (args : Array Value) (below : List Frame) (meth : Method) (c : Code) (Q : State → Prop) (H : Heap) (locs : List Loc) (t : Nat → Nat) (n : Nat)  (st : zS_X5_otherLine) : Prop := match st with
  | (lab, i1, i2, i3) => if lab = 0 then zA_X5_otherLine_0 p l e s m args below meth c Q H locs t n  i1 i2 i3 else if lab = 2 then zA_X5_otherLine_2 p l e s m args below meth c Q H locs t n  i1 i2 i3 else True
set_option maxHeartbeats 4000000 in
set_option maxRecDepth 100000 in
theorem zs_X5_otherLine_0 {p : Program} {l : Launch} {e : Env} {s : State} {m : MethodId} {args : Array Value} {below : List Frame} {meth : Method} {c : Code} {Q : State → Prop} {D : va_G} {κ : Nat → ClassId} {H : Heap} {locs : List Loc} (t : Nat → Nat) (n : Nat)   (hx : p.tables.exec = Jvm.exec) (hb : c.code = cX5_otherLine) (hml : c.maxLocals = 4) (hown : s.vm.findClass RX5 = some m.cls) (hts : ∀ w ∈ wsX5_otherLine, w.before args s = true) (hK : va_K D vwCl (zTY κ) s) (hP : va_P D vwCl (zpgc κ t n) H) (i1 : Int) (i2 : Int) (i3 : Int) (hg : Go (GoE (zA_X5_otherLine p l e s m args below meth c Q H locs t n ) (zQ_X5_otherLine p l e s m args below meth c Q H locs)) (zg_X5_otherLine_0 n i1 i2 i3)) : zA_X5_otherLine_0 p l e s m args below meth c Q H locs t n  i1 i2 i3 := by
  intro ls hl
  unfold zg_X5_otherLine_0 at hg
  refine zv_iconst hx hb dX5_otherLine_0 ?_
  refine lv_istore_n (lv' := [(3, .int (zi (0 : Int))), (0, .ref (t 0)), (1, .int (zi i1)), (2, .int (zi i2))]) hx hb dX5_otherLine_1 rfl hl (by decide) rfl (fun ls hl => ?_)
  exact (Go_s hg) ls (lv_sub hl [1, 2, 3, 0] rfl)
set_option maxHeartbeats 4000000 in
set_option maxRecDepth 100000 in
theorem zs_X5_otherLine_2 {p : Program} {l : Launch} {e : Env} {s : State} {m : MethodId} {args : Array Value} {below : List Frame} {meth : Method} {c : Code} {Q : State → Prop} {D : va_G} {κ : Nat → ClassId} {H : Heap} {locs : List Loc} (t : Nat → Nat) (n : Nat)   (hx : p.tables.exec = Jvm.exec) (hb : c.code = cX5_otherLine) (hml : c.maxLocals = 4) (hown : s.vm.findClass RX5 = some m.cls) (hts : ∀ w ∈ wsX5_otherLine, w.before args s = true) (hK : va_K D vwCl (zTY κ) s) (hP : va_P D vwCl (zpgc κ t n) H) (i1 : Int) (i2 : Int) (i3 : Int) (hg : Go (GoE (zA_X5_otherLine p l e s m args below meth c Q H locs t n ) (zQ_X5_otherLine p l e s m args below meth c Q H locs)) (zg_X5_otherLine_2 n i1 i2 i3)) : zA_X5_otherLine_2 p l e s m args below meth c Q H locs t n  i1 i2 i3 := by
  intro ls hl
  unfold zg_X5_otherLine_2 at hg
  refine lv_iload_n hx hb dX5_otherLine_2 rfl (lv_at hl 3 rfl) ?_
  refine lv_aload_n hx hb dX5_otherLine_3 rfl (lv_at hl 0 rfl) ?_
  refine va_get (D := D) (ci := 5) (v := .int (zi (pg7 n))) (C := RX5) (T := TX5) (N := 9) hx hb hts zi_X5_otherLine_X5 hown hK hP 0 rfl rfl 7 (by decide) (hts (.fieldLink RX5 40 "DiamondRows$Polygon" "lineCount" "I") zl_X5_otherLine_40) (fun _ h9 => h9) rfl dX5_otherLine_4 ?_
  obtain ⟨b1, hg⟩ := Go_n hg
  obtain ⟨b2, hg⟩ := Go_n hg
  refine zv_icmp_ge (tgt := 32) hx hb dX5_otherLine_7 (by decide) b1 b2 (fun c5 => ?_) (fun c5 => ?_)
  · have hg := Go_t c5 hg
    refine zv_iconst hx hb dX5_otherLine_32 ?_
    exact (Go_s hg) _ _ dX5_otherLine_33
  · have hg := Go_f c5 hg
    refine lv_aload_n hx hb dX5_otherLine_10 rfl (lv_at hl 0 rfl) ?_
    refine va_get (D := D) (ci := 5) (v := .ref (t 4)) (C := RX5) (T := TX5) (N := 9) hx hb hts zi_X5_otherLine_X5 hown hK hP 0 rfl rfl 4 (by decide) (hts (.fieldLink RX5 21 "DiamondRows$Polygon" "crossers" "[I") zl_X5_otherLine_21) (fun _ h9 => h9) rfl dX5_otherLine_11 ?_
    refine lv_iload_n hx hb dX5_otherLine_14 rfl (lv_at hl 3 rfl) ?_
    obtain ⟨n3, hg⟩ := Go_n hg
    refine zv_iald hx hb hK hP 4 1 rfl rfl (by decide) n3 dX5_otherLine_15 ?_
    refine lv_iload_n hx hb dX5_otherLine_16 rfl (lv_at hl 1 rfl) ?_
    refine zv_iand hx hb dX5_otherLine_17 ?_
    refine zv_iconst hx hb dX5_otherLine_18 ?_
    refine lv_iload_n hx hb dX5_otherLine_19 rfl (lv_at hl 2 rfl) ?_
    refine zv_ishl hx hb dX5_otherLine_20 ?_
    refine zv_icmp_ne (tgt := 26) hx hb dX5_otherLine_21 (by decide) (zand_in _ _) (zshl_in _ _) (fun c4 => ?_) (fun c4 => ?_)
    · have hg := Go_f c4 hg
      refine lv_iinc (v := zi (i3 + (1 : Int))) (lv' := [(3, .int (zi (i3 + (1 : Int)))), (0, .ref (t 0)), (1, .int (zi i1)), (2, .int (zi i2))]) hx hb dX5_otherLine_26 hl (k := 3) rfl (zi_add i3 _) (by decide) rfl (fun ls hl => ?_)
      refine lv_goto (tgt := 2) hx hb dX5_otherLine_29 (by decide) ?_
      exact (Go_s hg) ls (lv_sub hl [1, 2, 3, 0] rfl)
    · have hg := Go_t c4 hg
      refine lv_iload_n hx hb dX5_otherLine_24 rfl (lv_at hl 3 rfl) ?_
      exact (Go_s hg) _ _ dX5_otherLine_25
set_option maxHeartbeats 4000000 in
set_option maxRecDepth 100000 in
theorem zw_X5_otherLine {p : Program} {l : Launch} {e : Env} {s : State} {m : MethodId} {args : Array Value} {below : List Frame} {meth : Method} {c : Code} {Q : State → Prop} {D : va_G} {κ : Nat → ClassId} {H : Heap} {locs : List Loc} (t : Nat → Nat) (n : Nat)   (i1 : Int) (i2 : Int) (hx : p.tables.exec = Jvm.exec) (hb : c.code = cX5_otherLine) (hml : c.maxLocals = 4) (hown : s.vm.findClass RX5 = some m.cls) (hts : ∀ w ∈ wsX5_otherLine, w.before args s = true) (hK : va_K D vwCl (zTY κ) s) (hP : va_P D vwCl (zpgc κ t n) H) (out : Int) (h : zf_X5_otherLine n i1 i2 = some out) (hq : zQ_X5_otherLine p l e s m args below meth c Q H locs out) : zA_X5_otherLine_0 p l e s m args below meth c Q H locs t n  i1 i2 0 := by
  have hst : ∀ st : zS_X5_otherLine, Go (GoE (zA_X5_otherLine p l e s m args below meth c Q H locs t n ) (zQ_X5_otherLine p l e s m args below meth c Q H locs)) (zg_X5_otherLine n st) → zA_X5_otherLine p l e s m args below meth c Q H locs t n  st := by
    intro st hg
    obtain ⟨lab, i1, i2, i3⟩ := st
    by_cases h0 : lab = 0
    · subst h0
      exact zs_X5_otherLine_0 t n   hx hb hml hown hts hK hP i1 i2 i3 hg
    by_cases h2 : lab = 2
    · subst h2
      exact zs_X5_otherLine_2 t n   hx hb hml hown hts hK hP i1 i2 i3 hg
    have hz : zg_X5_otherLine n (lab, i1, i2, i3) = none := by simp [zg_X5_otherLine, h0, h2]
    rw [hz] at hg
    obtain ⟨a, h1, -⟩ := hg
    cases h1
  exact jwalk (At := zA_X5_otherLine p l e s m args below meth c Q H locs t n ) (Ret := zQ_X5_otherLine p l e s m args below meth c Q H locs) hst _ _ _ h hq
set_option maxHeartbeats 4000000 in
set_option maxRecDepth 100000 in
theorem zc_X5_otherLine (l : Launch) (D : va_G) (κ : Nat → ClassId) (t : Nat → Nat) (n : Nat)  (i1 : Int) (i2 : Int) (out : Int) (h : zf_X5_otherLine n i1 i2 = some out) : Met l yX5_otherLine wsX5_otherLine zr_X5_otherLine (va_Pc [.ref (t 0), .int (zi i1), .int (zi i2)] (zR D κ (zpgc κ t n))) (vp_Si (fun x => x = zi out)) 0 0 (fun _ => False) := by
  refine Met.ofW (cc := cX5_otherLine) (maxL := 4) (ret := (some .int)) (by decide +kernel) rfl ?_
  intro p e s m args below meth c s₁ B hml hv
  obtain ⟨rfl, hP, hK⟩ := hv
  have hx := B.exec
  have hb := B.bytes
  have hr := B.returns
  have hts := atoms_spec (ws := wsX5_otherLine) B.pre
  have hown : s.vm.findClass RX5 = some m.cls := findClass_of_methodNamed B.named
  have hlocks := B.notSynchronized
  have hl := lv_entry ([.ref (t 0), .int (zi i1), .int (zi i2)]) (n := 4) (Nat.le_of_ble_eq_true rfl)
  rw [lg_entry_eq]
  generalize (lg_sl ([.ref (t 0), .int (zi i1), .int (zi i2)]) ++ List.replicate (4 - (lg_sl ([.ref (t 0), .int (zi i1), .int (zi i2)])).length) Slot.unset).toArray = ls at hl ⊢
  have hl : lv_has ls 4 [(0, .ref (t 0)), (1, .int (zi i1)), (2, .int (zi i2))] := hl
  refine (zw_X5_otherLine t n   i1 i2 hx hb hml hown hts hK hP out h ?_) ls (lv_sub hl [0, 1, 2] rfl)
  exact fun ls pc hd => W.iret hx hb hr (fun t ht hW => ⟨_, rfl, rfl, ht⟩) (fun _ h => by cases h) hd
/-! DiamondRows$Polygon.neighbourWith(II)I -/
abbrev zr_X5_neighbourWith : Room := { frames := 2, cells := 0, slots := 0, locals := 42 }
noncomputable def zf_X5_neighbourWith (n : Nat)  (i1 : Int) (i2 : Int) : Option (Int) :=
  Option.bind (zf_X5_crossersOf n i2) (fun o1 =>
  Option.bind (zf_J6_bitCount_0f7a4 (zand o1 i1)) (fun o2 =>
  if zout o2 then none else
  if o2 = (1 : Int) then
  Option.bind (zf_X5_numberOf n (zor (zxor i1 (zand o1 i1)) (zshl (1 : Int) i2))) (fun o4 =>
  some (o4))
  else
  some ((-1 : Int))))
def zQ_X5_neighbourWith (p : Program) (l : Launch) (e : Env) (s : State) (m : MethodId) (args : Array Value) (below : List Frame) (meth : Method) (c : Code) (Q : State → Prop) (H : Heap) (locs : List Loc)  (o : Int) : Prop := ∀ (ls : Array Slot) (pc : Nat), decode cX5_neighbourWith pc = .ok (.ireturn, 1) → W p l e zr_X5_neighbourWith s m args below meth c H locs 0 0 Q (F0 m pc ls [.int (zi o)])
set_option maxHeartbeats 4000000 in
set_option maxRecDepth 100000 in
theorem zs_X5_neighbourWith {p : Program} {l : Launch} {e : Env} {s : State} {m : MethodId} {args : Array Value} {below : List Frame} {meth : Method} {c : Code} {Q : State → Prop} {D : va_G} {κ : Nat → ClassId} {H : Heap} {locs : List Loc} (t : Nat → Nat) (n : Nat)  (i1 : Int) (i2 : Int) (hx : p.tables.exec = Jvm.exec) (hb : c.code = cX5_neighbourWith) (hml : c.maxLocals = 4) (hown : s.vm.findClass RX5 = some m.cls) (hts : ∀ w ∈ wsX5_neighbourWith, w.before args s = true) (hK : va_K D vwCl (zTY κ) s) (hP : va_P D vwCl (zpgc κ t n) H) (ls : Array Slot) (hl : lv_has ls 4 [(0, .ref (t 0)), (1, .int (zi i1)), (2, .int (zi i2))]) (hg : Go (zQ_X5_neighbourWith p l e s m args below meth c Q H locs) (zf_X5_neighbourWith n i1 i2)) : W p l e zr_X5_neighbourWith s m args below meth c H locs 0 0 Q (F0 m 0 ls []) := by
  unfold zf_X5_neighbourWith at hg
  refine lv_aload_n hx hb dX5_neighbourWith_0 rfl (lv_at hl 0 rfl) ?_
  refine lv_iload_n hx hb dX5_neighbourWith_1 rfl (lv_at hl 2 rfl) ?_
  obtain ⟨o1, ho1, hg⟩ := Go_b hg
  refine zc_vi (rest := []) ⟨hx, hb, hml, hown, hts⟩ (zc_X5_crossersOf l D κ t n i2 o1 ho1) (cwV 1 hts gX5_neighbourWith_X5_crossersOf rfl rfl rfl hv_X5_crossersOf ⟨Nat.le_of_ble_eq_true rfl, Nat.le_of_ble_eq_true rfl⟩) (zpreV hK (hP.sub [0, 1, 2, 3, 4, 5, 6] rfl) 5 0 rfl rfl) rfl hl.1 rfl (Nat.le_of_ble_eq_true rfl) dX5_neighbourWith_2 ⟨Nat.zero_le _, Nat.zero_le _⟩ ?_
  refine lv_iload_n hx hb dX5_neighbourWith_5 rfl (lv_at hl 1 rfl) ?_
  refine zv_iand hx hb dX5_neighbourWith_6 ?_
  refine lv_istore_n (lv' := [(3, .int (zi (zand o1 i1))), (0, .ref (t 0)), (1, .int (zi i1)), (2, .int (zi i2))]) hx hb dX5_neighbourWith_7 rfl hl (by decide) rfl (fun ls hl => ?_)
  refine lv_iload_n hx hb dX5_neighbourWith_8 rfl (lv_at hl 0 rfl) ?_
  obtain ⟨o2, ho2, hg⟩ := Go_b hg
  refine zc_si (rest := []) ⟨hx, hb, hml, hown, hts⟩ (zc_J6_bitCount_0f7a4 l D κ (zand o1 i1) o2 ho2) (va_cwS 1 hts gX5_neighbourWith_J6_bitCount_0f7a4 rfl rfl rfl hs_J6_bitCount_0f7a4 ⟨Nat.le_of_ble_eq_true rfl, Nat.le_of_ble_eq_true rfl⟩) (zpreS hK (hP.sub [] rfl)) rfl hl.1 rfl (Nat.le_of_ble_eq_true rfl) dX5_neighbourWith_9 ⟨Nat.zero_le _, Nat.zero_le _⟩ ?_
  refine zv_iconst hx hb dX5_neighbourWith_12 ?_
  obtain ⟨b3, hg⟩ := Go_n hg
  refine zv_icmp_ne (tgt := 30) hx hb dX5_neighbourWith_13 (by decide) b3 (by decide) (fun c5 => ?_) (fun c5 => ?_)
  · have hg := Go_f c5 hg
    refine zv_iconst hx hb dX5_neighbourWith_30 ?_
    exact (Go_s hg) _ _ dX5_neighbourWith_31
  · have hg := Go_t c5 hg
    refine lv_aload_n hx hb dX5_neighbourWith_16 rfl (lv_at hl 1 rfl) ?_
    refine lv_iload_n hx hb dX5_neighbourWith_17 rfl (lv_at hl 2 rfl) ?_
    refine lv_iload_n hx hb dX5_neighbourWith_18 rfl (lv_at hl 0 rfl) ?_
    refine zv_ixor hx hb dX5_neighbourWith_19 ?_
    refine zv_iconst hx hb dX5_neighbourWith_20 ?_
    refine lv_iload_n hx hb dX5_neighbourWith_21 rfl (lv_at hl 3 rfl) ?_
    refine zv_ishl hx hb dX5_neighbourWith_22 ?_
    refine zv_ior hx hb dX5_neighbourWith_23 ?_
    obtain ⟨o4, ho4, hg⟩ := Go_b hg
    refine zc_vi (rest := []) ⟨hx, hb, hml, hown, hts⟩ (zc_X5_numberOf l D κ t n (zor (zxor i1 (zand o1 i1)) (zshl (1 : Int) i2)) o4 ho4) (cwV 1 hts gX5_neighbourWith_X5_numberOf rfl rfl rfl hv_X5_numberOf ⟨Nat.le_of_ble_eq_true rfl, Nat.le_of_ble_eq_true rfl⟩) (zpreV hK (hP.sub [0, 1, 2, 3, 4, 5, 6] rfl) 5 0 rfl rfl) rfl hl.1 rfl (Nat.le_of_ble_eq_true rfl) dX5_neighbourWith_24 ⟨Nat.zero_le _, Nat.zero_le _⟩ ?_
    refine lv_goto (tgt := 31) hx hb dX5_neighbourWith_27 (by decide) ?_
    exact (Go_s hg) _ _ dX5_neighbourWith_31
set_option maxHeartbeats 4000000 in
set_option maxRecDepth 100000 in
theorem zc_X5_neighbourWith (l : Launch) (D : va_G) (κ : Nat → ClassId) (t : Nat → Nat) (n : Nat)  (i1 : Int) (i2 : Int) (out : Int) (h : zf_X5_neighbourWith n i1 i2 = some out) : Met l yX5_neighbourWith wsX5_neighbourWith zr_X5_neighbourWith (va_Pc [.ref (t 0), .int (zi i1), .int (zi i2)] (zR D κ (zpgc κ t n))) (vp_Si (fun x => x = zi out)) 0 0 (fun _ => False) := by
  refine Met.ofW (cc := cX5_neighbourWith) (maxL := 4) (ret := (some .int)) (by decide +kernel) rfl ?_
  intro p e s m args below meth c s₁ B hml hv
  obtain ⟨rfl, hP, hK⟩ := hv
  have hx := B.exec
  have hb := B.bytes
  have hr := B.returns
  have hts := atoms_spec (ws := wsX5_neighbourWith) B.pre
  have hown : s.vm.findClass RX5 = some m.cls := findClass_of_methodNamed B.named
  have hlocks := B.notSynchronized
  have hl := lv_entry ([.ref (t 0), .int (zi i1), .int (zi i2)]) (n := 4) (Nat.le_of_ble_eq_true rfl)
  rw [lg_entry_eq]
  generalize (lg_sl ([.ref (t 0), .int (zi i1), .int (zi i2)]) ++ List.replicate (4 - (lg_sl ([.ref (t 0), .int (zi i1), .int (zi i2)])).length) Slot.unset).toArray = ls at hl ⊢
  have hl : lv_has ls 4 [(0, .ref (t 0)), (1, .int (zi i1)), (2, .int (zi i2))] := hl
  refine zs_X5_neighbourWith t n  i1 i2 hx hb hml hown hts hK hP ls hl ⟨out, h, ?_⟩
  exact fun ls pc hd => W.iret hx hb hr (fun t ht hW => ⟨_, rfl, rfl, ht⟩) (fun _ h => by cases h) hd
/-! DiamondRows$Polygon.movedCorner(IZ)I -/
abbrev zr_X5_movedCorner : Room := { frames := 0, cells := 0, slots := 0, locals := 0 }
noncomputable def zf_X5_movedCorner (n : Nat)  (i1 : Int) (i2 : Bool) : Option (Int) :=
  if i2 = false then
  if zout (i1 + (1 : Int)) then none else
  if zout (n : Int) then none else
  if (i1 + (1 : Int)) = (n : Int) then
  some ((0 : Int))
  else
  some ((i1 + (1 : Int)))
  else
  some ((((n : Int) - (1 : Int)) - i1))
theorem zi_X5_movedCorner_X5 : ∀ w ∈ u_ws RX5 TX5 9, w ∈ wsX5_movedCorner := fun w h => (List.mem_cons_of_mem _ (List.mem_append_right _ h))
theorem zl_X5_movedCorner_30 : Cond.fieldLink RX5 30 "DiamondRows$Polygon" "corners" "I" ∈ wsX5_movedCorner := (List.mem_cons_of_mem _ (List.mem_append_left _ (List.mem_of_getElem? (i := 0) rfl)))
def zQ_X5_movedCorner (p : Program) (l : Launch) (e : Env) (s : State) (m : MethodId) (args : Array Value) (below : List Frame) (meth : Method) (c : Code) (Q : State → Prop) (H : Heap) (locs : List Loc)  (o : Int) : Prop := ∀ (ls : Array Slot) (pc : Nat), decode cX5_movedCorner pc = .ok (.ireturn, 1) → W p l e zr_X5_movedCorner s m args below meth c H locs 0 0 Q (F0 m pc ls [.int (zi o)])
set_option maxHeartbeats 4000000 in
set_option maxRecDepth 100000 in
theorem zs_X5_movedCorner {p : Program} {l : Launch} {e : Env} {s : State} {m : MethodId} {args : Array Value} {below : List Frame} {meth : Method} {c : Code} {Q : State → Prop} {D : va_G} {κ : Nat → ClassId} {H : Heap} {locs : List Loc} (t : Nat → Nat) (n : Nat)  (i1 : Int) (i2 : Bool) (hx : p.tables.exec = Jvm.exec) (hb : c.code = cX5_movedCorner) (hml : c.maxLocals = 3) (hown : s.vm.findClass RX5 = some m.cls) (hts : ∀ w ∈ wsX5_movedCorner, w.before args s = true) (hK : va_K D vwCl (zTY κ) s) (hP : va_P D vwCl (zpgc κ t n) H) (ls : Array Slot) (hl : lv_has ls 3 [(0, .ref (t 0)), (1, .int (zi i1)), (2, .int (zi (bI i2)))]) (hg : Go (zQ_X5_movedCorner p l e s m args below meth c Q H locs) (zf_X5_movedCorner n i1 i2)) : W p l e zr_X5_movedCorner s m args below meth c H locs 0 0 Q (F0 m 0 ls []) := by
  unfold zf_X5_movedCorner at hg
  refine lv_iload_n hx hb dX5_movedCorner_0 rfl (lv_at hl 2 rfl) ?_
  refine zv_ifb_eq (tgt := 13) hx hb dX5_movedCorner_1 (by decide) (fun c4 => ?_) (fun c4 => ?_)
  · have hg := Go_t c4 hg
    refine lv_iload_n hx hb dX5_movedCorner_13 rfl (lv_at hl 1 rfl) ?_
    refine zv_iconst hx hb dX5_movedCorner_14 ?_
    refine zv_iadd hx hb dX5_movedCorner_15 ?_
    refine lv_aload_n hx hb dX5_movedCorner_16 rfl (lv_at hl 0 rfl) ?_
    refine va_get (D := D) (ci := 5) (v := .int (zi (n : Int))) (C := RX5) (T := TX5) (N := 9) hx hb hts zi_X5_movedCorner_X5 hown hK hP 0 rfl rfl 0 (by decide) (hts (.fieldLink RX5 30 "DiamondRows$Polygon" "corners" "I") zl_X5_movedCorner_30) (fun _ h9 => h9) rfl dX5_movedCorner_17 ?_
    obtain ⟨b1, hg⟩ := Go_n hg
    obtain ⟨b2, hg⟩ := Go_n hg
    refine zv_icmp_ne (tgt := 27) hx hb dX5_movedCorner_20 (by decide) b1 b2 (fun c3 => ?_) (fun c3 => ?_)
    · have hg := Go_f c3 hg
      refine lv_iload_n hx hb dX5_movedCorner_27 rfl (lv_at hl 1 rfl) ?_
      refine zv_iconst hx hb dX5_movedCorner_28 ?_
      refine zv_iadd hx hb dX5_movedCorner_29 ?_
      exact (Go_s hg) _ _ dX5_movedCorner_30
    · have hg := Go_t c3 hg
      refine zv_iconst hx hb dX5_movedCorner_23 ?_
      refine lv_goto (tgt := 30) hx hb dX5_movedCorner_24 (by decide) ?_
      exact (Go_s hg) _ _ dX5_movedCorner_30
  · have hg := Go_f c4 hg
    refine lv_aload_n hx hb dX5_movedCorner_4 rfl (lv_at hl 0 rfl) ?_
    refine va_get (D := D) (ci := 5) (v := .int (zi (n : Int))) (C := RX5) (T := TX5) (N := 9) hx hb hts zi_X5_movedCorner_X5 hown hK hP 0 rfl rfl 0 (by decide) (hts (.fieldLink RX5 30 "DiamondRows$Polygon" "corners" "I") zl_X5_movedCorner_30) (fun _ h9 => h9) rfl dX5_movedCorner_5 ?_
    refine zv_iconst hx hb dX5_movedCorner_8 ?_
    refine zv_isub hx hb dX5_movedCorner_9 ?_
    refine lv_iload_n hx hb dX5_movedCorner_10 rfl (lv_at hl 1 rfl) ?_
    refine zv_isub hx hb dX5_movedCorner_11 ?_
    exact (Go_s hg) _ _ dX5_movedCorner_12
set_option maxHeartbeats 4000000 in
set_option maxRecDepth 100000 in
theorem zc_X5_movedCorner (l : Launch) (D : va_G) (κ : Nat → ClassId) (t : Nat → Nat) (n : Nat)  (i1 : Int) (i2 : Bool) (out : Int) (h : zf_X5_movedCorner n i1 i2 = some out) : Met l yX5_movedCorner wsX5_movedCorner zr_X5_movedCorner (va_Pc [.ref (t 0), .int (zi i1), .int (zi (bI i2))] (zR D κ (zpgc κ t n))) (vp_Si (fun x => x = zi out)) 0 0 (fun _ => False) := by
  refine Met.ofW (cc := cX5_movedCorner) (maxL := 3) (ret := (some .int)) (by decide +kernel) rfl ?_
  intro p e s m args below meth c s₁ B hml hv
  obtain ⟨rfl, hP, hK⟩ := hv
  have hx := B.exec
  have hb := B.bytes
  have hr := B.returns
  have hts := atoms_spec (ws := wsX5_movedCorner) B.pre
  have hown : s.vm.findClass RX5 = some m.cls := findClass_of_methodNamed B.named
  have hlocks := B.notSynchronized
  have hl := lv_entry ([.ref (t 0), .int (zi i1), .int (zi (bI i2))]) (n := 3) (Nat.le_of_ble_eq_true rfl)
  rw [lg_entry_eq]
  generalize (lg_sl ([.ref (t 0), .int (zi i1), .int (zi (bI i2))]) ++ List.replicate (3 - (lg_sl ([.ref (t 0), .int (zi i1), .int (zi (bI i2))])).length) Slot.unset).toArray = ls at hl ⊢
  have hl : lv_has ls 3 [(0, .ref (t 0)), (1, .int (zi i1)), (2, .int (zi (bI i2)))] := hl
  refine zs_X5_movedCorner t n  i1 i2 hx hb hml hown hts hK hP ls hl ⟨out, h, ?_⟩
  exact fun ls pc hd => W.iret hx hb hr (fun t ht hW => ⟨_, rfl, rfl, ht⟩) (fun _ h => by cases h) hd
/-! DiamondRows$Polygon.moved(IZ)I -/
abbrev zr_X5_moved : Room := { frames := 2, cells := 0, slots := 0, locals := 43 }
abbrev zS_X5_moved : Type := Nat × Int × Bool × Int × Int
abbrev zO_X5_moved : Type := Int
noncomputable def zg_X5_moved_0 (n : Nat)  (i1 : Int) (i2 : Bool) (i3 : Int) (i4 : Int) : Option (zO_X5_moved ⊕ zS_X5_moved) :=
  some (.inr (5, i1, i2, (0 : Int), (0 : Int)))
noncomputable def zg_X5_moved_5 (n : Nat)  (i1 : Int) (i2 : Bool) (i3 : Int) (i4 : Int) : Option (zO_X5_moved ⊕ zS_X5_moved) :=
  if zout i4 then none else
  if zout (pg7 n) then none else
  if (pg7 n) ≤ i4 then
  some (.inl (i3))
  else
  Option.bind (zf_X5_has n i1 i4) (fun o3 =>
  if o3 = false then
  some (.inr (5, i1, i2, i3, (i4 + (1 : Int))))
  else
  if i4 < 0 ∨ 27 ≤ i4 then none else
  Option.bind (zf_X5_movedCorner n (zget (pg1 n) (Int.toNat i4)) i2) (fun o5 =>
  Option.bind (zf_X5_movedCorner n (zget (pg2 n) (Int.toNat i4)) i2) (fun o6 =>
  Option.bind (zf_X5_lineOf n o5 o6) (fun o7 =>
  some (.inr (5, i1, i2, (zor i3 (zshl (1 : Int) o7)), (i4 + (1 : Int))))))))
noncomputable def zg_X5_moved (n : Nat)  (st : zS_X5_moved) : Option (zO_X5_moved ⊕ zS_X5_moved) := match st with
  | (lab, i1, i2, i3, i4) => if lab = 0 then zg_X5_moved_0 n i1 i2 i3 i4 else if lab = 5 then zg_X5_moved_5 n i1 i2 i3 i4 else none
noncomputable def zf_X5_moved (n : Nat)  (i1 : Int) (i2 : Bool) : Option (Int) := jrun (zg_X5_moved n) jfuel (0, i1, i2, 0, 0)
theorem zi_X5_moved_X5 : ∀ w ∈ u_ws RX5 TX5 9, w ∈ wsX5_moved := fun w h => (List.mem_cons_of_mem _ (List.mem_append_right _ (List.mem_append_left _ h)))
theorem zl_X5_moved_9 : Cond.fieldLink RX5 9 "DiamondRows$Polygon" "lesser" "[I" ∈ wsX5_moved := (List.mem_cons_of_mem _ (List.mem_append_left _ (List.mem_of_getElem? (i := 1) rfl)))
theorem zl_X5_moved_15 : Cond.fieldLink RX5 15 "DiamondRows$Polygon" "greater" "[I" ∈ wsX5_moved := (List.mem_cons_of_mem _ (List.mem_append_left _ (List.mem_of_getElem? (i := 2) rfl)))
theorem zl_X5_moved_40 : Cond.fieldLink RX5 40 "DiamondRows$Polygon" "lineCount" "I" ∈ wsX5_moved := (List.mem_cons_of_mem _ (List.mem_append_left _ (List.mem_of_getElem? (i := 0) rfl)))
def zQ_X5_moved (p : Program) (l : Launch) (e : Env) (s : State) (m : MethodId) (args : Array Value) (below : List Frame) (meth : Method) (c : Code) (Q : State → Prop) (H : Heap) (locs : List Loc)  (o : Int) : Prop := ∀ (ls : Array Slot) (pc : Nat), decode cX5_moved pc = .ok (.ireturn, 1) → W p l e zr_X5_moved s m args below meth c H locs 0 0 Q (F0 m pc ls [.int (zi o)])
def zA_X5_moved_0 (p : Program) (l : Launch) (e : Env) (s : State) (m : MethodId) (args : Array Value) (below : List Frame) (meth : Method) (c : Code) (Q : State → Prop) (H : Heap) (locs : List Loc) (t : Nat → Nat) (n : Nat)  (i1 : Int) (i2 : Bool) (i3 : Int) (i4 : Int) : Prop := ∀ ls : Array Slot, lv_has ls 7 [(0, .ref (t 0)), (1, .int (zi i1)), (2, .int (zi (bI i2)))] → W p l e zr_X5_moved s m args below meth c H locs 0 0 Q (F0 m 0 ls [])
def zA_X5_moved_5 (p : Program) (l : Launch) (e : Env) (s : State) (m : MethodId) (args : Array Value) (below : List Frame) (meth : Method) (c : Code) (Q : State → Prop) (H : Heap) (locs : List Loc) (t : Nat → Nat) (n : Nat)  (i1 : Int) (i2 : Bool) (i3 : Int) (i4 : Int) : Prop := ∀ ls : Array Slot, lv_has ls 7 [(0, .ref (t 0)), (1, .int (zi i1)), (2, .int (zi (bI i2))), (3, .int (zi i3)), (4, .int (zi i4))] → W p l e zr_X5_moved s m args below meth c H locs 0 0 Q (F0 m 5 ls [])
def zA_X5_moved (p : Program) (l : Launch) (e : Env) (s : State) (m : MethodId) (args : Array Value) (below : List Frame) (meth : Method) (c : Code) (Q : State → Prop) (H : Heap) (locs : List Loc) (t : Nat → Nat) (n : Nat)  (st : zS_X5_moved) : Prop := match st with
  | (lab, i1, i2, i3, i4) => if lab = 0 then zA_X5_moved_0 p l e s m args below meth c Q H locs t n  i1 i2 i3 i4 else if lab = 5 then zA_X5_moved_5 p l e s m args below meth c Q H locs t n  i1 i2 i3 i4 else True
set_option maxHeartbeats 4000000 in
set_option maxRecDepth 100000 in
theorem zs_X5_moved_0 {p : Program} {l : Launch} {e : Env} {s : State} {m : MethodId} {args : Array Value} {below : List Frame} {meth : Method} {c : Code} {Q : State → Prop} {D : va_G} {κ : Nat → ClassId} {H : Heap} {locs : List Loc} (t : Nat → Nat) (n : Nat)   (hx : p.tables.exec = Jvm.exec) (hb : c.code = cX5_moved) (hml : c.maxLocals = 7) (hown : s.vm.findClass RX5 = some m.cls) (hts : ∀ w ∈ wsX5_moved, w.before args s = true) (hK : va_K D vwCl (zTY κ) s) (hP : va_P D vwCl (zpgc κ t n) H) (i1 : Int) (i2 : Bool) (i3 : Int) (i4 : Int) (hg : Go (GoE (zA_X5_moved p l e s m args below meth c Q H locs t n ) (zQ_X5_moved p l e s m args below meth c Q H locs)) (zg_X5_moved_0 n i1 i2 i3 i4)) : zA_X5_moved_0 p l e s m args below meth c Q H locs t n  i1 i2 i3 i4 := by
  intro ls hl
  unfold zg_X5_moved_0 at hg
  refine zv_iconst hx hb dX5_moved_0 ?_
  refine lv_istore_n (lv' := [(3, .int (zi (0 : Int))), (0, .ref (t 0)), (1, .int (zi i1)), (2, .int (zi (bI i2)))]) hx hb dX5_moved_1 rfl hl (by decide) rfl (fun ls hl => ?_)
  refine zv_iconst hx hb dX5_moved_2 ?_
  refine lv_istore (lv' := [(4, .int (zi (0 : Int))), (3, .int (zi (0 : Int))), (0, .ref (t 0)), (1, .int (zi i1)), (2, .int (zi (bI i2)))]) hx hb dX5_moved_3 hl (by decide) rfl (fun ls hl => ?_)
  exact (Go_s hg) ls (lv_sub hl [2, 3, 4, 1, 0] rfl)
set_option maxHeartbeats 4000000 in
set_option maxRecDepth 100000 in
theorem zs_X5_moved_5 {p : Program} {l : Launch} {e : Env} {s : State} {m : MethodId} {args : Array Value} {below : List Frame} {meth : Method} {c : Code} {Q : State → Prop} {D : va_G} {κ : Nat → ClassId} {H : Heap} {locs : List Loc} (t : Nat → Nat) (n : Nat)   (hx : p.tables.exec = Jvm.exec) (hb : c.code = cX5_moved) (hml : c.maxLocals = 7) (hown : s.vm.findClass RX5 = some m.cls) (hts : ∀ w ∈ wsX5_moved, w.before args s = true) (hK : va_K D vwCl (zTY κ) s) (hP : va_P D vwCl (zpgc κ t n) H) (i1 : Int) (i2 : Bool) (i3 : Int) (i4 : Int) (hg : Go (GoE (zA_X5_moved p l e s m args below meth c Q H locs t n ) (zQ_X5_moved p l e s m args below meth c Q H locs)) (zg_X5_moved_5 n i1 i2 i3 i4)) : zA_X5_moved_5 p l e s m args below meth c Q H locs t n  i1 i2 i3 i4 := by
  intro ls hl
  unfold zg_X5_moved_5 at hg
  refine lv_iload hx hb dX5_moved_5 (lv_at hl 4 rfl) ?_
  refine lv_aload_n hx hb dX5_moved_7 rfl (lv_at hl 0 rfl) ?_
  refine va_get (D := D) (ci := 5) (v := .int (zi (pg7 n))) (C := RX5) (T := TX5) (N := 9) hx hb hts zi_X5_moved_X5 hown hK hP 0 rfl rfl 7 (by decide) (hts (.fieldLink RX5 40 "DiamondRows$Polygon" "lineCount" "I") zl_X5_moved_40) (fun _ h9 => h9) rfl dX5_moved_8 ?_
  obtain ⟨b1, hg⟩ := Go_n hg
  obtain ⟨b2, hg⟩ := Go_n hg
  refine zv_icmp_ge (tgt := 71) hx hb dX5_moved_11 (by decide) b1 b2 (fun c9 => ?_) (fun c9 => ?_)
  · have hg := Go_t c9 hg
    refine lv_iload_n hx hb dX5_moved_71 rfl (lv_at hl 3 rfl) ?_
    exact (Go_s hg) _ _ dX5_moved_72
  · have hg := Go_f c9 hg
    refine lv_aload_n hx hb dX5_moved_14 rfl (lv_at hl 0 rfl) ?_
    refine lv_iload_n hx hb dX5_moved_15 rfl (lv_at hl 1 rfl) ?_
    refine lv_iload hx hb dX5_moved_16 (lv_at hl 4 rfl) ?_
    obtain ⟨o3, ho3, hg⟩ := Go_b hg
    refine zc_vi (rest := []) ⟨hx, hb, hml, hown, hts⟩ (zc_X5_has l D κ t n i1 i4 o3 ho3) (cwV 2 hts gX5_moved_X5_has rfl rfl rfl hv_X5_has ⟨Nat.le_of_ble_eq_true rfl, Nat.le_of_ble_eq_true rfl⟩) (zpreV hK (hP.sub [0, 1, 2, 3, 4, 5, 6] rfl) 5 0 rfl rfl) rfl hl.1 rfl (Nat.le_of_ble_eq_true rfl) dX5_moved_18 ⟨Nat.zero_le _, Nat.zero_le _⟩ ?_
    refine zv_ifb_eq (tgt := 65) hx hb dX5_moved_21 (by decide) (fun c8 => ?_) (fun c8 => ?_)
    · have hg := Go_t c8 hg
      refine lv_iinc (v := zi (i4 + (1 : Int))) (lv' := [(4, .int (zi (i4 + (1 : Int)))), (0, .ref (t 0)), (1, .int (zi i1)), (2, .int (zi (bI i2))), (3, .int (zi i3))]) hx hb dX5_moved_65 hl (k := 4) rfl (zi_add i4 _) (by decide) rfl (fun ls hl => ?_)
      refine lv_goto (tgt := 5) hx hb dX5_moved_68 (by decide) ?_
      exact (Go_s hg) ls (lv_sub hl [1, 2, 3, 4, 0] rfl)
    · have hg := Go_f c8 hg
      refine lv_aload_n hx hb dX5_moved_24 rfl (lv_at hl 0 rfl) ?_
      refine lv_aload_n hx hb dX5_moved_25 rfl (lv_at hl 0 rfl) ?_
      refine va_get (D := D) (ci := 5) (v := .ref (t 1)) (C := RX5) (T := TX5) (N := 9) hx hb hts zi_X5_moved_X5 hown hK hP 0 rfl rfl 1 (by decide) (hts (.fieldLink RX5 9 "DiamondRows$Polygon" "lesser" "[I") zl_X5_moved_9) (fun _ h9 => h9) rfl dX5_moved_26 ?_
      refine lv_iload hx hb dX5_moved_29 (lv_at hl 4 rfl) ?_
      obtain ⟨n4, hg⟩ := Go_n hg
      refine zv_iald hx hb hK hP 1 1 rfl rfl (by decide) n4 dX5_moved_31 ?_
      refine lv_iload_n hx hb dX5_moved_32 rfl (lv_at hl 2 rfl) ?_
      obtain ⟨o5, ho5, hg⟩ := Go_b hg
      refine zc_vi (rest := []) ⟨hx, hb, hml, hown, hts⟩ (zc_X5_movedCorner l D κ t n (zget (pg1 n) (Int.toNat i4)) i2 o5 ho5) (cwV 2 hts gX5_moved_X5_movedCorner rfl rfl rfl hv_X5_movedCorner ⟨Nat.le_of_ble_eq_true rfl, Nat.le_of_ble_eq_true rfl⟩) (zpreV hK (hP.sub [0, 1, 2, 3, 4, 5, 6] rfl) 5 0 rfl rfl) rfl hl.1 rfl (Nat.le_of_ble_eq_true rfl) dX5_moved_33 ⟨Nat.zero_le _, Nat.zero_le _⟩ ?_
      refine lv_istore (lv' := [(5, .int (zi o5)), (0, .ref (t 0)), (1, .int (zi i1)), (2, .int (zi (bI i2))), (3, .int (zi i3)), (4, .int (zi i4))]) hx hb dX5_moved_36 hl (by decide) rfl (fun ls hl => ?_)
      refine lv_aload_n hx hb dX5_moved_38 rfl (lv_at hl 1 rfl) ?_
      refine lv_aload_n hx hb dX5_moved_39 rfl (lv_at hl 1 rfl) ?_
      refine va_get (D := D) (ci := 5) (v := .ref (t 2)) (C := RX5) (T := TX5) (N := 9) hx hb hts zi_X5_moved_X5 hown hK hP 0 rfl rfl 2 (by decide) (hts (.fieldLink RX5 15 "DiamondRows$Polygon" "greater" "[I") zl_X5_moved_15) (fun _ h9 => h9) rfl dX5_moved_40 ?_
      refine lv_iload hx hb dX5_moved_43 (lv_at hl 5 rfl) ?_
      refine zv_iald hx hb hK hP 2 1 rfl rfl (by decide) n4 dX5_moved_45 ?_
      refine lv_iload_n hx hb dX5_moved_46 rfl (lv_at hl 3 rfl) ?_
      obtain ⟨o6, ho6, hg⟩ := Go_b hg
      refine zc_vi (rest := []) ⟨hx, hb, hml, hown, hts⟩ (zc_X5_movedCorner l D κ t n (zget (pg2 n) (Int.toNat i4)) i2 o6 ho6) (cwV 2 hts gX5_moved_X5_movedCorner rfl rfl rfl hv_X5_movedCorner ⟨Nat.le_of_ble_eq_true rfl, Nat.le_of_ble_eq_true rfl⟩) (zpreV hK (hP.sub [0, 1, 2, 3, 4, 5, 6] rfl) 5 0 rfl rfl) rfl hl.1 rfl (Nat.le_of_ble_eq_true rfl) dX5_moved_47 ⟨Nat.zero_le _, Nat.zero_le _⟩ ?_
      refine lv_istore (lv' := [(6, .int (zi o6)), (5, .int (zi o5)), (0, .ref (t 0)), (1, .int (zi i1)), (2, .int (zi (bI i2))), (3, .int (zi i3)), (4, .int (zi i4))]) hx hb dX5_moved_50 hl (by decide) rfl (fun ls hl => ?_)
      refine lv_iload_n hx hb dX5_moved_52 rfl (lv_at hl 5 rfl) ?_
      refine zv_iconst hx hb dX5_moved_53 ?_
      refine lv_aload_n hx hb dX5_moved_54 rfl (lv_at hl 2 rfl) ?_
      refine lv_iload hx hb dX5_moved_55 (lv_at hl 1 rfl) ?_
      refine lv_iload hx hb dX5_moved_57 (lv_at hl 0 rfl) ?_
      obtain ⟨o7, ho7, hg⟩ := Go_b hg
      refine zc_vi (rest := [.int (zi (1 : Int)), .int (zi i3)]) ⟨hx, hb, hml, hown, hts⟩ (zc_X5_lineOf l D κ t n o5 o6 o7 ho7) (cwV 2 hts gX5_moved_X5_lineOf rfl rfl rfl hv_X5_lineOf ⟨Nat.le_of_ble_eq_true rfl, Nat.le_of_ble_eq_true rfl⟩) (zpreV hK (hP.sub [0, 1, 2, 3, 4, 5, 6] rfl) 5 0 rfl rfl) rfl hl.1 rfl (Nat.le_of_ble_eq_true rfl) dX5_moved_59 ⟨Nat.zero_le _, Nat.zero_le _⟩ ?_
      refine zv_ishl hx hb dX5_moved_62 ?_
      refine zv_ior hx hb dX5_moved_63 ?_
      refine lv_istore_n (lv' := [(3, .int (zi (zor i3 (zshl (1 : Int) o7)))), (6, .int (zi o6)), (5, .int (zi o5)), (0, .ref (t 0)), (1, .int (zi i1)), (2, .int (zi (bI i2))), (4, .int (zi i4))]) hx hb dX5_moved_64 rfl hl (by decide) rfl (fun ls hl => ?_)
      refine lv_iinc (v := zi (i4 + (1 : Int))) (lv' := [(4, .int (zi (i4 + (1 : Int)))), (3, .int (zi (zor i3 (zshl (1 : Int) o7)))), (6, .int (zi o6)), (5, .int (zi o5)), (0, .ref (t 0)), (1, .int (zi i1)), (2, .int (zi (bI i2)))]) hx hb dX5_moved_65 hl (k := 6) rfl (zi_add i4 _) (by decide) rfl (fun ls hl => ?_)
      refine lv_goto (tgt := 5) hx hb dX5_moved_68 (by decide) ?_
      exact (Go_s hg) ls (lv_sub hl [4, 5, 6, 1, 0] rfl)
set_option maxHeartbeats 4000000 in
set_option maxRecDepth 100000 in
theorem zw_X5_moved {p : Program} {l : Launch} {e : Env} {s : State} {m : MethodId} {args : Array Value} {below : List Frame} {meth : Method} {c : Code} {Q : State → Prop} {D : va_G} {κ : Nat → ClassId} {H : Heap} {locs : List Loc} (t : Nat → Nat) (n : Nat)   (i1 : Int) (i2 : Bool) (hx : p.tables.exec = Jvm.exec) (hb : c.code = cX5_moved) (hml : c.maxLocals = 7) (hown : s.vm.findClass RX5 = some m.cls) (hts : ∀ w ∈ wsX5_moved, w.before args s = true) (hK : va_K D vwCl (zTY κ) s) (hP : va_P D vwCl (zpgc κ t n) H) (out : Int) (h : zf_X5_moved n i1 i2 = some out) (hq : zQ_X5_moved p l e s m args below meth c Q H locs out) : zA_X5_moved_0 p l e s m args below meth c Q H locs t n  i1 i2 0 0 := by
  have hst : ∀ st : zS_X5_moved, Go (GoE (zA_X5_moved p l e s m args below meth c Q H locs t n ) (zQ_X5_moved p l e s m args below meth c Q H locs)) (zg_X5_moved n st) → zA_X5_moved p l e s m args below meth c Q H locs t n  st := by
    intro st hg
    obtain ⟨lab, i1, i2, i3, i4⟩ := st
    by_cases h0 : lab = 0
    · subst h0
      exact zs_X5_moved_0 t n   hx hb hml hown hts hK hP i1 i2 i3 i4 hg
    by_cases h5 : lab = 5
    · subst h5
      exact zs_X5_moved_5 t n   hx hb hml hown hts hK hP i1 i2 i3 i4 hg
    have hz : zg_X5_moved n (lab, i1, i2, i3, i4) = none := by simp [zg_X5_moved, h0, h5]
    rw [hz] at hg
    obtain ⟨a, h1, -⟩ := hg
    cases h1
  exact jwalk (At := zA_X5_moved p l e s m args below meth c Q H locs t n ) (Ret := zQ_X5_moved p l e s m args below meth c Q H locs) hst _ _ _ h hq
set_option maxHeartbeats 4000000 in
set_option maxRecDepth 100000 in
theorem zc_X5_moved (l : Launch) (D : va_G) (κ : Nat → ClassId) (t : Nat → Nat) (n : Nat)  (i1 : Int) (i2 : Bool) (out : Int) (h : zf_X5_moved n i1 i2 = some out) : Met l yX5_moved wsX5_moved zr_X5_moved (va_Pc [.ref (t 0), .int (zi i1), .int (zi (bI i2))] (zR D κ (zpgc κ t n))) (vp_Si (fun x => x = zi out)) 0 0 (fun _ => False) := by
  refine Met.ofW (cc := cX5_moved) (maxL := 7) (ret := (some .int)) (by decide +kernel) rfl ?_
  intro p e s m args below meth c s₁ B hml hv
  obtain ⟨rfl, hP, hK⟩ := hv
  have hx := B.exec
  have hb := B.bytes
  have hr := B.returns
  have hts := atoms_spec (ws := wsX5_moved) B.pre
  have hown : s.vm.findClass RX5 = some m.cls := findClass_of_methodNamed B.named
  have hlocks := B.notSynchronized
  have hl := lv_entry ([.ref (t 0), .int (zi i1), .int (zi (bI i2))]) (n := 7) (Nat.le_of_ble_eq_true rfl)
  rw [lg_entry_eq]
  generalize (lg_sl ([.ref (t 0), .int (zi i1), .int (zi (bI i2))]) ++ List.replicate (7 - (lg_sl ([.ref (t 0), .int (zi i1), .int (zi (bI i2))])).length) Slot.unset).toArray = ls at hl ⊢
  have hl : lv_has ls 7 [(0, .ref (t 0)), (1, .int (zi i1)), (2, .int (zi (bI i2)))] := hl
  refine (zw_X5_moved t n   i1 i2 hx hb hml hown hts hK hP out h ?_) ls (lv_sub hl [0, 1, 2] rfl)
  exact fun ls pc hd => W.iret hx hb hr (fun t ht hW => ⟨_, rfl, rfl, ht⟩) (fun _ h => by cases h) hd
/-! DiamondRows$Polygon.leastTurned(I)I -/
abbrev zr_X5_leastTurned : Room := { frames := 3, cells := 0, slots := 0, locals := 69 }
abbrev zS_X5_leastTurned : Type := Nat × Int × Int × Int × Int
abbrev zO_X5_leastTurned : Type := Int
noncomputable def zg_X5_leastTurned_0 (n : Nat)  (i1 : Int) (i2 : Int) (i3 : Int) (i4 : Int) : Option (zO_X5_leastTurned ⊕ zS_X5_leastTurned) :=
  some (.inr (7, i1, i1, i1, (1 : Int)))
noncomputable def zg_X5_leastTurned_7 (n : Nat)  (i1 : Int) (i2 : Int) (i3 : Int) (i4 : Int) : Option (zO_X5_leastTurned ⊕ zS_X5_leastTurned) :=
  if zout i4 then none else
  if zout (n : Int) then none else
  if (n : Int) ≤ i4 then
  some (.inl (i2))
  else
  Option.bind (zf_X5_moved n i3 false) (fun o3 =>
  if zout i2 then none else
  if zout o3 then none else
  some (.inr (7, 0, (zmin i2 o3), o3, (i4 + (1 : Int)))))
noncomputable def zg_X5_leastTurned (n : Nat)  (st : zS_X5_leastTurned) : Option (zO_X5_leastTurned ⊕ zS_X5_leastTurned) := match st with
  | (lab, i1, i2, i3, i4) => if lab = 0 then zg_X5_leastTurned_0 n i1 i2 i3 i4 else if lab = 7 then zg_X5_leastTurned_7 n i1 i2 i3 i4 else none
noncomputable def zf_X5_leastTurned (n : Nat)  (i1 : Int) : Option (Int) := jrun (zg_X5_leastTurned n) jfuel (0, i1, 0, 0, 0)
theorem zi_X5_leastTurned_X5 : ∀ w ∈ u_ws RX5 TX5 9, w ∈ wsX5_leastTurned := fun w h => (List.mem_cons_of_mem _ (List.mem_append_right _ (List.mem_append_left _ h)))
theorem zl_X5_leastTurned_30 : Cond.fieldLink RX5 30 "DiamondRows$Polygon" "corners" "I" ∈ wsX5_leastTurned := (List.mem_cons_of_mem _ (List.mem_append_left _ (List.mem_of_getElem? (i := 0) rfl)))
def zQ_X5_leastTurned (p : Program) (l : Launch) (e : Env) (s : State) (m : MethodId) (args : Array Value) (below : List Frame) (meth : Method) (c : Code) (Q : State → Prop) (H : Heap) (locs : List Loc)  (o : Int) : Prop := ∀ (ls : Array Slot) (pc : Nat), decode cX5_leastTurned pc = .ok (.ireturn, 1) → W p l e zr_X5_leastTurned s m args below meth c H locs 0 0 Q (F0 m pc ls [.int (zi o)])
def zA_X5_leastTurned_0 (p : Program) (l : Launch) (e : Env) (s : State) (m : MethodId) (args : Array Value) (below : List Frame) (meth : Method) (c : Code) (Q : State → Prop) (H : Heap) (locs : List Loc) (t : Nat → Nat) (n : Nat)  (i1 : Int) (i2 : Int) (i3 : Int) (i4 : Int) : Prop := ∀ ls : Array Slot, lv_has ls 5 [(0, .ref (t 0)), (1, .int (zi i1))] → W p l e zr_X5_leastTurned s m args below meth c H locs 0 0 Q (F0 m 0 ls [])
def zA_X5_leastTurned_7 (p : Program) (l : Launch) (e : Env) (s : State) (m : MethodId) (args : Array Value) (below : List Frame) (meth : Method) (c : Code) (Q : State → Prop) (H : Heap) (locs : List Loc) (t : Nat → Nat) (n : Nat)  (i1 : Int) (i2 : Int) (i3 : Int) (i4 : Int) : Prop := ∀ ls : Array Slot, lv_has ls 5 [(0, .ref (t 0)), (2, .int (zi i2)), (3, .int (zi i3)), (4, .int (zi i4))] → W p l e zr_X5_leastTurned s m args below meth c H locs 0 0 Q (F0 m 7 ls [])
def zA_X5_leastTurned (p : Program) (l : Launch) (e : Env) (s : State) (m : MethodId) (args : Array Value) (below : List Frame) (meth : Method) (c : Code) (Q : State → Prop) (H : Heap) (locs : List Loc) (t : Nat → Nat) (n : Nat)  (st : zS_X5_leastTurned) : Prop := match st with
  | (lab, i1, i2, i3, i4) => if lab = 0 then zA_X5_leastTurned_0 p l e s m args below meth c Q H locs t n  i1 i2 i3 i4 else if lab = 7 then zA_X5_leastTurned_7 p l e s m args below meth c Q H locs t n  i1 i2 i3 i4 else True
set_option maxHeartbeats 4000000 in
set_option maxRecDepth 100000 in
theorem zs_X5_leastTurned_0 {p : Program} {l : Launch} {e : Env} {s : State} {m : MethodId} {args : Array Value} {below : List Frame} {meth : Method} {c : Code} {Q : State → Prop} {D : va_G} {κ : Nat → ClassId} {H : Heap} {locs : List Loc} (t : Nat → Nat) (n : Nat)   (hx : p.tables.exec = Jvm.exec) (hb : c.code = cX5_leastTurned) (hml : c.maxLocals = 5) (hown : s.vm.findClass RX5 = some m.cls) (hts : ∀ w ∈ wsX5_leastTurned, w.before args s = true) (hK : va_K D vwCl (zTY κ) s) (hP : va_P D vwCl (zpgc κ t n) H) (i1 : Int) (i2 : Int) (i3 : Int) (i4 : Int) (hg : Go (GoE (zA_X5_leastTurned p l e s m args below meth c Q H locs t n ) (zQ_X5_leastTurned p l e s m args below meth c Q H locs)) (zg_X5_leastTurned_0 n i1 i2 i3 i4)) : zA_X5_leastTurned_0 p l e s m args below meth c Q H locs t n  i1 i2 i3 i4 := by
  intro ls hl
  unfold zg_X5_leastTurned_0 at hg
  refine lv_iload_n hx hb dX5_leastTurned_0 rfl (lv_at hl 1 rfl) ?_
  refine lv_istore_n (lv' := [(2, .int (zi i1)), (0, .ref (t 0)), (1, .int (zi i1))]) hx hb dX5_leastTurned_1 rfl hl (by decide) rfl (fun ls hl => ?_)
  refine lv_iload_n hx hb dX5_leastTurned_2 rfl (lv_at hl 2 rfl) ?_
  refine lv_istore_n (lv' := [(3, .int (zi i1)), (2, .int (zi i1)), (0, .ref (t 0)), (1, .int (zi i1))]) hx hb dX5_leastTurned_3 rfl hl (by decide) rfl (fun ls hl => ?_)
  refine zv_iconst hx hb dX5_leastTurned_4 ?_
  refine lv_istore (lv' := [(4, .int (zi (1 : Int))), (3, .int (zi i1)), (2, .int (zi i1)), (0, .ref (t 0)), (1, .int (zi i1))]) hx hb dX5_leastTurned_5 hl (by decide) rfl (fun ls hl => ?_)
  exact (Go_s hg) ls (lv_sub hl [3, 2, 1, 0] rfl)
set_option maxHeartbeats 4000000 in
set_option maxRecDepth 100000 in
theorem zs_X5_leastTurned_7 {p : Program} {l : Launch} {e : Env} {s : State} {m : MethodId} {args : Array Value} {below : List Frame} {meth : Method} {c : Code} {Q : State → Prop} {D : va_G} {κ : Nat → ClassId} {H : Heap} {locs : List Loc} (t : Nat → Nat) (n : Nat)   (hx : p.tables.exec = Jvm.exec) (hb : c.code = cX5_leastTurned) (hml : c.maxLocals = 5) (hown : s.vm.findClass RX5 = some m.cls) (hts : ∀ w ∈ wsX5_leastTurned, w.before args s = true) (hK : va_K D vwCl (zTY κ) s) (hP : va_P D vwCl (zpgc κ t n) H) (i1 : Int) (i2 : Int) (i3 : Int) (i4 : Int) (hg : Go (GoE (zA_X5_leastTurned p l e s m args below meth c Q H locs t n ) (zQ_X5_leastTurned p l e s m args below meth c Q H locs)) (zg_X5_leastTurned_7 n i1 i2 i3 i4)) : zA_X5_leastTurned_7 p l e s m args below meth c Q H locs t n  i1 i2 i3 i4 := by
  intro ls hl
  unfold zg_X5_leastTurned_7 at hg
  refine lv_iload hx hb dX5_leastTurned_7 (lv_at hl 3 rfl) ?_
  refine lv_aload_n hx hb dX5_leastTurned_9 rfl (lv_at hl 0 rfl) ?_
  refine va_get (D := D) (ci := 5) (v := .int (zi (n : Int))) (C := RX5) (T := TX5) (N := 9) hx hb hts zi_X5_leastTurned_X5 hown hK hP 0 rfl rfl 0 (by decide) (hts (.fieldLink RX5 30 "DiamondRows$Polygon" "corners" "I") zl_X5_leastTurned_30) (fun _ h9 => h9) rfl dX5_leastTurned_10 ?_
  obtain ⟨b1, hg⟩ := Go_n hg
  obtain ⟨b2, hg⟩ := Go_n hg
  refine zv_icmp_ge (tgt := 35) hx hb dX5_leastTurned_13 (by decide) b1 b2 (fun c6 => ?_) (fun c6 => ?_)
  · have hg := Go_t c6 hg
    refine lv_iload_n hx hb dX5_leastTurned_35 rfl (lv_at hl 1 rfl) ?_
    exact (Go_s hg) _ _ dX5_leastTurned_36
  · have hg := Go_f c6 hg
    refine lv_aload_n hx hb dX5_leastTurned_16 rfl (lv_at hl 0 rfl) ?_
    refine lv_iload_n hx hb dX5_leastTurned_17 rfl (lv_at hl 2 rfl) ?_
    refine zv_iconst hx hb dX5_leastTurned_18 ?_
    obtain ⟨o3, ho3, hg⟩ := Go_b hg
    refine zc_vi (rest := []) ⟨hx, hb, hml, hown, hts⟩ (zc_X5_moved l D κ t n i3 false o3 ho3) (cwV 2 hts gX5_leastTurned_X5_moved rfl rfl rfl hv_X5_moved ⟨Nat.le_of_ble_eq_true rfl, Nat.le_of_ble_eq_true rfl⟩) (zpreV hK (hP.sub [0, 1, 2, 3, 4, 5, 6] rfl) 5 0 rfl rfl) rfl hl.1 rfl (Nat.le_of_ble_eq_true rfl) dX5_leastTurned_19 ⟨Nat.zero_le _, Nat.zero_le _⟩ ?_
    refine lv_istore_n (lv' := [(3, .int (zi o3)), (0, .ref (t 0)), (2, .int (zi i2)), (4, .int (zi i4))]) hx hb dX5_leastTurned_22 rfl hl (by decide) rfl (fun ls hl => ?_)
    refine lv_iload_n hx hb dX5_leastTurned_23 rfl (lv_at hl 2 rfl) ?_
    refine lv_iload_n hx hb dX5_leastTurned_24 rfl (lv_at hl 0 rfl) ?_
    obtain ⟨b4, hg⟩ := Go_n hg
    obtain ⟨b5, hg⟩ := Go_n hg
    refine va_mmin hx hb (by rw [hml]; exact hl.1.symm) hown (hts (.methodLink RX5 94 Lib.Math.min.name) (List.mem_cons_of_mem _ (List.mem_append_left _ (List.mem_of_getElem? (i := 1) rfl)))) (hts (.static Lib.Math.min.name) (List.mem_cons_of_mem _ (List.mem_append_left _ (List.mem_of_getElem? (i := 2) rfl)))) (hts (.initialized "java/lang/Math") (List.mem_cons_of_mem _ (List.mem_append_left _ (List.mem_of_getElem? (i := 3) rfl)))) (hts (.code Lib.Math.min.name Lib.Math.min.code 2 (some .int)) (List.mem_cons_of_mem _ (List.mem_append_left _ (List.mem_of_getElem? (i := 4) rfl)))) (Nat.le_of_ble_eq_true rfl) (Nat.le_of_ble_eq_true rfl) (Nat.zero_le _) (Nat.zero_le _) dX5_leastTurned_25 ?_
    rw [zi_min b4 b5]
    refine lv_istore_n (lv' := [(2, .int (zi (zmin i2 o3))), (3, .int (zi o3)), (0, .ref (t 0)), (4, .int (zi i4))]) hx hb dX5_leastTurned_28 rfl hl (by decide) rfl (fun ls hl => ?_)
    refine lv_iinc (v := zi (i4 + (1 : Int))) (lv' := [(4, .int (zi (i4 + (1 : Int)))), (2, .int (zi (zmin i2 o3))), (3, .int (zi o3)), (0, .ref (t 0))]) hx hb dX5_leastTurned_29 hl (k := 3) rfl (zi_add i4 _) (by decide) rfl (fun ls hl => ?_)
    refine lv_goto (tgt := 7) hx hb dX5_leastTurned_32 (by decide) ?_
    exact (Go_s hg) ls (lv_sub hl [3, 1, 2, 0] rfl)
set_option maxHeartbeats 4000000 in
set_option maxRecDepth 100000 in
theorem zw_X5_leastTurned {p : Program} {l : Launch} {e : Env} {s : State} {m : MethodId} {args : Array Value} {below : List Frame} {meth : Method} {c : Code} {Q : State → Prop} {D : va_G} {κ : Nat → ClassId} {H : Heap} {locs : List Loc} (t : Nat → Nat) (n : Nat)   (i1 : Int) (hx : p.tables.exec = Jvm.exec) (hb : c.code = cX5_leastTurned) (hml : c.maxLocals = 5) (hown : s.vm.findClass RX5 = some m.cls) (hts : ∀ w ∈ wsX5_leastTurned, w.before args s = true) (hK : va_K D vwCl (zTY κ) s) (hP : va_P D vwCl (zpgc κ t n) H) (out : Int) (h : zf_X5_leastTurned n i1 = some out) (hq : zQ_X5_leastTurned p l e s m args below meth c Q H locs out) : zA_X5_leastTurned_0 p l e s m args below meth c Q H locs t n  i1 0 0 0 := by
  have hst : ∀ st : zS_X5_leastTurned, Go (GoE (zA_X5_leastTurned p l e s m args below meth c Q H locs t n ) (zQ_X5_leastTurned p l e s m args below meth c Q H locs)) (zg_X5_leastTurned n st) → zA_X5_leastTurned p l e s m args below meth c Q H locs t n  st := by
    intro st hg
    obtain ⟨lab, i1, i2, i3, i4⟩ := st
    by_cases h0 : lab = 0
    · subst h0
      exact zs_X5_leastTurned_0 t n   hx hb hml hown hts hK hP i1 i2 i3 i4 hg
    by_cases h7 : lab = 7
    · subst h7
      exact zs_X5_leastTurned_7 t n   hx hb hml hown hts hK hP i1 i2 i3 i4 hg
    have hz : zg_X5_leastTurned n (lab, i1, i2, i3, i4) = none := by simp [zg_X5_leastTurned, h0, h7]
    rw [hz] at hg
    obtain ⟨a, h1, -⟩ := hg
    cases h1
  exact jwalk (At := zA_X5_leastTurned p l e s m args below meth c Q H locs t n ) (Ret := zQ_X5_leastTurned p l e s m args below meth c Q H locs) hst _ _ _ h hq
set_option maxHeartbeats 4000000 in
set_option maxRecDepth 100000 in
theorem zc_X5_leastTurned (l : Launch) (D : va_G) (κ : Nat → ClassId) (t : Nat → Nat) (n : Nat)  (i1 : Int) (out : Int) (h : zf_X5_leastTurned n i1 = some out) : Met l yX5_leastTurned wsX5_leastTurned zr_X5_leastTurned (va_Pc [.ref (t 0), .int (zi i1)] (zR D κ (zpgc κ t n))) (vp_Si (fun x => x = zi out)) 0 0 (fun _ => False) := by
  refine Met.ofW (cc := cX5_leastTurned) (maxL := 5) (ret := (some .int)) (by decide +kernel) rfl ?_
  intro p e s m args below meth c s₁ B hml hv
  obtain ⟨rfl, hP, hK⟩ := hv
  have hx := B.exec
  have hb := B.bytes
  have hr := B.returns
  have hts := atoms_spec (ws := wsX5_leastTurned) B.pre
  have hown : s.vm.findClass RX5 = some m.cls := findClass_of_methodNamed B.named
  have hlocks := B.notSynchronized
  have hl := lv_entry ([.ref (t 0), .int (zi i1)]) (n := 5) (Nat.le_of_ble_eq_true rfl)
  rw [lg_entry_eq]
  generalize (lg_sl ([.ref (t 0), .int (zi i1)]) ++ List.replicate (5 - (lg_sl ([.ref (t 0), .int (zi i1)])).length) Slot.unset).toArray = ls at hl ⊢
  have hl : lv_has ls 5 [(0, .ref (t 0)), (1, .int (zi i1))] := hl
  refine (zw_X5_leastTurned t n   i1 hx hb hml hown hts hK hP out h ?_) ls (lv_sub hl [0, 1] rfl)
  exact fun ls pc hd => W.iret hx hb hr (fun t ht hW => ⟨_, rfl, rfl, ht⟩) (fun _ h => by cases h) hd
/-! DiamondRows$Polygon.leastAlike(IZ)I -/
abbrev zr_X5_leastAlike : Room := { frames := 4, cells := 0, slots := 0, locals := 93 }
noncomputable def zf_X5_leastAlike (n : Nat)  (i1 : Int) (i2 : Bool) : Option (Int) :=
  Option.bind (zf_X5_leastTurned n i1) (fun o1 =>
  if i2 = false then
  some (o1)
  else
  Option.bind (zf_X5_moved n i1 true) (fun o2 =>
  Option.bind (zf_X5_leastTurned n o2) (fun o3 =>
  if zout o1 then none else
  if zout o3 then none else
  some ((zmin o1 o3)))))
def zQ_X5_leastAlike (p : Program) (l : Launch) (e : Env) (s : State) (m : MethodId) (args : Array Value) (below : List Frame) (meth : Method) (c : Code) (Q : State → Prop) (H : Heap) (locs : List Loc)  (o : Int) : Prop := ∀ (ls : Array Slot) (pc : Nat), decode cX5_leastAlike pc = .ok (.ireturn, 1) → W p l e zr_X5_leastAlike s m args below meth c H locs 0 0 Q (F0 m pc ls [.int (zi o)])
set_option maxHeartbeats 4000000 in
set_option maxRecDepth 100000 in
theorem zs_X5_leastAlike {p : Program} {l : Launch} {e : Env} {s : State} {m : MethodId} {args : Array Value} {below : List Frame} {meth : Method} {c : Code} {Q : State → Prop} {D : va_G} {κ : Nat → ClassId} {H : Heap} {locs : List Loc} (t : Nat → Nat) (n : Nat)  (i1 : Int) (i2 : Bool) (hx : p.tables.exec = Jvm.exec) (hb : c.code = cX5_leastAlike) (hml : c.maxLocals = 4) (hown : s.vm.findClass RX5 = some m.cls) (hts : ∀ w ∈ wsX5_leastAlike, w.before args s = true) (hK : va_K D vwCl (zTY κ) s) (hP : va_P D vwCl (zpgc κ t n) H) (ls : Array Slot) (hl : lv_has ls 4 [(0, .ref (t 0)), (1, .int (zi i1)), (2, .int (zi (bI i2)))]) (hg : Go (zQ_X5_leastAlike p l e s m args below meth c Q H locs) (zf_X5_leastAlike n i1 i2)) : W p l e zr_X5_leastAlike s m args below meth c H locs 0 0 Q (F0 m 0 ls []) := by
  unfold zf_X5_leastAlike at hg
  refine lv_aload_n hx hb dX5_leastAlike_0 rfl (lv_at hl 0 rfl) ?_
  refine lv_iload_n hx hb dX5_leastAlike_1 rfl (lv_at hl 1 rfl) ?_
  obtain ⟨o1, ho1, hg⟩ := Go_b hg
  refine zc_vi (rest := []) ⟨hx, hb, hml, hown, hts⟩ (zc_X5_leastTurned l D κ t n i1 o1 ho1) (cwV 1 hts gX5_leastAlike_X5_leastTurned rfl rfl rfl hv_X5_leastTurned ⟨Nat.le_of_ble_eq_true rfl, Nat.le_of_ble_eq_true rfl⟩) (zpreV hK (hP.sub [0, 1, 2, 3, 4, 5, 6] rfl) 5 0 rfl rfl) rfl hl.1 rfl (Nat.le_of_ble_eq_true rfl) dX5_leastAlike_2 ⟨Nat.zero_le _, Nat.zero_le _⟩ ?_
  refine lv_istore_n (lv' := [(3, .int (zi o1)), (0, .ref (t 0)), (1, .int (zi i1)), (2, .int (zi (bI i2)))]) hx hb dX5_leastAlike_5 rfl hl (by decide) rfl (fun ls hl => ?_)
  refine lv_iload_n hx hb dX5_leastAlike_6 rfl (lv_at hl 3 rfl) ?_
  refine zv_ifb_eq (tgt := 27) hx hb dX5_leastAlike_7 (by decide) (fun c6 => ?_) (fun c6 => ?_)
  · have hg := Go_t c6 hg
    refine lv_iload_n hx hb dX5_leastAlike_27 rfl (lv_at hl 0 rfl) ?_
    exact (Go_s hg) _ _ dX5_leastAlike_28
  · have hg := Go_f c6 hg
    refine lv_iload_n hx hb dX5_leastAlike_10 rfl (lv_at hl 0 rfl) ?_
    refine lv_aload_n hx hb dX5_leastAlike_11 rfl (lv_at hl 1 rfl) ?_
    refine lv_aload_n hx hb dX5_leastAlike_12 rfl (lv_at hl 1 rfl) ?_
    refine lv_iload_n hx hb dX5_leastAlike_13 rfl (lv_at hl 2 rfl) ?_
    refine zv_iconst hx hb dX5_leastAlike_14 ?_
    obtain ⟨o2, ho2, hg⟩ := Go_b hg
    refine zc_vi (rest := [.ref (t 0), .int (zi o1)]) ⟨hx, hb, hml, hown, hts⟩ (zc_X5_moved l D κ t n i1 true o2 ho2) (cwV 2 hts gX5_leastAlike_X5_moved rfl rfl rfl hv_X5_moved ⟨Nat.le_of_ble_eq_true rfl, Nat.le_of_ble_eq_true rfl⟩) (zpreV hK (hP.sub [0, 1, 2, 3, 4, 5, 6] rfl) 5 0 rfl rfl) rfl hl.1 rfl (Nat.le_of_ble_eq_true rfl) dX5_leastAlike_15 ⟨Nat.zero_le _, Nat.zero_le _⟩ ?_
    obtain ⟨o3, ho3, hg⟩ := Go_b hg
    refine zc_vi (rest := [.int (zi o1)]) ⟨hx, hb, hml, hown, hts⟩ (zc_X5_leastTurned l D κ t n o2 o3 ho3) (cwV 1 hts gX5_leastAlike_X5_leastTurned rfl rfl rfl hv_X5_leastTurned ⟨Nat.le_of_ble_eq_true rfl, Nat.le_of_ble_eq_true rfl⟩) (zpreV hK (hP.sub [0, 1, 2, 3, 4, 5, 6] rfl) 5 0 rfl rfl) rfl hl.1 rfl (Nat.le_of_ble_eq_true rfl) dX5_leastAlike_18 ⟨Nat.zero_le _, Nat.zero_le _⟩ ?_
    obtain ⟨b4, hg⟩ := Go_n hg
    obtain ⟨b5, hg⟩ := Go_n hg
    refine va_mmin hx hb (by rw [hml]; exact hl.1.symm) hown (hts (.methodLink RX5 94 Lib.Math.min.name) (by decide +kernel)) (hts (.static Lib.Math.min.name) (by decide +kernel)) (hts (.initialized "java/lang/Math") (by decide +kernel)) (hts (.code Lib.Math.min.name Lib.Math.min.code 2 (some .int)) (by decide +kernel)) (Nat.le_of_ble_eq_true rfl) (Nat.le_of_ble_eq_true rfl) (Nat.zero_le _) (Nat.zero_le _) dX5_leastAlike_21 ?_
    rw [zi_min b4 b5]
    refine lv_goto (tgt := 28) hx hb dX5_leastAlike_24 (by decide) ?_
    exact (Go_s hg) _ _ dX5_leastAlike_28
set_option maxHeartbeats 4000000 in
set_option maxRecDepth 100000 in
theorem zc_X5_leastAlike (l : Launch) (D : va_G) (κ : Nat → ClassId) (t : Nat → Nat) (n : Nat)  (i1 : Int) (i2 : Bool) (out : Int) (h : zf_X5_leastAlike n i1 i2 = some out) : Met l yX5_leastAlike wsX5_leastAlike zr_X5_leastAlike (va_Pc [.ref (t 0), .int (zi i1), .int (zi (bI i2))] (zR D κ (zpgc κ t n))) (vp_Si (fun x => x = zi out)) 0 0 (fun _ => False) := by
  refine Met.ofW (cc := cX5_leastAlike) (maxL := 4) (ret := (some .int)) (by decide +kernel) rfl ?_
  intro p e s m args below meth c s₁ B hml hv
  obtain ⟨rfl, hP, hK⟩ := hv
  have hx := B.exec
  have hb := B.bytes
  have hr := B.returns
  have hts := atoms_spec (ws := wsX5_leastAlike) B.pre
  have hown : s.vm.findClass RX5 = some m.cls := findClass_of_methodNamed B.named
  have hlocks := B.notSynchronized
  have hl := lv_entry ([.ref (t 0), .int (zi i1), .int (zi (bI i2))]) (n := 4) (Nat.le_of_ble_eq_true rfl)
  rw [lg_entry_eq]
  generalize (lg_sl ([.ref (t 0), .int (zi i1), .int (zi (bI i2))]) ++ List.replicate (4 - (lg_sl ([.ref (t 0), .int (zi i1), .int (zi (bI i2))])).length) Slot.unset).toArray = ls at hl ⊢
  have hl : lv_has ls 4 [(0, .ref (t 0)), (1, .int (zi i1)), (2, .int (zi (bI i2)))] := hl
  refine zs_X5_leastAlike t n  i1 i2 hx hb hml hown hts hK hP ls hl ⟨out, h, ?_⟩
  exact fun ls pc hd => W.iret hx hb hr (fun t ht hW => ⟨_, rfl, rfl, ht⟩) (fun _ h => by cases h) hd
/-! DiamondRows$Polygon.neverTurnsBelow(II)Z -/
abbrev zr_X5_neverTurnsBelow : Room := { frames := 3, cells := 0, slots := 0, locals := 69 }
abbrev zS_X5_neverTurnsBelow : Type := Nat × Int × Int × Int × Int
abbrev zO_X5_neverTurnsBelow : Type := Bool
noncomputable def zg_X5_neverTurnsBelow_0 (n : Nat)  (i1 : Int) (i2 : Int) (i3 : Int) (i4 : Int) : Option (zO_X5_neverTurnsBelow ⊕ zS_X5_neverTurnsBelow) :=
  some (.inr (5, i1, i2, i1, (0 : Int)))
noncomputable def zg_X5_neverTurnsBelow_5 (n : Nat)  (i1 : Int) (i2 : Int) (i3 : Int) (i4 : Int) : Option (zO_X5_neverTurnsBelow ⊕ zS_X5_neverTurnsBelow) :=
  if zout i4 then none else
  if zout (n : Int) then none else
  if (n : Int) ≤ i4 then
  some (.inl (true))
  else
  if zout i3 then none else
  if zout i2 then none else
  if i2 ≤ i3 then
  Option.bind (zf_X5_moved n i3 false) (fun o5 =>
  some (.inr (5, 0, i2, o5, (i4 + (1 : Int)))))
  else
  some (.inl (false))
noncomputable def zg_X5_neverTurnsBelow (n : Nat)  (st : zS_X5_neverTurnsBelow) : Option (zO_X5_neverTurnsBelow ⊕ zS_X5_neverTurnsBelow) := match st with
  | (lab, i1, i2, i3, i4) => if lab = 0 then zg_X5_neverTurnsBelow_0 n i1 i2 i3 i4 else if lab = 5 then zg_X5_neverTurnsBelow_5 n i1 i2 i3 i4 else none
noncomputable def zf_X5_neverTurnsBelow (n : Nat)  (i1 : Int) (i2 : Int) : Option (Bool) := jrun (zg_X5_neverTurnsBelow n) jfuel (0, i1, i2, 0, 0)
theorem zi_X5_neverTurnsBelow_X5 : ∀ w ∈ u_ws RX5 TX5 9, w ∈ wsX5_neverTurnsBelow := fun w h => (List.mem_cons_of_mem _ (List.mem_append_right _ (List.mem_append_left _ h)))
theorem zl_X5_neverTurnsBelow_30 : Cond.fieldLink RX5 30 "DiamondRows$Polygon" "corners" "I" ∈ wsX5_neverTurnsBelow := (List.mem_cons_of_mem _ (List.mem_append_left _ (List.mem_of_getElem? (i := 0) rfl)))
def zQ_X5_neverTurnsBelow (p : Program) (l : Launch) (e : Env) (s : State) (m : MethodId) (args : Array Value) (below : List Frame) (meth : Method) (c : Code) (Q : State → Prop) (H : Heap) (locs : List Loc)  (o : Bool) : Prop := ∀ (ls : Array Slot) (pc : Nat), decode cX5_neverTurnsBelow pc = .ok (.ireturn, 1) → W p l e zr_X5_neverTurnsBelow s m args below meth c H locs 0 0 Q (F0 m pc ls [.int (zi (bI o))])
def zA_X5_neverTurnsBelow_0 (p : Program) (l : Launch) (e : Env) (s : State) (m : MethodId) (args : Array Value) (below : List Frame) (meth : Method) (c : Code) (Q : State → Prop) (H : Heap) (locs : List Loc) (t : Nat → Nat) (n : Nat)  (i1 : Int) (i2 : Int) (i3 : Int) (i4 : Int) : Prop := ∀ ls : Array Slot, lv_has ls 5 [(0, .ref (t 0)), (1, .int (zi i1)), (2, .int (zi i2))] → W p l e zr_X5_neverTurnsBelow s m args below meth c H locs 0 0 Q (F0 m 0 ls [])
def zA_X5_neverTurnsBelow_5 (p : Program) (l : Launch) (e : Env) (s : State) (m : MethodId) (args : Array Value) (below : List Frame) (meth : Method) (c : Code) (Q : State → Prop) (H : Heap) (locs : List Loc) (t : Nat → Nat) (n : Nat)  (i1 : Int) (i2 : Int) (i3 : Int) (i4 : Int) : Prop := ∀ ls : Array Slot, lv_has ls 5 [(0, .ref (t 0)), (2, .int (zi i2)), (3, .int (zi i3)), (4, .int (zi i4))] → W p l e zr_X5_neverTurnsBelow s m args below meth c H locs 0 0 Q (F0 m 5 ls [])
def zA_X5_neverTurnsBelow (p : Program) (l : Launch) (e : Env) (s : State) (m : MethodId) (args : Array Value) (below : List Frame) (meth : Method) (c : Code) (Q : State → Prop) (H : Heap) (locs : List Loc) (t : Nat → Nat) (n : Nat)  (st : zS_X5_neverTurnsBelow) : Prop := match st with
  | (lab, i1, i2, i3, i4) => if lab = 0 then zA_X5_neverTurnsBelow_0 p l e s m args below meth c Q H locs t n  i1 i2 i3 i4 else if lab = 5 then zA_X5_neverTurnsBelow_5 p l e s m args below meth c Q H locs t n  i1 i2 i3 i4 else True
set_option maxHeartbeats 4000000 in
set_option maxRecDepth 100000 in
theorem zs_X5_neverTurnsBelow_0 {p : Program} {l : Launch} {e : Env} {s : State} {m : MethodId} {args : Array Value} {below : List Frame} {meth : Method} {c : Code} {Q : State → Prop} {D : va_G} {κ : Nat → ClassId} {H : Heap} {locs : List Loc} (t : Nat → Nat) (n : Nat)   (hx : p.tables.exec = Jvm.exec) (hb : c.code = cX5_neverTurnsBelow) (hml : c.maxLocals = 5) (hown : s.vm.findClass RX5 = some m.cls) (hts : ∀ w ∈ wsX5_neverTurnsBelow, w.before args s = true) (hK : va_K D vwCl (zTY κ) s) (hP : va_P D vwCl (zpgc κ t n) H) (i1 : Int) (i2 : Int) (i3 : Int) (i4 : Int) (hg : Go (GoE (zA_X5_neverTurnsBelow p l e s m args below meth c Q H locs t n ) (zQ_X5_neverTurnsBelow p l e s m args below meth c Q H locs)) (zg_X5_neverTurnsBelow_0 n i1 i2 i3 i4)) : zA_X5_neverTurnsBelow_0 p l e s m args below meth c Q H locs t n  i1 i2 i3 i4 := by
  intro ls hl
  unfold zg_X5_neverTurnsBelow_0 at hg
  refine lv_iload_n hx hb dX5_neverTurnsBelow_0 rfl (lv_at hl 1 rfl) ?_
  refine lv_istore_n (lv' := [(3, .int (zi i1)), (0, .ref (t 0)), (1, .int (zi i1)), (2, .int (zi i2))]) hx hb dX5_neverTurnsBelow_1 rfl hl (by decide) rfl (fun ls hl => ?_)
  refine zv_iconst hx hb dX5_neverTurnsBelow_2 ?_
  refine lv_istore (lv' := [(4, .int (zi (0 : Int))), (3, .int (zi i1)), (0, .ref (t 0)), (1, .int (zi i1)), (2, .int (zi i2))]) hx hb dX5_neverTurnsBelow_3 hl (by decide) rfl (fun ls hl => ?_)
  exact (Go_s hg) ls (lv_sub hl [2, 4, 1, 0] rfl)
set_option maxHeartbeats 4000000 in
set_option maxRecDepth 100000 in
theorem zs_X5_neverTurnsBelow_5 {p : Program} {l : Launch} {e : Env} {s : State} {m : MethodId} {args : Array Value} {below : List Frame} {meth : Method} {c : Code} {Q : State → Prop} {D : va_G} {κ : Nat → ClassId} {H : Heap} {locs : List Loc} (t : Nat → Nat) (n : Nat)   (hx : p.tables.exec = Jvm.exec) (hb : c.code = cX5_neverTurnsBelow) (hml : c.maxLocals = 5) (hown : s.vm.findClass RX5 = some m.cls) (hts : ∀ w ∈ wsX5_neverTurnsBelow, w.before args s = true) (hK : va_K D vwCl (zTY κ) s) (hP : va_P D vwCl (zpgc κ t n) H) (i1 : Int) (i2 : Int) (i3 : Int) (i4 : Int) (hg : Go (GoE (zA_X5_neverTurnsBelow p l e s m args below meth c Q H locs t n ) (zQ_X5_neverTurnsBelow p l e s m args below meth c Q H locs)) (zg_X5_neverTurnsBelow_5 n i1 i2 i3 i4)) : zA_X5_neverTurnsBelow_5 p l e s m args below meth c Q H locs t n  i1 i2 i3 i4 := by
  intro ls hl
  unfold zg_X5_neverTurnsBelow_5 at hg
  refine lv_iload hx hb dX5_neverTurnsBelow_5 (lv_at hl 3 rfl) ?_
  refine lv_aload_n hx hb dX5_neverTurnsBelow_7 rfl (lv_at hl 0 rfl) ?_
  refine va_get (D := D) (ci := 5) (v := .int (zi (n : Int))) (C := RX5) (T := TX5) (N := 9) hx hb hts zi_X5_neverTurnsBelow_X5 hown hK hP 0 rfl rfl 0 (by decide) (hts (.fieldLink RX5 30 "DiamondRows$Polygon" "corners" "I") zl_X5_neverTurnsBelow_30) (fun _ h9 => h9) rfl dX5_neverTurnsBelow_8 ?_
  obtain ⟨b1, hg⟩ := Go_n hg
  obtain ⟨b2, hg⟩ := Go_n hg
  refine zv_icmp_ge (tgt := 34) hx hb dX5_neverTurnsBelow_11 (by decide) b1 b2 (fun c7 => ?_) (fun c7 => ?_)
  · have hg := Go_t c7 hg
    refine zv_iconst hx hb dX5_neverTurnsBelow_34 ?_
    exact (Go_s hg) _ _ dX5_neverTurnsBelow_35
  · have hg := Go_f c7 hg
    refine lv_iload_n hx hb dX5_neverTurnsBelow_14 rfl (lv_at hl 2 rfl) ?_
    refine lv_iload_n hx hb dX5_neverTurnsBelow_15 rfl (lv_at hl 1 rfl) ?_
    obtain ⟨b3, hg⟩ := Go_n hg
    obtain ⟨b4, hg⟩ := Go_n hg
    refine zv_icmp_ge (tgt := 21) hx hb dX5_neverTurnsBelow_16 (by decide) b3 b4 (fun c6 => ?_) (fun c6 => ?_)
    · have hg := Go_t c6 hg
      refine lv_aload_n hx hb dX5_neverTurnsBelow_21 rfl (lv_at hl 0 rfl) ?_
      refine lv_iload_n hx hb dX5_neverTurnsBelow_22 rfl (lv_at hl 2 rfl) ?_
      refine zv_iconst hx hb dX5_neverTurnsBelow_23 ?_
      obtain ⟨o5, ho5, hg⟩ := Go_b hg
      refine zc_vi (rest := []) ⟨hx, hb, hml, hown, hts⟩ (zc_X5_moved l D κ t n i3 false o5 ho5) (cwV 2 hts gX5_neverTurnsBelow_X5_moved rfl rfl rfl hv_X5_moved ⟨Nat.le_of_ble_eq_true rfl, Nat.le_of_ble_eq_true rfl⟩) (zpreV hK (hP.sub [0, 1, 2, 3, 4, 5, 6] rfl) 5 0 rfl rfl) rfl hl.1 rfl (Nat.le_of_ble_eq_true rfl) dX5_neverTurnsBelow_24 ⟨Nat.zero_le _, Nat.zero_le _⟩ ?_
      refine lv_istore_n (lv' := [(3, .int (zi o5)), (0, .ref (t 0)), (2, .int (zi i2)), (4, .int (zi i4))]) hx hb dX5_neverTurnsBelow_27 rfl hl (by decide) rfl (fun ls hl => ?_)
      refine lv_iinc (v := zi (i4 + (1 : Int))) (lv' := [(4, .int (zi (i4 + (1 : Int)))), (3, .int (zi o5)), (0, .ref (t 0)), (2, .int (zi i2))]) hx hb dX5_neverTurnsBelow_28 hl (k := 3) rfl (zi_add i4 _) (by decide) rfl (fun ls hl => ?_)
      refine lv_goto (tgt := 5) hx hb dX5_neverTurnsBelow_31 (by decide) ?_
      exact (Go_s hg) ls (lv_sub hl [2, 3, 1, 0] rfl)
    · have hg := Go_f c6 hg
      refine zv_iconst hx hb dX5_neverTurnsBelow_19 ?_
      exact (Go_s hg) _ _ dX5_neverTurnsBelow_20
set_option maxHeartbeats 4000000 in
set_option maxRecDepth 100000 in
theorem zw_X5_neverTurnsBelow {p : Program} {l : Launch} {e : Env} {s : State} {m : MethodId} {args : Array Value} {below : List Frame} {meth : Method} {c : Code} {Q : State → Prop} {D : va_G} {κ : Nat → ClassId} {H : Heap} {locs : List Loc} (t : Nat → Nat) (n : Nat)   (i1 : Int) (i2 : Int) (hx : p.tables.exec = Jvm.exec) (hb : c.code = cX5_neverTurnsBelow) (hml : c.maxLocals = 5) (hown : s.vm.findClass RX5 = some m.cls) (hts : ∀ w ∈ wsX5_neverTurnsBelow, w.before args s = true) (hK : va_K D vwCl (zTY κ) s) (hP : va_P D vwCl (zpgc κ t n) H) (out : Bool) (h : zf_X5_neverTurnsBelow n i1 i2 = some out) (hq : zQ_X5_neverTurnsBelow p l e s m args below meth c Q H locs out) : zA_X5_neverTurnsBelow_0 p l e s m args below meth c Q H locs t n  i1 i2 0 0 := by
  have hst : ∀ st : zS_X5_neverTurnsBelow, Go (GoE (zA_X5_neverTurnsBelow p l e s m args below meth c Q H locs t n ) (zQ_X5_neverTurnsBelow p l e s m args below meth c Q H locs)) (zg_X5_neverTurnsBelow n st) → zA_X5_neverTurnsBelow p l e s m args below meth c Q H locs t n  st := by
    intro st hg
    obtain ⟨lab, i1, i2, i3, i4⟩ := st
    by_cases h0 : lab = 0
    · subst h0
      exact zs_X5_neverTurnsBelow_0 t n   hx hb hml hown hts hK hP i1 i2 i3 i4 hg
    by_cases h5 : lab = 5
    · subst h5
      exact zs_X5_neverTurnsBelow_5 t n   hx hb hml hown hts hK hP i1 i2 i3 i4 hg
    have hz : zg_X5_neverTurnsBelow n (lab, i1, i2, i3, i4) = none := by simp [zg_X5_neverTurnsBelow, h0, h5]
    rw [hz] at hg
    obtain ⟨a, h1, -⟩ := hg
    cases h1
  exact jwalk (At := zA_X5_neverTurnsBelow p l e s m args below meth c Q H locs t n ) (Ret := zQ_X5_neverTurnsBelow p l e s m args below meth c Q H locs) hst _ _ _ h hq
set_option maxHeartbeats 4000000 in
set_option maxRecDepth 100000 in
theorem zc_X5_neverTurnsBelow (l : Launch) (D : va_G) (κ : Nat → ClassId) (t : Nat → Nat) (n : Nat)  (i1 : Int) (i2 : Int) (out : Bool) (h : zf_X5_neverTurnsBelow n i1 i2 = some out) : Met l yX5_neverTurnsBelow wsX5_neverTurnsBelow zr_X5_neverTurnsBelow (va_Pc [.ref (t 0), .int (zi i1), .int (zi i2)] (zR D κ (zpgc κ t n))) (vp_Si (fun x => x = zi (bI out))) 0 0 (fun _ => False) := by
  refine Met.ofW (cc := cX5_neverTurnsBelow) (maxL := 5) (ret := (some .boolean)) (by decide +kernel) rfl ?_
  intro p e s m args below meth c s₁ B hml hv
  obtain ⟨rfl, hP, hK⟩ := hv
  have hx := B.exec
  have hb := B.bytes
  have hr := B.returns
  have hts := atoms_spec (ws := wsX5_neverTurnsBelow) B.pre
  have hown : s.vm.findClass RX5 = some m.cls := findClass_of_methodNamed B.named
  have hlocks := B.notSynchronized
  have hl := lv_entry ([.ref (t 0), .int (zi i1), .int (zi i2)]) (n := 5) (Nat.le_of_ble_eq_true rfl)
  rw [lg_entry_eq]
  generalize (lg_sl ([.ref (t 0), .int (zi i1), .int (zi i2)]) ++ List.replicate (5 - (lg_sl ([.ref (t 0), .int (zi i1), .int (zi i2)])).length) Slot.unset).toArray = ls at hl ⊢
  have hl : lv_has ls 5 [(0, .ref (t 0)), (1, .int (zi i1)), (2, .int (zi i2))] := hl
  refine (zw_X5_neverTurnsBelow t n   i1 i2 hx hb hml hown hts hK hP out h ?_) ls (lv_sub hl [0, 1, 2] rfl)
  exact fun ls pc hd => W.zret hx hb hr (bI_nar _) (fun t ht hW => ⟨_, rfl, rfl, ht⟩) (fun _ h => by cases h) hd
/-! DiamondRows$Polygon.countKinds(Z)I -/
abbrev zr_X5_countKinds : Room := { frames := 4, cells := 0, slots := 0, locals := 93 }
abbrev zS_X5_countKinds : Type := Nat × Bool × Int × Int
abbrev zO_X5_countKinds : Type := Int
noncomputable def zg_X5_countKinds_0 (n : Nat)  (i1 : Bool) (i2 : Int) (i3 : Int) : Option (zO_X5_countKinds ⊕ zS_X5_countKinds) :=
  some (.inr (4, i1, (0 : Int), (0 : Int)))
noncomputable def zg_X5_countKinds_4 (n : Nat)  (i1 : Bool) (i2 : Int) (i3 : Int) : Option (zO_X5_countKinds ⊕ zS_X5_countKinds) :=
  if zout i3 then none else
  if zout (pg8 n) then none else
  if (pg8 n) ≤ i3 then
  some (.inl (i2))
  else
  if i3 < 0 ∨ 429 ≤ i3 then none else
  Option.bind (zf_X5_neverTurnsBelow n (zget (pg6 n) (Int.toNat i3)) (zget (pg6 n) (Int.toNat i3))) (fun o4 =>
  if o4 = false then
  some (.inr (4, i1, i2, (i3 + (1 : Int))))
  else
  if i1 = false then
  some (.inr (4, i1, (i2 + (1 : Int)), (i3 + (1 : Int))))
  else
  Option.bind (zf_X5_moved n (zget (pg6 n) (Int.toNat i3)) true) (fun o5 =>
  Option.bind (zf_X5_neverTurnsBelow n o5 (zget (pg6 n) (Int.toNat i3))) (fun o6 =>
  if o6 = false then
  some (.inr (4, i1, i2, (i3 + (1 : Int))))
  else
  some (.inr (4, i1, (i2 + (1 : Int)), (i3 + (1 : Int)))))))
noncomputable def zg_X5_countKinds (n : Nat)  (st : zS_X5_countKinds) : Option (zO_X5_countKinds ⊕ zS_X5_countKinds) := match st with
  | (lab, i1, i2, i3) => if lab = 0 then zg_X5_countKinds_0 n i1 i2 i3 else if lab = 4 then zg_X5_countKinds_4 n i1 i2 i3 else none
noncomputable def zf_X5_countKinds (n : Nat)  (i1 : Bool) : Option (Int) := jrun (zg_X5_countKinds n) jfuel (0, i1, 0, 0)
theorem zi_X5_countKinds_X5 : ∀ w ∈ u_ws RX5 TX5 9, w ∈ wsX5_countKinds := fun w h => (List.mem_cons_of_mem _ (List.mem_append_right _ (List.mem_append_left _ h)))
theorem zl_X5_countKinds_27 : Cond.fieldLink RX5 27 "DiamondRows$Polygon" "cuts" "[I" ∈ wsX5_countKinds := (List.mem_cons_of_mem _ (List.mem_append_left _ (List.mem_of_getElem? (i := 1) rfl)))
theorem zl_X5_countKinds_65 : Cond.fieldLink RX5 65 "DiamondRows$Polygon" "cutCount" "I" ∈ wsX5_countKinds := (List.mem_cons_of_mem _ (List.mem_append_left _ (List.mem_of_getElem? (i := 0) rfl)))
def zQ_X5_countKinds (p : Program) (l : Launch) (e : Env) (s : State) (m : MethodId) (args : Array Value) (below : List Frame) (meth : Method) (c : Code) (Q : State → Prop) (H : Heap) (locs : List Loc)  (o : Int) : Prop := ∀ (ls : Array Slot) (pc : Nat), decode cX5_countKinds pc = .ok (.ireturn, 1) → W p l e zr_X5_countKinds s m args below meth c H locs 0 0 Q (F0 m pc ls [.int (zi o)])
def zA_X5_countKinds_0 (p : Program) (l : Launch) (e : Env) (s : State) (m : MethodId) (args : Array Value) (below : List Frame) (meth : Method) (c : Code) (Q : State → Prop) (H : Heap) (locs : List Loc) (t : Nat → Nat) (n : Nat)  (i1 : Bool) (i2 : Int) (i3 : Int) : Prop := ∀ ls : Array Slot, lv_has ls 5 [(0, .ref (t 0)), (1, .int (zi (bI i1)))] → W p l e zr_X5_countKinds s m args below meth c H locs 0 0 Q (F0 m 0 ls [])
def zA_X5_countKinds_4 (p : Program) (l : Launch) (e : Env) (s : State) (m : MethodId) (args : Array Value) (below : List Frame) (meth : Method) (c : Code) (Q : State → Prop) (H : Heap) (locs : List Loc) (t : Nat → Nat) (n : Nat)  (i1 : Bool) (i2 : Int) (i3 : Int) : Prop := ∀ ls : Array Slot, lv_has ls 5 [(0, .ref (t 0)), (1, .int (zi (bI i1))), (2, .int (zi i2)), (3, .int (zi i3))] → W p l e zr_X5_countKinds s m args below meth c H locs 0 0 Q (F0 m 4 ls [])
def zA_X5_countKinds (p : Program) (l : Launch) (e : Env) (s : State) (m : MethodId) (args : Array Value) (below : List Frame) (meth : Method) (c : Code) (Q : State → Prop) (H : Heap) (locs : List Loc) (t : Nat → Nat) (n : Nat)  (st : zS_X5_countKinds) : Prop := match st with
  | (lab, i1, i2, i3) => if lab = 0 then zA_X5_countKinds_0 p l e s m args below meth c Q H locs t n  i1 i2 i3 else if lab = 4 then zA_X5_countKinds_4 p l e s m args below meth c Q H locs t n  i1 i2 i3 else True
set_option maxHeartbeats 4000000 in
set_option maxRecDepth 100000 in
theorem zs_X5_countKinds_0 {p : Program} {l : Launch} {e : Env} {s : State} {m : MethodId} {args : Array Value} {below : List Frame} {meth : Method} {c : Code} {Q : State → Prop} {D : va_G} {κ : Nat → ClassId} {H : Heap} {locs : List Loc} (t : Nat → Nat) (n : Nat)   (hx : p.tables.exec = Jvm.exec) (hb : c.code = cX5_countKinds) (hml : c.maxLocals = 5) (hown : s.vm.findClass RX5 = some m.cls) (hts : ∀ w ∈ wsX5_countKinds, w.before args s = true) (hK : va_K D vwCl (zTY κ) s) (hP : va_P D vwCl (zpgc κ t n) H) (i1 : Bool) (i2 : Int) (i3 : Int) (hg : Go (GoE (zA_X5_countKinds p l e s m args below meth c Q H locs t n ) (zQ_X5_countKinds p l e s m args below meth c Q H locs)) (zg_X5_countKinds_0 n i1 i2 i3)) : zA_X5_countKinds_0 p l e s m args below meth c Q H locs t n  i1 i2 i3 := by
  intro ls hl
  unfold zg_X5_countKinds_0 at hg
  refine zv_iconst hx hb dX5_countKinds_0 ?_
  refine lv_istore_n (lv' := [(2, .int (zi (0 : Int))), (0, .ref (t 0)), (1, .int (zi (bI i1)))]) hx hb dX5_countKinds_1 rfl hl (by decide) rfl (fun ls hl => ?_)
  refine zv_iconst hx hb dX5_countKinds_2 ?_
  refine lv_istore_n (lv' := [(3, .int (zi (0 : Int))), (2, .int (zi (0 : Int))), (0, .ref (t 0)), (1, .int (zi (bI i1)))]) hx hb dX5_countKinds_3 rfl hl (by decide) rfl (fun ls hl => ?_)
  exact (Go_s hg) ls (lv_sub hl [2, 3, 1, 0] rfl)
set_option maxHeartbeats 4000000 in
set_option maxRecDepth 100000 in
theorem zs_X5_countKinds_4 {p : Program} {l : Launch} {e : Env} {s : State} {m : MethodId} {args : Array Value} {below : List Frame} {meth : Method} {c : Code} {Q : State → Prop} {D : va_G} {κ : Nat → ClassId} {H : Heap} {locs : List Loc} (t : Nat → Nat) (n : Nat)   (hx : p.tables.exec = Jvm.exec) (hb : c.code = cX5_countKinds) (hml : c.maxLocals = 5) (hown : s.vm.findClass RX5 = some m.cls) (hts : ∀ w ∈ wsX5_countKinds, w.before args s = true) (hK : va_K D vwCl (zTY κ) s) (hP : va_P D vwCl (zpgc κ t n) H) (i1 : Bool) (i2 : Int) (i3 : Int) (hg : Go (GoE (zA_X5_countKinds p l e s m args below meth c Q H locs t n ) (zQ_X5_countKinds p l e s m args below meth c Q H locs)) (zg_X5_countKinds_4 n i1 i2 i3)) : zA_X5_countKinds_4 p l e s m args below meth c Q H locs t n  i1 i2 i3 := by
  intro ls hl
  unfold zg_X5_countKinds_4 at hg
  refine lv_iload_n hx hb dX5_countKinds_4 rfl (lv_at hl 3 rfl) ?_
  refine lv_aload_n hx hb dX5_countKinds_5 rfl (lv_at hl 0 rfl) ?_
  refine va_get (D := D) (ci := 5) (v := .int (zi (pg8 n))) (C := RX5) (T := TX5) (N := 9) hx hb hts zi_X5_countKinds_X5 hown hK hP 0 rfl rfl 8 (by decide) (hts (.fieldLink RX5 65 "DiamondRows$Polygon" "cutCount" "I") zl_X5_countKinds_65) (fun _ h9 => h9) rfl dX5_countKinds_6 ?_
  obtain ⟨b1, hg⟩ := Go_n hg
  obtain ⟨b2, hg⟩ := Go_n hg
  refine zv_icmp_ge (tgt := 60) hx hb dX5_countKinds_9 (by decide) b1 b2 (fun c10 => ?_) (fun c10 => ?_)
  · have hg := Go_t c10 hg
    refine lv_iload_n hx hb dX5_countKinds_60 rfl (lv_at hl 2 rfl) ?_
    exact (Go_s hg) _ _ dX5_countKinds_61
  · have hg := Go_f c10 hg
    refine lv_aload_n hx hb dX5_countKinds_12 rfl (lv_at hl 0 rfl) ?_
    refine va_get (D := D) (ci := 5) (v := .ref (t 6)) (C := RX5) (T := TX5) (N := 9) hx hb hts zi_X5_countKinds_X5 hown hK hP 0 rfl rfl 6 (by decide) (hts (.fieldLink RX5 27 "DiamondRows$Polygon" "cuts" "[I") zl_X5_countKinds_27) (fun _ h9 => h9) rfl dX5_countKinds_13 ?_
    refine lv_iload_n hx hb dX5_countKinds_16 rfl (lv_at hl 3 rfl) ?_
    obtain ⟨n3, hg⟩ := Go_n hg
    refine zv_iald hx hb hK hP 6 1 rfl rfl (by decide) n3 dX5_countKinds_17 ?_
    refine lv_istore (lv' := [(4, .int (zi (zget (pg6 n) (Int.toNat i3)))), (0, .ref (t 0)), (1, .int (zi (bI i1))), (2, .int (zi i2)), (3, .int (zi i3))]) hx hb dX5_countKinds_18 hl (by decide) rfl (fun ls hl => ?_)
    refine lv_aload_n hx hb dX5_countKinds_20 rfl (lv_at hl 1 rfl) ?_
    refine lv_iload hx hb dX5_countKinds_21 (lv_at hl 0 rfl) ?_
    refine lv_iload hx hb dX5_countKinds_23 (lv_at hl 0 rfl) ?_
    obtain ⟨o4, ho4, hg⟩ := Go_b hg
    refine zc_vi (rest := []) ⟨hx, hb, hml, hown, hts⟩ (zc_X5_neverTurnsBelow l D κ t n (zget (pg6 n) (Int.toNat i3)) (zget (pg6 n) (Int.toNat i3)) o4 ho4) (cwV 2 hts gX5_countKinds_X5_neverTurnsBelow rfl rfl rfl hv_X5_neverTurnsBelow ⟨Nat.le_of_ble_eq_true rfl, Nat.le_of_ble_eq_true rfl⟩) (zpreV hK (hP.sub [0, 1, 2, 3, 4, 5, 6] rfl) 5 0 rfl rfl) rfl hl.1 rfl (Nat.le_of_ble_eq_true rfl) dX5_countKinds_25 ⟨Nat.zero_le _, Nat.zero_le _⟩ ?_
    refine zv_ifb_eq (tgt := 54) hx hb dX5_countKinds_28 (by decide) (fun c9 => ?_) (fun c9 => ?_)
    · have hg := Go_t c9 hg
      refine lv_iinc (v := zi (i3 + (1 : Int))) (lv' := [(3, .int (zi (i3 + (1 : Int)))), (4, .int (zi (zget (pg6 n) (Int.toNat i3)))), (0, .ref (t 0)), (1, .int (zi (bI i1))), (2, .int (zi i2))]) hx hb dX5_countKinds_54 hl (k := 4) rfl (zi_add i3 _) (by decide) rfl (fun ls hl => ?_)
      refine lv_goto (tgt := 4) hx hb dX5_countKinds_57 (by decide) ?_
      exact (Go_s hg) ls (lv_sub hl [2, 3, 4, 0] rfl)
    · have hg := Go_f c9 hg
      refine lv_iload_n hx hb dX5_countKinds_31 rfl (lv_at hl 2 rfl) ?_
      refine zv_ifb_eq (tgt := 51) hx hb dX5_countKinds_32 (by decide) (fun c8 => ?_) (fun c8 => ?_)
      · have hg := Go_t c8 hg
        refine lv_iinc (v := zi (i2 + (1 : Int))) (lv' := [(2, .int (zi (i2 + (1 : Int)))), (4, .int (zi (zget (pg6 n) (Int.toNat i3)))), (0, .ref (t 0)), (1, .int (zi (bI i1))), (3, .int (zi i3))]) hx hb dX5_countKinds_51 hl (k := 3) rfl (zi_add i2 _) (by decide) rfl (fun ls hl => ?_)
        refine lv_iinc (v := zi (i3 + (1 : Int))) (lv' := [(3, .int (zi (i3 + (1 : Int)))), (2, .int (zi (i2 + (1 : Int)))), (4, .int (zi (zget (pg6 n) (Int.toNat i3)))), (0, .ref (t 0)), (1, .int (zi (bI i1)))]) hx hb dX5_countKinds_54 hl (k := 4) rfl (zi_add i3 _) (by decide) rfl (fun ls hl => ?_)
        refine lv_goto (tgt := 4) hx hb dX5_countKinds_57 (by decide) ?_
        exact (Go_s hg) ls (lv_sub hl [3, 4, 1, 0] rfl)
      · have hg := Go_f c8 hg
        refine lv_aload_n hx hb dX5_countKinds_35 rfl (lv_at hl 1 rfl) ?_
        refine lv_aload_n hx hb dX5_countKinds_36 rfl (lv_at hl 1 rfl) ?_
        refine lv_iload hx hb dX5_countKinds_37 (lv_at hl 0 rfl) ?_
        refine zv_iconst hx hb dX5_countKinds_39 ?_
        obtain ⟨o5, ho5, hg⟩ := Go_b hg
        refine zc_vi (rest := [.ref (t 0)]) ⟨hx, hb, hml, hown, hts⟩ (zc_X5_moved l D κ t n (zget (pg6 n) (Int.toNat i3)) true o5 ho5) (cwV 2 hts gX5_countKinds_X5_moved rfl rfl rfl hv_X5_moved ⟨Nat.le_of_ble_eq_true rfl, Nat.le_of_ble_eq_true rfl⟩) (zpreV hK (hP.sub [0, 1, 2, 3, 4, 5, 6] rfl) 5 0 rfl rfl) rfl hl.1 rfl (Nat.le_of_ble_eq_true rfl) dX5_countKinds_40 ⟨Nat.zero_le _, Nat.zero_le _⟩ ?_
        refine lv_iload hx hb dX5_countKinds_43 (lv_at hl 0 rfl) ?_
        obtain ⟨o6, ho6, hg⟩ := Go_b hg
        refine zc_vi (rest := []) ⟨hx, hb, hml, hown, hts⟩ (zc_X5_neverTurnsBelow l D κ t n o5 (zget (pg6 n) (Int.toNat i3)) o6 ho6) (cwV 2 hts gX5_countKinds_X5_neverTurnsBelow rfl rfl rfl hv_X5_neverTurnsBelow ⟨Nat.le_of_ble_eq_true rfl, Nat.le_of_ble_eq_true rfl⟩) (zpreV hK (hP.sub [0, 1, 2, 3, 4, 5, 6] rfl) 5 0 rfl rfl) rfl hl.1 rfl (Nat.le_of_ble_eq_true rfl) dX5_countKinds_45 ⟨Nat.zero_le _, Nat.zero_le _⟩ ?_
        refine zv_ifb_eq (tgt := 54) hx hb dX5_countKinds_48 (by decide) (fun c7 => ?_) (fun c7 => ?_)
        · have hg := Go_t c7 hg
          refine lv_iinc (v := zi (i3 + (1 : Int))) (lv' := [(3, .int (zi (i3 + (1 : Int)))), (4, .int (zi (zget (pg6 n) (Int.toNat i3)))), (0, .ref (t 0)), (1, .int (zi (bI i1))), (2, .int (zi i2))]) hx hb dX5_countKinds_54 hl (k := 4) rfl (zi_add i3 _) (by decide) rfl (fun ls hl => ?_)
          refine lv_goto (tgt := 4) hx hb dX5_countKinds_57 (by decide) ?_
          exact (Go_s hg) ls (lv_sub hl [2, 3, 4, 0] rfl)
        · have hg := Go_f c7 hg
          refine lv_iinc (v := zi (i2 + (1 : Int))) (lv' := [(2, .int (zi (i2 + (1 : Int)))), (4, .int (zi (zget (pg6 n) (Int.toNat i3)))), (0, .ref (t 0)), (1, .int (zi (bI i1))), (3, .int (zi i3))]) hx hb dX5_countKinds_51 hl (k := 3) rfl (zi_add i2 _) (by decide) rfl (fun ls hl => ?_)
          refine lv_iinc (v := zi (i3 + (1 : Int))) (lv' := [(3, .int (zi (i3 + (1 : Int)))), (2, .int (zi (i2 + (1 : Int)))), (4, .int (zi (zget (pg6 n) (Int.toNat i3)))), (0, .ref (t 0)), (1, .int (zi (bI i1)))]) hx hb dX5_countKinds_54 hl (k := 4) rfl (zi_add i3 _) (by decide) rfl (fun ls hl => ?_)
          refine lv_goto (tgt := 4) hx hb dX5_countKinds_57 (by decide) ?_
          exact (Go_s hg) ls (lv_sub hl [3, 4, 1, 0] rfl)
set_option maxHeartbeats 4000000 in
set_option maxRecDepth 100000 in
theorem zw_X5_countKinds {p : Program} {l : Launch} {e : Env} {s : State} {m : MethodId} {args : Array Value} {below : List Frame} {meth : Method} {c : Code} {Q : State → Prop} {D : va_G} {κ : Nat → ClassId} {H : Heap} {locs : List Loc} (t : Nat → Nat) (n : Nat)   (i1 : Bool) (hx : p.tables.exec = Jvm.exec) (hb : c.code = cX5_countKinds) (hml : c.maxLocals = 5) (hown : s.vm.findClass RX5 = some m.cls) (hts : ∀ w ∈ wsX5_countKinds, w.before args s = true) (hK : va_K D vwCl (zTY κ) s) (hP : va_P D vwCl (zpgc κ t n) H) (out : Int) (h : zf_X5_countKinds n i1 = some out) (hq : zQ_X5_countKinds p l e s m args below meth c Q H locs out) : zA_X5_countKinds_0 p l e s m args below meth c Q H locs t n  i1 0 0 := by
  have hst : ∀ st : zS_X5_countKinds, Go (GoE (zA_X5_countKinds p l e s m args below meth c Q H locs t n ) (zQ_X5_countKinds p l e s m args below meth c Q H locs)) (zg_X5_countKinds n st) → zA_X5_countKinds p l e s m args below meth c Q H locs t n  st := by
    intro st hg
    obtain ⟨lab, i1, i2, i3⟩ := st
    by_cases h0 : lab = 0
    · subst h0
      exact zs_X5_countKinds_0 t n   hx hb hml hown hts hK hP i1 i2 i3 hg
    by_cases h4 : lab = 4
    · subst h4
      exact zs_X5_countKinds_4 t n   hx hb hml hown hts hK hP i1 i2 i3 hg
    have hz : zg_X5_countKinds n (lab, i1, i2, i3) = none := by simp [zg_X5_countKinds, h0, h4]
    rw [hz] at hg
    obtain ⟨a, h1, -⟩ := hg
    cases h1
  exact jwalk (At := zA_X5_countKinds p l e s m args below meth c Q H locs t n ) (Ret := zQ_X5_countKinds p l e s m args below meth c Q H locs) hst _ _ _ h hq
set_option maxHeartbeats 4000000 in
set_option maxRecDepth 100000 in
theorem zc_X5_countKinds (l : Launch) (D : va_G) (κ : Nat → ClassId) (t : Nat → Nat) (n : Nat)  (i1 : Bool) (out : Int) (h : zf_X5_countKinds n i1 = some out) : Met l yX5_countKinds wsX5_countKinds zr_X5_countKinds (va_Pc [.ref (t 0), .int (zi (bI i1))] (zR D κ (zpgc κ t n))) (vp_Si (fun x => x = zi out)) 0 0 (fun _ => False) := by
  refine Met.ofW (cc := cX5_countKinds) (maxL := 5) (ret := (some .int)) (by decide +kernel) rfl ?_
  intro p e s m args below meth c s₁ B hml hv
  obtain ⟨rfl, hP, hK⟩ := hv
  have hx := B.exec
  have hb := B.bytes
  have hr := B.returns
  have hts := atoms_spec (ws := wsX5_countKinds) B.pre
  have hown : s.vm.findClass RX5 = some m.cls := findClass_of_methodNamed B.named
  have hlocks := B.notSynchronized
  have hl := lv_entry ([.ref (t 0), .int (zi (bI i1))]) (n := 5) (Nat.le_of_ble_eq_true rfl)
  rw [lg_entry_eq]
  generalize (lg_sl ([.ref (t 0), .int (zi (bI i1))]) ++ List.replicate (5 - (lg_sl ([.ref (t 0), .int (zi (bI i1))])).length) Slot.unset).toArray = ls at hl ⊢
  have hl : lv_has ls 5 [(0, .ref (t 0)), (1, .int (zi (bI i1)))] := hl
  refine (zw_X5_countKinds t n   i1 hx hb hml hown hts hK hP out h ?_) ls (lv_sub hl [0, 1] rfl)
  exact fun ls pc hd => W.iret hx hb hr (fun t ht hW => ⟨_, rfl, rfl, ht⟩) (fun _ h => by cases h) hd
/-! DiamondRows$Polygon.differenceFrom([II)I -/
abbrev zr_X5_differenceFrom : Room := { frames := 2, cells := 0, slots := 0, locals := 43 }
abbrev zS_X5_differenceFrom : Type := Nat × Int × Int × Int
abbrev zO_X5_differenceFrom : Type := Int
noncomputable def zg_X5_differenceFrom_0 (n : Nat) (q1_c : Nat) (i2 : Int) (i3 : Int) (i4 : Int) : Option (zO_X5_differenceFrom ⊕ zS_X5_differenceFrom) :=
  some (.inr (5, i2, (0 : Int), (0 : Int)))
noncomputable def zg_X5_differenceFrom_5 (n : Nat) (q1_c : Nat) (i2 : Int) (i3 : Int) (i4 : Int) : Option (zO_X5_differenceFrom ⊕ zS_X5_differenceFrom) :=
  if zout i4 then none else
  if zout (n : Int) then none else
  if (n : Int) ≤ i4 then
  some (.inl (i3))
  else
  if (10 : Int) ≤ i4 then
  some (.inl (i3))
  else
  if i4 < 0 ∨ 10 ≤ i4 then none else
  Option.bind (zf_X5_trianglesAt n i2 i4) (fun o4 =>
  if zout ((zget q1_c (Int.toNat i4)) - o4) then none else
  some (.inr (5, i2, (i3 + (zabs ((zget q1_c (Int.toNat i4)) - o4))), (i4 + (1 : Int)))))
noncomputable def zg_X5_differenceFrom (n : Nat) (q1_c : Nat) (st : zS_X5_differenceFrom) : Option (zO_X5_differenceFrom ⊕ zS_X5_differenceFrom) := match st with
  | (lab, i2, i3, i4) => if lab = 0 then zg_X5_differenceFrom_0 n q1_c i2 i3 i4 else if lab = 5 then zg_X5_differenceFrom_5 n q1_c i2 i3 i4 else none
noncomputable def zf_X5_differenceFrom (n : Nat) (q1_c : Nat) (i2 : Int) : Option (Int) := jrun (zg_X5_differenceFrom n q1_c) jfuel (0, i2, 0, 0)
theorem zi_X5_differenceFrom_X5 : ∀ w ∈ u_ws RX5 TX5 9, w ∈ wsX5_differenceFrom := fun w h => (List.mem_cons_of_mem _ (List.mem_append_right _ (List.mem_append_left _ h)))
theorem zl_X5_differenceFrom_30 : Cond.fieldLink RX5 30 "DiamondRows$Polygon" "corners" "I" ∈ wsX5_differenceFrom := (List.mem_cons_of_mem _ (List.mem_append_left _ (List.mem_of_getElem? (i := 0) rfl)))
def zQ_X5_differenceFrom (p : Program) (l : Launch) (e : Env) (s : State) (m : MethodId) (args : Array Value) (below : List Frame) (meth : Method) (c : Code) (Q : State → Prop) (H : Heap) (locs : List Loc)  (o : Int) : Prop := ∀ (ls : Array Slot) (pc : Nat), decode cX5_differenceFrom pc = .ok (.ireturn, 1) → W p l e zr_X5_differenceFrom s m args below meth c H locs 0 0 Q (F0 m pc ls [.int (zi o)])
def zA_X5_differenceFrom_0 (p : Program) (l : Launch) (e : Env) (s : State) (m : MethodId) (args : Array Value) (below : List Frame) (meth : Method) (c : Code) (Q : State → Prop) (H : Heap) (locs : List Loc) (t : Nat → Nat) (q1 : Nat) (n : Nat)  (i2 : Int) (i3 : Int) (i4 : Int) : Prop := ∀ ls : Array Slot, lv_has ls 5 [(0, .ref (t 0)), (1, .ref q1), (2, .int (zi i2))] → W p l e zr_X5_differenceFrom s m args below meth c H locs 0 0 Q (F0 m 0 ls [])
def zA_X5_differenceFrom_5 (p : Program) (l : Launch) (e : Env) (s : State) (m : MethodId) (args : Array Value) (below : List Frame) (meth : Method) (c : Code) (Q : State → Prop) (H : Heap) (locs : List Loc) (t : Nat → Nat) (q1 : Nat) (n : Nat)  (i2 : Int) (i3 : Int) (i4 : Int) : Prop := ∀ ls : Array Slot, lv_has ls 5 [(0, .ref (t 0)), (1, .ref q1), (2, .int (zi i2)), (3, .int (zi i3)), (4, .int (zi i4))] → W p l e zr_X5_differenceFrom s m args below meth c H locs 0 0 Q (F0 m 5 ls [])
def zA_X5_differenceFrom (p : Program) (l : Launch) (e : Env) (s : State) (m : MethodId) (args : Array Value) (below : List Frame) (meth : Method) (c : Code) (Q : State → Prop) (H : Heap) (locs : List Loc) (t : Nat → Nat) (q1 : Nat) (n : Nat)  (st : zS_X5_differenceFrom) : Prop := match st with
  | (lab, i2, i3, i4) => if lab = 0 then zA_X5_differenceFrom_0 p l e s m args below meth c Q H locs t q1 n  i2 i3 i4 else if lab = 5 then zA_X5_differenceFrom_5 p l e s m args below meth c Q H locs t q1 n  i2 i3 i4 else True
set_option maxHeartbeats 4000000 in
set_option maxRecDepth 100000 in
theorem zs_X5_differenceFrom_0 {p : Program} {l : Launch} {e : Env} {s : State} {m : MethodId} {args : Array Value} {below : List Frame} {meth : Method} {c : Code} {Q : State → Prop} {D : va_G} {κ : Nat → ClassId} {H : Heap} {locs : List Loc} (t : Nat → Nat) (q1 : Nat) (n : Nat) (q1_c : Nat)  (hx : p.tables.exec = Jvm.exec) (hb : c.code = cX5_differenceFrom) (hml : c.maxLocals = 5) (hown : s.vm.findClass RX5 = some m.cls) (hts : ∀ w ∈ wsX5_differenceFrom, w.before args s = true) (hK : va_K D vwCl (zTY κ) s) (hP : va_P D vwCl (zpgc κ t n ++ [(q1, .inl (κ 1, 10, .inl (zc q1_c)))]) H) (i2 : Int) (i3 : Int) (i4 : Int) (hg : Go (GoE (zA_X5_differenceFrom p l e s m args below meth c Q H locs t q1 n ) (zQ_X5_differenceFrom p l e s m args below meth c Q H locs)) (zg_X5_differenceFrom_0 n q1_c i2 i3 i4)) : zA_X5_differenceFrom_0 p l e s m args below meth c Q H locs t q1 n  i2 i3 i4 := by
  intro ls hl
  unfold zg_X5_differenceFrom_0 at hg
  refine zv_iconst hx hb dX5_differenceFrom_0 ?_
  refine lv_istore_n (lv' := [(3, .int (zi (0 : Int))), (0, .ref (t 0)), (1, .ref q1), (2, .int (zi i2))]) hx hb dX5_differenceFrom_1 rfl hl (by decide) rfl (fun ls hl => ?_)
  refine zv_iconst hx hb dX5_differenceFrom_2 ?_
  refine lv_istore (lv' := [(4, .int (zi (0 : Int))), (3, .int (zi (0 : Int))), (0, .ref (t 0)), (1, .ref q1), (2, .int (zi i2))]) hx hb dX5_differenceFrom_3 hl (by decide) rfl (fun ls hl => ?_)
  exact (Go_s hg) ls (lv_sub hl [2, 3, 4, 1, 0] rfl)
set_option maxHeartbeats 4000000 in
set_option maxRecDepth 100000 in
theorem zs_X5_differenceFrom_5 {p : Program} {l : Launch} {e : Env} {s : State} {m : MethodId} {args : Array Value} {below : List Frame} {meth : Method} {c : Code} {Q : State → Prop} {D : va_G} {κ : Nat → ClassId} {H : Heap} {locs : List Loc} (t : Nat → Nat) (q1 : Nat) (n : Nat) (q1_c : Nat)  (hx : p.tables.exec = Jvm.exec) (hb : c.code = cX5_differenceFrom) (hml : c.maxLocals = 5) (hown : s.vm.findClass RX5 = some m.cls) (hts : ∀ w ∈ wsX5_differenceFrom, w.before args s = true) (hK : va_K D vwCl (zTY κ) s) (hP : va_P D vwCl (zpgc κ t n ++ [(q1, .inl (κ 1, 10, .inl (zc q1_c)))]) H) (i2 : Int) (i3 : Int) (i4 : Int) (hg : Go (GoE (zA_X5_differenceFrom p l e s m args below meth c Q H locs t q1 n ) (zQ_X5_differenceFrom p l e s m args below meth c Q H locs)) (zg_X5_differenceFrom_5 n q1_c i2 i3 i4)) : zA_X5_differenceFrom_5 p l e s m args below meth c Q H locs t q1 n  i2 i3 i4 := by
  intro ls hl
  unfold zg_X5_differenceFrom_5 at hg
  refine lv_iload hx hb dX5_differenceFrom_5 (lv_at hl 4 rfl) ?_
  refine lv_aload_n hx hb dX5_differenceFrom_7 rfl (lv_at hl 0 rfl) ?_
  refine va_get (D := D) (ci := 5) (v := .int (zi (n : Int))) (C := RX5) (T := TX5) (N := 9) hx hb hts zi_X5_differenceFrom_X5 hown hK hP 0 rfl rfl 0 (by decide) (hts (.fieldLink RX5 30 "DiamondRows$Polygon" "corners" "I") zl_X5_differenceFrom_30) (fun _ h9 => h9) rfl dX5_differenceFrom_8 ?_
  obtain ⟨b1, hg⟩ := Go_n hg
  obtain ⟨b2, hg⟩ := Go_n hg
  refine zv_icmp_ge (tgt := 45) hx hb dX5_differenceFrom_11 (by decide) b1 b2 (fun c7 => ?_) (fun c7 => ?_)
  · have hg := Go_t c7 hg
    refine lv_iload_n hx hb dX5_differenceFrom_45 rfl (lv_at hl 3 rfl) ?_
    exact (Go_s hg) _ _ dX5_differenceFrom_46
  · have hg := Go_f c7 hg
    refine lv_iload hx hb dX5_differenceFrom_14 (lv_at hl 4 rfl) ?_
    refine lv_aload_n hx hb dX5_differenceFrom_16 rfl (lv_at hl 1 rfl) ?_
    refine va_alen (v := zi (10 : Int)) hx hb hK hP 7 1 rfl rfl rfl dX5_differenceFrom_17 ?_
    refine zv_icmp_ge (tgt := 45) hx hb dX5_differenceFrom_18 (by decide) b1 (by decide) (fun c6 => ?_) (fun c6 => ?_)
    · have hg := Go_t c6 hg
      refine lv_iload_n hx hb dX5_differenceFrom_45 rfl (lv_at hl 3 rfl) ?_
      exact (Go_s hg) _ _ dX5_differenceFrom_46
    · have hg := Go_f c6 hg
      refine lv_iload_n hx hb dX5_differenceFrom_21 rfl (lv_at hl 3 rfl) ?_
      refine lv_aload_n hx hb dX5_differenceFrom_22 rfl (lv_at hl 1 rfl) ?_
      refine lv_iload hx hb dX5_differenceFrom_23 (lv_at hl 4 rfl) ?_
      obtain ⟨n3, hg⟩ := Go_n hg
      refine zv_iald hx hb hK hP 7 1 rfl rfl (by decide) n3 dX5_differenceFrom_25 ?_
      refine lv_aload_n hx hb dX5_differenceFrom_26 rfl (lv_at hl 0 rfl) ?_
      refine lv_iload_n hx hb dX5_differenceFrom_27 rfl (lv_at hl 2 rfl) ?_
      refine lv_iload hx hb dX5_differenceFrom_28 (lv_at hl 4 rfl) ?_
      obtain ⟨o4, ho4, hg⟩ := Go_b hg
      refine zc_vi (rest := [.int (zi (zget q1_c (Int.toNat i4))), .int (zi i3)]) ⟨hx, hb, hml, hown, hts⟩ (zc_X5_trianglesAt l D κ t n i2 i4 o4 ho4) (cwV 2 hts gX5_differenceFrom_X5_trianglesAt rfl rfl rfl hv_X5_trianglesAt ⟨Nat.le_of_ble_eq_true rfl, Nat.le_of_ble_eq_true rfl⟩) (zpreV hK (hP.sub [0, 1, 2, 3, 4, 5, 6] rfl) 5 0 rfl rfl) rfl hl.1 rfl (Nat.le_of_ble_eq_true rfl) dX5_differenceFrom_30 ⟨Nat.zero_le _, Nat.zero_le _⟩ ?_
      refine zv_isub hx hb dX5_differenceFrom_33 ?_
      obtain ⟨b5, hg⟩ := Go_n hg
      refine va_mabs hx hb (by rw [hml]; exact hl.1.symm) hown (hts (.methodLink RX5 72 Lib.Math.abs.name) (List.mem_cons_of_mem _ (List.mem_append_left _ (List.mem_of_getElem? (i := 1) rfl)))) (hts (.static Lib.Math.abs.name) (List.mem_cons_of_mem _ (List.mem_append_left _ (List.mem_of_getElem? (i := 2) rfl)))) (hts (.initialized "java/lang/Math") (List.mem_cons_of_mem _ (List.mem_append_left _ (List.mem_of_getElem? (i := 3) rfl)))) (hts (.code Lib.Math.abs.name Lib.Math.abs.code 1 (some .int)) (List.mem_cons_of_mem _ (List.mem_append_left _ (List.mem_of_getElem? (i := 4) rfl)))) (Nat.le_of_ble_eq_true rfl) (Nat.le_of_ble_eq_true rfl) (Nat.zero_le _) (Nat.zero_le _) dX5_differenceFrom_34 ?_
      rw [zi_abs b5]
      refine zv_iadd hx hb dX5_differenceFrom_37 ?_
      refine lv_istore_n (lv' := [(3, .int (zi (i3 + (zabs ((zget q1_c (Int.toNat i4)) - o4))))), (0, .ref (t 0)), (1, .ref q1), (2, .int (zi i2)), (4, .int (zi i4))]) hx hb dX5_differenceFrom_38 rfl hl (by decide) rfl (fun ls hl => ?_)
      refine lv_iinc (v := zi (i4 + (1 : Int))) (lv' := [(4, .int (zi (i4 + (1 : Int)))), (3, .int (zi (i3 + (zabs ((zget q1_c (Int.toNat i4)) - o4))))), (0, .ref (t 0)), (1, .ref q1), (2, .int (zi i2))]) hx hb dX5_differenceFrom_39 hl (k := 4) rfl (zi_add i4 _) (by decide) rfl (fun ls hl => ?_)
      refine lv_goto (tgt := 5) hx hb dX5_differenceFrom_42 (by decide) ?_
      exact (Go_s hg) ls (lv_sub hl [2, 3, 4, 1, 0] rfl)
set_option maxHeartbeats 4000000 in
set_option maxRecDepth 100000 in
theorem zw_X5_differenceFrom {p : Program} {l : Launch} {e : Env} {s : State} {m : MethodId} {args : Array Value} {below : List Frame} {meth : Method} {c : Code} {Q : State → Prop} {D : va_G} {κ : Nat → ClassId} {H : Heap} {locs : List Loc} (t : Nat → Nat) (q1 : Nat) (n : Nat) (q1_c : Nat)  (i2 : Int) (hx : p.tables.exec = Jvm.exec) (hb : c.code = cX5_differenceFrom) (hml : c.maxLocals = 5) (hown : s.vm.findClass RX5 = some m.cls) (hts : ∀ w ∈ wsX5_differenceFrom, w.before args s = true) (hK : va_K D vwCl (zTY κ) s) (hP : va_P D vwCl (zpgc κ t n ++ [(q1, .inl (κ 1, 10, .inl (zc q1_c)))]) H) (out : Int) (h : zf_X5_differenceFrom n q1_c i2 = some out) (hq : zQ_X5_differenceFrom p l e s m args below meth c Q H locs out) : zA_X5_differenceFrom_0 p l e s m args below meth c Q H locs t q1 n  i2 0 0 := by
  have hst : ∀ st : zS_X5_differenceFrom, Go (GoE (zA_X5_differenceFrom p l e s m args below meth c Q H locs t q1 n ) (zQ_X5_differenceFrom p l e s m args below meth c Q H locs)) (zg_X5_differenceFrom n q1_c st) → zA_X5_differenceFrom p l e s m args below meth c Q H locs t q1 n  st := by
    intro st hg
    obtain ⟨lab, i2, i3, i4⟩ := st
    by_cases h0 : lab = 0
    · subst h0
      exact zs_X5_differenceFrom_0 t q1 n q1_c  hx hb hml hown hts hK hP i2 i3 i4 hg
    by_cases h5 : lab = 5
    · subst h5
      exact zs_X5_differenceFrom_5 t q1 n q1_c  hx hb hml hown hts hK hP i2 i3 i4 hg
    have hz : zg_X5_differenceFrom n q1_c (lab, i2, i3, i4) = none := by simp [zg_X5_differenceFrom, h0, h5]
    rw [hz] at hg
    obtain ⟨a, h1, -⟩ := hg
    cases h1
  exact jwalk (At := zA_X5_differenceFrom p l e s m args below meth c Q H locs t q1 n ) (Ret := zQ_X5_differenceFrom p l e s m args below meth c Q H locs) hst _ _ _ h hq
set_option maxHeartbeats 4000000 in
set_option maxRecDepth 100000 in
theorem zc_X5_differenceFrom (l : Launch) (D : va_G) (κ : Nat → ClassId) (t : Nat → Nat) (q1 : Nat) (n : Nat) (q1_c : Nat) (i2 : Int) (out : Int) (h : zf_X5_differenceFrom n q1_c i2 = some out) : Met l yX5_differenceFrom wsX5_differenceFrom zr_X5_differenceFrom (va_Pc [.ref (t 0), .ref q1, .int (zi i2)] (zR D κ (zpgc κ t n ++ [(q1, .inl (κ 1, 10, .inl (zc q1_c)))]))) (vp_Si (fun x => x = zi out)) 0 0 (fun _ => False) := by
  refine Met.ofW (cc := cX5_differenceFrom) (maxL := 5) (ret := (some .int)) (by decide +kernel) rfl ?_
  intro p e s m args below meth c s₁ B hml hv
  obtain ⟨rfl, hP, hK⟩ := hv
  have hx := B.exec
  have hb := B.bytes
  have hr := B.returns
  have hts := atoms_spec (ws := wsX5_differenceFrom) B.pre
  have hown : s.vm.findClass RX5 = some m.cls := findClass_of_methodNamed B.named
  have hlocks := B.notSynchronized
  have hl := lv_entry ([.ref (t 0), .ref q1, .int (zi i2)]) (n := 5) (Nat.le_of_ble_eq_true rfl)
  rw [lg_entry_eq]
  generalize (lg_sl ([.ref (t 0), .ref q1, .int (zi i2)]) ++ List.replicate (5 - (lg_sl ([.ref (t 0), .ref q1, .int (zi i2)])).length) Slot.unset).toArray = ls at hl ⊢
  have hl : lv_has ls 5 [(0, .ref (t 0)), (1, .ref q1), (2, .int (zi i2))] := hl
  refine (zw_X5_differenceFrom t q1 n q1_c  i2 hx hb hml hown hts hK hP out h ?_) ls (lv_sub hl [0, 1, 2] rfl)
  exact fun ls pc hd => W.iret hx hb hr (fun t ht hW => ⟨_, rfl, rfl, ht⟩) (fun _ h => by cases h) hd
/-! DiamondRows$Polygon.nearestTo([I)I -/
abbrev zr_X5_nearestTo : Room := { frames := 3, cells := 0, slots := 0, locals := 67 }
abbrev zS_X5_nearestTo : Type := Nat × Int × Int × Int
abbrev zO_X5_nearestTo : Type := Int
noncomputable def zg_X5_nearestTo_0 (n : Nat) (q1_c : Nat) (i2 : Int) (i3 : Int) (i4 : Int) : Option (zO_X5_nearestTo ⊕ zS_X5_nearestTo) :=
  Option.bind (zf_X5_cutAt n (0 : Int)) (fun o1 =>
  Option.bind (zf_X5_differenceFrom n q1_c o1) (fun o2 =>
  some (.inr (16, (0 : Int), o2, (1 : Int)))))
noncomputable def zg_X5_nearestTo_16 (n : Nat) (q1_c : Nat) (i2 : Int) (i3 : Int) (i4 : Int) : Option (zO_X5_nearestTo ⊕ zS_X5_nearestTo) :=
  if zout i4 then none else
  if zout (pg8 n) then none else
  if (pg8 n) ≤ i4 then
  some (.inl (i2))
  else
  if zout i3 then none else
  if i3 ≤ 0 then
  some (.inl (i2))
  else
  if i4 < 0 ∨ 429 ≤ i4 then none else
  Option.bind (zf_X5_differenceFrom n q1_c (zget (pg6 n) (Int.toNat i4))) (fun o7 =>
  if zout o7 then none else
  if i3 ≤ o7 then
  some (.inr (16, i2, i3, (i4 + (1 : Int))))
  else
  some (.inr (16, i4, o7, (i4 + (1 : Int)))))
noncomputable def zg_X5_nearestTo (n : Nat) (q1_c : Nat) (st : zS_X5_nearestTo) : Option (zO_X5_nearestTo ⊕ zS_X5_nearestTo) := match st with
  | (lab, i2, i3, i4) => if lab = 0 then zg_X5_nearestTo_0 n q1_c i2 i3 i4 else if lab = 16 then zg_X5_nearestTo_16 n q1_c i2 i3 i4 else none
noncomputable def zf_X5_nearestTo (n : Nat) (q1_c : Nat)  : Option (Int) := jrun (zg_X5_nearestTo n q1_c) jfuel (0, 0, 0, 0)
theorem zi_X5_nearestTo_X5 : ∀ w ∈ u_ws RX5 TX5 9, w ∈ wsX5_nearestTo := fun w h => (List.mem_cons_of_mem _ (List.mem_append_right _ (List.mem_append_left _ h)))
theorem zl_X5_nearestTo_27 : Cond.fieldLink RX5 27 "DiamondRows$Polygon" "cuts" "[I" ∈ wsX5_nearestTo := (List.mem_cons_of_mem _ (List.mem_append_left _ (List.mem_of_getElem? (i := 1) rfl)))
theorem zl_X5_nearestTo_65 : Cond.fieldLink RX5 65 "DiamondRows$Polygon" "cutCount" "I" ∈ wsX5_nearestTo := (List.mem_cons_of_mem _ (List.mem_append_left _ (List.mem_of_getElem? (i := 0) rfl)))
def zQ_X5_nearestTo (p : Program) (l : Launch) (e : Env) (s : State) (m : MethodId) (args : Array Value) (below : List Frame) (meth : Method) (c : Code) (Q : State → Prop) (H : Heap) (locs : List Loc)  (o : Int) : Prop := ∀ (ls : Array Slot) (pc : Nat), decode cX5_nearestTo pc = .ok (.ireturn, 1) → W p l e zr_X5_nearestTo s m args below meth c H locs 0 0 Q (F0 m pc ls [.int (zi o)])
def zA_X5_nearestTo_0 (p : Program) (l : Launch) (e : Env) (s : State) (m : MethodId) (args : Array Value) (below : List Frame) (meth : Method) (c : Code) (Q : State → Prop) (H : Heap) (locs : List Loc) (t : Nat → Nat) (q1 : Nat) (n : Nat)  (i2 : Int) (i3 : Int) (i4 : Int) : Prop := ∀ ls : Array Slot, lv_has ls 6 [(0, .ref (t 0)), (1, .ref q1)] → W p l e zr_X5_nearestTo s m args below meth c H locs 0 0 Q (F0 m 0 ls [])
def zA_X5_nearestTo_16 (p : Program) (l : Launch) (e : Env) (s : State) (m : MethodId) (args : Array Value) (below : List Frame) (meth : Method) (c : Code) (Q : State → Prop) (H : Heap) (locs : List Loc) (t : Nat → Nat) (q1 : Nat) (n : Nat)  (i2 : Int) (i3 : Int) (i4 : Int) : Prop := ∀ ls : Array Slot, lv_has ls 6 [(0, .ref (t 0)), (1, .ref q1), (2, .int (zi i2)), (3, .int (zi i3)), (4, .int (zi i4))] → W p l e zr_X5_nearestTo s m args below meth c H locs 0 0 Q (F0 m 16 ls [])
def zA_X5_nearestTo (p : Program) (l : Launch) (e : Env) (s : State) (m : MethodId) (args : Array Value) (below : List Frame) (meth : Method) (c : Code) (Q : State → Prop) (H : Heap) (locs : List Loc) (t : Nat → Nat) (q1 : Nat) (n : Nat)  (st : zS_X5_nearestTo) : Prop := match st with
  | (lab, i2, i3, i4) => if lab = 0 then zA_X5_nearestTo_0 p l e s m args below meth c Q H locs t q1 n  i2 i3 i4 else if lab = 16 then zA_X5_nearestTo_16 p l e s m args below meth c Q H locs t q1 n  i2 i3 i4 else True
set_option maxHeartbeats 4000000 in
set_option maxRecDepth 100000 in
theorem zs_X5_nearestTo_0 {p : Program} {l : Launch} {e : Env} {s : State} {m : MethodId} {args : Array Value} {below : List Frame} {meth : Method} {c : Code} {Q : State → Prop} {D : va_G} {κ : Nat → ClassId} {H : Heap} {locs : List Loc} (t : Nat → Nat) (q1 : Nat) (n : Nat) (q1_c : Nat)  (hx : p.tables.exec = Jvm.exec) (hb : c.code = cX5_nearestTo) (hml : c.maxLocals = 6) (hown : s.vm.findClass RX5 = some m.cls) (hts : ∀ w ∈ wsX5_nearestTo, w.before args s = true) (hK : va_K D vwCl (zTY κ) s) (hP : va_P D vwCl (zpgc κ t n ++ [(q1, .inl (κ 1, 10, .inl (zc q1_c)))]) H) (i2 : Int) (i3 : Int) (i4 : Int) (hg : Go (GoE (zA_X5_nearestTo p l e s m args below meth c Q H locs t q1 n ) (zQ_X5_nearestTo p l e s m args below meth c Q H locs)) (zg_X5_nearestTo_0 n q1_c i2 i3 i4)) : zA_X5_nearestTo_0 p l e s m args below meth c Q H locs t q1 n  i2 i3 i4 := by
  intro ls hl
  unfold zg_X5_nearestTo_0 at hg
  refine zv_iconst hx hb dX5_nearestTo_0 ?_
  refine lv_istore_n (lv' := [(2, .int (zi (0 : Int))), (0, .ref (t 0)), (1, .ref q1)]) hx hb dX5_nearestTo_1 rfl hl (by decide) rfl (fun ls hl => ?_)
  refine lv_aload_n hx hb dX5_nearestTo_2 rfl (lv_at hl 1 rfl) ?_
  refine lv_aload_n hx hb dX5_nearestTo_3 rfl (lv_at hl 2 rfl) ?_
  refine lv_aload_n hx hb dX5_nearestTo_4 rfl (lv_at hl 1 rfl) ?_
  refine zv_iconst hx hb dX5_nearestTo_5 ?_
  obtain ⟨o1, ho1, hg⟩ := Go_b hg
  refine zc_vi (rest := [.ref q1, .ref (t 0)]) ⟨hx, hb, hml, hown, hts⟩ (zc_X5_cutAt l D κ t n (0 : Int) o1 ho1) (cwV 1 hts gX5_nearestTo_X5_cutAt rfl rfl rfl hv_X5_cutAt ⟨Nat.le_of_ble_eq_true rfl, Nat.le_of_ble_eq_true rfl⟩) (zpreV hK (hP.sub [0, 1, 2, 3, 4, 5, 6] rfl) 5 0 rfl rfl) rfl hl.1 rfl (Nat.le_of_ble_eq_true rfl) dX5_nearestTo_6 ⟨Nat.zero_le _, Nat.zero_le _⟩ ?_
  obtain ⟨o2, ho2, hg⟩ := Go_b hg
  refine zc_vi (rest := []) ⟨hx, hb, hml, hown, hts⟩ (zc_X5_differenceFrom l D κ t q1 n q1_c o1 o2 ho2) (cwV 2 hts gX5_nearestTo_X5_differenceFrom rfl rfl rfl hv_X5_differenceFrom ⟨Nat.le_of_ble_eq_true rfl, Nat.le_of_ble_eq_true rfl⟩) (zpreV hK (hP.sub [0, 1, 2, 3, 4, 5, 6, 7] rfl) 5 0 rfl rfl) rfl hl.1 rfl (Nat.le_of_ble_eq_true rfl) dX5_nearestTo_9 ⟨Nat.zero_le _, Nat.zero_le _⟩ ?_
  refine lv_istore_n (lv' := [(3, .int (zi o2)), (2, .int (zi (0 : Int))), (0, .ref (t 0)), (1, .ref q1)]) hx hb dX5_nearestTo_12 rfl hl (by decide) rfl (fun ls hl => ?_)
  refine zv_iconst hx hb dX5_nearestTo_13 ?_
  refine lv_istore (lv' := [(4, .int (zi (1 : Int))), (3, .int (zi o2)), (2, .int (zi (0 : Int))), (0, .ref (t 0)), (1, .ref q1)]) hx hb dX5_nearestTo_14 hl (by decide) rfl (fun ls hl => ?_)
  exact (Go_s hg) ls (lv_sub hl [3, 4, 2, 1, 0] rfl)
set_option maxHeartbeats 4000000 in
set_option maxRecDepth 100000 in
theorem zs_X5_nearestTo_16 {p : Program} {l : Launch} {e : Env} {s : State} {m : MethodId} {args : Array Value} {below : List Frame} {meth : Method} {c : Code} {Q : State → Prop} {D : va_G} {κ : Nat → ClassId} {H : Heap} {locs : List Loc} (t : Nat → Nat) (q1 : Nat) (n : Nat) (q1_c : Nat)  (hx : p.tables.exec = Jvm.exec) (hb : c.code = cX5_nearestTo) (hml : c.maxLocals = 6) (hown : s.vm.findClass RX5 = some m.cls) (hts : ∀ w ∈ wsX5_nearestTo, w.before args s = true) (hK : va_K D vwCl (zTY κ) s) (hP : va_P D vwCl (zpgc κ t n ++ [(q1, .inl (κ 1, 10, .inl (zc q1_c)))]) H) (i2 : Int) (i3 : Int) (i4 : Int) (hg : Go (GoE (zA_X5_nearestTo p l e s m args below meth c Q H locs t q1 n ) (zQ_X5_nearestTo p l e s m args below meth c Q H locs)) (zg_X5_nearestTo_16 n q1_c i2 i3 i4)) : zA_X5_nearestTo_16 p l e s m args below meth c Q H locs t q1 n  i2 i3 i4 := by
  intro ls hl
  unfold zg_X5_nearestTo_16 at hg
  refine lv_iload hx hb dX5_nearestTo_16 (lv_at hl 4 rfl) ?_
  refine lv_aload_n hx hb dX5_nearestTo_18 rfl (lv_at hl 0 rfl) ?_
  refine va_get (D := D) (ci := 5) (v := .int (zi (pg8 n))) (C := RX5) (T := TX5) (N := 9) hx hb hts zi_X5_nearestTo_X5 hown hK hP 0 rfl rfl 8 (by decide) (hts (.fieldLink RX5 65 "DiamondRows$Polygon" "cutCount" "I") zl_X5_nearestTo_65) (fun _ h9 => h9) rfl dX5_nearestTo_19 ?_
  obtain ⟨b3, hg⟩ := Go_n hg
  obtain ⟨b4, hg⟩ := Go_n hg
  refine zv_icmp_ge (tgt := 61) hx hb dX5_nearestTo_22 (by decide) b3 b4 (fun c11 => ?_) (fun c11 => ?_)
  · have hg := Go_t c11 hg
    refine lv_iload_n hx hb dX5_nearestTo_61 rfl (lv_at hl 2 rfl) ?_
    exact (Go_s hg) _ _ dX5_nearestTo_62
  · have hg := Go_f c11 hg
    refine lv_iload_n hx hb dX5_nearestTo_25 rfl (lv_at hl 3 rfl) ?_
    obtain ⟨b5, hg⟩ := Go_n hg
    refine zv_if_le (tgt := 61) hx hb dX5_nearestTo_26 (by decide) b5 (fun c10 => ?_) (fun c10 => ?_)
    · have hg := Go_t c10 hg
      refine lv_iload_n hx hb dX5_nearestTo_61 rfl (lv_at hl 2 rfl) ?_
      exact (Go_s hg) _ _ dX5_nearestTo_62
    · have hg := Go_f c10 hg
      refine lv_aload_n hx hb dX5_nearestTo_29 rfl (lv_at hl 0 rfl) ?_
      refine lv_aload_n hx hb dX5_nearestTo_30 rfl (lv_at hl 1 rfl) ?_
      refine lv_aload_n hx hb dX5_nearestTo_31 rfl (lv_at hl 0 rfl) ?_
      refine va_get (D := D) (ci := 5) (v := .ref (t 6)) (C := RX5) (T := TX5) (N := 9) hx hb hts zi_X5_nearestTo_X5 hown hK hP 0 rfl rfl 6 (by decide) (hts (.fieldLink RX5 27 "DiamondRows$Polygon" "cuts" "[I") zl_X5_nearestTo_27) (fun _ h9 => h9) rfl dX5_nearestTo_32 ?_
      refine lv_iload hx hb dX5_nearestTo_35 (lv_at hl 4 rfl) ?_
      obtain ⟨n6, hg⟩ := Go_n hg
      refine zv_iald hx hb hK hP 6 1 rfl rfl (by decide) n6 dX5_nearestTo_37 ?_
      obtain ⟨o7, ho7, hg⟩ := Go_b hg
      refine zc_vi (rest := []) ⟨hx, hb, hml, hown, hts⟩ (zc_X5_differenceFrom l D κ t q1 n q1_c (zget (pg6 n) (Int.toNat i4)) o7 ho7) (cwV 2 hts gX5_nearestTo_X5_differenceFrom rfl rfl rfl hv_X5_differenceFrom ⟨Nat.le_of_ble_eq_true rfl, Nat.le_of_ble_eq_true rfl⟩) (zpreV hK (hP.sub [0, 1, 2, 3, 4, 5, 6, 7] rfl) 5 0 rfl rfl) rfl hl.1 rfl (Nat.le_of_ble_eq_true rfl) dX5_nearestTo_38 ⟨Nat.zero_le _, Nat.zero_le _⟩ ?_
      refine lv_istore (lv' := [(5, .int (zi o7)), (0, .ref (t 0)), (1, .ref q1), (2, .int (zi i2)), (3, .int (zi i3)), (4, .int (zi i4))]) hx hb dX5_nearestTo_41 hl (by decide) rfl (fun ls hl => ?_)
      refine lv_iload hx hb dX5_nearestTo_43 (lv_at hl 0 rfl) ?_
      refine lv_iload_n hx hb dX5_nearestTo_45 rfl (lv_at hl 4 rfl) ?_
      obtain ⟨b8, hg⟩ := Go_n hg
      refine zv_icmp_ge (tgt := 55) hx hb dX5_nearestTo_46 (by decide) b8 b5 (fun c9 => ?_) (fun c9 => ?_)
      · have hg := Go_t c9 hg
        refine lv_iinc (v := zi (i4 + (1 : Int))) (lv' := [(4, .int (zi (i4 + (1 : Int)))), (5, .int (zi o7)), (0, .ref (t 0)), (1, .ref q1), (2, .int (zi i2)), (3, .int (zi i3))]) hx hb dX5_nearestTo_55 hl (k := 5) rfl (zi_add i4 _) (by decide) rfl (fun ls hl => ?_)
        refine lv_goto (tgt := 16) hx hb dX5_nearestTo_58 (by decide) ?_
        exact (Go_s hg) ls (lv_sub hl [2, 3, 4, 5, 0] rfl)
      · have hg := Go_f c9 hg
        refine lv_iload hx hb dX5_nearestTo_49 (lv_at hl 0 rfl) ?_
        refine lv_istore_n (lv' := [(3, .int (zi o7)), (5, .int (zi o7)), (0, .ref (t 0)), (1, .ref q1), (2, .int (zi i2)), (4, .int (zi i4))]) hx hb dX5_nearestTo_51 rfl hl (by decide) rfl (fun ls hl => ?_)
        refine lv_iload hx hb dX5_nearestTo_52 (lv_at hl 5 rfl) ?_
        refine lv_istore_n (lv' := [(2, .int (zi i4)), (3, .int (zi o7)), (5, .int (zi o7)), (0, .ref (t 0)), (1, .ref q1), (4, .int (zi i4))]) hx hb dX5_nearestTo_54 rfl hl (by decide) rfl (fun ls hl => ?_)
        refine lv_iinc (v := zi (i4 + (1 : Int))) (lv' := [(4, .int (zi (i4 + (1 : Int)))), (2, .int (zi i4)), (3, .int (zi o7)), (5, .int (zi o7)), (0, .ref (t 0)), (1, .ref q1)]) hx hb dX5_nearestTo_55 hl (k := 5) rfl (zi_add i4 _) (by decide) rfl (fun ls hl => ?_)
        refine lv_goto (tgt := 16) hx hb dX5_nearestTo_58 (by decide) ?_
        exact (Go_s hg) ls (lv_sub hl [4, 5, 1, 2, 0] rfl)
set_option maxHeartbeats 4000000 in
set_option maxRecDepth 100000 in
theorem zw_X5_nearestTo {p : Program} {l : Launch} {e : Env} {s : State} {m : MethodId} {args : Array Value} {below : List Frame} {meth : Method} {c : Code} {Q : State → Prop} {D : va_G} {κ : Nat → ClassId} {H : Heap} {locs : List Loc} (t : Nat → Nat) (q1 : Nat) (n : Nat) (q1_c : Nat)   (hx : p.tables.exec = Jvm.exec) (hb : c.code = cX5_nearestTo) (hml : c.maxLocals = 6) (hown : s.vm.findClass RX5 = some m.cls) (hts : ∀ w ∈ wsX5_nearestTo, w.before args s = true) (hK : va_K D vwCl (zTY κ) s) (hP : va_P D vwCl (zpgc κ t n ++ [(q1, .inl (κ 1, 10, .inl (zc q1_c)))]) H) (out : Int) (h : zf_X5_nearestTo n q1_c  = some out) (hq : zQ_X5_nearestTo p l e s m args below meth c Q H locs out) : zA_X5_nearestTo_0 p l e s m args below meth c Q H locs t q1 n  0 0 0 := by
  have hst : ∀ st : zS_X5_nearestTo, Go (GoE (zA_X5_nearestTo p l e s m args below meth c Q H locs t q1 n ) (zQ_X5_nearestTo p l e s m args below meth c Q H locs)) (zg_X5_nearestTo n q1_c st) → zA_X5_nearestTo p l e s m args below meth c Q H locs t q1 n  st := by
    intro st hg
    obtain ⟨lab, i2, i3, i4⟩ := st
    by_cases h0 : lab = 0
    · subst h0
      exact zs_X5_nearestTo_0 t q1 n q1_c  hx hb hml hown hts hK hP i2 i3 i4 hg
    by_cases h16 : lab = 16
    · subst h16
      exact zs_X5_nearestTo_16 t q1 n q1_c  hx hb hml hown hts hK hP i2 i3 i4 hg
    have hz : zg_X5_nearestTo n q1_c (lab, i2, i3, i4) = none := by simp [zg_X5_nearestTo, h0, h16]
    rw [hz] at hg
    obtain ⟨a, h1, -⟩ := hg
    cases h1
  exact jwalk (At := zA_X5_nearestTo p l e s m args below meth c Q H locs t q1 n ) (Ret := zQ_X5_nearestTo p l e s m args below meth c Q H locs) hst _ _ _ h hq
set_option maxHeartbeats 4000000 in
set_option maxRecDepth 100000 in
theorem zc_X5_nearestTo (l : Launch) (D : va_G) (κ : Nat → ClassId) (t : Nat → Nat) (q1 : Nat) (n : Nat) (q1_c : Nat)  (out : Int) (h : zf_X5_nearestTo n q1_c  = some out) : Met l yX5_nearestTo wsX5_nearestTo zr_X5_nearestTo (va_Pc [.ref (t 0), .ref q1] (zR D κ (zpgc κ t n ++ [(q1, .inl (κ 1, 10, .inl (zc q1_c)))]))) (vp_Si (fun x => x = zi out)) 0 0 (fun _ => False) := by
  refine Met.ofW (cc := cX5_nearestTo) (maxL := 6) (ret := (some .int)) (by decide +kernel) rfl ?_
  intro p e s m args below meth c s₁ B hml hv
  obtain ⟨rfl, hP, hK⟩ := hv
  have hx := B.exec
  have hb := B.bytes
  have hr := B.returns
  have hts := atoms_spec (ws := wsX5_nearestTo) B.pre
  have hown : s.vm.findClass RX5 = some m.cls := findClass_of_methodNamed B.named
  have hlocks := B.notSynchronized
  have hl := lv_entry ([.ref (t 0), .ref q1]) (n := 6) (Nat.le_of_ble_eq_true rfl)
  rw [lg_entry_eq]
  generalize (lg_sl ([.ref (t 0), .ref q1]) ++ List.replicate (6 - (lg_sl ([.ref (t 0), .ref q1])).length) Slot.unset).toArray = ls at hl ⊢
  have hl : lv_has ls 6 [(0, .ref (t 0)), (1, .ref q1)] := hl
  refine (zw_X5_nearestTo t q1 n q1_c   hx hb hml hown hts hK hP out h ?_) ls (lv_sub hl [0, 1] rfl)
  exact fun ls pc hd => W.iret hx hb hr (fun t ht hW => ⟨_, rfl, rfl, ht⟩) (fun _ h => by cases h) hd
/-! DiamondRows$Polygon.greatestFrom(II)I -/
abbrev zr_X5_greatestFrom : Room := { frames := 2, cells := 0, slots := 0, locals := 43 }
abbrev zS_X5_greatestFrom : Type := Nat × Int × Int × Int × Int × Int × Int
abbrev zO_X5_greatestFrom : Type := Int
noncomputable def zg_X5_greatestFrom_0 (n : Nat)  (i1 : Int) (i2 : Int) (i3 : Int) (i4 : Int) (i5 : Int) (i6 : Int) : Option (zO_X5_greatestFrom ⊕ zS_X5_greatestFrom) :=
  some (.inr (13, i1, i2, (0 : Int), (0 : Int), (1 : Int), (i2 + (1 : Int))))
noncomputable def zg_X5_greatestFrom_13 (n : Nat)  (i1 : Int) (i2 : Int) (i3 : Int) (i4 : Int) (i5 : Int) (i6 : Int) : Option (zO_X5_greatestFrom ⊕ zS_X5_greatestFrom) :=
  if zout i6 then none else
  if zout (n : Int) then none else
  if (n : Int) ≤ i6 then
  some (.inl (i3))
  else
  if zout i3 then none else
  if zout i5 then none else
  Option.bind (zf_X5_trianglesAt n i1 i6) (fun o5 =>
  some (.inr (13, i1, 0, (zmax i3 i5), i5, ((o5 * i5) - i4), (i6 + (1 : Int)))))
noncomputable def zg_X5_greatestFrom (n : Nat)  (st : zS_X5_greatestFrom) : Option (zO_X5_greatestFrom ⊕ zS_X5_greatestFrom) := match st with
  | (lab, i1, i2, i3, i4, i5, i6) => if lab = 0 then zg_X5_greatestFrom_0 n i1 i2 i3 i4 i5 i6 else if lab = 13 then zg_X5_greatestFrom_13 n i1 i2 i3 i4 i5 i6 else none
noncomputable def zf_X5_greatestFrom (n : Nat)  (i1 : Int) (i2 : Int) : Option (Int) := jrun (zg_X5_greatestFrom n) jfuel (0, i1, i2, 0, 0, 0, 0)
theorem zi_X5_greatestFrom_X5 : ∀ w ∈ u_ws RX5 TX5 9, w ∈ wsX5_greatestFrom := fun w h => (List.mem_cons_of_mem _ (List.mem_append_right _ (List.mem_append_left _ h)))
theorem zl_X5_greatestFrom_30 : Cond.fieldLink RX5 30 "DiamondRows$Polygon" "corners" "I" ∈ wsX5_greatestFrom := (List.mem_cons_of_mem _ (List.mem_append_left _ (List.mem_of_getElem? (i := 0) rfl)))
def zQ_X5_greatestFrom (p : Program) (l : Launch) (e : Env) (s : State) (m : MethodId) (args : Array Value) (below : List Frame) (meth : Method) (c : Code) (Q : State → Prop) (H : Heap) (locs : List Loc)  (o : Int) : Prop := ∀ (ls : Array Slot) (pc : Nat), decode cX5_greatestFrom pc = .ok (.ireturn, 1) → W p l e zr_X5_greatestFrom s m args below meth c H locs 0 0 Q (F0 m pc ls [.int (zi o)])
def zA_X5_greatestFrom_0 (p : Program) (l : Launch) (e : Env) (s : State) (m : MethodId) (args : Array Value) (below : List Frame) (meth : Method) (c : Code) (Q : State → Prop) (H : Heap) (locs : List Loc) (t : Nat → Nat) (n : Nat)  (i1 : Int) (i2 : Int) (i3 : Int) (i4 : Int) (i5 : Int) (i6 : Int) : Prop := ∀ ls : Array Slot, lv_has ls 8 [(0, .ref (t 0)), (1, .int (zi i1)), (2, .int (zi i2))] → W p l e zr_X5_greatestFrom s m args below meth c H locs 0 0 Q (F0 m 0 ls [])
def zA_X5_greatestFrom_13 (p : Program) (l : Launch) (e : Env) (s : State) (m : MethodId) (args : Array Value) (below : List Frame) (meth : Method) (c : Code) (Q : State → Prop) (H : Heap) (locs : List Loc) (t : Nat → Nat) (n : Nat)  (i1 : Int) (i2 : Int) (i3 : Int) (i4 : Int) (i5 : Int) (i6 : Int) : Prop := ∀ ls : Array Slot, lv_has ls 8 [(0, .ref (t 0)), (1, .int (zi i1)), (3, .int (zi i3)), (4, .int (zi i4)), (5, .int (zi i5)), (6, .int (zi i6))] → W p l e zr_X5_greatestFrom s m args below meth c H locs 0 0 Q (F0 m 13 ls [])
def zA_X5_greatestFrom (p : Program) (l : Launch) (e : Env) (s : State) (m : MethodId) (args : Array Value) (below : List Frame) (meth : Method) (c : Code) (Q : State → Prop) (H : Heap) (locs : List Loc) (t : Nat → Nat) (n : Nat)  (st : zS_X5_greatestFrom) : Prop := match st with
  | (lab, i1, i2, i3, i4, i5, i6) => if lab = 0 then zA_X5_greatestFrom_0 p l e s m args below meth c Q H locs t n  i1 i2 i3 i4 i5 i6 else if lab = 13 then zA_X5_greatestFrom_13 p l e s m args below meth c Q H locs t n  i1 i2 i3 i4 i5 i6 else True
set_option maxHeartbeats 4000000 in
set_option maxRecDepth 100000 in
theorem zs_X5_greatestFrom_0 {p : Program} {l : Launch} {e : Env} {s : State} {m : MethodId} {args : Array Value} {below : List Frame} {meth : Method} {c : Code} {Q : State → Prop} {D : va_G} {κ : Nat → ClassId} {H : Heap} {locs : List Loc} (t : Nat → Nat) (n : Nat)   (hx : p.tables.exec = Jvm.exec) (hb : c.code = cX5_greatestFrom) (hml : c.maxLocals = 8) (hown : s.vm.findClass RX5 = some m.cls) (hts : ∀ w ∈ wsX5_greatestFrom, w.before args s = true) (hK : va_K D vwCl (zTY κ) s) (hP : va_P D vwCl (zpgc κ t n) H) (i1 : Int) (i2 : Int) (i3 : Int) (i4 : Int) (i5 : Int) (i6 : Int) (hg : Go (GoE (zA_X5_greatestFrom p l e s m args below meth c Q H locs t n ) (zQ_X5_greatestFrom p l e s m args below meth c Q H locs)) (zg_X5_greatestFrom_0 n i1 i2 i3 i4 i5 i6)) : zA_X5_greatestFrom_0 p l e s m args below meth c Q H locs t n  i1 i2 i3 i4 i5 i6 := by
  intro ls hl
  unfold zg_X5_greatestFrom_0 at hg
  refine zv_iconst hx hb dX5_greatestFrom_0 ?_
  refine lv_istore_n (lv' := [(3, .int (zi (0 : Int))), (0, .ref (t 0)), (1, .int (zi i1)), (2, .int (zi i2))]) hx hb dX5_greatestFrom_1 rfl hl (by decide) rfl (fun ls hl => ?_)
  refine zv_iconst hx hb dX5_greatestFrom_2 ?_
  refine lv_istore (lv' := [(4, .int (zi (0 : Int))), (3, .int (zi (0 : Int))), (0, .ref (t 0)), (1, .int (zi i1)), (2, .int (zi i2))]) hx hb dX5_greatestFrom_3 hl (by decide) rfl (fun ls hl => ?_)
  refine zv_iconst hx hb dX5_greatestFrom_5 ?_
  refine lv_istore (lv' := [(5, .int (zi (1 : Int))), (4, .int (zi (0 : Int))), (3, .int (zi (0 : Int))), (0, .ref (t 0)), (1, .int (zi i1)), (2, .int (zi i2))]) hx hb dX5_greatestFrom_6 hl (by decide) rfl (fun ls hl => ?_)
  refine lv_iload_n hx hb dX5_greatestFrom_8 rfl (lv_at hl 5 rfl) ?_
  refine zv_iconst hx hb dX5_greatestFrom_9 ?_
  refine zv_iadd hx hb dX5_greatestFrom_10 ?_
  refine lv_istore (lv' := [(6, .int (zi (i2 + (1 : Int)))), (5, .int (zi (1 : Int))), (4, .int (zi (0 : Int))), (3, .int (zi (0 : Int))), (0, .ref (t 0)), (1, .int (zi i1)), (2, .int (zi i2))]) hx hb dX5_greatestFrom_11 hl (by decide) rfl (fun ls hl => ?_)
  exact (Go_s hg) ls (lv_sub hl [4, 5, 3, 2, 1, 0] rfl)
set_option maxHeartbeats 4000000 in
set_option maxRecDepth 100000 in
theorem zs_X5_greatestFrom_13 {p : Program} {l : Launch} {e : Env} {s : State} {m : MethodId} {args : Array Value} {below : List Frame} {meth : Method} {c : Code} {Q : State → Prop} {D : va_G} {κ : Nat → ClassId} {H : Heap} {locs : List Loc} (t : Nat → Nat) (n : Nat)   (hx : p.tables.exec = Jvm.exec) (hb : c.code = cX5_greatestFrom) (hml : c.maxLocals = 8) (hown : s.vm.findClass RX5 = some m.cls) (hts : ∀ w ∈ wsX5_greatestFrom, w.before args s = true) (hK : va_K D vwCl (zTY κ) s) (hP : va_P D vwCl (zpgc κ t n) H) (i1 : Int) (i2 : Int) (i3 : Int) (i4 : Int) (i5 : Int) (i6 : Int) (hg : Go (GoE (zA_X5_greatestFrom p l e s m args below meth c Q H locs t n ) (zQ_X5_greatestFrom p l e s m args below meth c Q H locs)) (zg_X5_greatestFrom_13 n i1 i2 i3 i4 i5 i6)) : zA_X5_greatestFrom_13 p l e s m args below meth c Q H locs t n  i1 i2 i3 i4 i5 i6 := by
  intro ls hl
  unfold zg_X5_greatestFrom_13 at hg
  refine lv_iload hx hb dX5_greatestFrom_13 (lv_at hl 5 rfl) ?_
  refine lv_aload_n hx hb dX5_greatestFrom_15 rfl (lv_at hl 0 rfl) ?_
  refine va_get (D := D) (ci := 5) (v := .int (zi (n : Int))) (C := RX5) (T := TX5) (N := 9) hx hb hts zi_X5_greatestFrom_X5 hown hK hP 0 rfl rfl 0 (by decide) (hts (.fieldLink RX5 30 "DiamondRows$Polygon" "corners" "I") zl_X5_greatestFrom_30) (fun _ h9 => h9) rfl dX5_greatestFrom_16 ?_
  obtain ⟨b1, hg⟩ := Go_n hg
  obtain ⟨b2, hg⟩ := Go_n hg
  refine zv_icmp_ge (tgt := 58) hx hb dX5_greatestFrom_19 (by decide) b1 b2 (fun c6 => ?_) (fun c6 => ?_)
  · have hg := Go_t c6 hg
    refine lv_iload_n hx hb dX5_greatestFrom_58 rfl (lv_at hl 2 rfl) ?_
    exact (Go_s hg) _ _ dX5_greatestFrom_59
  · have hg := Go_f c6 hg
    refine lv_iload_n hx hb dX5_greatestFrom_22 rfl (lv_at hl 2 rfl) ?_
    refine lv_iload hx hb dX5_greatestFrom_23 (lv_at hl 4 rfl) ?_
    obtain ⟨b3, hg⟩ := Go_n hg
    obtain ⟨b4, hg⟩ := Go_n hg
    refine va_mmax hx hb (by rw [hml]; exact hl.1.symm) hown (hts (.methodLink RX5 97 Lib.Math.max.name) (List.mem_cons_of_mem _ (List.mem_append_left _ (List.mem_of_getElem? (i := 1) rfl)))) (hts (.static Lib.Math.max.name) (List.mem_cons_of_mem _ (List.mem_append_left _ (List.mem_of_getElem? (i := 2) rfl)))) (hts (.initialized "java/lang/Math") (List.mem_cons_of_mem _ (List.mem_append_left _ (List.mem_of_getElem? (i := 3) rfl)))) (hts (.code Lib.Math.max.name Lib.Math.max.code 2 (some .int)) (List.mem_cons_of_mem _ (List.mem_append_left _ (List.mem_of_getElem? (i := 4) rfl)))) (Nat.le_of_ble_eq_true rfl) (Nat.le_of_ble_eq_true rfl) (Nat.zero_le _) (Nat.zero_le _) dX5_greatestFrom_25 ?_
    rw [zi_max b3 b4]
    refine lv_istore_n (lv' := [(3, .int (zi (zmax i3 i5))), (0, .ref (t 0)), (1, .int (zi i1)), (4, .int (zi i4)), (5, .int (zi i5)), (6, .int (zi i6))]) hx hb dX5_greatestFrom_28 rfl hl (by decide) rfl (fun ls hl => ?_)
    refine lv_aload_n hx hb dX5_greatestFrom_29 rfl (lv_at hl 1 rfl) ?_
    refine lv_iload_n hx hb dX5_greatestFrom_30 rfl (lv_at hl 2 rfl) ?_
    refine lv_iload hx hb dX5_greatestFrom_31 (lv_at hl 5 rfl) ?_
    obtain ⟨o5, ho5, hg⟩ := Go_b hg
    refine zc_vi (rest := []) ⟨hx, hb, hml, hown, hts⟩ (zc_X5_trianglesAt l D κ t n i1 i6 o5 ho5) (cwV 2 hts gX5_greatestFrom_X5_trianglesAt rfl rfl rfl hv_X5_trianglesAt ⟨Nat.le_of_ble_eq_true rfl, Nat.le_of_ble_eq_true rfl⟩) (zpreV hK (hP.sub [0, 1, 2, 3, 4, 5, 6] rfl) 5 0 rfl rfl) rfl hl.1 rfl (Nat.le_of_ble_eq_true rfl) dX5_greatestFrom_33 ⟨Nat.zero_le _, Nat.zero_le _⟩ ?_
    refine lv_iload hx hb dX5_greatestFrom_36 (lv_at hl 4 rfl) ?_
    refine zv_imul hx hb dX5_greatestFrom_38 ?_
    refine lv_iload hx hb dX5_greatestFrom_39 (lv_at hl 3 rfl) ?_
    refine zv_isub hx hb dX5_greatestFrom_41 ?_
    refine lv_istore (lv' := [(7, .int (zi ((o5 * i5) - i4))), (3, .int (zi (zmax i3 i5))), (0, .ref (t 0)), (1, .int (zi i1)), (4, .int (zi i4)), (5, .int (zi i5)), (6, .int (zi i6))]) hx hb dX5_greatestFrom_42 hl (by decide) rfl (fun ls hl => ?_)
    refine lv_iload hx hb dX5_greatestFrom_44 (lv_at hl 5 rfl) ?_
    refine lv_istore (lv' := [(4, .int (zi i5)), (7, .int (zi ((o5 * i5) - i4))), (3, .int (zi (zmax i3 i5))), (0, .ref (t 0)), (1, .int (zi i1)), (5, .int (zi i5)), (6, .int (zi i6))]) hx hb dX5_greatestFrom_46 hl (by decide) rfl (fun ls hl => ?_)
    refine lv_iload hx hb dX5_greatestFrom_48 (lv_at hl 1 rfl) ?_
    refine lv_istore (lv' := [(5, .int (zi ((o5 * i5) - i4))), (4, .int (zi i5)), (7, .int (zi ((o5 * i5) - i4))), (3, .int (zi (zmax i3 i5))), (0, .ref (t 0)), (1, .int (zi i1)), (6, .int (zi i6))]) hx hb dX5_greatestFrom_50 hl (by decide) rfl (fun ls hl => ?_)
    refine lv_iinc (v := zi (i6 + (1 : Int))) (lv' := [(6, .int (zi (i6 + (1 : Int)))), (5, .int (zi ((o5 * i5) - i4))), (4, .int (zi i5)), (7, .int (zi ((o5 * i5) - i4))), (3, .int (zi (zmax i3 i5))), (0, .ref (t 0)), (1, .int (zi i1))]) hx hb dX5_greatestFrom_52 hl (k := 6) rfl (zi_add i6 _) (by decide) rfl (fun ls hl => ?_)
    refine lv_goto (tgt := 13) hx hb dX5_greatestFrom_55 (by decide) ?_
    exact (Go_s hg) ls (lv_sub hl [5, 6, 4, 2, 1, 0] rfl)
set_option maxHeartbeats 4000000 in
set_option maxRecDepth 100000 in
theorem zw_X5_greatestFrom {p : Program} {l : Launch} {e : Env} {s : State} {m : MethodId} {args : Array Value} {below : List Frame} {meth : Method} {c : Code} {Q : State → Prop} {D : va_G} {κ : Nat → ClassId} {H : Heap} {locs : List Loc} (t : Nat → Nat) (n : Nat)   (i1 : Int) (i2 : Int) (hx : p.tables.exec = Jvm.exec) (hb : c.code = cX5_greatestFrom) (hml : c.maxLocals = 8) (hown : s.vm.findClass RX5 = some m.cls) (hts : ∀ w ∈ wsX5_greatestFrom, w.before args s = true) (hK : va_K D vwCl (zTY κ) s) (hP : va_P D vwCl (zpgc κ t n) H) (out : Int) (h : zf_X5_greatestFrom n i1 i2 = some out) (hq : zQ_X5_greatestFrom p l e s m args below meth c Q H locs out) : zA_X5_greatestFrom_0 p l e s m args below meth c Q H locs t n  i1 i2 0 0 0 0 := by
  have hst : ∀ st : zS_X5_greatestFrom, Go (GoE (zA_X5_greatestFrom p l e s m args below meth c Q H locs t n ) (zQ_X5_greatestFrom p l e s m args below meth c Q H locs)) (zg_X5_greatestFrom n st) → zA_X5_greatestFrom p l e s m args below meth c Q H locs t n  st := by
    intro st hg
    obtain ⟨lab, i1, i2, i3, i4, i5, i6⟩ := st
    by_cases h0 : lab = 0
    · subst h0
      exact zs_X5_greatestFrom_0 t n   hx hb hml hown hts hK hP i1 i2 i3 i4 i5 i6 hg
    by_cases h13 : lab = 13
    · subst h13
      exact zs_X5_greatestFrom_13 t n   hx hb hml hown hts hK hP i1 i2 i3 i4 i5 i6 hg
    have hz : zg_X5_greatestFrom n (lab, i1, i2, i3, i4, i5, i6) = none := by simp [zg_X5_greatestFrom, h0, h13]
    rw [hz] at hg
    obtain ⟨a, h1, -⟩ := hg
    cases h1
  exact jwalk (At := zA_X5_greatestFrom p l e s m args below meth c Q H locs t n ) (Ret := zQ_X5_greatestFrom p l e s m args below meth c Q H locs) hst _ _ _ h hq
set_option maxHeartbeats 4000000 in
set_option maxRecDepth 100000 in
theorem zc_X5_greatestFrom (l : Launch) (D : va_G) (κ : Nat → ClassId) (t : Nat → Nat) (n : Nat)  (i1 : Int) (i2 : Int) (out : Int) (h : zf_X5_greatestFrom n i1 i2 = some out) : Met l yX5_greatestFrom wsX5_greatestFrom zr_X5_greatestFrom (va_Pc [.ref (t 0), .int (zi i1), .int (zi i2)] (zR D κ (zpgc κ t n))) (vp_Si (fun x => x = zi out)) 0 0 (fun _ => False) := by
  refine Met.ofW (cc := cX5_greatestFrom) (maxL := 8) (ret := (some .int)) (by decide +kernel) rfl ?_
  intro p e s m args below meth c s₁ B hml hv
  obtain ⟨rfl, hP, hK⟩ := hv
  have hx := B.exec
  have hb := B.bytes
  have hr := B.returns
  have hts := atoms_spec (ws := wsX5_greatestFrom) B.pre
  have hown : s.vm.findClass RX5 = some m.cls := findClass_of_methodNamed B.named
  have hlocks := B.notSynchronized
  have hl := lv_entry ([.ref (t 0), .int (zi i1), .int (zi i2)]) (n := 8) (Nat.le_of_ble_eq_true rfl)
  rw [lg_entry_eq]
  generalize (lg_sl ([.ref (t 0), .int (zi i1), .int (zi i2)]) ++ List.replicate (8 - (lg_sl ([.ref (t 0), .int (zi i1), .int (zi i2)])).length) Slot.unset).toArray = ls at hl ⊢
  have hl : lv_has ls 8 [(0, .ref (t 0)), (1, .int (zi i1)), (2, .int (zi i2))] := hl
  refine (zw_X5_greatestFrom t n   i1 i2 hx hb hml hown hts hK hP out h ?_) ls (lv_sub hl [0, 1, 2] rfl)
  exact fun ls pc hd => W.iret hx hb hr (fun t ht hW => ⟨_, rfl, rfl, ht⟩) (fun _ h => by cases h) hd
/-! DiamondRows$Polygon.greatestIn(I)I -/
abbrev zr_X5_greatestIn : Room := { frames := 3, cells := 0, slots := 0, locals := 70 }
abbrev zS_X5_greatestIn : Type := Nat × Int × Int × Int
abbrev zO_X5_greatestIn : Type := Int
noncomputable def zg_X5_greatestIn_0 (n : Nat)  (i1 : Int) (i2 : Int) (i3 : Int) : Option (zO_X5_greatestIn ⊕ zS_X5_greatestIn) :=
  some (.inr (4, i1, (0 : Int), (0 : Int)))
noncomputable def zg_X5_greatestIn_4 (n : Nat)  (i1 : Int) (i2 : Int) (i3 : Int) : Option (zO_X5_greatestIn ⊕ zS_X5_greatestIn) :=
  if zout i3 then none else
  if zout (n : Int) then none else
  if (n : Int) ≤ i3 then
  some (.inl (i2))
  else
  Option.bind (zf_X5_greatestFrom n i1 i3) (fun o3 =>
  if zout i2 then none else
  if zout o3 then none else
  some (.inr (4, i1, (zmax i2 o3), (i3 + (1 : Int)))))
noncomputable def zg_X5_greatestIn (n : Nat)  (st : zS_X5_greatestIn) : Option (zO_X5_greatestIn ⊕ zS_X5_greatestIn) := match st with
  | (lab, i1, i2, i3) => if lab = 0 then zg_X5_greatestIn_0 n i1 i2 i3 else if lab = 4 then zg_X5_greatestIn_4 n i1 i2 i3 else none
noncomputable def zf_X5_greatestIn (n : Nat)  (i1 : Int) : Option (Int) := jrun (zg_X5_greatestIn n) jfuel (0, i1, 0, 0)
theorem zi_X5_greatestIn_X5 : ∀ w ∈ u_ws RX5 TX5 9, w ∈ wsX5_greatestIn := fun w h => (List.mem_cons_of_mem _ (List.mem_append_right _ (List.mem_append_left _ h)))
theorem zl_X5_greatestIn_30 : Cond.fieldLink RX5 30 "DiamondRows$Polygon" "corners" "I" ∈ wsX5_greatestIn := (List.mem_cons_of_mem _ (List.mem_append_left _ (List.mem_of_getElem? (i := 0) rfl)))
def zQ_X5_greatestIn (p : Program) (l : Launch) (e : Env) (s : State) (m : MethodId) (args : Array Value) (below : List Frame) (meth : Method) (c : Code) (Q : State → Prop) (H : Heap) (locs : List Loc)  (o : Int) : Prop := ∀ (ls : Array Slot) (pc : Nat), decode cX5_greatestIn pc = .ok (.ireturn, 1) → W p l e zr_X5_greatestIn s m args below meth c H locs 0 0 Q (F0 m pc ls [.int (zi o)])
def zA_X5_greatestIn_0 (p : Program) (l : Launch) (e : Env) (s : State) (m : MethodId) (args : Array Value) (below : List Frame) (meth : Method) (c : Code) (Q : State → Prop) (H : Heap) (locs : List Loc) (t : Nat → Nat) (n : Nat)  (i1 : Int) (i2 : Int) (i3 : Int) : Prop := ∀ ls : Array Slot, lv_has ls 4 [(0, .ref (t 0)), (1, .int (zi i1))] → W p l e zr_X5_greatestIn s m args below meth c H locs 0 0 Q (F0 m 0 ls [])
def zA_X5_greatestIn_4 (p : Program) (l : Launch) (e : Env) (s : State) (m : MethodId) (args : Array Value) (below : List Frame) (meth : Method) (c : Code) (Q : State → Prop) (H : Heap) (locs : List Loc) (t : Nat → Nat) (n : Nat)  (i1 : Int) (i2 : Int) (i3 : Int) : Prop := ∀ ls : Array Slot, lv_has ls 4 [(0, .ref (t 0)), (1, .int (zi i1)), (2, .int (zi i2)), (3, .int (zi i3))] → W p l e zr_X5_greatestIn s m args below meth c H locs 0 0 Q (F0 m 4 ls [])
def zA_X5_greatestIn (p : Program) (l : Launch) (e : Env) (s : State) (m : MethodId) (args : Array Value) (below : List Frame) (meth : Method) (c : Code) (Q : State → Prop) (H : Heap) (locs : List Loc) (t : Nat → Nat) (n : Nat)  (st : zS_X5_greatestIn) : Prop := match st with
  | (lab, i1, i2, i3) => if lab = 0 then zA_X5_greatestIn_0 p l e s m args below meth c Q H locs t n  i1 i2 i3 else if lab = 4 then zA_X5_greatestIn_4 p l e s m args below meth c Q H locs t n  i1 i2 i3 else True
set_option maxHeartbeats 4000000 in
set_option maxRecDepth 100000 in
theorem zs_X5_greatestIn_0 {p : Program} {l : Launch} {e : Env} {s : State} {m : MethodId} {args : Array Value} {below : List Frame} {meth : Method} {c : Code} {Q : State → Prop} {D : va_G} {κ : Nat → ClassId} {H : Heap} {locs : List Loc} (t : Nat → Nat) (n : Nat)   (hx : p.tables.exec = Jvm.exec) (hb : c.code = cX5_greatestIn) (hml : c.maxLocals = 4) (hown : s.vm.findClass RX5 = some m.cls) (hts : ∀ w ∈ wsX5_greatestIn, w.before args s = true) (hK : va_K D vwCl (zTY κ) s) (hP : va_P D vwCl (zpgc κ t n) H) (i1 : Int) (i2 : Int) (i3 : Int) (hg : Go (GoE (zA_X5_greatestIn p l e s m args below meth c Q H locs t n ) (zQ_X5_greatestIn p l e s m args below meth c Q H locs)) (zg_X5_greatestIn_0 n i1 i2 i3)) : zA_X5_greatestIn_0 p l e s m args below meth c Q H locs t n  i1 i2 i3 := by
  intro ls hl
  unfold zg_X5_greatestIn_0 at hg
  refine zv_iconst hx hb dX5_greatestIn_0 ?_
  refine lv_istore_n (lv' := [(2, .int (zi (0 : Int))), (0, .ref (t 0)), (1, .int (zi i1))]) hx hb dX5_greatestIn_1 rfl hl (by decide) rfl (fun ls hl => ?_)
  refine zv_iconst hx hb dX5_greatestIn_2 ?_
  refine lv_istore_n (lv' := [(3, .int (zi (0 : Int))), (2, .int (zi (0 : Int))), (0, .ref (t 0)), (1, .int (zi i1))]) hx hb dX5_greatestIn_3 rfl hl (by decide) rfl (fun ls hl => ?_)
  exact (Go_s hg) ls (lv_sub hl [2, 3, 1, 0] rfl)
set_option maxHeartbeats 4000000 in
set_option maxRecDepth 100000 in
theorem zs_X5_greatestIn_4 {p : Program} {l : Launch} {e : Env} {s : State} {m : MethodId} {args : Array Value} {below : List Frame} {meth : Method} {c : Code} {Q : State → Prop} {D : va_G} {κ : Nat → ClassId} {H : Heap} {locs : List Loc} (t : Nat → Nat) (n : Nat)   (hx : p.tables.exec = Jvm.exec) (hb : c.code = cX5_greatestIn) (hml : c.maxLocals = 4) (hown : s.vm.findClass RX5 = some m.cls) (hts : ∀ w ∈ wsX5_greatestIn, w.before args s = true) (hK : va_K D vwCl (zTY κ) s) (hP : va_P D vwCl (zpgc κ t n) H) (i1 : Int) (i2 : Int) (i3 : Int) (hg : Go (GoE (zA_X5_greatestIn p l e s m args below meth c Q H locs t n ) (zQ_X5_greatestIn p l e s m args below meth c Q H locs)) (zg_X5_greatestIn_4 n i1 i2 i3)) : zA_X5_greatestIn_4 p l e s m args below meth c Q H locs t n  i1 i2 i3 := by
  intro ls hl
  unfold zg_X5_greatestIn_4 at hg
  refine lv_iload_n hx hb dX5_greatestIn_4 rfl (lv_at hl 3 rfl) ?_
  refine lv_aload_n hx hb dX5_greatestIn_5 rfl (lv_at hl 0 rfl) ?_
  refine va_get (D := D) (ci := 5) (v := .int (zi (n : Int))) (C := RX5) (T := TX5) (N := 9) hx hb hts zi_X5_greatestIn_X5 hown hK hP 0 rfl rfl 0 (by decide) (hts (.fieldLink RX5 30 "DiamondRows$Polygon" "corners" "I") zl_X5_greatestIn_30) (fun _ h9 => h9) rfl dX5_greatestIn_6 ?_
  obtain ⟨b1, hg⟩ := Go_n hg
  obtain ⟨b2, hg⟩ := Go_n hg
  refine zv_icmp_ge (tgt := 29) hx hb dX5_greatestIn_9 (by decide) b1 b2 (fun c6 => ?_) (fun c6 => ?_)
  · have hg := Go_t c6 hg
    refine lv_iload_n hx hb dX5_greatestIn_29 rfl (lv_at hl 2 rfl) ?_
    exact (Go_s hg) _ _ dX5_greatestIn_30
  · have hg := Go_f c6 hg
    refine lv_iload_n hx hb dX5_greatestIn_12 rfl (lv_at hl 2 rfl) ?_
    refine lv_aload_n hx hb dX5_greatestIn_13 rfl (lv_at hl 0 rfl) ?_
    refine lv_iload_n hx hb dX5_greatestIn_14 rfl (lv_at hl 1 rfl) ?_
    refine lv_iload_n hx hb dX5_greatestIn_15 rfl (lv_at hl 3 rfl) ?_
    obtain ⟨o3, ho3, hg⟩ := Go_b hg
    refine zc_vi (rest := [.int (zi i2)]) ⟨hx, hb, hml, hown, hts⟩ (zc_X5_greatestFrom l D κ t n i1 i3 o3 ho3) (cwV 2 hts gX5_greatestIn_X5_greatestFrom rfl rfl rfl hv_X5_greatestFrom ⟨Nat.le_of_ble_eq_true rfl, Nat.le_of_ble_eq_true rfl⟩) (zpreV hK (hP.sub [0, 1, 2, 3, 4, 5, 6] rfl) 5 0 rfl rfl) rfl hl.1 rfl (Nat.le_of_ble_eq_true rfl) dX5_greatestIn_16 ⟨Nat.zero_le _, Nat.zero_le _⟩ ?_
    obtain ⟨b4, hg⟩ := Go_n hg
    obtain ⟨b5, hg⟩ := Go_n hg
    refine va_mmax hx hb (by rw [hml]; exact hl.1.symm) hown (hts (.methodLink RX5 97 Lib.Math.max.name) (by decide +kernel)) (hts (.static Lib.Math.max.name) (by decide +kernel)) (hts (.initialized "java/lang/Math") (by decide +kernel)) (hts (.code Lib.Math.max.name Lib.Math.max.code 2 (some .int)) (by decide +kernel)) (Nat.le_of_ble_eq_true rfl) (Nat.le_of_ble_eq_true rfl) (Nat.zero_le _) (Nat.zero_le _) dX5_greatestIn_19 ?_
    rw [zi_max b4 b5]
    refine lv_istore_n (lv' := [(2, .int (zi (zmax i2 o3))), (0, .ref (t 0)), (1, .int (zi i1)), (3, .int (zi i3))]) hx hb dX5_greatestIn_22 rfl hl (by decide) rfl (fun ls hl => ?_)
    refine lv_iinc (v := zi (i3 + (1 : Int))) (lv' := [(3, .int (zi (i3 + (1 : Int)))), (2, .int (zi (zmax i2 o3))), (0, .ref (t 0)), (1, .int (zi i1))]) hx hb dX5_greatestIn_23 hl (k := 3) rfl (zi_add i3 _) (by decide) rfl (fun ls hl => ?_)
    refine lv_goto (tgt := 4) hx hb dX5_greatestIn_26 (by decide) ?_
    exact (Go_s hg) ls (lv_sub hl [2, 3, 1, 0] rfl)
set_option maxHeartbeats 4000000 in
set_option maxRecDepth 100000 in
theorem zw_X5_greatestIn {p : Program} {l : Launch} {e : Env} {s : State} {m : MethodId} {args : Array Value} {below : List Frame} {meth : Method} {c : Code} {Q : State → Prop} {D : va_G} {κ : Nat → ClassId} {H : Heap} {locs : List Loc} (t : Nat → Nat) (n : Nat)   (i1 : Int) (hx : p.tables.exec = Jvm.exec) (hb : c.code = cX5_greatestIn) (hml : c.maxLocals = 4) (hown : s.vm.findClass RX5 = some m.cls) (hts : ∀ w ∈ wsX5_greatestIn, w.before args s = true) (hK : va_K D vwCl (zTY κ) s) (hP : va_P D vwCl (zpgc κ t n) H) (out : Int) (h : zf_X5_greatestIn n i1 = some out) (hq : zQ_X5_greatestIn p l e s m args below meth c Q H locs out) : zA_X5_greatestIn_0 p l e s m args below meth c Q H locs t n  i1 0 0 := by
  have hst : ∀ st : zS_X5_greatestIn, Go (GoE (zA_X5_greatestIn p l e s m args below meth c Q H locs t n ) (zQ_X5_greatestIn p l e s m args below meth c Q H locs)) (zg_X5_greatestIn n st) → zA_X5_greatestIn p l e s m args below meth c Q H locs t n  st := by
    intro st hg
    obtain ⟨lab, i1, i2, i3⟩ := st
    by_cases h0 : lab = 0
    · subst h0
      exact zs_X5_greatestIn_0 t n   hx hb hml hown hts hK hP i1 i2 i3 hg
    by_cases h4 : lab = 4
    · subst h4
      exact zs_X5_greatestIn_4 t n   hx hb hml hown hts hK hP i1 i2 i3 hg
    have hz : zg_X5_greatestIn n (lab, i1, i2, i3) = none := by simp [zg_X5_greatestIn, h0, h4]
    rw [hz] at hg
    obtain ⟨a, h1, -⟩ := hg
    cases h1
  exact jwalk (At := zA_X5_greatestIn p l e s m args below meth c Q H locs t n ) (Ret := zQ_X5_greatestIn p l e s m args below meth c Q H locs) hst _ _ _ h hq
set_option maxHeartbeats 4000000 in
set_option maxRecDepth 100000 in
theorem zc_X5_greatestIn (l : Launch) (D : va_G) (κ : Nat → ClassId) (t : Nat → Nat) (n : Nat)  (i1 : Int) (out : Int) (h : zf_X5_greatestIn n i1 = some out) : Met l yX5_greatestIn wsX5_greatestIn zr_X5_greatestIn (va_Pc [.ref (t 0), .int (zi i1)] (zR D κ (zpgc κ t n))) (vp_Si (fun x => x = zi out)) 0 0 (fun _ => False) := by
  refine Met.ofW (cc := cX5_greatestIn) (maxL := 4) (ret := (some .int)) (by decide +kernel) rfl ?_
  intro p e s m args below meth c s₁ B hml hv
  obtain ⟨rfl, hP, hK⟩ := hv
  have hx := B.exec
  have hb := B.bytes
  have hr := B.returns
  have hts := atoms_spec (ws := wsX5_greatestIn) B.pre
  have hown : s.vm.findClass RX5 = some m.cls := findClass_of_methodNamed B.named
  have hlocks := B.notSynchronized
  have hl := lv_entry ([.ref (t 0), .int (zi i1)]) (n := 4) (Nat.le_of_ble_eq_true rfl)
  rw [lg_entry_eq]
  generalize (lg_sl ([.ref (t 0), .int (zi i1)]) ++ List.replicate (4 - (lg_sl ([.ref (t 0), .int (zi i1)])).length) Slot.unset).toArray = ls at hl ⊢
  have hl : lv_has ls 4 [(0, .ref (t 0)), (1, .int (zi i1))] := hl
  refine (zw_X5_greatestIn t n   i1 hx hb hml hown hts hK hP out h ?_) ls (lv_sub hl [0, 1] rfl)
  exact fun ls pc hd => W.iret hx hb hr (fun t ht hW => ⟨_, rfl, rfl, ht⟩) (fun _ h => by cases h) hd
/-! DiamondRows$Polygon.numberOfGreatest()I -/
abbrev zr_X5_numberOfGreatest : Room := { frames := 4, cells := 0, slots := 0, locals := 93 }
abbrev zS_X5_numberOfGreatest : Type := Nat × Int × Int × Int
abbrev zO_X5_numberOfGreatest : Type := Int
noncomputable def zg_X5_numberOfGreatest_0 (n : Nat)  (i1 : Int) (i2 : Int) (i3 : Int) : Option (zO_X5_numberOfGreatest ⊕ zS_X5_numberOfGreatest) :=
  some (.inr (6, (0 : Int), (0 : Int), (0 : Int)))
noncomputable def zg_X5_numberOfGreatest_6 (n : Nat)  (i1 : Int) (i2 : Int) (i3 : Int) : Option (zO_X5_numberOfGreatest ⊕ zS_X5_numberOfGreatest) :=
  if zout i3 then none else
  if zout (pg8 n) then none else
  if (pg8 n) ≤ i3 then
  some (.inl (i1))
  else
  if i3 < 0 ∨ 429 ≤ i3 then none else
  Option.bind (zf_X5_greatestIn n (zget (pg6 n) (Int.toNat i3))) (fun o4 =>
  if zout o4 then none else
  if zout i2 then none else
  if o4 ≤ i2 then
  some (.inr (6, i1, i2, (i3 + (1 : Int))))
  else
  some (.inr (6, i3, o4, (i3 + (1 : Int)))))
noncomputable def zg_X5_numberOfGreatest (n : Nat)  (st : zS_X5_numberOfGreatest) : Option (zO_X5_numberOfGreatest ⊕ zS_X5_numberOfGreatest) := match st with
  | (lab, i1, i2, i3) => if lab = 0 then zg_X5_numberOfGreatest_0 n i1 i2 i3 else if lab = 6 then zg_X5_numberOfGreatest_6 n i1 i2 i3 else none
noncomputable def zf_X5_numberOfGreatest (n : Nat)   : Option (Int) := jrun (zg_X5_numberOfGreatest n) jfuel (0, 0, 0, 0)
theorem zi_X5_numberOfGreatest_X5 : ∀ w ∈ u_ws RX5 TX5 9, w ∈ wsX5_numberOfGreatest := fun w h => (List.mem_cons_of_mem _ (List.mem_append_right _ (List.mem_append_left _ h)))
theorem zl_X5_numberOfGreatest_27 : Cond.fieldLink RX5 27 "DiamondRows$Polygon" "cuts" "[I" ∈ wsX5_numberOfGreatest := (List.mem_cons_of_mem _ (List.mem_append_left _ (List.mem_of_getElem? (i := 1) rfl)))
theorem zl_X5_numberOfGreatest_65 : Cond.fieldLink RX5 65 "DiamondRows$Polygon" "cutCount" "I" ∈ wsX5_numberOfGreatest := (List.mem_cons_of_mem _ (List.mem_append_left _ (List.mem_of_getElem? (i := 0) rfl)))
def zQ_X5_numberOfGreatest (p : Program) (l : Launch) (e : Env) (s : State) (m : MethodId) (args : Array Value) (below : List Frame) (meth : Method) (c : Code) (Q : State → Prop) (H : Heap) (locs : List Loc)  (o : Int) : Prop := ∀ (ls : Array Slot) (pc : Nat), decode cX5_numberOfGreatest pc = .ok (.ireturn, 1) → W p l e zr_X5_numberOfGreatest s m args below meth c H locs 0 0 Q (F0 m pc ls [.int (zi o)])
def zA_X5_numberOfGreatest_0 (p : Program) (l : Launch) (e : Env) (s : State) (m : MethodId) (args : Array Value) (below : List Frame) (meth : Method) (c : Code) (Q : State → Prop) (H : Heap) (locs : List Loc) (t : Nat → Nat) (n : Nat)  (i1 : Int) (i2 : Int) (i3 : Int) : Prop := ∀ ls : Array Slot, lv_has ls 5 [(0, .ref (t 0))] → W p l e zr_X5_numberOfGreatest s m args below meth c H locs 0 0 Q (F0 m 0 ls [])
def zA_X5_numberOfGreatest_6 (p : Program) (l : Launch) (e : Env) (s : State) (m : MethodId) (args : Array Value) (below : List Frame) (meth : Method) (c : Code) (Q : State → Prop) (H : Heap) (locs : List Loc) (t : Nat → Nat) (n : Nat)  (i1 : Int) (i2 : Int) (i3 : Int) : Prop := ∀ ls : Array Slot, lv_has ls 5 [(0, .ref (t 0)), (1, .int (zi i1)), (2, .int (zi i2)), (3, .int (zi i3))] → W p l e zr_X5_numberOfGreatest s m args below meth c H locs 0 0 Q (F0 m 6 ls [])
def zA_X5_numberOfGreatest (p : Program) (l : Launch) (e : Env) (s : State) (m : MethodId) (args : Array Value) (below : List Frame) (meth : Method) (c : Code) (Q : State → Prop) (H : Heap) (locs : List Loc) (t : Nat → Nat) (n : Nat)  (st : zS_X5_numberOfGreatest) : Prop := match st with
  | (lab, i1, i2, i3) => if lab = 0 then zA_X5_numberOfGreatest_0 p l e s m args below meth c Q H locs t n  i1 i2 i3 else if lab = 6 then zA_X5_numberOfGreatest_6 p l e s m args below meth c Q H locs t n  i1 i2 i3 else True
set_option maxHeartbeats 4000000 in
set_option maxRecDepth 100000 in
theorem zs_X5_numberOfGreatest_0 {p : Program} {l : Launch} {e : Env} {s : State} {m : MethodId} {args : Array Value} {below : List Frame} {meth : Method} {c : Code} {Q : State → Prop} {D : va_G} {κ : Nat → ClassId} {H : Heap} {locs : List Loc} (t : Nat → Nat) (n : Nat)   (hx : p.tables.exec = Jvm.exec) (hb : c.code = cX5_numberOfGreatest) (hml : c.maxLocals = 5) (hown : s.vm.findClass RX5 = some m.cls) (hts : ∀ w ∈ wsX5_numberOfGreatest, w.before args s = true) (hK : va_K D vwCl (zTY κ) s) (hP : va_P D vwCl (zpgc κ t n) H) (i1 : Int) (i2 : Int) (i3 : Int) (hg : Go (GoE (zA_X5_numberOfGreatest p l e s m args below meth c Q H locs t n ) (zQ_X5_numberOfGreatest p l e s m args below meth c Q H locs)) (zg_X5_numberOfGreatest_0 n i1 i2 i3)) : zA_X5_numberOfGreatest_0 p l e s m args below meth c Q H locs t n  i1 i2 i3 := by
  intro ls hl
  unfold zg_X5_numberOfGreatest_0 at hg
  refine zv_iconst hx hb dX5_numberOfGreatest_0 ?_
  refine lv_istore_n (lv' := [(1, .int (zi (0 : Int))), (0, .ref (t 0))]) hx hb dX5_numberOfGreatest_1 rfl hl (by decide) rfl (fun ls hl => ?_)
  refine zv_iconst hx hb dX5_numberOfGreatest_2 ?_
  refine lv_istore_n (lv' := [(2, .int (zi (0 : Int))), (1, .int (zi (0 : Int))), (0, .ref (t 0))]) hx hb dX5_numberOfGreatest_3 rfl hl (by decide) rfl (fun ls hl => ?_)
  refine zv_iconst hx hb dX5_numberOfGreatest_4 ?_
  refine lv_istore_n (lv' := [(3, .int (zi (0 : Int))), (2, .int (zi (0 : Int))), (1, .int (zi (0 : Int))), (0, .ref (t 0))]) hx hb dX5_numberOfGreatest_5 rfl hl (by decide) rfl (fun ls hl => ?_)
  exact (Go_s hg) ls (lv_sub hl [3, 2, 1, 0] rfl)
set_option maxHeartbeats 4000000 in
set_option maxRecDepth 100000 in
theorem zs_X5_numberOfGreatest_6 {p : Program} {l : Launch} {e : Env} {s : State} {m : MethodId} {args : Array Value} {below : List Frame} {meth : Method} {c : Code} {Q : State → Prop} {D : va_G} {κ : Nat → ClassId} {H : Heap} {locs : List Loc} (t : Nat → Nat) (n : Nat)   (hx : p.tables.exec = Jvm.exec) (hb : c.code = cX5_numberOfGreatest) (hml : c.maxLocals = 5) (hown : s.vm.findClass RX5 = some m.cls) (hts : ∀ w ∈ wsX5_numberOfGreatest, w.before args s = true) (hK : va_K D vwCl (zTY κ) s) (hP : va_P D vwCl (zpgc κ t n) H) (i1 : Int) (i2 : Int) (i3 : Int) (hg : Go (GoE (zA_X5_numberOfGreatest p l e s m args below meth c Q H locs t n ) (zQ_X5_numberOfGreatest p l e s m args below meth c Q H locs)) (zg_X5_numberOfGreatest_6 n i1 i2 i3)) : zA_X5_numberOfGreatest_6 p l e s m args below meth c Q H locs t n  i1 i2 i3 := by
  intro ls hl
  unfold zg_X5_numberOfGreatest_6 at hg
  refine lv_iload_n hx hb dX5_numberOfGreatest_6 rfl (lv_at hl 3 rfl) ?_
  refine lv_aload_n hx hb dX5_numberOfGreatest_7 rfl (lv_at hl 0 rfl) ?_
  refine va_get (D := D) (ci := 5) (v := .int (zi (pg8 n))) (C := RX5) (T := TX5) (N := 9) hx hb hts zi_X5_numberOfGreatest_X5 hown hK hP 0 rfl rfl 8 (by decide) (hts (.fieldLink RX5 65 "DiamondRows$Polygon" "cutCount" "I") zl_X5_numberOfGreatest_65) (fun _ h9 => h9) rfl dX5_numberOfGreatest_8 ?_
  obtain ⟨b1, hg⟩ := Go_n hg
  obtain ⟨b2, hg⟩ := Go_n hg
  refine zv_icmp_ge (tgt := 43) hx hb dX5_numberOfGreatest_11 (by decide) b1 b2 (fun c8 => ?_) (fun c8 => ?_)
  · have hg := Go_t c8 hg
    refine lv_iload_n hx hb dX5_numberOfGreatest_43 rfl (lv_at hl 1 rfl) ?_
    exact (Go_s hg) _ _ dX5_numberOfGreatest_44
  · have hg := Go_f c8 hg
    refine lv_aload_n hx hb dX5_numberOfGreatest_14 rfl (lv_at hl 0 rfl) ?_
    refine lv_aload_n hx hb dX5_numberOfGreatest_15 rfl (lv_at hl 0 rfl) ?_
    refine va_get (D := D) (ci := 5) (v := .ref (t 6)) (C := RX5) (T := TX5) (N := 9) hx hb hts zi_X5_numberOfGreatest_X5 hown hK hP 0 rfl rfl 6 (by decide) (hts (.fieldLink RX5 27 "DiamondRows$Polygon" "cuts" "[I") zl_X5_numberOfGreatest_27) (fun _ h9 => h9) rfl dX5_numberOfGreatest_16 ?_
    refine lv_iload_n hx hb dX5_numberOfGreatest_19 rfl (lv_at hl 3 rfl) ?_
    obtain ⟨n3, hg⟩ := Go_n hg
    refine zv_iald hx hb hK hP 6 1 rfl rfl (by decide) n3 dX5_numberOfGreatest_20 ?_
    obtain ⟨o4, ho4, hg⟩ := Go_b hg
    refine zc_vi (rest := []) ⟨hx, hb, hml, hown, hts⟩ (zc_X5_greatestIn l D κ t n (zget (pg6 n) (Int.toNat i3)) o4 ho4) (cwV 1 hts gX5_numberOfGreatest_X5_greatestIn rfl rfl rfl hv_X5_greatestIn ⟨Nat.le_of_ble_eq_true rfl, Nat.le_of_ble_eq_true rfl⟩) (zpreV hK (hP.sub [0, 1, 2, 3, 4, 5, 6] rfl) 5 0 rfl rfl) rfl hl.1 rfl (Nat.le_of_ble_eq_true rfl) dX5_numberOfGreatest_21 ⟨Nat.zero_le _, Nat.zero_le _⟩ ?_
    refine lv_istore (lv' := [(4, .int (zi o4)), (0, .ref (t 0)), (1, .int (zi i1)), (2, .int (zi i2)), (3, .int (zi i3))]) hx hb dX5_numberOfGreatest_24 hl (by decide) rfl (fun ls hl => ?_)
    refine lv_iload hx hb dX5_numberOfGreatest_26 (lv_at hl 0 rfl) ?_
    refine lv_iload_n hx hb dX5_numberOfGreatest_28 rfl (lv_at hl 3 rfl) ?_
    obtain ⟨b5, hg⟩ := Go_n hg
    obtain ⟨b6, hg⟩ := Go_n hg
    refine zv_icmp_le (tgt := 37) hx hb dX5_numberOfGreatest_29 (by decide) b5 b6 (fun c7 => ?_) (fun c7 => ?_)
    · have hg := Go_t c7 hg
      refine lv_iinc (v := zi (i3 + (1 : Int))) (lv' := [(3, .int (zi (i3 + (1 : Int)))), (4, .int (zi o4)), (0, .ref (t 0)), (1, .int (zi i1)), (2, .int (zi i2))]) hx hb dX5_numberOfGreatest_37 hl (k := 4) rfl (zi_add i3 _) (by decide) rfl (fun ls hl => ?_)
      refine lv_goto (tgt := 6) hx hb dX5_numberOfGreatest_40 (by decide) ?_
      exact (Go_s hg) ls (lv_sub hl [2, 3, 4, 0] rfl)
    · have hg := Go_f c7 hg
      refine lv_iload hx hb dX5_numberOfGreatest_32 (lv_at hl 0 rfl) ?_
      refine lv_istore_n (lv' := [(2, .int (zi o4)), (4, .int (zi o4)), (0, .ref (t 0)), (1, .int (zi i1)), (3, .int (zi i3))]) hx hb dX5_numberOfGreatest_34 rfl hl (by decide) rfl (fun ls hl => ?_)
      refine lv_iload_n hx hb dX5_numberOfGreatest_35 rfl (lv_at hl 4 rfl) ?_
      refine lv_istore_n (lv' := [(1, .int (zi i3)), (2, .int (zi o4)), (4, .int (zi o4)), (0, .ref (t 0)), (3, .int (zi i3))]) hx hb dX5_numberOfGreatest_36 rfl hl (by decide) rfl (fun ls hl => ?_)
      refine lv_iinc (v := zi (i3 + (1 : Int))) (lv' := [(3, .int (zi (i3 + (1 : Int)))), (1, .int (zi i3)), (2, .int (zi o4)), (4, .int (zi o4)), (0, .ref (t 0))]) hx hb dX5_numberOfGreatest_37 hl (k := 4) rfl (zi_add i3 _) (by decide) rfl (fun ls hl => ?_)
      refine lv_goto (tgt := 6) hx hb dX5_numberOfGreatest_40 (by decide) ?_
      exact (Go_s hg) ls (lv_sub hl [4, 1, 2, 0] rfl)
set_option maxHeartbeats 4000000 in
set_option maxRecDepth 100000 in
theorem zw_X5_numberOfGreatest {p : Program} {l : Launch} {e : Env} {s : State} {m : MethodId} {args : Array Value} {below : List Frame} {meth : Method} {c : Code} {Q : State → Prop} {D : va_G} {κ : Nat → ClassId} {H : Heap} {locs : List Loc} (t : Nat → Nat) (n : Nat)    (hx : p.tables.exec = Jvm.exec) (hb : c.code = cX5_numberOfGreatest) (hml : c.maxLocals = 5) (hown : s.vm.findClass RX5 = some m.cls) (hts : ∀ w ∈ wsX5_numberOfGreatest, w.before args s = true) (hK : va_K D vwCl (zTY κ) s) (hP : va_P D vwCl (zpgc κ t n) H) (out : Int) (h : zf_X5_numberOfGreatest n  = some out) (hq : zQ_X5_numberOfGreatest p l e s m args below meth c Q H locs out) : zA_X5_numberOfGreatest_0 p l e s m args below meth c Q H locs t n  0 0 0 := by
  have hst : ∀ st : zS_X5_numberOfGreatest, Go (GoE (zA_X5_numberOfGreatest p l e s m args below meth c Q H locs t n ) (zQ_X5_numberOfGreatest p l e s m args below meth c Q H locs)) (zg_X5_numberOfGreatest n st) → zA_X5_numberOfGreatest p l e s m args below meth c Q H locs t n  st := by
    intro st hg
    obtain ⟨lab, i1, i2, i3⟩ := st
    by_cases h0 : lab = 0
    · subst h0
      exact zs_X5_numberOfGreatest_0 t n   hx hb hml hown hts hK hP i1 i2 i3 hg
    by_cases h6 : lab = 6
    · subst h6
      exact zs_X5_numberOfGreatest_6 t n   hx hb hml hown hts hK hP i1 i2 i3 hg
    have hz : zg_X5_numberOfGreatest n (lab, i1, i2, i3) = none := by simp [zg_X5_numberOfGreatest, h0, h6]
    rw [hz] at hg
    obtain ⟨a, h1, -⟩ := hg
    cases h1
  exact jwalk (At := zA_X5_numberOfGreatest p l e s m args below meth c Q H locs t n ) (Ret := zQ_X5_numberOfGreatest p l e s m args below meth c Q H locs) hst _ _ _ h hq
set_option maxHeartbeats 4000000 in
set_option maxRecDepth 100000 in
theorem zc_X5_numberOfGreatest (l : Launch) (D : va_G) (κ : Nat → ClassId) (t : Nat → Nat) (n : Nat)   (out : Int) (h : zf_X5_numberOfGreatest n  = some out) : Met l yX5_numberOfGreatest wsX5_numberOfGreatest zr_X5_numberOfGreatest (va_Pc [.ref (t 0)] (zR D κ (zpgc κ t n))) (vp_Si (fun x => x = zi out)) 0 0 (fun _ => False) := by
  refine Met.ofW (cc := cX5_numberOfGreatest) (maxL := 5) (ret := (some .int)) (by decide +kernel) rfl ?_
  intro p e s m args below meth c s₁ B hml hv
  obtain ⟨rfl, hP, hK⟩ := hv
  have hx := B.exec
  have hb := B.bytes
  have hr := B.returns
  have hts := atoms_spec (ws := wsX5_numberOfGreatest) B.pre
  have hown : s.vm.findClass RX5 = some m.cls := findClass_of_methodNamed B.named
  have hlocks := B.notSynchronized
  have hl := lv_entry ([.ref (t 0)]) (n := 5) (Nat.le_of_ble_eq_true rfl)
  rw [lg_entry_eq]
  generalize (lg_sl ([.ref (t 0)]) ++ List.replicate (5 - (lg_sl ([.ref (t 0)])).length) Slot.unset).toArray = ls at hl ⊢
  have hl : lv_has ls 5 [(0, .ref (t 0))] := hl
  refine (zw_X5_numberOfGreatest t n    hx hb hml hown hts hK hP out h ?_) ls (lv_sub hl [0] rfl)
  exact fun ls pc hd => W.iret hx hb hr (fun t ht hW => ⟨_, rfl, rfl, ht⟩) (fun _ h => by cases h) hd
/-! DiamondRows$Polygon.countWith(III)I -/
abbrev zr_X5_countWith : Room := { frames := 3, cells := 0, slots := 0, locals := 70 }
abbrev zS_X5_countWith : Type := Nat × Int × Int × Int × Int × Int
abbrev zO_X5_countWith : Type := Int
noncomputable def zg_X5_countWith_0 (n : Nat)  (i1 : Int) (i2 : Int) (i3 : Int) (i4 : Int) (i5 : Int) : Option (zO_X5_countWith ⊕ zS_X5_countWith) :=
  some (.inr (6, i1, i2, i3, (0 : Int), (0 : Int)))
noncomputable def zg_X5_countWith_6 (n : Nat)  (i1 : Int) (i2 : Int) (i3 : Int) (i4 : Int) (i5 : Int) : Option (zO_X5_countWith ⊕ zS_X5_countWith) :=
  if zout i5 then none else
  if zout (pg8 n) then none else
  if (pg8 n) ≤ i5 then
  some (.inl (i4))
  else
  if i5 < 0 ∨ 429 ≤ i5 then none else
  Option.bind (zf_X5_entryOf n (zget (pg6 n) (Int.toNat i5)) i1 i2) (fun o4 =>
  if zout o4 then none else
  if zout i3 then none else
  if o4 = i3 then
  some (.inr (6, i1, i2, i3, (i4 + (1 : Int)), (i5 + (1 : Int))))
  else
  some (.inr (6, i1, i2, i3, i4, (i5 + (1 : Int)))))
noncomputable def zg_X5_countWith (n : Nat)  (st : zS_X5_countWith) : Option (zO_X5_countWith ⊕ zS_X5_countWith) := match st with
  | (lab, i1, i2, i3, i4, i5) => if lab = 0 then zg_X5_countWith_0 n i1 i2 i3 i4 i5 else if lab = 6 then zg_X5_countWith_6 n i1 i2 i3 i4 i5 else none
noncomputable def zf_X5_countWith (n : Nat)  (i1 : Int) (i2 : Int) (i3 : Int) : Option (Int) := jrun (zg_X5_countWith n) jfuel (0, i1, i2, i3, 0, 0)
theorem zi_X5_countWith_X5 : ∀ w ∈ u_ws RX5 TX5 9, w ∈ wsX5_countWith := fun w h => (List.mem_cons_of_mem _ (List.mem_append_right _ (List.mem_append_left _ h)))
theorem zl_X5_countWith_27 : Cond.fieldLink RX5 27 "DiamondRows$Polygon" "cuts" "[I" ∈ wsX5_countWith := (List.mem_cons_of_mem _ (List.mem_append_left _ (List.mem_of_getElem? (i := 1) rfl)))
theorem zl_X5_countWith_65 : Cond.fieldLink RX5 65 "DiamondRows$Polygon" "cutCount" "I" ∈ wsX5_countWith := (List.mem_cons_of_mem _ (List.mem_append_left _ (List.mem_of_getElem? (i := 0) rfl)))
def zQ_X5_countWith (p : Program) (l : Launch) (e : Env) (s : State) (m : MethodId) (args : Array Value) (below : List Frame) (meth : Method) (c : Code) (Q : State → Prop) (H : Heap) (locs : List Loc)  (o : Int) : Prop := ∀ (ls : Array Slot) (pc : Nat), decode cX5_countWith pc = .ok (.ireturn, 1) → W p l e zr_X5_countWith s m args below meth c H locs 0 0 Q (F0 m pc ls [.int (zi o)])
def zA_X5_countWith_0 (p : Program) (l : Launch) (e : Env) (s : State) (m : MethodId) (args : Array Value) (below : List Frame) (meth : Method) (c : Code) (Q : State → Prop) (H : Heap) (locs : List Loc) (t : Nat → Nat) (n : Nat)  (i1 : Int) (i2 : Int) (i3 : Int) (i4 : Int) (i5 : Int) : Prop := ∀ ls : Array Slot, lv_has ls 6 [(0, .ref (t 0)), (1, .int (zi i1)), (2, .int (zi i2)), (3, .int (zi i3))] → W p l e zr_X5_countWith s m args below meth c H locs 0 0 Q (F0 m 0 ls [])
def zA_X5_countWith_6 (p : Program) (l : Launch) (e : Env) (s : State) (m : MethodId) (args : Array Value) (below : List Frame) (meth : Method) (c : Code) (Q : State → Prop) (H : Heap) (locs : List Loc) (t : Nat → Nat) (n : Nat)  (i1 : Int) (i2 : Int) (i3 : Int) (i4 : Int) (i5 : Int) : Prop := ∀ ls : Array Slot, lv_has ls 6 [(0, .ref (t 0)), (1, .int (zi i1)), (2, .int (zi i2)), (3, .int (zi i3)), (4, .int (zi i4)), (5, .int (zi i5))] → W p l e zr_X5_countWith s m args below meth c H locs 0 0 Q (F0 m 6 ls [])
def zA_X5_countWith (p : Program) (l : Launch) (e : Env) (s : State) (m : MethodId) (args : Array Value) (below : List Frame) (meth : Method) (c : Code) (Q : State → Prop) (H : Heap) (locs : List Loc) (t : Nat → Nat) (n : Nat)  (st : zS_X5_countWith) : Prop := match st with
  | (lab, i1, i2, i3, i4, i5) => if lab = 0 then zA_X5_countWith_0 p l e s m args below meth c Q H locs t n  i1 i2 i3 i4 i5 else if lab = 6 then zA_X5_countWith_6 p l e s m args below meth c Q H locs t n  i1 i2 i3 i4 i5 else True
set_option maxHeartbeats 4000000 in
set_option maxRecDepth 100000 in
theorem zs_X5_countWith_0 {p : Program} {l : Launch} {e : Env} {s : State} {m : MethodId} {args : Array Value} {below : List Frame} {meth : Method} {c : Code} {Q : State → Prop} {D : va_G} {κ : Nat → ClassId} {H : Heap} {locs : List Loc} (t : Nat → Nat) (n : Nat)   (hx : p.tables.exec = Jvm.exec) (hb : c.code = cX5_countWith) (hml : c.maxLocals = 6) (hown : s.vm.findClass RX5 = some m.cls) (hts : ∀ w ∈ wsX5_countWith, w.before args s = true) (hK : va_K D vwCl (zTY κ) s) (hP : va_P D vwCl (zpgc κ t n) H) (i1 : Int) (i2 : Int) (i3 : Int) (i4 : Int) (i5 : Int) (hg : Go (GoE (zA_X5_countWith p l e s m args below meth c Q H locs t n ) (zQ_X5_countWith p l e s m args below meth c Q H locs)) (zg_X5_countWith_0 n i1 i2 i3 i4 i5)) : zA_X5_countWith_0 p l e s m args below meth c Q H locs t n  i1 i2 i3 i4 i5 := by
  intro ls hl
  unfold zg_X5_countWith_0 at hg
  refine zv_iconst hx hb dX5_countWith_0 ?_
  refine lv_istore (lv' := [(4, .int (zi (0 : Int))), (0, .ref (t 0)), (1, .int (zi i1)), (2, .int (zi i2)), (3, .int (zi i3))]) hx hb dX5_countWith_1 hl (by decide) rfl (fun ls hl => ?_)
  refine zv_iconst hx hb dX5_countWith_3 ?_
  refine lv_istore (lv' := [(5, .int (zi (0 : Int))), (4, .int (zi (0 : Int))), (0, .ref (t 0)), (1, .int (zi i1)), (2, .int (zi i2)), (3, .int (zi i3))]) hx hb dX5_countWith_4 hl (by decide) rfl (fun ls hl => ?_)
  exact (Go_s hg) ls (lv_sub hl [2, 3, 4, 5, 1, 0] rfl)
set_option maxHeartbeats 4000000 in
set_option maxRecDepth 100000 in
theorem zs_X5_countWith_6 {p : Program} {l : Launch} {e : Env} {s : State} {m : MethodId} {args : Array Value} {below : List Frame} {meth : Method} {c : Code} {Q : State → Prop} {D : va_G} {κ : Nat → ClassId} {H : Heap} {locs : List Loc} (t : Nat → Nat) (n : Nat)   (hx : p.tables.exec = Jvm.exec) (hb : c.code = cX5_countWith) (hml : c.maxLocals = 6) (hown : s.vm.findClass RX5 = some m.cls) (hts : ∀ w ∈ wsX5_countWith, w.before args s = true) (hK : va_K D vwCl (zTY κ) s) (hP : va_P D vwCl (zpgc κ t n) H) (i1 : Int) (i2 : Int) (i3 : Int) (i4 : Int) (i5 : Int) (hg : Go (GoE (zA_X5_countWith p l e s m args below meth c Q H locs t n ) (zQ_X5_countWith p l e s m args below meth c Q H locs)) (zg_X5_countWith_6 n i1 i2 i3 i4 i5)) : zA_X5_countWith_6 p l e s m args below meth c Q H locs t n  i1 i2 i3 i4 i5 := by
  intro ls hl
  unfold zg_X5_countWith_6 at hg
  refine lv_iload hx hb dX5_countWith_6 (lv_at hl 5 rfl) ?_
  refine lv_aload_n hx hb dX5_countWith_8 rfl (lv_at hl 0 rfl) ?_
  refine va_get (D := D) (ci := 5) (v := .int (zi (pg8 n))) (C := RX5) (T := TX5) (N := 9) hx hb hts zi_X5_countWith_X5 hown hK hP 0 rfl rfl 8 (by decide) (hts (.fieldLink RX5 65 "DiamondRows$Polygon" "cutCount" "I") zl_X5_countWith_65) (fun _ h9 => h9) rfl dX5_countWith_9 ?_
  obtain ⟨b1, hg⟩ := Go_n hg
  obtain ⟨b2, hg⟩ := Go_n hg
  refine zv_icmp_ge (tgt := 41) hx hb dX5_countWith_12 (by decide) b1 b2 (fun c8 => ?_) (fun c8 => ?_)
  · have hg := Go_t c8 hg
    refine lv_iload hx hb dX5_countWith_41 (lv_at hl 4 rfl) ?_
    exact (Go_s hg) _ _ dX5_countWith_43
  · have hg := Go_f c8 hg
    refine lv_aload_n hx hb dX5_countWith_15 rfl (lv_at hl 0 rfl) ?_
    refine lv_aload_n hx hb dX5_countWith_16 rfl (lv_at hl 0 rfl) ?_
    refine va_get (D := D) (ci := 5) (v := .ref (t 6)) (C := RX5) (T := TX5) (N := 9) hx hb hts zi_X5_countWith_X5 hown hK hP 0 rfl rfl 6 (by decide) (hts (.fieldLink RX5 27 "DiamondRows$Polygon" "cuts" "[I") zl_X5_countWith_27) (fun _ h9 => h9) rfl dX5_countWith_17 ?_
    refine lv_iload hx hb dX5_countWith_20 (lv_at hl 5 rfl) ?_
    obtain ⟨n3, hg⟩ := Go_n hg
    refine zv_iald hx hb hK hP 6 1 rfl rfl (by decide) n3 dX5_countWith_22 ?_
    refine lv_iload_n hx hb dX5_countWith_23 rfl (lv_at hl 1 rfl) ?_
    refine lv_iload_n hx hb dX5_countWith_24 rfl (lv_at hl 2 rfl) ?_
    obtain ⟨o4, ho4, hg⟩ := Go_b hg
    refine zc_vi (rest := []) ⟨hx, hb, hml, hown, hts⟩ (zc_X5_entryOf l D κ t n (zget (pg6 n) (Int.toNat i5)) i1 i2 o4 ho4) (cwV 3 hts gX5_countWith_X5_entryOf rfl rfl rfl hv_X5_entryOf ⟨Nat.le_of_ble_eq_true rfl, Nat.le_of_ble_eq_true rfl⟩) (zpreV hK (hP.sub [0, 1, 2, 3, 4, 5, 6] rfl) 5 0 rfl rfl) rfl hl.1 rfl (Nat.le_of_ble_eq_true rfl) dX5_countWith_25 ⟨Nat.zero_le _, Nat.zero_le _⟩ ?_
    refine lv_iload_n hx hb dX5_countWith_28 rfl (lv_at hl 3 rfl) ?_
    obtain ⟨b5, hg⟩ := Go_n hg
    obtain ⟨b6, hg⟩ := Go_n hg
    refine zv_icmp_ne (tgt := 35) hx hb dX5_countWith_29 (by decide) b5 b6 (fun c7 => ?_) (fun c7 => ?_)
    · have hg := Go_f c7 hg
      refine lv_iinc (v := zi (i5 + (1 : Int))) (lv' := [(5, .int (zi (i5 + (1 : Int)))), (0, .ref (t 0)), (1, .int (zi i1)), (2, .int (zi i2)), (3, .int (zi i3)), (4, .int (zi i4))]) hx hb dX5_countWith_35 hl (k := 5) rfl (zi_add i5 _) (by decide) rfl (fun ls hl => ?_)
      refine lv_goto (tgt := 6) hx hb dX5_countWith_38 (by decide) ?_
      exact (Go_s hg) ls (lv_sub hl [1, 2, 3, 4, 5, 0] rfl)
    · have hg := Go_t c7 hg
      refine lv_iinc (v := zi (i4 + (1 : Int))) (lv' := [(4, .int (zi (i4 + (1 : Int)))), (0, .ref (t 0)), (1, .int (zi i1)), (2, .int (zi i2)), (3, .int (zi i3)), (5, .int (zi i5))]) hx hb dX5_countWith_32 hl (k := 4) rfl (zi_add i4 _) (by decide) rfl (fun ls hl => ?_)
      refine lv_iinc (v := zi (i5 + (1 : Int))) (lv' := [(5, .int (zi (i5 + (1 : Int)))), (4, .int (zi (i4 + (1 : Int)))), (0, .ref (t 0)), (1, .int (zi i1)), (2, .int (zi i2)), (3, .int (zi i3))]) hx hb dX5_countWith_35 hl (k := 5) rfl (zi_add i5 _) (by decide) rfl (fun ls hl => ?_)
      refine lv_goto (tgt := 6) hx hb dX5_countWith_38 (by decide) ?_
      exact (Go_s hg) ls (lv_sub hl [2, 3, 4, 5, 1, 0] rfl)
set_option maxHeartbeats 4000000 in
set_option maxRecDepth 100000 in
theorem zw_X5_countWith {p : Program} {l : Launch} {e : Env} {s : State} {m : MethodId} {args : Array Value} {below : List Frame} {meth : Method} {c : Code} {Q : State → Prop} {D : va_G} {κ : Nat → ClassId} {H : Heap} {locs : List Loc} (t : Nat → Nat) (n : Nat)   (i1 : Int) (i2 : Int) (i3 : Int) (hx : p.tables.exec = Jvm.exec) (hb : c.code = cX5_countWith) (hml : c.maxLocals = 6) (hown : s.vm.findClass RX5 = some m.cls) (hts : ∀ w ∈ wsX5_countWith, w.before args s = true) (hK : va_K D vwCl (zTY κ) s) (hP : va_P D vwCl (zpgc κ t n) H) (out : Int) (h : zf_X5_countWith n i1 i2 i3 = some out) (hq : zQ_X5_countWith p l e s m args below meth c Q H locs out) : zA_X5_countWith_0 p l e s m args below meth c Q H locs t n  i1 i2 i3 0 0 := by
  have hst : ∀ st : zS_X5_countWith, Go (GoE (zA_X5_countWith p l e s m args below meth c Q H locs t n ) (zQ_X5_countWith p l e s m args below meth c Q H locs)) (zg_X5_countWith n st) → zA_X5_countWith p l e s m args below meth c Q H locs t n  st := by
    intro st hg
    obtain ⟨lab, i1, i2, i3, i4, i5⟩ := st
    by_cases h0 : lab = 0
    · subst h0
      exact zs_X5_countWith_0 t n   hx hb hml hown hts hK hP i1 i2 i3 i4 i5 hg
    by_cases h6 : lab = 6
    · subst h6
      exact zs_X5_countWith_6 t n   hx hb hml hown hts hK hP i1 i2 i3 i4 i5 hg
    have hz : zg_X5_countWith n (lab, i1, i2, i3, i4, i5) = none := by simp [zg_X5_countWith, h0, h6]
    rw [hz] at hg
    obtain ⟨a, h1, -⟩ := hg
    cases h1
  exact jwalk (At := zA_X5_countWith p l e s m args below meth c Q H locs t n ) (Ret := zQ_X5_countWith p l e s m args below meth c Q H locs) hst _ _ _ h hq
set_option maxHeartbeats 4000000 in
set_option maxRecDepth 100000 in
theorem zc_X5_countWith (l : Launch) (D : va_G) (κ : Nat → ClassId) (t : Nat → Nat) (n : Nat)  (i1 : Int) (i2 : Int) (i3 : Int) (out : Int) (h : zf_X5_countWith n i1 i2 i3 = some out) : Met l yX5_countWith wsX5_countWith zr_X5_countWith (va_Pc [.ref (t 0), .int (zi i1), .int (zi i2), .int (zi i3)] (zR D κ (zpgc κ t n))) (vp_Si (fun x => x = zi out)) 0 0 (fun _ => False) := by
  refine Met.ofW (cc := cX5_countWith) (maxL := 6) (ret := (some .int)) (by decide +kernel) rfl ?_
  intro p e s m args below meth c s₁ B hml hv
  obtain ⟨rfl, hP, hK⟩ := hv
  have hx := B.exec
  have hb := B.bytes
  have hr := B.returns
  have hts := atoms_spec (ws := wsX5_countWith) B.pre
  have hown : s.vm.findClass RX5 = some m.cls := findClass_of_methodNamed B.named
  have hlocks := B.notSynchronized
  have hl := lv_entry ([.ref (t 0), .int (zi i1), .int (zi i2), .int (zi i3)]) (n := 6) (Nat.le_of_ble_eq_true rfl)
  rw [lg_entry_eq]
  generalize (lg_sl ([.ref (t 0), .int (zi i1), .int (zi i2), .int (zi i3)]) ++ List.replicate (6 - (lg_sl ([.ref (t 0), .int (zi i1), .int (zi i2), .int (zi i3)])).length) Slot.unset).toArray = ls at hl ⊢
  have hl : lv_has ls 6 [(0, .ref (t 0)), (1, .int (zi i1)), (2, .int (zi i2)), (3, .int (zi i3))] := hl
  refine (zw_X5_countWith t n   i1 i2 i3 hx hb hml hown hts hK hP out h ?_) ls (lv_sub hl [0, 1, 2, 3] rfl)
  exact fun ls pc hd => W.iret hx hb hr (fun t ht hW => ⟨_, rfl, rfl, ht⟩) (fun _ h => by cases h) hd
