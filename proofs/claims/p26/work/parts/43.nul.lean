abbrev zr_nul : Room := { frames := 0, cells := 0, slots := 0, locals := 0 }
set_option maxHeartbeats 4000000 in
set_option maxRecDepth 100000 in
theorem zc_X6_withCorners_nul (l : Launch) (D : va_G) (κ : Nat → ClassId) (t : Nat → Nat) (mk : Nat) (ad : Nat → Nat → Nat) (i1 : Int) (hz : ¬ zout i1) (hn : i1 < 4 ∨ 9 < i1) : Met l yX6_withCorners wsX6_withCorners zr_nul (va_Pc [.ref (t 0), .int (zi i1)] (zRa D κ mk ad (zpl κ t mk ad))) zQnull 0 0 (fun _ => False) := by
  refine Met.ofW (cc := cX6_withCorners) (maxL := 3) (ret := (some (.object "DiamondRows$Polygon"))) (by decide +kernel) rfl ?_
  intro p e s m args below meth cd s₁ B hml hv
  obtain ⟨rfl, hP, hK, hB⟩ := hv
  have hx := B.exec
  have hb := B.bytes
  have hr := B.returns
  have hts := atoms_spec (ws := wsX6_withCorners) B.pre
  have hown : s.vm.findClass RX6 = some m.cls := findClass_of_methodNamed B.named
  have hlocks := B.notSynchronized
  have hl := lv_entry ([.ref (t 0), .int (zi i1)]) (n := 3) (Nat.le_of_ble_eq_true rfl)
  rw [lg_entry_eq]
  generalize (lg_sl ([.ref (t 0), .int (zi i1)]) ++ List.replicate (3 - (lg_sl ([.ref (t 0), .int (zi i1)])).length) Slot.unset).toArray = ls at hl ⊢
  have hl : lv_has ls 3 [(0, .ref (t 0)), (1, .int (zi i1))] := hl
  refine lv_iload_n hx hb dX6_withCorners_0 rfl (lv_at hl 1 rfl) ?_
  refine zv_iconst hx hb dX6_withCorners_1 ?_
  refine zv_icmp_lt (tgt := 11) hx hb dX6_withCorners_2 (by decide) hz (by decide) (fun q => ?_) (fun q => ?_)
  · refine lv_null hx hb dX6_withCorners_11 ?_
    exact W.aret hx hb hr (Or.inl ⟨_, rfl⟩) (Or.inl rfl) (fun T hT hW => ⟨rfl, hT⟩) (fun _ h => by cases h) dX6_withCorners_12
  · refine lv_iload_n hx hb dX6_withCorners_5 rfl (lv_at hl 1 rfl) ?_
    refine zv_bipush hx hb dX6_withCorners_6 (by decide) ?_
    refine zv_icmp_le (tgt := 13) hx hb dX6_withCorners_8 (by decide) hz (by decide) (fun q2 => ?_) (fun q2 => ?_)
    · exact absurd q2 (by omega)
    · refine lv_null hx hb dX6_withCorners_11 ?_
      exact W.aret hx hb hr (Or.inl ⟨_, rfl⟩) (Or.inl rfl) (fun T hT hW => ⟨rfl, hT⟩) (fun _ h => by cases h) dX6_withCorners_12
theorem zc_null {p : Program} {l : Launch} {e : Env} {R : Room} {s : State} {m : MethodId} {args : Array Value} {below : List Frame} {meth : Method} {c : Code} {H : Heap} {locs : List Loc} {cells slots : Nat} {Q : State → Prop} {ls : Array Slot} {pc : Nat} {st0 rest : List Value} {a : Array Value} (hr : va_Run p l e R s m args below meth c H locs cells slots 0 0 (F0 m pc ls st0) rest (zQnull a) (fun _ => False))
    (kk : W p l e R s m args below meth c H locs cells slots Q (F0 m (pc + 3) ls (.null :: rest))) : W p l e R s m args below meth c H locs cells slots Q (F0 m pc ls st0) := by
  intro T hT X
  obtain ⟨v, st₀, t, T', L, h0, X', hL, e1, e2, ⟨hv, hh⟩, st⟩ := hr T hT X
  cases hv
  obtain ⟨t2, a1, b1⟩ := kk T' (by rw [e1, hh, h0]) (Stand.forget X' (fun q h => (hL q h).elim))
  exact ⟨t2, st t2 a1, b1⟩
abbrev zr_X10_kinds_no : Room := { frames := 1, cells := 0, slots := 0, locals := 22 }
set_option maxHeartbeats 4000000 in
set_option maxRecDepth 100000 in
theorem zc_X10_kinds_no (l : Launch) (D : va_G) (κ : Nat → ClassId) (t : Nat → Nat) (mk : Nat) (ad : Nat → Nat → Nat) (t_polygon : Nat) (t_bits : Int) (t_mendedNumber : Int) (i1 : Int) (i2 : Bool) (hz : ¬ zout i1) (hn : i1 < 4 ∨ 9 < i1) : Met l yX10_kinds wsX10_kinds zr_X10_kinds_no (va_Pc [.ref (t 0), .int (zi i1), .int (zi (bI i2))] (zRa D κ mk ad ([((t 0), .inr (10, [.ref (t 1), .ref (t 3), .ref (t 5), .ref (t 6), .ref (t 9), .ref (t 11), .ref (t 15), .ref (t 17), .ref (t 27), .ref (t 30), zpg ad t_polygon, .int (zi t_bits), .int (zi t_mendedNumber)])), ((t 3), .inr (6, [.ref (t 4)])), ((t 4), .inl (κ 4, 6, .inr (.inr (.inr (.inr (zmade mk ad))))))]))) (vp_Si (fun x => x = zi (-2))) 0 0 (fun _ => False) := by
  refine Met.ofW (cc := cX10_kinds) (maxL := 4) (ret := (some .int)) (by decide +kernel) rfl ?_
  intro p e s m args below meth cd s₁ B hml hv
  obtain ⟨rfl, hP, hK, hB⟩ := hv
  have hx := B.exec
  have hb := B.bytes
  have hr := B.returns
  have hts := atoms_spec (ws := wsX10_kinds) B.pre
  have hown : s.vm.findClass RX10 = some m.cls := findClass_of_methodNamed B.named
  have hlocks := B.notSynchronized
  have hl := lv_entry ([.ref (t 0), .int (zi i1), .int (zi (bI i2))]) (n := 4) (Nat.le_of_ble_eq_true rfl)
  rw [lg_entry_eq]
  generalize (lg_sl ([.ref (t 0), .int (zi i1), .int (zi (bI i2))]) ++ List.replicate (4 - (lg_sl ([.ref (t 0), .int (zi i1), .int (zi (bI i2))])).length) Slot.unset).toArray = ls at hl ⊢
  have hl : lv_has ls 4 [(0, .ref (t 0)), (1, .int (zi i1)), (2, .int (zi (bI i2)))] := hl
  refine lv_aload_n hx hb dX10_kinds_0 rfl (lv_at hl 0 rfl) ?_
  refine va_get (D := D) (ci := 10) (v := .ref (t 3)) (C := RX10) (T := TX10) (N := 13) hx hb hts zi_X10_kinds_X10 hown hK hP 0 rfl rfl 1 (by decide) (hts (.fieldLink RX10 19 "DiamondRows" "polygons" "LDiamondRows$Polygons;") zl_X10_kinds_19) (fun _ h9 => h9) rfl dX10_kinds_1 ?_
  refine lv_iload_n hx hb dX10_kinds_4 rfl (lv_at hl 1 rfl) ?_
  refine zc_null (va_runV (rest := []) ⟨hx, hb, hml, hown, hts⟩ (zc_X6_withCorners_nul l D κ (fun i => t (i + 3)) mk ad i1 hz hn) (cwV 1 hts gX10_kinds_X6_withCorners rfl rfl rfl (by decide +kernel) ⟨Nat.le_of_ble_eq_true rfl, Nat.le_of_ble_eq_true rfl⟩) (zpreVa hK (hP.sub [1, 2] rfl) hB 6 0 rfl rfl) rfl rfl hl.1 rfl (lv_room (Nat.le_of_ble_eq_true rfl)) dX10_kinds_5 ⟨Nat.zero_le _, Nat.zero_le _⟩) ?_
  refine lv_astore_nN (lv' := [(3, .null), (0, .ref (t 0)), (1, .int (zi i1)), (2, .int (zi (bI i2)))]) hx hb dX10_kinds_8 rfl hl (by decide) rfl (fun ls hl => ?_)
  refine lv_aload_nN hx hb dX10_kinds_9 rfl (lv_at hl 0 rfl) ?_
  refine lv_ifnonnullN hx hb dX10_kinds_10 ?_
  refine zv_bipush hx hb dX10_kinds_13 (by decide) ?_
  refine lv_goto (tgt := 23) hx hb dX10_kinds_15 (by decide) ?_
  exact W.iret hx hb hr (fun T hT hW => ⟨_, rfl, rfl, hT⟩) (fun _ h => by cases h) dX10_kinds_23
abbrev zr_X10_greatest_no : Room := { frames := 1, cells := 0, slots := 0, locals := 22 }
set_option maxHeartbeats 4000000 in
set_option maxRecDepth 100000 in
theorem zc_X10_greatest_no (l : Launch) (D : va_G) (κ : Nat → ClassId) (t : Nat → Nat) (mk : Nat) (ad : Nat → Nat → Nat) (t_polygon : Nat) (t_bits : Int) (t_mendedNumber : Int) (i1 : Int) (i2 : Int) (hz : ¬ zout i1) (hn : i1 < 4 ∨ 9 < i1) : Met l yX10_greatest wsX10_greatest zr_X10_greatest_no (va_Pc [.ref (t 0), .int (zi i1), .int (zi i2)] (zRa D κ mk ad ([((t 0), .inr (10, [.ref (t 1), .ref (t 3), .ref (t 5), .ref (t 6), .ref (t 9), .ref (t 11), .ref (t 15), .ref (t 17), .ref (t 27), .ref (t 30), zpg ad t_polygon, .int (zi t_bits), .int (zi t_mendedNumber)])), ((t 3), .inr (6, [.ref (t 4)])), ((t 4), .inl (κ 4, 6, .inr (.inr (.inr (.inr (zmade mk ad))))))]))) (vp_Si (fun x => x = zi (-2))) 0 0 (fun _ => False) := by
  refine Met.ofW (cc := cX10_greatest) (maxL := 5) (ret := (some .int)) (by decide +kernel) rfl ?_
  intro p e s m args below meth cd s₁ B hml hv
  obtain ⟨rfl, hP, hK, hB⟩ := hv
  have hx := B.exec
  have hb := B.bytes
  have hr := B.returns
  have hts := atoms_spec (ws := wsX10_greatest) B.pre
  have hown : s.vm.findClass RX10 = some m.cls := findClass_of_methodNamed B.named
  have hlocks := B.notSynchronized
  have hl := lv_entry ([.ref (t 0), .int (zi i1), .int (zi i2)]) (n := 5) (Nat.le_of_ble_eq_true rfl)
  rw [lg_entry_eq]
  generalize (lg_sl ([.ref (t 0), .int (zi i1), .int (zi i2)]) ++ List.replicate (5 - (lg_sl ([.ref (t 0), .int (zi i1), .int (zi i2)])).length) Slot.unset).toArray = ls at hl ⊢
  have hl : lv_has ls 5 [(0, .ref (t 0)), (1, .int (zi i1)), (2, .int (zi i2))] := hl
  refine lv_aload_n hx hb dX10_greatest_0 rfl (lv_at hl 0 rfl) ?_
  refine va_get (D := D) (ci := 10) (v := .ref (t 3)) (C := RX10) (T := TX10) (N := 13) hx hb hts zi_X10_greatest_X10 hown hK hP 0 rfl rfl 1 (by decide) (hts (.fieldLink RX10 19 "DiamondRows" "polygons" "LDiamondRows$Polygons;") zl_X10_greatest_19) (fun _ h9 => h9) rfl dX10_greatest_1 ?_
  refine lv_iload_n hx hb dX10_greatest_4 rfl (lv_at hl 1 rfl) ?_
  refine zc_null (va_runV (rest := []) ⟨hx, hb, hml, hown, hts⟩ (zc_X6_withCorners_nul l D κ (fun i => t (i + 3)) mk ad i1 hz hn) (cwV 1 hts gX10_greatest_X6_withCorners rfl rfl rfl (by decide +kernel) ⟨Nat.le_of_ble_eq_true rfl, Nat.le_of_ble_eq_true rfl⟩) (zpreVa hK (hP.sub [1, 2] rfl) hB 6 0 rfl rfl) rfl rfl hl.1 rfl (lv_room (Nat.le_of_ble_eq_true rfl)) dX10_greatest_5 ⟨Nat.zero_le _, Nat.zero_le _⟩) ?_
  refine lv_astore_nN (lv' := [(3, .null), (0, .ref (t 0)), (1, .int (zi i1)), (2, .int (zi i2))]) hx hb dX10_greatest_8 rfl hl (by decide) rfl (fun ls hl => ?_)
  refine lv_aload_nN hx hb dX10_greatest_9 rfl (lv_at hl 0 rfl) ?_
  refine lv_ifnullN (tgt := 22) hx hb dX10_greatest_10 (by decide) ?_
  refine zv_bipush hx hb dX10_greatest_22 (by decide) ?_
  exact W.iret hx hb hr (fun T hT hW => ⟨_, rfl, rfl, hT⟩) (fun _ h => by cases h) dX10_greatest_24
abbrev zr_X10_take_no : Room := { frames := 1, cells := 0, slots := 0, locals := 22 }
set_option maxHeartbeats 4000000 in
set_option maxRecDepth 100000 in
theorem zc_X10_take_no (l : Launch) (D : va_G) (κ : Nat → ClassId) (t : Nat → Nat) (mk : Nat) (ad : Nat → Nat → Nat) (t_polygon : Nat) (t_bits : Int) (t_mendedNumber : Int) (i1 : Int) (i2 : Int) (hz : ¬ zout i1) (hn : i1 < 4 ∨ 9 < i1) : Met l yX10_take wsX10_take zr_X10_take_no (va_Pc [.ref (t 0), .int (zi i1), .int (zi i2)] (zRa D κ mk ad ([((t 0), .inr (10, [.ref (t 1), .ref (t 3), .ref (t 5), .ref (t 6), .ref (t 9), .ref (t 11), .ref (t 15), .ref (t 17), .ref (t 27), .ref (t 30), zpg ad t_polygon, .int (zi t_bits), .int (zi t_mendedNumber)])), ((t 3), .inr (6, [.ref (t 4)])), ((t 4), .inl (κ 4, 6, .inr (.inr (.inr (.inr (zmade mk ad))))))]))) (vp_Si (fun x => x = zi (-2))) 0 0 (fun _ => False) := by
  refine Met.ofW (cc := cX10_take) (maxL := 4) (ret := (some .int)) (by decide +kernel) rfl ?_
  intro p e s m args below meth cd s₁ B hml hv
  obtain ⟨rfl, hP, hK, hB⟩ := hv
  have hx := B.exec
  have hb := B.bytes
  have hr := B.returns
  have hts := atoms_spec (ws := wsX10_take) B.pre
  have hown : s.vm.findClass RX10 = some m.cls := findClass_of_methodNamed B.named
  have hlocks := B.notSynchronized
  have hl := lv_entry ([.ref (t 0), .int (zi i1), .int (zi i2)]) (n := 4) (Nat.le_of_ble_eq_true rfl)
  rw [lg_entry_eq]
  generalize (lg_sl ([.ref (t 0), .int (zi i1), .int (zi i2)]) ++ List.replicate (4 - (lg_sl ([.ref (t 0), .int (zi i1), .int (zi i2)])).length) Slot.unset).toArray = ls at hl ⊢
  have hl : lv_has ls 4 [(0, .ref (t 0)), (1, .int (zi i1)), (2, .int (zi i2))] := hl
  refine lv_aload_n hx hb dX10_take_0 rfl (lv_at hl 0 rfl) ?_
  refine va_get (D := D) (ci := 10) (v := .ref (t 3)) (C := RX10) (T := TX10) (N := 13) hx hb hts zi_X10_take_X10 hown hK hP 0 rfl rfl 1 (by decide) (hts (.fieldLink RX10 19 "DiamondRows" "polygons" "LDiamondRows$Polygons;") zl_X10_take_19) (fun _ h9 => h9) rfl dX10_take_1 ?_
  refine lv_iload_n hx hb dX10_take_4 rfl (lv_at hl 1 rfl) ?_
  refine zc_null (va_runV (rest := []) ⟨hx, hb, hml, hown, hts⟩ (zc_X6_withCorners_nul l D κ (fun i => t (i + 3)) mk ad i1 hz hn) (cwV 1 hts gX10_take_X6_withCorners rfl rfl rfl (by decide +kernel) ⟨Nat.le_of_ble_eq_true rfl, Nat.le_of_ble_eq_true rfl⟩) (zpreVa hK (hP.sub [1, 2] rfl) hB 6 0 rfl rfl) rfl rfl hl.1 rfl (lv_room (Nat.le_of_ble_eq_true rfl)) dX10_take_5 ⟨Nat.zero_le _, Nat.zero_le _⟩) ?_
  refine lv_astore_nN (lv' := [(3, .null), (0, .ref (t 0)), (1, .int (zi i1)), (2, .int (zi i2))]) hx hb dX10_take_8 rfl hl (by decide) rfl (fun ls hl => ?_)
  refine lv_aload_nN hx hb dX10_take_9 rfl (lv_at hl 0 rfl) ?_
  refine lv_ifnullN (tgt := 21) hx hb dX10_take_10 (by decide) ?_
  refine zv_bipush hx hb dX10_take_21 (by decide) ?_
  exact W.iret hx hb hr (fun T hT hW => ⟨_, rfl, rfl, hT⟩) (fun _ h => by cases h) dX10_take_23
