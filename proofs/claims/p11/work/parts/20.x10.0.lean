/-! DiamondRows.feed(IIIII)I -/
abbrev zr_X10_feed : Room := { frames := 1, cells := 0, slots := 0, locals := 22 }
noncomputable def zf_X10_feed (mk : Nat) (tape_length : Int) (tape_bytes : Nat) (i1 : Int) (i2 : Int) (i3 : Int) (i4 : Int) (i5 : Int) : Option (Int × Int × Nat) :=
  Option.bind (zf_X8_hasRoomForTwenty tape_length) (fun o1 =>
  if o1 = false then
  some ((-3 : Int), tape_length, tape_bytes)
  else
  Option.bind (zf_X8_append tape_length tape_bytes i1) (fun o2 =>
  Option.bind (zf_X8_append (o2.1) (o2.2) i2) (fun o3 =>
  Option.bind (zf_X8_append (o3.1) (o3.2) i3) (fun o4 =>
  Option.bind (zf_X8_append (o4.1) (o4.2) i4) (fun o5 =>
  Option.bind (zf_X8_append (o5.1) (o5.2) i5) (fun o6 =>
  Option.bind (zf_X8_size (o6.1)) (fun o7 =>
  some (o7, (o6.1), (o6.2)))))))))
theorem zi_X10_feed_X10 : ∀ w ∈ u_ws RX10 TX10 13, w ∈ wsX10_feed := fun w h => (List.mem_cons_of_mem _ (List.mem_append_right _ (List.mem_append_left _ h)))
theorem zl_X10_feed_10 : Cond.fieldLink RX10 10 "DiamondRows" "tape" "LDiamondRows$Tape;" ∈ wsX10_feed := (List.mem_cons_of_mem _ (List.mem_append_left _ (List.mem_of_getElem? (i := 0) rfl)))
def zQ_X10_feed (p : Program) (l : Launch) (e : Env) (s : State) (m : MethodId) (args : Array Value) (below : List Frame) (meth : Method) (c : Code) (Q : State → Prop) (D : va_G) (κ : Nat → ClassId) (A : Nat → Prop) (H0 : Heap) (t : Nat → Nat) (mk : Nat) (ad : Nat → Nat → Nat) (t_polygon : Nat) (t_bits : Int) (t_mendedNumber : Int) (tape_next : Int) (tape_kind : Int) (tape_place : Int) (tape_value : Int) (o : Int × Int × Nat) : Prop := ∀ (H : Heap) (locs : List Loc) (ls : Array Slot) (pc : Nat), va_P D vwCl ([((t 0), .inr (10, [.ref (t 1), .ref (t 3), .ref (t 5), .ref (t 6), .ref (t 9), .ref (t 11), .ref (t 15), .ref (t 17), .ref (t 27), .ref (t 30), zpg ad t_polygon, .int (zi t_bits), .int (zi t_mendedNumber)])), ((t 1), .inr (8, [.ref (t 2), .int (zi (o.2.1)), .int (zi tape_next), .int (zi tape_kind), .int (zi tape_place), .int (zi tape_value)])), ((t 2), .inl (κ 0, 300, .inl (zc (o.2.2))))]) H → va_D A ([((t 0), .inr (10, [.ref (t 1), .ref (t 3), .ref (t 5), .ref (t 6), .ref (t 9), .ref (t 11), .ref (t 15), .ref (t 17), .ref (t 27), .ref (t 30), zpg ad t_polygon, .int (zi t_bits), .int (zi t_mendedNumber)])), ((t 1), .inr (8, [.ref (t 2), .int (zi (o.2.1)), .int (zi tape_next), .int (zi tape_kind), .int (zi tape_place), .int (zi tape_value)])), ((t 2), .inl (κ 0, 300, .inl (zc (o.2.2))))]) → va_S A H0 H locs → decode cX10_feed pc = .ok (.ireturn, 1) → W p l e zr_X10_feed s m args below meth c H locs 0 0 Q (F0 m pc ls [.int (zi (o.1))])
set_option maxHeartbeats 4000000 in
set_option maxRecDepth 100000 in
theorem zs_X10_feed {p : Program} {l : Launch} {e : Env} {s : State} {m : MethodId} {args : Array Value} {below : List Frame} {meth : Method} {c : Code} {Q : State → Prop} {D : va_G} {κ : Nat → ClassId} {A : Nat → Prop} {H0 : Heap} (t : Nat → Nat) (mk : Nat) (ad : Nat → Nat → Nat) (t_polygon : Nat) (t_bits : Int) (t_mendedNumber : Int) (tape_length : Int) (tape_next : Int) (tape_kind : Int) (tape_place : Int) (tape_value : Int) (tape_bytes : Nat) (i1 : Int) (i2 : Int) (i3 : Int) (i4 : Int) (i5 : Int) (hx : p.tables.exec = Jvm.exec) (hb : c.code = cX10_feed) (hml : c.maxLocals = 6) (hown : s.vm.findClass RX10 = some m.cls) (hts : ∀ w ∈ wsX10_feed, w.before args s = true) (hK : va_K D vwCl (zTY κ) s) (hA : ∀ q : Nat, H0.size ≤ q → A q) (hB : zAmb D κ mk ad H0) (hBA : zApt mk ad A H0.size) (H : Heap) (locs : List Loc) (ls : Array Slot) (hP : va_P D vwCl ([((t 0), .inr (10, [.ref (t 1), .ref (t 3), .ref (t 5), .ref (t 6), .ref (t 9), .ref (t 11), .ref (t 15), .ref (t 17), .ref (t 27), .ref (t 30), zpg ad t_polygon, .int (zi t_bits), .int (zi t_mendedNumber)])), ((t 1), .inr (8, [.ref (t 2), .int (zi tape_length), .int (zi tape_next), .int (zi tape_kind), .int (zi tape_place), .int (zi tape_value)])), ((t 2), .inl (κ 0, 300, .inl (zc tape_bytes)))]) H) (hD : va_D A ([((t 0), .inr (10, [.ref (t 1), .ref (t 3), .ref (t 5), .ref (t 6), .ref (t 9), .ref (t 11), .ref (t 15), .ref (t 17), .ref (t 27), .ref (t 30), zpg ad t_polygon, .int (zi t_bits), .int (zi t_mendedNumber)])), ((t 1), .inr (8, [.ref (t 2), .int (zi tape_length), .int (zi tape_next), .int (zi tape_kind), .int (zi tape_place), .int (zi tape_value)])), ((t 2), .inl (κ 0, 300, .inl (zc tape_bytes)))])) (hS : va_S A H0 H locs) (hl : lv_has ls 6 [(0, .ref (t 0)), (1, .int (zi i1)), (2, .int (zi i2)), (3, .int (zi i3)), (4, .int (zi i4)), (5, .int (zi i5))]) (hg : Go (zQ_X10_feed p l e s m args below meth c Q D κ A H0 t mk ad t_polygon t_bits t_mendedNumber tape_next tape_kind tape_place tape_value) (zf_X10_feed mk tape_length tape_bytes i1 i2 i3 i4 i5)) : W p l e zr_X10_feed s m args below meth c H locs 0 0 Q (F0 m 0 ls []) := by
  unfold zf_X10_feed at hg
  refine lv_aload_n hx hb dX10_feed_0 rfl (lv_at hl 0 rfl) ?_
  refine va_get (D := D) (ci := 10) (v := .ref (t 1)) (C := RX10) (T := TX10) (N := 13) hx hb hts zi_X10_feed_X10 hown hK hP 0 rfl rfl 0 (by decide) (hts (.fieldLink RX10 10 "DiamondRows" "tape" "LDiamondRows$Tape;") zl_X10_feed_10) (fun _ h9 => h9) rfl dX10_feed_1 ?_
  obtain ⟨o1, ho1, hg⟩ := Go_b hg
  refine zc_vi (rest := []) ⟨hx, hb, hml, hown, hts⟩ (zc_X8_hasRoomForTwenty l D κ (fun i => t (i + 1)) tape_length tape_next tape_kind tape_place tape_value tape_bytes o1 ho1) (cwV 0 hts gX10_feed_X8_hasRoomForTwenty rfl rfl rfl hv_X8_hasRoomForTwenty ⟨Nat.le_of_ble_eq_true rfl, Nat.le_of_ble_eq_true rfl⟩) (zpreV hK (hP.sub [1, 2] rfl) 8 0 rfl rfl) rfl hl.1 rfl (Nat.le_of_ble_eq_true rfl) dX10_feed_4 ⟨Nat.zero_le _, Nat.zero_le _⟩ ?_
  refine zv_ifb_ne (tgt := 13) hx hb dX10_feed_7 (by decide) (fun c8 => ?_) (fun c8 => ?_)
  · have hg := Go_f c8 hg
    refine lv_aload_n hx hb dX10_feed_13 rfl (lv_at hl 0 rfl) ?_
    refine va_get (D := D) (ci := 10) (v := .ref (t 1)) (C := RX10) (T := TX10) (N := 13) hx hb hts zi_X10_feed_X10 hown hK hP 0 rfl rfl 0 (by decide) (hts (.fieldLink RX10 10 "DiamondRows" "tape" "LDiamondRows$Tape;") zl_X10_feed_10) (fun _ h9 => h9) rfl dX10_feed_14 ?_
    refine lv_iload_n hx hb dX10_feed_17 rfl (lv_at hl 1 rfl) ?_
    obtain ⟨o2, ho2, hg⟩ := Go_b hg
    refine zj_v (wr := [((t 0), .inr (10, [.ref (t 1), .ref (t 3), .ref (t 5), .ref (t 6), .ref (t 9), .ref (t 11), .ref (t 15), .ref (t 17), .ref (t 27), .ref (t 30), zpg ad t_polygon, .int (zi t_bits), .int (zi t_mendedNumber)]))]) (ws1 := [((t 0), .inr (10, [.ref (t 1), .ref (t 3), .ref (t 5), .ref (t 6), .ref (t 9), .ref (t 11), .ref (t 15), .ref (t 17), .ref (t 27), .ref (t 30), zpg ad t_polygon, .int (zi t_bits), .int (zi t_mendedNumber)])), ((t 1), .inr (8, [.ref (t 2), .int (zi (o2.1)), .int (zi tape_next), .int (zi tape_kind), .int (zi tape_place), .int (zi tape_value)])), ((t 2), .inl (κ 0, 300, .inl (zc (o2.2))))]) (va_runV (rest := []) ⟨hx, hb, hml, hown, hts⟩ (zc_X8_append l D κ (fun i => t (i + 1)) H.size tape_length tape_next tape_kind tape_place tape_value tape_bytes i1 o2 ho2) (cwV 1 hts gX10_feed_X8_append rfl rfl rfl hv_X8_append ⟨Nat.le_of_ble_eq_true rfl, Nat.le_of_ble_eq_true rfl⟩) (zpreWV hK (hP.sub [1, 2] rfl) (hD.sub [1, 2] (by decide) rfl) 8 0 rfl rfl) rfl rfl hl.1 rfl (lv_room (Nat.le_of_ble_eq_true rfl)) dX10_feed_18 ⟨Nat.zero_le _, Nat.zero_le _⟩) hP hD hS hA [1, 2] [0] [0, 1, 2] rfl rfl (by decide) (by decide) rfl rfl (by decide) (fun H locs hP hD hS => ?_)
    refine lv_aload_n hx hb dX10_feed_21 rfl (lv_at hl 0 rfl) ?_
    refine va_get (D := D) (ci := 10) (v := .ref (t 1)) (C := RX10) (T := TX10) (N := 13) hx hb hts zi_X10_feed_X10 hown hK hP 0 rfl rfl 0 (by decide) (hts (.fieldLink RX10 10 "DiamondRows" "tape" "LDiamondRows$Tape;") zl_X10_feed_10) (fun _ h9 => h9) rfl dX10_feed_22 ?_
    refine lv_iload_n hx hb dX10_feed_25 rfl (lv_at hl 2 rfl) ?_
    obtain ⟨o3, ho3, hg⟩ := Go_b hg
    refine zj_v (wr := [((t 0), .inr (10, [.ref (t 1), .ref (t 3), .ref (t 5), .ref (t 6), .ref (t 9), .ref (t 11), .ref (t 15), .ref (t 17), .ref (t 27), .ref (t 30), zpg ad t_polygon, .int (zi t_bits), .int (zi t_mendedNumber)]))]) (ws1 := [((t 0), .inr (10, [.ref (t 1), .ref (t 3), .ref (t 5), .ref (t 6), .ref (t 9), .ref (t 11), .ref (t 15), .ref (t 17), .ref (t 27), .ref (t 30), zpg ad t_polygon, .int (zi t_bits), .int (zi t_mendedNumber)])), ((t 1), .inr (8, [.ref (t 2), .int (zi (o3.1)), .int (zi tape_next), .int (zi tape_kind), .int (zi tape_place), .int (zi tape_value)])), ((t 2), .inl (κ 0, 300, .inl (zc (o3.2))))]) (va_runV (rest := []) ⟨hx, hb, hml, hown, hts⟩ (zc_X8_append l D κ (fun i => t (i + 1)) H.size (o2.1) tape_next tape_kind tape_place tape_value (o2.2) i2 o3 ho3) (cwV 1 hts gX10_feed_X8_append rfl rfl rfl hv_X8_append ⟨Nat.le_of_ble_eq_true rfl, Nat.le_of_ble_eq_true rfl⟩) (zpreWV hK (hP.sub [1, 2] rfl) (hD.sub [1, 2] (by decide) rfl) 8 0 rfl rfl) rfl rfl hl.1 rfl (lv_room (Nat.le_of_ble_eq_true rfl)) dX10_feed_26 ⟨Nat.zero_le _, Nat.zero_le _⟩) hP hD hS hA [1, 2] [0] [0, 1, 2] rfl rfl (by decide) (by decide) rfl rfl (by decide) (fun H locs hP hD hS => ?_)
    refine lv_aload_n hx hb dX10_feed_29 rfl (lv_at hl 0 rfl) ?_
    refine va_get (D := D) (ci := 10) (v := .ref (t 1)) (C := RX10) (T := TX10) (N := 13) hx hb hts zi_X10_feed_X10 hown hK hP 0 rfl rfl 0 (by decide) (hts (.fieldLink RX10 10 "DiamondRows" "tape" "LDiamondRows$Tape;") zl_X10_feed_10) (fun _ h9 => h9) rfl dX10_feed_30 ?_
    refine lv_iload_n hx hb dX10_feed_33 rfl (lv_at hl 3 rfl) ?_
    obtain ⟨o4, ho4, hg⟩ := Go_b hg
    refine zj_v (wr := [((t 0), .inr (10, [.ref (t 1), .ref (t 3), .ref (t 5), .ref (t 6), .ref (t 9), .ref (t 11), .ref (t 15), .ref (t 17), .ref (t 27), .ref (t 30), zpg ad t_polygon, .int (zi t_bits), .int (zi t_mendedNumber)]))]) (ws1 := [((t 0), .inr (10, [.ref (t 1), .ref (t 3), .ref (t 5), .ref (t 6), .ref (t 9), .ref (t 11), .ref (t 15), .ref (t 17), .ref (t 27), .ref (t 30), zpg ad t_polygon, .int (zi t_bits), .int (zi t_mendedNumber)])), ((t 1), .inr (8, [.ref (t 2), .int (zi (o4.1)), .int (zi tape_next), .int (zi tape_kind), .int (zi tape_place), .int (zi tape_value)])), ((t 2), .inl (κ 0, 300, .inl (zc (o4.2))))]) (va_runV (rest := []) ⟨hx, hb, hml, hown, hts⟩ (zc_X8_append l D κ (fun i => t (i + 1)) H.size (o3.1) tape_next tape_kind tape_place tape_value (o3.2) i3 o4 ho4) (cwV 1 hts gX10_feed_X8_append rfl rfl rfl hv_X8_append ⟨Nat.le_of_ble_eq_true rfl, Nat.le_of_ble_eq_true rfl⟩) (zpreWV hK (hP.sub [1, 2] rfl) (hD.sub [1, 2] (by decide) rfl) 8 0 rfl rfl) rfl rfl hl.1 rfl (lv_room (Nat.le_of_ble_eq_true rfl)) dX10_feed_34 ⟨Nat.zero_le _, Nat.zero_le _⟩) hP hD hS hA [1, 2] [0] [0, 1, 2] rfl rfl (by decide) (by decide) rfl rfl (by decide) (fun H locs hP hD hS => ?_)
    refine lv_aload_n hx hb dX10_feed_37 rfl (lv_at hl 0 rfl) ?_
    refine va_get (D := D) (ci := 10) (v := .ref (t 1)) (C := RX10) (T := TX10) (N := 13) hx hb hts zi_X10_feed_X10 hown hK hP 0 rfl rfl 0 (by decide) (hts (.fieldLink RX10 10 "DiamondRows" "tape" "LDiamondRows$Tape;") zl_X10_feed_10) (fun _ h9 => h9) rfl dX10_feed_38 ?_
    refine lv_iload hx hb dX10_feed_41 (lv_at hl 4 rfl) ?_
    obtain ⟨o5, ho5, hg⟩ := Go_b hg
    refine zj_v (wr := [((t 0), .inr (10, [.ref (t 1), .ref (t 3), .ref (t 5), .ref (t 6), .ref (t 9), .ref (t 11), .ref (t 15), .ref (t 17), .ref (t 27), .ref (t 30), zpg ad t_polygon, .int (zi t_bits), .int (zi t_mendedNumber)]))]) (ws1 := [((t 0), .inr (10, [.ref (t 1), .ref (t 3), .ref (t 5), .ref (t 6), .ref (t 9), .ref (t 11), .ref (t 15), .ref (t 17), .ref (t 27), .ref (t 30), zpg ad t_polygon, .int (zi t_bits), .int (zi t_mendedNumber)])), ((t 1), .inr (8, [.ref (t 2), .int (zi (o5.1)), .int (zi tape_next), .int (zi tape_kind), .int (zi tape_place), .int (zi tape_value)])), ((t 2), .inl (κ 0, 300, .inl (zc (o5.2))))]) (va_runV (rest := []) ⟨hx, hb, hml, hown, hts⟩ (zc_X8_append l D κ (fun i => t (i + 1)) H.size (o4.1) tape_next tape_kind tape_place tape_value (o4.2) i4 o5 ho5) (cwV 1 hts gX10_feed_X8_append rfl rfl rfl hv_X8_append ⟨Nat.le_of_ble_eq_true rfl, Nat.le_of_ble_eq_true rfl⟩) (zpreWV hK (hP.sub [1, 2] rfl) (hD.sub [1, 2] (by decide) rfl) 8 0 rfl rfl) rfl rfl hl.1 rfl (lv_room (Nat.le_of_ble_eq_true rfl)) dX10_feed_43 ⟨Nat.zero_le _, Nat.zero_le _⟩) hP hD hS hA [1, 2] [0] [0, 1, 2] rfl rfl (by decide) (by decide) rfl rfl (by decide) (fun H locs hP hD hS => ?_)
    refine lv_aload_n hx hb dX10_feed_46 rfl (lv_at hl 0 rfl) ?_
    refine va_get (D := D) (ci := 10) (v := .ref (t 1)) (C := RX10) (T := TX10) (N := 13) hx hb hts zi_X10_feed_X10 hown hK hP 0 rfl rfl 0 (by decide) (hts (.fieldLink RX10 10 "DiamondRows" "tape" "LDiamondRows$Tape;") zl_X10_feed_10) (fun _ h9 => h9) rfl dX10_feed_47 ?_
    refine lv_iload hx hb dX10_feed_50 (lv_at hl 5 rfl) ?_
    obtain ⟨o6, ho6, hg⟩ := Go_b hg
    refine zj_v (wr := [((t 0), .inr (10, [.ref (t 1), .ref (t 3), .ref (t 5), .ref (t 6), .ref (t 9), .ref (t 11), .ref (t 15), .ref (t 17), .ref (t 27), .ref (t 30), zpg ad t_polygon, .int (zi t_bits), .int (zi t_mendedNumber)]))]) (ws1 := [((t 0), .inr (10, [.ref (t 1), .ref (t 3), .ref (t 5), .ref (t 6), .ref (t 9), .ref (t 11), .ref (t 15), .ref (t 17), .ref (t 27), .ref (t 30), zpg ad t_polygon, .int (zi t_bits), .int (zi t_mendedNumber)])), ((t 1), .inr (8, [.ref (t 2), .int (zi (o6.1)), .int (zi tape_next), .int (zi tape_kind), .int (zi tape_place), .int (zi tape_value)])), ((t 2), .inl (κ 0, 300, .inl (zc (o6.2))))]) (va_runV (rest := []) ⟨hx, hb, hml, hown, hts⟩ (zc_X8_append l D κ (fun i => t (i + 1)) H.size (o5.1) tape_next tape_kind tape_place tape_value (o5.2) i5 o6 ho6) (cwV 1 hts gX10_feed_X8_append rfl rfl rfl hv_X8_append ⟨Nat.le_of_ble_eq_true rfl, Nat.le_of_ble_eq_true rfl⟩) (zpreWV hK (hP.sub [1, 2] rfl) (hD.sub [1, 2] (by decide) rfl) 8 0 rfl rfl) rfl rfl hl.1 rfl (lv_room (Nat.le_of_ble_eq_true rfl)) dX10_feed_52 ⟨Nat.zero_le _, Nat.zero_le _⟩) hP hD hS hA [1, 2] [0] [0, 1, 2] rfl rfl (by decide) (by decide) rfl rfl (by decide) (fun H locs hP hD hS => ?_)
    refine lv_aload_n hx hb dX10_feed_55 rfl (lv_at hl 0 rfl) ?_
    refine va_get (D := D) (ci := 10) (v := .ref (t 1)) (C := RX10) (T := TX10) (N := 13) hx hb hts zi_X10_feed_X10 hown hK hP 0 rfl rfl 0 (by decide) (hts (.fieldLink RX10 10 "DiamondRows" "tape" "LDiamondRows$Tape;") zl_X10_feed_10) (fun _ h9 => h9) rfl dX10_feed_56 ?_
    obtain ⟨o7, ho7, hg⟩ := Go_b hg
    refine zc_vi (rest := []) ⟨hx, hb, hml, hown, hts⟩ (zc_X8_size l D κ (fun i => t (i + 1)) (o6.1) tape_next tape_kind tape_place tape_value (o6.2) o7 ho7) (cwV 0 hts gX10_feed_X8_size rfl rfl rfl hv_X8_size ⟨Nat.le_of_ble_eq_true rfl, Nat.le_of_ble_eq_true rfl⟩) (zpreV hK (hP.sub [1, 2] rfl) 8 0 rfl rfl) rfl hl.1 rfl (Nat.le_of_ble_eq_true rfl) dX10_feed_59 ⟨Nat.zero_le _, Nat.zero_le _⟩ ?_
    exact (Go_s hg) _ _ _ _ hP hD hS dX10_feed_62
  · have hg := Go_t c8 hg
    refine zv_bipush hx hb dX10_feed_10 (by decide) ?_
    exact (Go_s hg) _ _ _ _ hP hD hS dX10_feed_12
set_option maxHeartbeats 4000000 in
set_option maxRecDepth 100000 in
theorem zc_X10_feed (l : Launch) (D : va_G) (κ : Nat → ClassId) (t : Nat → Nat) (mk : Nat) (ad : Nat → Nat → Nat) (sz : Nat) (t_polygon : Nat) (t_bits : Int) (t_mendedNumber : Int) (tape_length : Int) (tape_next : Int) (tape_kind : Int) (tape_place : Int) (tape_value : Int) (tape_bytes : Nat) (i1 : Int) (i2 : Int) (i3 : Int) (i4 : Int) (i5 : Int) (out : Int × Int × Nat) (h : zf_X10_feed mk tape_length tape_bytes i1 i2 i3 i4 i5 = some out) : Met l yX10_feed wsX10_feed zr_X10_feed (va_Pc [.ref (t 0), .int (zi i1), .int (zi i2), .int (zi i3), .int (zi i4), .int (zi i5)] (zWa D κ mk ad ([((t 0), .inr (10, [.ref (t 1), .ref (t 3), .ref (t 5), .ref (t 6), .ref (t 9), .ref (t 11), .ref (t 15), .ref (t 17), .ref (t 27), .ref (t 30), zpg ad t_polygon, .int (zi t_bits), .int (zi t_mendedNumber)])), ((t 1), .inr (8, [.ref (t 2), .int (zi tape_length), .int (zi tape_next), .int (zi tape_kind), .int (zi tape_place), .int (zi tape_value)])), ((t 2), .inl (κ 0, 300, .inl (zc tape_bytes)))]) sz)) (va_Qi (fun r (_ : Unit) => r = zi (out.1)) (fun _ => zB D κ (va_A ([((t 0), .inr (10, [.ref (t 1), .ref (t 3), .ref (t 5), .ref (t 6), .ref (t 9), .ref (t 11), .ref (t 15), .ref (t 17), .ref (t 27), .ref (t 30), zpg ad t_polygon, .int (zi t_bits), .int (zi t_mendedNumber)])), ((t 1), .inr (8, [.ref (t 2), .int (zi tape_length), .int (zi tape_next), .int (zi tape_kind), .int (zi tape_place), .int (zi tape_value)])), ((t 2), .inl (κ 0, 300, .inl (zc tape_bytes)))]) sz) ([((t 0), .inr (10, [.ref (t 1), .ref (t 3), .ref (t 5), .ref (t 6), .ref (t 9), .ref (t 11), .ref (t 15), .ref (t 17), .ref (t 27), .ref (t 30), zpg ad t_polygon, .int (zi t_bits), .int (zi t_mendedNumber)])), ((t 1), .inr (8, [.ref (t 2), .int (zi (out.2.1)), .int (zi tape_next), .int (zi tape_kind), .int (zi tape_place), .int (zi tape_value)])), ((t 2), .inl (κ 0, 300, .inl (zc (out.2.2))))])) (va_A ([((t 0), .inr (10, [.ref (t 1), .ref (t 3), .ref (t 5), .ref (t 6), .ref (t 9), .ref (t 11), .ref (t 15), .ref (t 17), .ref (t 27), .ref (t 30), zpg ad t_polygon, .int (zi t_bits), .int (zi t_mendedNumber)])), ((t 1), .inr (8, [.ref (t 2), .int (zi tape_length), .int (zi tape_next), .int (zi tape_kind), .int (zi tape_place), .int (zi tape_value)])), ((t 2), .inl (κ 0, 300, .inl (zc tape_bytes)))]) sz)) 0 0 (va_A ([((t 0), .inr (10, [.ref (t 1), .ref (t 3), .ref (t 5), .ref (t 6), .ref (t 9), .ref (t 11), .ref (t 15), .ref (t 17), .ref (t 27), .ref (t 30), zpg ad t_polygon, .int (zi t_bits), .int (zi t_mendedNumber)])), ((t 1), .inr (8, [.ref (t 2), .int (zi tape_length), .int (zi tape_next), .int (zi tape_kind), .int (zi tape_place), .int (zi tape_value)])), ((t 2), .inl (κ 0, 300, .inl (zc tape_bytes)))]) sz) := by
  refine Met.ofW (cc := cX10_feed) (maxL := 6) (ret := (some .int)) (by decide +kernel) rfl ?_
  intro p e s m args below meth c s₁ B hml hv
  obtain ⟨rfl, hsz, hP, hK, hD0, hB, hBA⟩ := hv
  have hx := B.exec
  have hb := B.bytes
  have hr := B.returns
  have hts := atoms_spec (ws := wsX10_feed) B.pre
  have hown : s.vm.findClass RX10 = some m.cls := findClass_of_methodNamed B.named
  have hlocks := B.notSynchronized
  subst hsz
  have hD := hD0.self (sz := s.heap.size)
  generalize hAe : va_A ([((t 0), .inr (10, [.ref (t 1), .ref (t 3), .ref (t 5), .ref (t 6), .ref (t 9), .ref (t 11), .ref (t 15), .ref (t 17), .ref (t 27), .ref (t 30), zpg ad t_polygon, .int (zi t_bits), .int (zi t_mendedNumber)])), ((t 1), .inr (8, [.ref (t 2), .int (zi tape_length), .int (zi tape_next), .int (zi tape_kind), .int (zi tape_place), .int (zi tape_value)])), ((t 2), .inl (κ 0, 300, .inl (zc tape_bytes)))]) s.heap.size = A at hD hBA ⊢
  have hA : ∀ q : Nat, s.heap.size ≤ q → A q := fun q h => by rw [← hAe]; exact Or.inr h
  have hS : va_S A s.heap s.heap [] := va_S.rf
  have hl := lv_entry ([.ref (t 0), .int (zi i1), .int (zi i2), .int (zi i3), .int (zi i4), .int (zi i5)]) (n := 6) (Nat.le_of_ble_eq_true rfl)
  rw [lg_entry_eq]
  generalize (lg_sl ([.ref (t 0), .int (zi i1), .int (zi i2), .int (zi i3), .int (zi i4), .int (zi i5)]) ++ List.replicate (6 - (lg_sl ([.ref (t 0), .int (zi i1), .int (zi i2), .int (zi i3), .int (zi i4), .int (zi i5)])).length) Slot.unset).toArray = ls at hl ⊢
  have hl : lv_has ls 6 [(0, .ref (t 0)), (1, .int (zi i1)), (2, .int (zi i2)), (3, .int (zi i3)), (4, .int (zi i4)), (5, .int (zi i5))] := hl
  refine zs_X10_feed t mk ad t_polygon t_bits t_mendedNumber tape_length tape_next tape_kind tape_place tape_value tape_bytes i1 i2 i3 i4 i5 hx hb hml hown hts hK hA hB hBA s.heap [] ls hP hD hS hl ⟨out, h, ?_⟩
  exact fun H locs ls pc hP hD hS hd => W.iret hx hb hr (fun t ht hW => ⟨⟨_, (), rfl, rfl, by rw [ht]; exact hP, va_K.moved hW.alike hK, hD⟩, hS.F ht⟩) hS.2.2 hd
/-! DiamondRows.end(I)I -/
abbrev zr_X10_end : Room := { frames := 1, cells := 0, slots := 0, locals := 21 }
noncomputable def zf_X10_end (mk : Nat) (tape_length : Int) (i1 : Int) : Option (Int × Int) :=
  if zout i1 then none else
  if i1 < 0 then
  some ((-1 : Int), tape_length)
  else
  Option.bind (zf_X8_size tape_length) (fun o2 =>
  if zout o2 then none else
  if i1 ≤ o2 then
  Option.bind (zf_X8_shorten tape_length i1) (fun o4 =>
  some (i1, o4))
  else
  some ((-1 : Int), tape_length))
theorem zi_X10_end_X10 : ∀ w ∈ u_ws RX10 TX10 13, w ∈ wsX10_end := fun w h => (List.mem_cons_of_mem _ (List.mem_append_right _ (List.mem_append_left _ h)))
theorem zl_X10_end_10 : Cond.fieldLink RX10 10 "DiamondRows" "tape" "LDiamondRows$Tape;" ∈ wsX10_end := (List.mem_cons_of_mem _ (List.mem_append_left _ (List.mem_of_getElem? (i := 0) rfl)))
def zQ_X10_end (p : Program) (l : Launch) (e : Env) (s : State) (m : MethodId) (args : Array Value) (below : List Frame) (meth : Method) (c : Code) (Q : State → Prop) (D : va_G) (κ : Nat → ClassId) (A : Nat → Prop) (H0 : Heap) (t : Nat → Nat) (mk : Nat) (ad : Nat → Nat → Nat) (t_polygon : Nat) (t_bits : Int) (t_mendedNumber : Int) (tape_next : Int) (tape_kind : Int) (tape_place : Int) (tape_value : Int) (tape_bytes : Nat) (o : Int × Int) : Prop := ∀ (H : Heap) (locs : List Loc) (ls : Array Slot) (pc : Nat), va_P D vwCl ([((t 0), .inr (10, [.ref (t 1), .ref (t 3), .ref (t 5), .ref (t 6), .ref (t 9), .ref (t 11), .ref (t 15), .ref (t 17), .ref (t 27), .ref (t 30), zpg ad t_polygon, .int (zi t_bits), .int (zi t_mendedNumber)])), ((t 1), .inr (8, [.ref (t 2), .int (zi (o.2)), .int (zi tape_next), .int (zi tape_kind), .int (zi tape_place), .int (zi tape_value)])), ((t 2), .inl (κ 0, 300, .inl (zc tape_bytes)))]) H → va_D A ([((t 0), .inr (10, [.ref (t 1), .ref (t 3), .ref (t 5), .ref (t 6), .ref (t 9), .ref (t 11), .ref (t 15), .ref (t 17), .ref (t 27), .ref (t 30), zpg ad t_polygon, .int (zi t_bits), .int (zi t_mendedNumber)])), ((t 1), .inr (8, [.ref (t 2), .int (zi (o.2)), .int (zi tape_next), .int (zi tape_kind), .int (zi tape_place), .int (zi tape_value)])), ((t 2), .inl (κ 0, 300, .inl (zc tape_bytes)))]) → va_S A H0 H locs → decode cX10_end pc = .ok (.ireturn, 1) → W p l e zr_X10_end s m args below meth c H locs 0 0 Q (F0 m pc ls [.int (zi (o.1))])
set_option maxHeartbeats 4000000 in
set_option maxRecDepth 100000 in
theorem zs_X10_end {p : Program} {l : Launch} {e : Env} {s : State} {m : MethodId} {args : Array Value} {below : List Frame} {meth : Method} {c : Code} {Q : State → Prop} {D : va_G} {κ : Nat → ClassId} {A : Nat → Prop} {H0 : Heap} (t : Nat → Nat) (mk : Nat) (ad : Nat → Nat → Nat) (t_polygon : Nat) (t_bits : Int) (t_mendedNumber : Int) (tape_length : Int) (tape_next : Int) (tape_kind : Int) (tape_place : Int) (tape_value : Int) (tape_bytes : Nat) (i1 : Int) (hx : p.tables.exec = Jvm.exec) (hb : c.code = cX10_end) (hml : c.maxLocals = 2) (hown : s.vm.findClass RX10 = some m.cls) (hts : ∀ w ∈ wsX10_end, w.before args s = true) (hK : va_K D vwCl (zTY κ) s) (hA : ∀ q : Nat, H0.size ≤ q → A q) (hB : zAmb D κ mk ad H0) (hBA : zApt mk ad A H0.size) (H : Heap) (locs : List Loc) (ls : Array Slot) (hP : va_P D vwCl ([((t 0), .inr (10, [.ref (t 1), .ref (t 3), .ref (t 5), .ref (t 6), .ref (t 9), .ref (t 11), .ref (t 15), .ref (t 17), .ref (t 27), .ref (t 30), zpg ad t_polygon, .int (zi t_bits), .int (zi t_mendedNumber)])), ((t 1), .inr (8, [.ref (t 2), .int (zi tape_length), .int (zi tape_next), .int (zi tape_kind), .int (zi tape_place), .int (zi tape_value)])), ((t 2), .inl (κ 0, 300, .inl (zc tape_bytes)))]) H) (hD : va_D A ([((t 0), .inr (10, [.ref (t 1), .ref (t 3), .ref (t 5), .ref (t 6), .ref (t 9), .ref (t 11), .ref (t 15), .ref (t 17), .ref (t 27), .ref (t 30), zpg ad t_polygon, .int (zi t_bits), .int (zi t_mendedNumber)])), ((t 1), .inr (8, [.ref (t 2), .int (zi tape_length), .int (zi tape_next), .int (zi tape_kind), .int (zi tape_place), .int (zi tape_value)])), ((t 2), .inl (κ 0, 300, .inl (zc tape_bytes)))])) (hS : va_S A H0 H locs) (hl : lv_has ls 2 [(0, .ref (t 0)), (1, .int (zi i1))]) (hg : Go (zQ_X10_end p l e s m args below meth c Q D κ A H0 t mk ad t_polygon t_bits t_mendedNumber tape_next tape_kind tape_place tape_value tape_bytes) (zf_X10_end mk tape_length i1)) : W p l e zr_X10_end s m args below meth c H locs 0 0 Q (F0 m 0 ls []) := by
  unfold zf_X10_end at hg
  refine lv_iload_n hx hb dX10_end_0 rfl (lv_at hl 1 rfl) ?_
  obtain ⟨b1, hg⟩ := Go_n hg
  refine zv_if_lt (tgt := 15) hx hb dX10_end_1 (by decide) b1 (fun c6 => ?_) (fun c6 => ?_)
  · have hg := Go_t c6 hg
    refine zv_iconst hx hb dX10_end_15 ?_
    exact (Go_s hg) _ _ _ _ hP hD hS dX10_end_16
  · have hg := Go_f c6 hg
    refine lv_iload_n hx hb dX10_end_4 rfl (lv_at hl 1 rfl) ?_
    refine lv_aload_n hx hb dX10_end_5 rfl (lv_at hl 0 rfl) ?_
    refine va_get (D := D) (ci := 10) (v := .ref (t 1)) (C := RX10) (T := TX10) (N := 13) hx hb hts zi_X10_end_X10 hown hK hP 0 rfl rfl 0 (by decide) (hts (.fieldLink RX10 10 "DiamondRows" "tape" "LDiamondRows$Tape;") zl_X10_end_10) (fun _ h9 => h9) rfl dX10_end_6 ?_
    obtain ⟨o2, ho2, hg⟩ := Go_b hg
    refine zc_vi (rest := [.int (zi i1)]) ⟨hx, hb, hml, hown, hts⟩ (zc_X8_size l D κ (fun i => t (i + 1)) tape_length tape_next tape_kind tape_place tape_value tape_bytes o2 ho2) (cwV 0 hts gX10_end_X8_size rfl rfl rfl hv_X8_size ⟨Nat.le_of_ble_eq_true rfl, Nat.le_of_ble_eq_true rfl⟩) (zpreV hK (hP.sub [1, 2] rfl) 8 0 rfl rfl) rfl hl.1 rfl (Nat.le_of_ble_eq_true rfl) dX10_end_9 ⟨Nat.zero_le _, Nat.zero_le _⟩ ?_
    obtain ⟨b3, hg⟩ := Go_n hg
    refine zv_icmp_le (tgt := 17) hx hb dX10_end_12 (by decide) b1 b3 (fun c5 => ?_) (fun c5 => ?_)
    · have hg := Go_t c5 hg
      refine lv_aload_n hx hb dX10_end_17 rfl (lv_at hl 0 rfl) ?_
      refine va_get (D := D) (ci := 10) (v := .ref (t 1)) (C := RX10) (T := TX10) (N := 13) hx hb hts zi_X10_end_X10 hown hK hP 0 rfl rfl 0 (by decide) (hts (.fieldLink RX10 10 "DiamondRows" "tape" "LDiamondRows$Tape;") zl_X10_end_10) (fun _ h9 => h9) rfl dX10_end_18 ?_
      refine lv_iload_n hx hb dX10_end_21 rfl (lv_at hl 1 rfl) ?_
      obtain ⟨o4, ho4, hg⟩ := Go_b hg
      refine zj_v (wr := [((t 0), .inr (10, [.ref (t 1), .ref (t 3), .ref (t 5), .ref (t 6), .ref (t 9), .ref (t 11), .ref (t 15), .ref (t 17), .ref (t 27), .ref (t 30), zpg ad t_polygon, .int (zi t_bits), .int (zi t_mendedNumber)]))]) (ws1 := [((t 0), .inr (10, [.ref (t 1), .ref (t 3), .ref (t 5), .ref (t 6), .ref (t 9), .ref (t 11), .ref (t 15), .ref (t 17), .ref (t 27), .ref (t 30), zpg ad t_polygon, .int (zi t_bits), .int (zi t_mendedNumber)])), ((t 1), .inr (8, [.ref (t 2), .int (zi o4), .int (zi tape_next), .int (zi tape_kind), .int (zi tape_place), .int (zi tape_value)])), ((t 2), .inl (κ 0, 300, .inl (zc tape_bytes)))]) (va_runV (rest := []) ⟨hx, hb, hml, hown, hts⟩ (zc_X8_shorten l D κ (fun i => t (i + 1)) H.size tape_length tape_next tape_kind tape_place tape_value tape_bytes i1 o4 ho4) (cwV 1 hts gX10_end_X8_shorten rfl rfl rfl hv_X8_shorten ⟨Nat.le_of_ble_eq_true rfl, Nat.le_of_ble_eq_true rfl⟩) (zpreWV hK (hP.sub [1, 2] rfl) (hD.sub [1, 2] (by decide) rfl) 8 0 rfl rfl) rfl rfl hl.1 rfl (lv_room (Nat.le_of_ble_eq_true rfl)) dX10_end_22 ⟨Nat.zero_le _, Nat.zero_le _⟩) hP hD hS hA [1, 2] [0] [0, 1, 2] rfl rfl (by decide) (by decide) rfl rfl (by decide) (fun H locs hP hD hS => ?_)
      refine lv_iload_n hx hb dX10_end_25 rfl (lv_at hl 1 rfl) ?_
      exact (Go_s hg) _ _ _ _ hP hD hS dX10_end_26
    · have hg := Go_f c5 hg
      refine zv_iconst hx hb dX10_end_15 ?_
      exact (Go_s hg) _ _ _ _ hP hD hS dX10_end_16
set_option maxHeartbeats 4000000 in
set_option maxRecDepth 100000 in
theorem zc_X10_end (l : Launch) (D : va_G) (κ : Nat → ClassId) (t : Nat → Nat) (mk : Nat) (ad : Nat → Nat → Nat) (sz : Nat) (t_polygon : Nat) (t_bits : Int) (t_mendedNumber : Int) (tape_length : Int) (tape_next : Int) (tape_kind : Int) (tape_place : Int) (tape_value : Int) (tape_bytes : Nat) (i1 : Int) (out : Int × Int) (h : zf_X10_end mk tape_length i1 = some out) : Met l yX10_end wsX10_end zr_X10_end (va_Pc [.ref (t 0), .int (zi i1)] (zWa D κ mk ad ([((t 0), .inr (10, [.ref (t 1), .ref (t 3), .ref (t 5), .ref (t 6), .ref (t 9), .ref (t 11), .ref (t 15), .ref (t 17), .ref (t 27), .ref (t 30), zpg ad t_polygon, .int (zi t_bits), .int (zi t_mendedNumber)])), ((t 1), .inr (8, [.ref (t 2), .int (zi tape_length), .int (zi tape_next), .int (zi tape_kind), .int (zi tape_place), .int (zi tape_value)])), ((t 2), .inl (κ 0, 300, .inl (zc tape_bytes)))]) sz)) (va_Qi (fun r (_ : Unit) => r = zi (out.1)) (fun _ => zB D κ (va_A ([((t 0), .inr (10, [.ref (t 1), .ref (t 3), .ref (t 5), .ref (t 6), .ref (t 9), .ref (t 11), .ref (t 15), .ref (t 17), .ref (t 27), .ref (t 30), zpg ad t_polygon, .int (zi t_bits), .int (zi t_mendedNumber)])), ((t 1), .inr (8, [.ref (t 2), .int (zi tape_length), .int (zi tape_next), .int (zi tape_kind), .int (zi tape_place), .int (zi tape_value)])), ((t 2), .inl (κ 0, 300, .inl (zc tape_bytes)))]) sz) ([((t 0), .inr (10, [.ref (t 1), .ref (t 3), .ref (t 5), .ref (t 6), .ref (t 9), .ref (t 11), .ref (t 15), .ref (t 17), .ref (t 27), .ref (t 30), zpg ad t_polygon, .int (zi t_bits), .int (zi t_mendedNumber)])), ((t 1), .inr (8, [.ref (t 2), .int (zi (out.2)), .int (zi tape_next), .int (zi tape_kind), .int (zi tape_place), .int (zi tape_value)])), ((t 2), .inl (κ 0, 300, .inl (zc tape_bytes)))])) (va_A ([((t 0), .inr (10, [.ref (t 1), .ref (t 3), .ref (t 5), .ref (t 6), .ref (t 9), .ref (t 11), .ref (t 15), .ref (t 17), .ref (t 27), .ref (t 30), zpg ad t_polygon, .int (zi t_bits), .int (zi t_mendedNumber)])), ((t 1), .inr (8, [.ref (t 2), .int (zi tape_length), .int (zi tape_next), .int (zi tape_kind), .int (zi tape_place), .int (zi tape_value)])), ((t 2), .inl (κ 0, 300, .inl (zc tape_bytes)))]) sz)) 0 0 (va_A ([((t 0), .inr (10, [.ref (t 1), .ref (t 3), .ref (t 5), .ref (t 6), .ref (t 9), .ref (t 11), .ref (t 15), .ref (t 17), .ref (t 27), .ref (t 30), zpg ad t_polygon, .int (zi t_bits), .int (zi t_mendedNumber)])), ((t 1), .inr (8, [.ref (t 2), .int (zi tape_length), .int (zi tape_next), .int (zi tape_kind), .int (zi tape_place), .int (zi tape_value)])), ((t 2), .inl (κ 0, 300, .inl (zc tape_bytes)))]) sz) := by
  refine Met.ofW (cc := cX10_end) (maxL := 2) (ret := (some .int)) (by decide +kernel) rfl ?_
  intro p e s m args below meth c s₁ B hml hv
  obtain ⟨rfl, hsz, hP, hK, hD0, hB, hBA⟩ := hv
  have hx := B.exec
  have hb := B.bytes
  have hr := B.returns
  have hts := atoms_spec (ws := wsX10_end) B.pre
  have hown : s.vm.findClass RX10 = some m.cls := findClass_of_methodNamed B.named
  have hlocks := B.notSynchronized
  subst hsz
  have hD := hD0.self (sz := s.heap.size)
  generalize hAe : va_A ([((t 0), .inr (10, [.ref (t 1), .ref (t 3), .ref (t 5), .ref (t 6), .ref (t 9), .ref (t 11), .ref (t 15), .ref (t 17), .ref (t 27), .ref (t 30), zpg ad t_polygon, .int (zi t_bits), .int (zi t_mendedNumber)])), ((t 1), .inr (8, [.ref (t 2), .int (zi tape_length), .int (zi tape_next), .int (zi tape_kind), .int (zi tape_place), .int (zi tape_value)])), ((t 2), .inl (κ 0, 300, .inl (zc tape_bytes)))]) s.heap.size = A at hD hBA ⊢
  have hA : ∀ q : Nat, s.heap.size ≤ q → A q := fun q h => by rw [← hAe]; exact Or.inr h
  have hS : va_S A s.heap s.heap [] := va_S.rf
  have hl := lv_entry ([.ref (t 0), .int (zi i1)]) (n := 2) (Nat.le_of_ble_eq_true rfl)
  rw [lg_entry_eq]
  generalize (lg_sl ([.ref (t 0), .int (zi i1)]) ++ List.replicate (2 - (lg_sl ([.ref (t 0), .int (zi i1)])).length) Slot.unset).toArray = ls at hl ⊢
  have hl : lv_has ls 2 [(0, .ref (t 0)), (1, .int (zi i1))] := hl
  refine zs_X10_end t mk ad t_polygon t_bits t_mendedNumber tape_length tape_next tape_kind tape_place tape_value tape_bytes i1 hx hb hml hown hts hK hA hB hBA s.heap [] ls hP hD hS hl ⟨out, h, ?_⟩
  exact fun H locs ls pc hP hD hS hd => W.iret hx hb hr (fun t ht hW => ⟨⟨_, (), rfl, rfl, by rw [ht]; exact hP, va_K.moved hW.alike hK, hD⟩, hS.F ht⟩) hS.2.2 hd
/-! DiamondRows.become(LDiamondRows$Polygon;I)V -/
abbrev zr_X10_become : Room := { frames := 1, cells := 0, slots := 0, locals := 20 }
noncomputable def zf_X10_become (mk : Nat) (t_polygon : Nat) (t_bits : Int) (sightings_size : Int) (sightings_rights : Int) (sightings_latest : Int) (n1 : Nat) (i2 : Int) : Option (Nat × Int × Int × Int × Int) :=
  if zno mk n1 then none else
  Option.bind (zf_X5_corners n1) (fun o2 =>
  if zno mk t_polygon then none else
  Option.bind (zf_X5_corners t_polygon) (fun o4 =>
  if zout o2 then none else
  if zout o4 then none else
  if o2 = o4 then
  some (n1, i2, sightings_size, sightings_rights, sightings_latest)
  else
  Option.bind (zf_X7_forget sightings_size sightings_rights sightings_latest) (fun o7 =>
  some (n1, i2, (o7.1), (o7.2.1), (o7.2.2)))))
theorem zi_X10_become_X10 : ∀ w ∈ u_ws RX10 TX10 13, w ∈ wsX10_become := fun w h => (List.mem_cons_of_mem _ (List.mem_append_right _ (List.mem_append_left _ h)))
theorem zl_X10_become_61 : Cond.fieldLink RX10 61 "DiamondRows" "sightings" "LDiamondRows$Sightings;" ∈ wsX10_become := (List.mem_cons_of_mem _ (List.mem_append_left _ (List.mem_of_getElem? (i := 1) rfl)))
theorem zl_X10_become_84 : Cond.fieldLink RX10 84 "DiamondRows" "polygon" "LDiamondRows$Polygon;" ∈ wsX10_become := (List.mem_cons_of_mem _ (List.mem_append_left _ (List.mem_of_getElem? (i := 0) rfl)))
theorem zl_X10_become_94 : Cond.fieldLink RX10 94 "DiamondRows" "bits" "I" ∈ wsX10_become := (List.mem_cons_of_mem _ (List.mem_append_left _ (List.mem_of_getElem? (i := 2) rfl)))
def zQ_X10_become (p : Program) (l : Launch) (e : Env) (s : State) (m : MethodId) (args : Array Value) (below : List Frame) (meth : Method) (c : Code) (Q : State → Prop) (D : va_G) (κ : Nat → ClassId) (A : Nat → Prop) (H0 : Heap) (t : Nat → Nat) (mk : Nat) (ad : Nat → Nat → Nat) (t_mendedNumber : Int) (sightings_seenStep : Nat) (sightings_seenFrom : Nat) (sightings_seenTo : Nat) (sightings_seenValue : Nat) (sightings_timesRight : Nat) (sightings_rightStep : Nat) (sightings_rightOf : Nat) (sightings_rightValue : Nat) (sightings_knownValue : Nat) (n1 : Nat) (o : Nat × Int × Int × Int × Int) : Prop := ∀ (H : Heap) (locs : List Loc) (ls : Array Slot) (pc : Nat), va_P D vwCl ([((t 0), .inr (10, [.ref (t 1), .ref (t 3), .ref (t 5), .ref (t 6), .ref (t 9), .ref (t 11), .ref (t 15), .ref (t 17), .ref (t 27), .ref (t 30), zpg ad (o.1), .int (zi (o.2.1)), .int (zi t_mendedNumber)])), ((t 17), .inr (7, [.ref (t 18), .ref (t 19), .ref (t 20), .ref (t 21), .ref (t 22), .ref (t 23), .ref (t 24), .ref (t 25), .ref (t 26), .int (zi (o.2.2.1)), .int (zi (o.2.2.2.1)), .int (zi (o.2.2.2.2))])), ((t 18), .inl (κ 1, 20, .inl (zc sightings_seenStep))), ((t 19), .inl (κ 1, 20, .inl (zc sightings_seenFrom))), ((t 20), .inl (κ 1, 20, .inl (zc sightings_seenTo))), ((t 21), .inl (κ 1, 20, .inl (zc sightings_seenValue))), ((t 22), .inl (κ 1, 20, .inl (zc sightings_timesRight))), ((t 23), .inl (κ 1, 20, .inl (zc sightings_rightStep))), ((t 24), .inl (κ 1, 20, .inl (zc sightings_rightOf))), ((t 25), .inl (κ 1, 20, .inl (zc sightings_rightValue))), ((t 26), .inl (κ 1, 20, .inl (zc sightings_knownValue)))]) H → va_D A ([((t 0), .inr (10, [.ref (t 1), .ref (t 3), .ref (t 5), .ref (t 6), .ref (t 9), .ref (t 11), .ref (t 15), .ref (t 17), .ref (t 27), .ref (t 30), zpg ad (o.1), .int (zi (o.2.1)), .int (zi t_mendedNumber)])), ((t 17), .inr (7, [.ref (t 18), .ref (t 19), .ref (t 20), .ref (t 21), .ref (t 22), .ref (t 23), .ref (t 24), .ref (t 25), .ref (t 26), .int (zi (o.2.2.1)), .int (zi (o.2.2.2.1)), .int (zi (o.2.2.2.2))])), ((t 18), .inl (κ 1, 20, .inl (zc sightings_seenStep))), ((t 19), .inl (κ 1, 20, .inl (zc sightings_seenFrom))), ((t 20), .inl (κ 1, 20, .inl (zc sightings_seenTo))), ((t 21), .inl (κ 1, 20, .inl (zc sightings_seenValue))), ((t 22), .inl (κ 1, 20, .inl (zc sightings_timesRight))), ((t 23), .inl (κ 1, 20, .inl (zc sightings_rightStep))), ((t 24), .inl (κ 1, 20, .inl (zc sightings_rightOf))), ((t 25), .inl (κ 1, 20, .inl (zc sightings_rightValue))), ((t 26), .inl (κ 1, 20, .inl (zc sightings_knownValue)))]) → va_S A H0 H locs → decode cX10_become pc = .ok (.return_, 1) → W p l e zr_X10_become s m args below meth c H locs 0 0 Q (F0 m pc ls [])
set_option maxHeartbeats 4000000 in
set_option maxRecDepth 100000 in
theorem zs_X10_become {p : Program} {l : Launch} {e : Env} {s : State} {m : MethodId} {args : Array Value} {below : List Frame} {meth : Method} {c : Code} {Q : State → Prop} {D : va_G} {κ : Nat → ClassId} {A : Nat → Prop} {H0 : Heap} (t : Nat → Nat) (mk : Nat) (ad : Nat → Nat → Nat) (t_polygon : Nat) (t_bits : Int) (t_mendedNumber : Int) (sightings_size : Int) (sightings_rights : Int) (sightings_latest : Int) (sightings_seenStep : Nat) (sightings_seenFrom : Nat) (sightings_seenTo : Nat) (sightings_seenValue : Nat) (sightings_timesRight : Nat) (sightings_rightStep : Nat) (sightings_rightOf : Nat) (sightings_rightValue : Nat) (sightings_knownValue : Nat) (n1 : Nat) (i2 : Int) (hx : p.tables.exec = Jvm.exec) (hb : c.code = cX10_become) (hml : c.maxLocals = 3) (hown : s.vm.findClass RX10 = some m.cls) (hts : ∀ w ∈ wsX10_become, w.before args s = true) (hK : va_K D vwCl (zTY κ) s) (hA : ∀ q : Nat, H0.size ≤ q → A q) (hB : zAmb D κ mk ad H0) (hBA : zApt mk ad A H0.size) (H : Heap) (locs : List Loc) (ls : Array Slot) (hP : va_P D vwCl ([((t 0), .inr (10, [.ref (t 1), .ref (t 3), .ref (t 5), .ref (t 6), .ref (t 9), .ref (t 11), .ref (t 15), .ref (t 17), .ref (t 27), .ref (t 30), zpg ad t_polygon, .int (zi t_bits), .int (zi t_mendedNumber)])), ((t 17), .inr (7, [.ref (t 18), .ref (t 19), .ref (t 20), .ref (t 21), .ref (t 22), .ref (t 23), .ref (t 24), .ref (t 25), .ref (t 26), .int (zi sightings_size), .int (zi sightings_rights), .int (zi sightings_latest)])), ((t 18), .inl (κ 1, 20, .inl (zc sightings_seenStep))), ((t 19), .inl (κ 1, 20, .inl (zc sightings_seenFrom))), ((t 20), .inl (κ 1, 20, .inl (zc sightings_seenTo))), ((t 21), .inl (κ 1, 20, .inl (zc sightings_seenValue))), ((t 22), .inl (κ 1, 20, .inl (zc sightings_timesRight))), ((t 23), .inl (κ 1, 20, .inl (zc sightings_rightStep))), ((t 24), .inl (κ 1, 20, .inl (zc sightings_rightOf))), ((t 25), .inl (κ 1, 20, .inl (zc sightings_rightValue))), ((t 26), .inl (κ 1, 20, .inl (zc sightings_knownValue)))]) H) (hD : va_D A ([((t 0), .inr (10, [.ref (t 1), .ref (t 3), .ref (t 5), .ref (t 6), .ref (t 9), .ref (t 11), .ref (t 15), .ref (t 17), .ref (t 27), .ref (t 30), zpg ad t_polygon, .int (zi t_bits), .int (zi t_mendedNumber)])), ((t 17), .inr (7, [.ref (t 18), .ref (t 19), .ref (t 20), .ref (t 21), .ref (t 22), .ref (t 23), .ref (t 24), .ref (t 25), .ref (t 26), .int (zi sightings_size), .int (zi sightings_rights), .int (zi sightings_latest)])), ((t 18), .inl (κ 1, 20, .inl (zc sightings_seenStep))), ((t 19), .inl (κ 1, 20, .inl (zc sightings_seenFrom))), ((t 20), .inl (κ 1, 20, .inl (zc sightings_seenTo))), ((t 21), .inl (κ 1, 20, .inl (zc sightings_seenValue))), ((t 22), .inl (κ 1, 20, .inl (zc sightings_timesRight))), ((t 23), .inl (κ 1, 20, .inl (zc sightings_rightStep))), ((t 24), .inl (κ 1, 20, .inl (zc sightings_rightOf))), ((t 25), .inl (κ 1, 20, .inl (zc sightings_rightValue))), ((t 26), .inl (κ 1, 20, .inl (zc sightings_knownValue)))])) (hS : va_S A H0 H locs) (hl : lv_has ls 3 [(0, .ref (t 0)), (1, .ref (ad n1 0)), (2, .int (zi i2))]) (hg : Go (zQ_X10_become p l e s m args below meth c Q D κ A H0 t mk ad t_mendedNumber sightings_seenStep sightings_seenFrom sightings_seenTo sightings_seenValue sightings_timesRight sightings_rightStep sightings_rightOf sightings_rightValue sightings_knownValue n1) (zf_X10_become mk t_polygon t_bits sightings_size sightings_rights sightings_latest n1 i2)) : W p l e zr_X10_become s m args below meth c H locs 0 0 Q (F0 m 0 ls []) := by
  unfold zf_X10_become at hg
  refine lv_aload_n hx hb dX10_become_0 rfl (lv_at hl 1 rfl) ?_
  obtain ⟨m1, hg⟩ := Go_n hg
  obtain ⟨o2, ho2, hg⟩ := Go_b hg
  refine zc_vi (rest := []) ⟨hx, hb, hml, hown, hts⟩ (zc_X5_corners l D κ (ad n1) n1  o2 ho2) (cwV 0 hts gX10_become_X5_corners rfl rfl rfl hv_X5_corners ⟨Nat.le_of_ble_eq_true rfl, Nat.le_of_ble_eq_true rfl⟩) (zpreV hK ((zamb hB hBA hS) n1 m1) 5 0 rfl rfl) rfl hl.1 rfl (Nat.le_of_ble_eq_true rfl) dX10_become_1 ⟨Nat.zero_le _, Nat.zero_le _⟩ ?_
  refine lv_aload_n hx hb dX10_become_4 rfl (lv_at hl 0 rfl) ?_
  obtain ⟨m3, hg⟩ := Go_n hg
  refine va_get (D := D) (ci := 10) (v := .ref (ad t_polygon 0)) (C := RX10) (T := TX10) (N := 13) hx hb hts zi_X10_become_X10 hown hK hP 0 rfl rfl 10 (by decide) (hts (.fieldLink RX10 84 "DiamondRows" "polygon" "LDiamondRows$Polygon;") zl_X10_become_84) (fun _ h9 => h9) (zpg_ok m3) dX10_become_5 ?_
  obtain ⟨o4, ho4, hg⟩ := Go_b hg
  refine zc_vi (rest := [.int (zi o2)]) ⟨hx, hb, hml, hown, hts⟩ (zc_X5_corners l D κ (ad t_polygon) t_polygon  o4 ho4) (cwV 0 hts gX10_become_X5_corners rfl rfl rfl hv_X5_corners ⟨Nat.le_of_ble_eq_true rfl, Nat.le_of_ble_eq_true rfl⟩) (zpreV hK ((zamb hB hBA hS) t_polygon m3) 5 0 rfl rfl) rfl hl.1 rfl (Nat.le_of_ble_eq_true rfl) dX10_become_8 ⟨Nat.zero_le _, Nat.zero_le _⟩ ?_
  obtain ⟨b5, hg⟩ := Go_n hg
  obtain ⟨b6, hg⟩ := Go_n hg
  refine zv_icmp_eq (tgt := 21) hx hb dX10_become_11 (by decide) b5 b6 (fun c8 => ?_) (fun c8 => ?_)
  · have hg := Go_t c8 hg
    refine lv_aload_n hx hb dX10_become_21 rfl (lv_at hl 0 rfl) ?_
    refine lv_aload_n hx hb dX10_become_22 rfl (lv_at hl 1 rfl) ?_
    refine zv_putP (D := D) (ci := 10) (C := RX10) (T := TX10) (N := 13) hx hb hts zi_X10_become_X10 tyX10 tyX10_ok nmX10 hown hK hP hD hS 0 rfl rfl 10 (by decide) (hts (.fieldLink RX10 84 "DiamondRows" "polygon" "LDiamondRows$Polygon;") zl_X10_become_84) (fun _ h9 => h9) rfl (by decide +kernel) (Nat.le_of_ble_eq_true rfl) m1 dX10_become_23 (fun H locs hP hD hS => ?_)
    have hP : va_P D vwCl ([((t 0), .inr (10, [.ref (t 1), .ref (t 3), .ref (t 5), .ref (t 6), .ref (t 9), .ref (t 11), .ref (t 15), .ref (t 17), .ref (t 27), .ref (t 30), zpg ad n1, .int (zi t_bits), .int (zi t_mendedNumber)])), ((t 17), .inr (7, [.ref (t 18), .ref (t 19), .ref (t 20), .ref (t 21), .ref (t 22), .ref (t 23), .ref (t 24), .ref (t 25), .ref (t 26), .int (zi sightings_size), .int (zi sightings_rights), .int (zi sightings_latest)])), ((t 18), .inl (κ 1, 20, .inl (zc sightings_seenStep))), ((t 19), .inl (κ 1, 20, .inl (zc sightings_seenFrom))), ((t 20), .inl (κ 1, 20, .inl (zc sightings_seenTo))), ((t 21), .inl (κ 1, 20, .inl (zc sightings_seenValue))), ((t 22), .inl (κ 1, 20, .inl (zc sightings_timesRight))), ((t 23), .inl (κ 1, 20, .inl (zc sightings_rightStep))), ((t 24), .inl (κ 1, 20, .inl (zc sightings_rightOf))), ((t 25), .inl (κ 1, 20, .inl (zc sightings_rightValue))), ((t 26), .inl (κ 1, 20, .inl (zc sightings_knownValue)))]) H := hP
    have hD : va_D A ([((t 0), .inr (10, [.ref (t 1), .ref (t 3), .ref (t 5), .ref (t 6), .ref (t 9), .ref (t 11), .ref (t 15), .ref (t 17), .ref (t 27), .ref (t 30), zpg ad n1, .int (zi t_bits), .int (zi t_mendedNumber)])), ((t 17), .inr (7, [.ref (t 18), .ref (t 19), .ref (t 20), .ref (t 21), .ref (t 22), .ref (t 23), .ref (t 24), .ref (t 25), .ref (t 26), .int (zi sightings_size), .int (zi sightings_rights), .int (zi sightings_latest)])), ((t 18), .inl (κ 1, 20, .inl (zc sightings_seenStep))), ((t 19), .inl (κ 1, 20, .inl (zc sightings_seenFrom))), ((t 20), .inl (κ 1, 20, .inl (zc sightings_seenTo))), ((t 21), .inl (κ 1, 20, .inl (zc sightings_seenValue))), ((t 22), .inl (κ 1, 20, .inl (zc sightings_timesRight))), ((t 23), .inl (κ 1, 20, .inl (zc sightings_rightStep))), ((t 24), .inl (κ 1, 20, .inl (zc sightings_rightOf))), ((t 25), .inl (κ 1, 20, .inl (zc sightings_rightValue))), ((t 26), .inl (κ 1, 20, .inl (zc sightings_knownValue)))]) := hD
    refine lv_aload_n hx hb dX10_become_26 rfl (lv_at hl 0 rfl) ?_
    refine lv_iload_n hx hb dX10_become_27 rfl (lv_at hl 2 rfl) ?_
    refine va_put (D := D) (ci := 10) (v := .int (zi i2)) (ty := .int) (C := RX10) (T := TX10) (N := 13) hx hb hts zi_X10_become_X10 tyX10 tyX10_ok nmX10 hown hK hP hD hS 0 rfl rfl 11 (by decide) (hts (.fieldLink RX10 94 "DiamondRows" "bits" "I") zl_X10_become_94) (fun _ h9 => h9) rfl (by decide +kernel) rfl rfl (Nat.le_of_ble_eq_true rfl) dX10_become_28 (fun H locs hP hD hS => ?_)
    have hP : va_P D vwCl ([((t 0), .inr (10, [.ref (t 1), .ref (t 3), .ref (t 5), .ref (t 6), .ref (t 9), .ref (t 11), .ref (t 15), .ref (t 17), .ref (t 27), .ref (t 30), zpg ad n1, .int (zi i2), .int (zi t_mendedNumber)])), ((t 17), .inr (7, [.ref (t 18), .ref (t 19), .ref (t 20), .ref (t 21), .ref (t 22), .ref (t 23), .ref (t 24), .ref (t 25), .ref (t 26), .int (zi sightings_size), .int (zi sightings_rights), .int (zi sightings_latest)])), ((t 18), .inl (κ 1, 20, .inl (zc sightings_seenStep))), ((t 19), .inl (κ 1, 20, .inl (zc sightings_seenFrom))), ((t 20), .inl (κ 1, 20, .inl (zc sightings_seenTo))), ((t 21), .inl (κ 1, 20, .inl (zc sightings_seenValue))), ((t 22), .inl (κ 1, 20, .inl (zc sightings_timesRight))), ((t 23), .inl (κ 1, 20, .inl (zc sightings_rightStep))), ((t 24), .inl (κ 1, 20, .inl (zc sightings_rightOf))), ((t 25), .inl (κ 1, 20, .inl (zc sightings_rightValue))), ((t 26), .inl (κ 1, 20, .inl (zc sightings_knownValue)))]) H := hP
    have hD : va_D A ([((t 0), .inr (10, [.ref (t 1), .ref (t 3), .ref (t 5), .ref (t 6), .ref (t 9), .ref (t 11), .ref (t 15), .ref (t 17), .ref (t 27), .ref (t 30), zpg ad n1, .int (zi i2), .int (zi t_mendedNumber)])), ((t 17), .inr (7, [.ref (t 18), .ref (t 19), .ref (t 20), .ref (t 21), .ref (t 22), .ref (t 23), .ref (t 24), .ref (t 25), .ref (t 26), .int (zi sightings_size), .int (zi sightings_rights), .int (zi sightings_latest)])), ((t 18), .inl (κ 1, 20, .inl (zc sightings_seenStep))), ((t 19), .inl (κ 1, 20, .inl (zc sightings_seenFrom))), ((t 20), .inl (κ 1, 20, .inl (zc sightings_seenTo))), ((t 21), .inl (κ 1, 20, .inl (zc sightings_seenValue))), ((t 22), .inl (κ 1, 20, .inl (zc sightings_timesRight))), ((t 23), .inl (κ 1, 20, .inl (zc sightings_rightStep))), ((t 24), .inl (κ 1, 20, .inl (zc sightings_rightOf))), ((t 25), .inl (κ 1, 20, .inl (zc sightings_rightValue))), ((t 26), .inl (κ 1, 20, .inl (zc sightings_knownValue)))]) := hD
    exact (Go_s hg) _ _ _ _ hP hD hS dX10_become_31
  · have hg := Go_f c8 hg
    refine lv_aload_n hx hb dX10_become_14 rfl (lv_at hl 0 rfl) ?_
    refine va_get (D := D) (ci := 10) (v := .ref (t 17)) (C := RX10) (T := TX10) (N := 13) hx hb hts zi_X10_become_X10 hown hK hP 0 rfl rfl 7 (by decide) (hts (.fieldLink RX10 61 "DiamondRows" "sightings" "LDiamondRows$Sightings;") zl_X10_become_61) (fun _ h9 => h9) rfl dX10_become_15 ?_
    obtain ⟨o7, ho7, hg⟩ := Go_b hg
    refine zj_v (wr := [((t 0), .inr (10, [.ref (t 1), .ref (t 3), .ref (t 5), .ref (t 6), .ref (t 9), .ref (t 11), .ref (t 15), .ref (t 17), .ref (t 27), .ref (t 30), zpg ad t_polygon, .int (zi t_bits), .int (zi t_mendedNumber)]))]) (ws1 := [((t 0), .inr (10, [.ref (t 1), .ref (t 3), .ref (t 5), .ref (t 6), .ref (t 9), .ref (t 11), .ref (t 15), .ref (t 17), .ref (t 27), .ref (t 30), zpg ad t_polygon, .int (zi t_bits), .int (zi t_mendedNumber)])), ((t 17), .inr (7, [.ref (t 18), .ref (t 19), .ref (t 20), .ref (t 21), .ref (t 22), .ref (t 23), .ref (t 24), .ref (t 25), .ref (t 26), .int (zi (o7.1)), .int (zi (o7.2.1)), .int (zi (o7.2.2))])), ((t 18), .inl (κ 1, 20, .inl (zc sightings_seenStep))), ((t 19), .inl (κ 1, 20, .inl (zc sightings_seenFrom))), ((t 20), .inl (κ 1, 20, .inl (zc sightings_seenTo))), ((t 21), .inl (κ 1, 20, .inl (zc sightings_seenValue))), ((t 22), .inl (κ 1, 20, .inl (zc sightings_timesRight))), ((t 23), .inl (κ 1, 20, .inl (zc sightings_rightStep))), ((t 24), .inl (κ 1, 20, .inl (zc sightings_rightOf))), ((t 25), .inl (κ 1, 20, .inl (zc sightings_rightValue))), ((t 26), .inl (κ 1, 20, .inl (zc sightings_knownValue)))]) (va_runV (rest := []) ⟨hx, hb, hml, hown, hts⟩ (zc_X7_forget l D κ (fun i => t (i + 17)) H.size sightings_size sightings_rights sightings_latest sightings_seenStep sightings_seenFrom sightings_seenTo sightings_seenValue sightings_timesRight sightings_rightStep sightings_rightOf sightings_rightValue sightings_knownValue o7 ho7) (cwV 0 hts gX10_become_X7_forget rfl rfl rfl hv_X7_forget ⟨Nat.le_of_ble_eq_true rfl, Nat.le_of_ble_eq_true rfl⟩) (zpreWV hK (hP.sub [1, 2, 3, 4, 5, 6, 7, 8, 9, 10] rfl) (hD.sub [1, 2, 3, 4, 5, 6, 7, 8, 9, 10] (by decide) rfl) 7 0 rfl rfl) rfl rfl hl.1 rfl (lv_room (Nat.le_of_ble_eq_true rfl)) dX10_become_18 ⟨Nat.zero_le _, Nat.zero_le _⟩) hP hD hS hA [1, 2, 3, 4, 5, 6, 7, 8, 9, 10] [0] [0, 1, 2, 3, 4, 5, 6, 7, 8, 9, 10] rfl rfl (by decide) (by decide) rfl rfl (by decide) (fun H locs hP hD hS => ?_)
    refine lv_aload_n hx hb dX10_become_21 rfl (lv_at hl 0 rfl) ?_
    refine lv_aload_n hx hb dX10_become_22 rfl (lv_at hl 1 rfl) ?_
    refine zv_putP (D := D) (ci := 10) (C := RX10) (T := TX10) (N := 13) hx hb hts zi_X10_become_X10 tyX10 tyX10_ok nmX10 hown hK hP hD hS 0 rfl rfl 10 (by decide) (hts (.fieldLink RX10 84 "DiamondRows" "polygon" "LDiamondRows$Polygon;") zl_X10_become_84) (fun _ h9 => h9) rfl (by decide +kernel) (Nat.le_of_ble_eq_true rfl) m1 dX10_become_23 (fun H locs hP hD hS => ?_)
    have hP : va_P D vwCl ([((t 0), .inr (10, [.ref (t 1), .ref (t 3), .ref (t 5), .ref (t 6), .ref (t 9), .ref (t 11), .ref (t 15), .ref (t 17), .ref (t 27), .ref (t 30), zpg ad n1, .int (zi t_bits), .int (zi t_mendedNumber)])), ((t 17), .inr (7, [.ref (t 18), .ref (t 19), .ref (t 20), .ref (t 21), .ref (t 22), .ref (t 23), .ref (t 24), .ref (t 25), .ref (t 26), .int (zi (o7.1)), .int (zi (o7.2.1)), .int (zi (o7.2.2))])), ((t 18), .inl (κ 1, 20, .inl (zc sightings_seenStep))), ((t 19), .inl (κ 1, 20, .inl (zc sightings_seenFrom))), ((t 20), .inl (κ 1, 20, .inl (zc sightings_seenTo))), ((t 21), .inl (κ 1, 20, .inl (zc sightings_seenValue))), ((t 22), .inl (κ 1, 20, .inl (zc sightings_timesRight))), ((t 23), .inl (κ 1, 20, .inl (zc sightings_rightStep))), ((t 24), .inl (κ 1, 20, .inl (zc sightings_rightOf))), ((t 25), .inl (κ 1, 20, .inl (zc sightings_rightValue))), ((t 26), .inl (κ 1, 20, .inl (zc sightings_knownValue)))]) H := hP
    have hD : va_D A ([((t 0), .inr (10, [.ref (t 1), .ref (t 3), .ref (t 5), .ref (t 6), .ref (t 9), .ref (t 11), .ref (t 15), .ref (t 17), .ref (t 27), .ref (t 30), zpg ad n1, .int (zi t_bits), .int (zi t_mendedNumber)])), ((t 17), .inr (7, [.ref (t 18), .ref (t 19), .ref (t 20), .ref (t 21), .ref (t 22), .ref (t 23), .ref (t 24), .ref (t 25), .ref (t 26), .int (zi (o7.1)), .int (zi (o7.2.1)), .int (zi (o7.2.2))])), ((t 18), .inl (κ 1, 20, .inl (zc sightings_seenStep))), ((t 19), .inl (κ 1, 20, .inl (zc sightings_seenFrom))), ((t 20), .inl (κ 1, 20, .inl (zc sightings_seenTo))), ((t 21), .inl (κ 1, 20, .inl (zc sightings_seenValue))), ((t 22), .inl (κ 1, 20, .inl (zc sightings_timesRight))), ((t 23), .inl (κ 1, 20, .inl (zc sightings_rightStep))), ((t 24), .inl (κ 1, 20, .inl (zc sightings_rightOf))), ((t 25), .inl (κ 1, 20, .inl (zc sightings_rightValue))), ((t 26), .inl (κ 1, 20, .inl (zc sightings_knownValue)))]) := hD
    refine lv_aload_n hx hb dX10_become_26 rfl (lv_at hl 0 rfl) ?_
    refine lv_iload_n hx hb dX10_become_27 rfl (lv_at hl 2 rfl) ?_
    refine va_put (D := D) (ci := 10) (v := .int (zi i2)) (ty := .int) (C := RX10) (T := TX10) (N := 13) hx hb hts zi_X10_become_X10 tyX10 tyX10_ok nmX10 hown hK hP hD hS 0 rfl rfl 11 (by decide) (hts (.fieldLink RX10 94 "DiamondRows" "bits" "I") zl_X10_become_94) (fun _ h9 => h9) rfl (by decide +kernel) rfl rfl (Nat.le_of_ble_eq_true rfl) dX10_become_28 (fun H locs hP hD hS => ?_)
    have hP : va_P D vwCl ([((t 0), .inr (10, [.ref (t 1), .ref (t 3), .ref (t 5), .ref (t 6), .ref (t 9), .ref (t 11), .ref (t 15), .ref (t 17), .ref (t 27), .ref (t 30), zpg ad n1, .int (zi i2), .int (zi t_mendedNumber)])), ((t 17), .inr (7, [.ref (t 18), .ref (t 19), .ref (t 20), .ref (t 21), .ref (t 22), .ref (t 23), .ref (t 24), .ref (t 25), .ref (t 26), .int (zi (o7.1)), .int (zi (o7.2.1)), .int (zi (o7.2.2))])), ((t 18), .inl (κ 1, 20, .inl (zc sightings_seenStep))), ((t 19), .inl (κ 1, 20, .inl (zc sightings_seenFrom))), ((t 20), .inl (κ 1, 20, .inl (zc sightings_seenTo))), ((t 21), .inl (κ 1, 20, .inl (zc sightings_seenValue))), ((t 22), .inl (κ 1, 20, .inl (zc sightings_timesRight))), ((t 23), .inl (κ 1, 20, .inl (zc sightings_rightStep))), ((t 24), .inl (κ 1, 20, .inl (zc sightings_rightOf))), ((t 25), .inl (κ 1, 20, .inl (zc sightings_rightValue))), ((t 26), .inl (κ 1, 20, .inl (zc sightings_knownValue)))]) H := hP
    have hD : va_D A ([((t 0), .inr (10, [.ref (t 1), .ref (t 3), .ref (t 5), .ref (t 6), .ref (t 9), .ref (t 11), .ref (t 15), .ref (t 17), .ref (t 27), .ref (t 30), zpg ad n1, .int (zi i2), .int (zi t_mendedNumber)])), ((t 17), .inr (7, [.ref (t 18), .ref (t 19), .ref (t 20), .ref (t 21), .ref (t 22), .ref (t 23), .ref (t 24), .ref (t 25), .ref (t 26), .int (zi (o7.1)), .int (zi (o7.2.1)), .int (zi (o7.2.2))])), ((t 18), .inl (κ 1, 20, .inl (zc sightings_seenStep))), ((t 19), .inl (κ 1, 20, .inl (zc sightings_seenFrom))), ((t 20), .inl (κ 1, 20, .inl (zc sightings_seenTo))), ((t 21), .inl (κ 1, 20, .inl (zc sightings_seenValue))), ((t 22), .inl (κ 1, 20, .inl (zc sightings_timesRight))), ((t 23), .inl (κ 1, 20, .inl (zc sightings_rightStep))), ((t 24), .inl (κ 1, 20, .inl (zc sightings_rightOf))), ((t 25), .inl (κ 1, 20, .inl (zc sightings_rightValue))), ((t 26), .inl (κ 1, 20, .inl (zc sightings_knownValue)))]) := hD
    exact (Go_s hg) _ _ _ _ hP hD hS dX10_become_31
set_option maxHeartbeats 4000000 in
set_option maxRecDepth 100000 in
theorem zc_X10_become (l : Launch) (D : va_G) (κ : Nat → ClassId) (t : Nat → Nat) (mk : Nat) (ad : Nat → Nat → Nat) (sz : Nat) (t_polygon : Nat) (t_bits : Int) (t_mendedNumber : Int) (sightings_size : Int) (sightings_rights : Int) (sightings_latest : Int) (sightings_seenStep : Nat) (sightings_seenFrom : Nat) (sightings_seenTo : Nat) (sightings_seenValue : Nat) (sightings_timesRight : Nat) (sightings_rightStep : Nat) (sightings_rightOf : Nat) (sightings_rightValue : Nat) (sightings_knownValue : Nat) (n1 : Nat) (i2 : Int) (out : Nat × Int × Int × Int × Int) (h : zf_X10_become mk t_polygon t_bits sightings_size sightings_rights sightings_latest n1 i2 = some out) : Met l yX10_become wsX10_become zr_X10_become (va_Pc [.ref (t 0), .ref (ad n1 0), .int (zi i2)] (zWa D κ mk ad ([((t 0), .inr (10, [.ref (t 1), .ref (t 3), .ref (t 5), .ref (t 6), .ref (t 9), .ref (t 11), .ref (t 15), .ref (t 17), .ref (t 27), .ref (t 30), zpg ad t_polygon, .int (zi t_bits), .int (zi t_mendedNumber)])), ((t 17), .inr (7, [.ref (t 18), .ref (t 19), .ref (t 20), .ref (t 21), .ref (t 22), .ref (t 23), .ref (t 24), .ref (t 25), .ref (t 26), .int (zi sightings_size), .int (zi sightings_rights), .int (zi sightings_latest)])), ((t 18), .inl (κ 1, 20, .inl (zc sightings_seenStep))), ((t 19), .inl (κ 1, 20, .inl (zc sightings_seenFrom))), ((t 20), .inl (κ 1, 20, .inl (zc sightings_seenTo))), ((t 21), .inl (κ 1, 20, .inl (zc sightings_seenValue))), ((t 22), .inl (κ 1, 20, .inl (zc sightings_timesRight))), ((t 23), .inl (κ 1, 20, .inl (zc sightings_rightStep))), ((t 24), .inl (κ 1, 20, .inl (zc sightings_rightOf))), ((t 25), .inl (κ 1, 20, .inl (zc sightings_rightValue))), ((t 26), .inl (κ 1, 20, .inl (zc sightings_knownValue)))]) sz)) (va_Qv (fun (_ : Unit) => True) (fun _ => zB D κ (va_A ([((t 0), .inr (10, [.ref (t 1), .ref (t 3), .ref (t 5), .ref (t 6), .ref (t 9), .ref (t 11), .ref (t 15), .ref (t 17), .ref (t 27), .ref (t 30), zpg ad t_polygon, .int (zi t_bits), .int (zi t_mendedNumber)])), ((t 17), .inr (7, [.ref (t 18), .ref (t 19), .ref (t 20), .ref (t 21), .ref (t 22), .ref (t 23), .ref (t 24), .ref (t 25), .ref (t 26), .int (zi sightings_size), .int (zi sightings_rights), .int (zi sightings_latest)])), ((t 18), .inl (κ 1, 20, .inl (zc sightings_seenStep))), ((t 19), .inl (κ 1, 20, .inl (zc sightings_seenFrom))), ((t 20), .inl (κ 1, 20, .inl (zc sightings_seenTo))), ((t 21), .inl (κ 1, 20, .inl (zc sightings_seenValue))), ((t 22), .inl (κ 1, 20, .inl (zc sightings_timesRight))), ((t 23), .inl (κ 1, 20, .inl (zc sightings_rightStep))), ((t 24), .inl (κ 1, 20, .inl (zc sightings_rightOf))), ((t 25), .inl (κ 1, 20, .inl (zc sightings_rightValue))), ((t 26), .inl (κ 1, 20, .inl (zc sightings_knownValue)))]) sz) ([((t 0), .inr (10, [.ref (t 1), .ref (t 3), .ref (t 5), .ref (t 6), .ref (t 9), .ref (t 11), .ref (t 15), .ref (t 17), .ref (t 27), .ref (t 30), zpg ad (out.1), .int (zi (out.2.1)), .int (zi t_mendedNumber)])), ((t 17), .inr (7, [.ref (t 18), .ref (t 19), .ref (t 20), .ref (t 21), .ref (t 22), .ref (t 23), .ref (t 24), .ref (t 25), .ref (t 26), .int (zi (out.2.2.1)), .int (zi (out.2.2.2.1)), .int (zi (out.2.2.2.2))])), ((t 18), .inl (κ 1, 20, .inl (zc sightings_seenStep))), ((t 19), .inl (κ 1, 20, .inl (zc sightings_seenFrom))), ((t 20), .inl (κ 1, 20, .inl (zc sightings_seenTo))), ((t 21), .inl (κ 1, 20, .inl (zc sightings_seenValue))), ((t 22), .inl (κ 1, 20, .inl (zc sightings_timesRight))), ((t 23), .inl (κ 1, 20, .inl (zc sightings_rightStep))), ((t 24), .inl (κ 1, 20, .inl (zc sightings_rightOf))), ((t 25), .inl (κ 1, 20, .inl (zc sightings_rightValue))), ((t 26), .inl (κ 1, 20, .inl (zc sightings_knownValue)))])) (va_A ([((t 0), .inr (10, [.ref (t 1), .ref (t 3), .ref (t 5), .ref (t 6), .ref (t 9), .ref (t 11), .ref (t 15), .ref (t 17), .ref (t 27), .ref (t 30), zpg ad t_polygon, .int (zi t_bits), .int (zi t_mendedNumber)])), ((t 17), .inr (7, [.ref (t 18), .ref (t 19), .ref (t 20), .ref (t 21), .ref (t 22), .ref (t 23), .ref (t 24), .ref (t 25), .ref (t 26), .int (zi sightings_size), .int (zi sightings_rights), .int (zi sightings_latest)])), ((t 18), .inl (κ 1, 20, .inl (zc sightings_seenStep))), ((t 19), .inl (κ 1, 20, .inl (zc sightings_seenFrom))), ((t 20), .inl (κ 1, 20, .inl (zc sightings_seenTo))), ((t 21), .inl (κ 1, 20, .inl (zc sightings_seenValue))), ((t 22), .inl (κ 1, 20, .inl (zc sightings_timesRight))), ((t 23), .inl (κ 1, 20, .inl (zc sightings_rightStep))), ((t 24), .inl (κ 1, 20, .inl (zc sightings_rightOf))), ((t 25), .inl (κ 1, 20, .inl (zc sightings_rightValue))), ((t 26), .inl (κ 1, 20, .inl (zc sightings_knownValue)))]) sz)) 0 0 (va_A ([((t 0), .inr (10, [.ref (t 1), .ref (t 3), .ref (t 5), .ref (t 6), .ref (t 9), .ref (t 11), .ref (t 15), .ref (t 17), .ref (t 27), .ref (t 30), zpg ad t_polygon, .int (zi t_bits), .int (zi t_mendedNumber)])), ((t 17), .inr (7, [.ref (t 18), .ref (t 19), .ref (t 20), .ref (t 21), .ref (t 22), .ref (t 23), .ref (t 24), .ref (t 25), .ref (t 26), .int (zi sightings_size), .int (zi sightings_rights), .int (zi sightings_latest)])), ((t 18), .inl (κ 1, 20, .inl (zc sightings_seenStep))), ((t 19), .inl (κ 1, 20, .inl (zc sightings_seenFrom))), ((t 20), .inl (κ 1, 20, .inl (zc sightings_seenTo))), ((t 21), .inl (κ 1, 20, .inl (zc sightings_seenValue))), ((t 22), .inl (κ 1, 20, .inl (zc sightings_timesRight))), ((t 23), .inl (κ 1, 20, .inl (zc sightings_rightStep))), ((t 24), .inl (κ 1, 20, .inl (zc sightings_rightOf))), ((t 25), .inl (κ 1, 20, .inl (zc sightings_rightValue))), ((t 26), .inl (κ 1, 20, .inl (zc sightings_knownValue)))]) sz) := by
  refine Met.ofW (cc := cX10_become) (maxL := 3) (ret := none) (by decide +kernel) rfl ?_
  intro p e s m args below meth c s₁ B hml hv
  obtain ⟨rfl, hsz, hP, hK, hD0, hB, hBA⟩ := hv
  have hx := B.exec
  have hb := B.bytes
  have hr := B.returns
  have hts := atoms_spec (ws := wsX10_become) B.pre
  have hown : s.vm.findClass RX10 = some m.cls := findClass_of_methodNamed B.named
  have hlocks := B.notSynchronized
  subst hsz
  have hD := hD0.self (sz := s.heap.size)
  generalize hAe : va_A ([((t 0), .inr (10, [.ref (t 1), .ref (t 3), .ref (t 5), .ref (t 6), .ref (t 9), .ref (t 11), .ref (t 15), .ref (t 17), .ref (t 27), .ref (t 30), zpg ad t_polygon, .int (zi t_bits), .int (zi t_mendedNumber)])), ((t 17), .inr (7, [.ref (t 18), .ref (t 19), .ref (t 20), .ref (t 21), .ref (t 22), .ref (t 23), .ref (t 24), .ref (t 25), .ref (t 26), .int (zi sightings_size), .int (zi sightings_rights), .int (zi sightings_latest)])), ((t 18), .inl (κ 1, 20, .inl (zc sightings_seenStep))), ((t 19), .inl (κ 1, 20, .inl (zc sightings_seenFrom))), ((t 20), .inl (κ 1, 20, .inl (zc sightings_seenTo))), ((t 21), .inl (κ 1, 20, .inl (zc sightings_seenValue))), ((t 22), .inl (κ 1, 20, .inl (zc sightings_timesRight))), ((t 23), .inl (κ 1, 20, .inl (zc sightings_rightStep))), ((t 24), .inl (κ 1, 20, .inl (zc sightings_rightOf))), ((t 25), .inl (κ 1, 20, .inl (zc sightings_rightValue))), ((t 26), .inl (κ 1, 20, .inl (zc sightings_knownValue)))]) s.heap.size = A at hD hBA ⊢
  have hA : ∀ q : Nat, s.heap.size ≤ q → A q := fun q h => by rw [← hAe]; exact Or.inr h
  have hS : va_S A s.heap s.heap [] := va_S.rf
  have hl := lv_entry ([.ref (t 0), .ref (ad n1 0), .int (zi i2)]) (n := 3) (Nat.le_of_ble_eq_true rfl)
  rw [lg_entry_eq]
  generalize (lg_sl ([.ref (t 0), .ref (ad n1 0), .int (zi i2)]) ++ List.replicate (3 - (lg_sl ([.ref (t 0), .ref (ad n1 0), .int (zi i2)])).length) Slot.unset).toArray = ls at hl ⊢
  have hl : lv_has ls 3 [(0, .ref (t 0)), (1, .ref (ad n1 0)), (2, .int (zi i2))] := hl
  refine zs_X10_become t mk ad t_polygon t_bits t_mendedNumber sightings_size sightings_rights sightings_latest sightings_seenStep sightings_seenFrom sightings_seenTo sightings_seenValue sightings_timesRight sightings_rightStep sightings_rightOf sightings_rightValue sightings_knownValue n1 i2 hx hb hml hown hts hK hA hB hBA s.heap [] ls hP hD hS hl ⟨out, h, ?_⟩
  exact fun H locs ls pc hP hD hS hd => W.vret hx hb hr (fun t ht hW => ⟨⟨(), rfl, trivial, by rw [ht]; exact hP, va_K.moved hW.alike hK, hD⟩, hS.F ht⟩) hS.2.2 hd
/-! DiamondRows.fault(I)I -/
abbrev zr_X10_fault : Room := { frames := 1, cells := 0, slots := 0, locals := 20 }
noncomputable def zf_X10_fault (mk : Nat) (text_faultKind : Int) (text_faultPlace : Int) (i1 : Int) : Option (Int) :=
  if zout i1 then none else
  if i1 = 0 then
  Option.bind (zf_X1_faultKind mk text_faultKind) (fun o4 =>
  some (o4))
  else
  if i1 = (1 : Int) then
  Option.bind (zf_X1_faultPlace mk text_faultPlace) (fun o2 =>
  some (o2))
  else
  some ((-1 : Int))
theorem zi_X10_fault_X10 : ∀ w ∈ u_ws RX10 TX10 13, w ∈ wsX10_fault := fun w h => (List.mem_cons_of_mem _ (List.mem_append_right _ (List.mem_append_left _ h)))
theorem zl_X10_fault_26 : Cond.fieldLink RX10 26 "DiamondRows" "text" "LDiamondRows$CutText;" ∈ wsX10_fault := (List.mem_cons_of_mem _ (List.mem_append_left _ (List.mem_of_getElem? (i := 0) rfl)))
def zQ_X10_fault (p : Program) (l : Launch) (e : Env) (s : State) (m : MethodId) (args : Array Value) (below : List Frame) (meth : Method) (c : Code) (Q : State → Prop) (H : Heap) (locs : List Loc)  (o : Int) : Prop := ∀ (ls : Array Slot) (pc : Nat), decode cX10_fault pc = .ok (.ireturn, 1) → W p l e zr_X10_fault s m args below meth c H locs 0 0 Q (F0 m pc ls [.int (zi o)])
set_option maxHeartbeats 4000000 in
set_option maxRecDepth 100000 in
theorem zs_X10_fault {p : Program} {l : Launch} {e : Env} {s : State} {m : MethodId} {args : Array Value} {below : List Frame} {meth : Method} {c : Code} {Q : State → Prop} {D : va_G} {κ : Nat → ClassId} {H : Heap} {locs : List Loc} (t : Nat → Nat) (mk : Nat) (ad : Nat → Nat → Nat) (t_polygon : Nat) (t_bits : Int) (t_mendedNumber : Int) (text_faultKind : Int) (text_faultPlace : Int) (text_expected : Int) (text_first : Int) (text_polygon : Nat) (text_bits : Int) (i1 : Int) (hx : p.tables.exec = Jvm.exec) (hb : c.code = cX10_fault) (hml : c.maxLocals = 2) (hown : s.vm.findClass RX10 = some m.cls) (hts : ∀ w ∈ wsX10_fault, w.before args s = true) (hK : va_K D vwCl (zTY κ) s) (hP : va_P D vwCl ([((t 0), .inr (10, [.ref (t 1), .ref (t 3), .ref (t 5), .ref (t 6), .ref (t 9), .ref (t 11), .ref (t 15), .ref (t 17), .ref (t 27), .ref (t 30), zpg ad t_polygon, .int (zi t_bits), .int (zi t_mendedNumber)])), ((t 5), .inr (1, [.int (zi text_faultKind), .int (zi text_faultPlace), .int (zi text_expected), .int (zi text_first), zpg ad text_polygon, .int (zi text_bits)]))]) H) (hB : zAmb D κ mk ad H) (ls : Array Slot) (hl : lv_has ls 2 [(0, .ref (t 0)), (1, .int (zi i1))]) (hg : Go (zQ_X10_fault p l e s m args below meth c Q H locs) (zf_X10_fault mk text_faultKind text_faultPlace i1)) : W p l e zr_X10_fault s m args below meth c H locs 0 0 Q (F0 m 0 ls []) := by
  unfold zf_X10_fault at hg
  refine lv_iload_n hx hb dX10_fault_0 rfl (lv_at hl 1 rfl) ?_
  obtain ⟨b1, hg⟩ := Go_n hg
  refine zv_if_ne (tgt := 14) hx hb dX10_fault_1 (by decide) b1 (fun c5 => ?_) (fun c5 => ?_)
  · have hg := Go_f c5 hg
    refine lv_iload_n hx hb dX10_fault_14 rfl (lv_at hl 1 rfl) ?_
    refine zv_iconst hx hb dX10_fault_15 ?_
    refine zv_icmp_ne (tgt := 29) hx hb dX10_fault_16 (by decide) b1 (by decide) (fun c3 => ?_) (fun c3 => ?_)
    · have hg := Go_f c3 hg
      refine zv_iconst hx hb dX10_fault_29 ?_
      exact (Go_s hg) _ _ dX10_fault_30
    · have hg := Go_t c3 hg
      refine lv_aload_n hx hb dX10_fault_19 rfl (lv_at hl 0 rfl) ?_
      refine va_get (D := D) (ci := 10) (v := .ref (t 5)) (C := RX10) (T := TX10) (N := 13) hx hb hts zi_X10_fault_X10 hown hK hP 0 rfl rfl 2 (by decide) (hts (.fieldLink RX10 26 "DiamondRows" "text" "LDiamondRows$CutText;") zl_X10_fault_26) (fun _ h9 => h9) rfl dX10_fault_20 ?_
      obtain ⟨o2, ho2, hg⟩ := Go_b hg
      refine zc_vi (rest := []) ⟨hx, hb, hml, hown, hts⟩ (zc_X1_faultPlace l D κ (fun i => t (i + 5)) mk ad text_faultKind text_faultPlace text_expected text_first text_polygon text_bits o2 ho2) (cwV 0 hts gX10_fault_X1_faultPlace rfl rfl rfl hv_X1_faultPlace ⟨Nat.le_of_ble_eq_true rfl, Nat.le_of_ble_eq_true rfl⟩) (zpreVa hK (hP.sub [1] rfl) hB 1 0 rfl rfl) rfl hl.1 rfl (Nat.le_of_ble_eq_true rfl) dX10_fault_23 ⟨Nat.zero_le _, Nat.zero_le _⟩ ?_
      refine lv_goto (tgt := 30) hx hb dX10_fault_26 (by decide) ?_
      exact (Go_s hg) _ _ dX10_fault_30
  · have hg := Go_t c5 hg
    refine lv_aload_n hx hb dX10_fault_4 rfl (lv_at hl 0 rfl) ?_
    refine va_get (D := D) (ci := 10) (v := .ref (t 5)) (C := RX10) (T := TX10) (N := 13) hx hb hts zi_X10_fault_X10 hown hK hP 0 rfl rfl 2 (by decide) (hts (.fieldLink RX10 26 "DiamondRows" "text" "LDiamondRows$CutText;") zl_X10_fault_26) (fun _ h9 => h9) rfl dX10_fault_5 ?_
    obtain ⟨o4, ho4, hg⟩ := Go_b hg
    refine zc_vi (rest := []) ⟨hx, hb, hml, hown, hts⟩ (zc_X1_faultKind l D κ (fun i => t (i + 5)) mk ad text_faultKind text_faultPlace text_expected text_first text_polygon text_bits o4 ho4) (cwV 0 hts gX10_fault_X1_faultKind rfl rfl rfl hv_X1_faultKind ⟨Nat.le_of_ble_eq_true rfl, Nat.le_of_ble_eq_true rfl⟩) (zpreVa hK (hP.sub [1] rfl) hB 1 0 rfl rfl) rfl hl.1 rfl (Nat.le_of_ble_eq_true rfl) dX10_fault_8 ⟨Nat.zero_le _, Nat.zero_le _⟩ ?_
    refine lv_goto (tgt := 30) hx hb dX10_fault_11 (by decide) ?_
    exact (Go_s hg) _ _ dX10_fault_30
set_option maxHeartbeats 4000000 in
set_option maxRecDepth 100000 in
theorem zc_X10_fault (l : Launch) (D : va_G) (κ : Nat → ClassId) (t : Nat → Nat) (mk : Nat) (ad : Nat → Nat → Nat) (t_polygon : Nat) (t_bits : Int) (t_mendedNumber : Int) (text_faultKind : Int) (text_faultPlace : Int) (text_expected : Int) (text_first : Int) (text_polygon : Nat) (text_bits : Int) (i1 : Int) (out : Int) (h : zf_X10_fault mk text_faultKind text_faultPlace i1 = some out) : Met l yX10_fault wsX10_fault zr_X10_fault (va_Pc [.ref (t 0), .int (zi i1)] (zRa D κ mk ad ([((t 0), .inr (10, [.ref (t 1), .ref (t 3), .ref (t 5), .ref (t 6), .ref (t 9), .ref (t 11), .ref (t 15), .ref (t 17), .ref (t 27), .ref (t 30), zpg ad t_polygon, .int (zi t_bits), .int (zi t_mendedNumber)])), ((t 5), .inr (1, [.int (zi text_faultKind), .int (zi text_faultPlace), .int (zi text_expected), .int (zi text_first), zpg ad text_polygon, .int (zi text_bits)]))]))) (vp_Si (fun x => x = zi out)) 0 0 (fun _ => False) := by
  refine Met.ofW (cc := cX10_fault) (maxL := 2) (ret := (some .int)) (by decide +kernel) rfl ?_
  intro p e s m args below meth c s₁ B hml hv
  obtain ⟨rfl, hP, hK, hB⟩ := hv
  have hx := B.exec
  have hb := B.bytes
  have hr := B.returns
  have hts := atoms_spec (ws := wsX10_fault) B.pre
  have hown : s.vm.findClass RX10 = some m.cls := findClass_of_methodNamed B.named
  have hlocks := B.notSynchronized
  have hl := lv_entry ([.ref (t 0), .int (zi i1)]) (n := 2) (Nat.le_of_ble_eq_true rfl)
  rw [lg_entry_eq]
  generalize (lg_sl ([.ref (t 0), .int (zi i1)]) ++ List.replicate (2 - (lg_sl ([.ref (t 0), .int (zi i1)])).length) Slot.unset).toArray = ls at hl ⊢
  have hl : lv_has ls 2 [(0, .ref (t 0)), (1, .int (zi i1))] := hl
  refine zs_X10_fault t mk ad t_polygon t_bits t_mendedNumber text_faultKind text_faultPlace text_expected text_first text_polygon text_bits i1 hx hb hml hown hts hK hP hB ls hl ⟨out, h, ?_⟩
  exact fun ls pc hd => W.iret hx hb hr (fun t ht hW => ⟨_, rfl, rfl, ht⟩) (fun _ h => by cases h) hd
/-! DiamondRows.told(I)I -/
abbrev zr_X10_told : Room := { frames := 1, cells := 0, slots := 0, locals := 25 }
noncomputable def zf_X10_told (mk : Nat) (t_polygon : Nat) (t_bits : Int) (endless_size : Int) (i1 : Int) : Option (Int) :=
  if zout i1 then none else
  if i1 = (0 : Int) then
  if zno mk t_polygon then none else
  Option.bind (zf_X5_corners t_polygon) (fun o4 =>
  some (o4))
  else
  if i1 = (1 : Int) then
  if zno mk t_polygon then none else
  Option.bind (zf_X5_numberOf t_polygon t_bits) (fun o7 =>
  some (o7))
  else
  if i1 = (2 : Int) then
  if zno mk t_polygon then none else
  Option.bind (zf_X5_cutCount t_polygon) (fun o10 =>
  some (o10))
  else
  if i1 = (3 : Int) then
  Option.bind (zf_X2_size endless_size) (fun o12 =>
  some (o12))
  else
  some ((-1 : Int))
theorem zi_X10_told_X10 : ∀ w ∈ u_ws RX10 TX10 13, w ∈ wsX10_told := fun w h => (List.mem_cons_of_mem _ (List.mem_append_right _ (List.mem_append_left _ h)))
theorem zl_X10_told_54 : Cond.fieldLink RX10 54 "DiamondRows" "endless" "LDiamondRows$Endless;" ∈ wsX10_told := (List.mem_cons_of_mem _ (List.mem_append_left _ (List.mem_of_getElem? (i := 2) rfl)))
theorem zl_X10_told_84 : Cond.fieldLink RX10 84 "DiamondRows" "polygon" "LDiamondRows$Polygon;" ∈ wsX10_told := (List.mem_cons_of_mem _ (List.mem_append_left _ (List.mem_of_getElem? (i := 0) rfl)))
theorem zl_X10_told_94 : Cond.fieldLink RX10 94 "DiamondRows" "bits" "I" ∈ wsX10_told := (List.mem_cons_of_mem _ (List.mem_append_left _ (List.mem_of_getElem? (i := 1) rfl)))
def zQ_X10_told (p : Program) (l : Launch) (e : Env) (s : State) (m : MethodId) (args : Array Value) (below : List Frame) (meth : Method) (c : Code) (Q : State → Prop) (H : Heap) (locs : List Loc)  (o : Int) : Prop := ∀ (ls : Array Slot) (pc : Nat), decode cX10_told pc = .ok (.ireturn, 1) → W p l e zr_X10_told s m args below meth c H locs 0 0 Q (F0 m pc ls [.int (zi o)])
set_option maxHeartbeats 4000000 in
set_option maxRecDepth 100000 in
theorem zs_X10_told {p : Program} {l : Launch} {e : Env} {s : State} {m : MethodId} {args : Array Value} {below : List Frame} {meth : Method} {c : Code} {Q : State → Prop} {D : va_G} {κ : Nat → ClassId} {H : Heap} {locs : List Loc} (t : Nat → Nat) (mk : Nat) (ad : Nat → Nat → Nat) (t_polygon : Nat) (t_bits : Int) (t_mendedNumber : Int) (endless_size : Int) (endless_numbers : Nat) (i1 : Int) (hx : p.tables.exec = Jvm.exec) (hb : c.code = cX10_told) (hml : c.maxLocals = 2) (hown : s.vm.findClass RX10 = some m.cls) (hts : ∀ w ∈ wsX10_told, w.before args s = true) (hK : va_K D vwCl (zTY κ) s) (hP : va_P D vwCl ([((t 0), .inr (10, [.ref (t 1), .ref (t 3), .ref (t 5), .ref (t 6), .ref (t 9), .ref (t 11), .ref (t 15), .ref (t 17), .ref (t 27), .ref (t 30), zpg ad t_polygon, .int (zi t_bits), .int (zi t_mendedNumber)])), ((t 15), .inr (2, [.ref (t 16), .int (zi endless_size)])), ((t 16), .inl (κ 1, 10, .inl (zc endless_numbers)))]) H) (hB : zAmb D κ mk ad H) (ls : Array Slot) (hl : lv_has ls 2 [(0, .ref (t 0)), (1, .int (zi i1))]) (hg : Go (zQ_X10_told p l e s m args below meth c Q H locs) (zf_X10_told mk t_polygon t_bits endless_size i1)) : W p l e zr_X10_told s m args below meth c H locs 0 0 Q (F0 m 0 ls []) := by
  unfold zf_X10_told at hg
  refine lv_iload_n hx hb dX10_told_0 rfl (lv_at hl 1 rfl) ?_
  obtain ⟨b1, hg⟩ := Go_n hg
  by_cases c2 : i1 = (0 : Int)
  · have hg := Go_t c2 hg
    refine lv_tableIn (off := 31) (tgt := 32) hx hb dX10_told_1 (by rw [c2]; decide) (by rw [c2]; decide) (by rw [c2]; decide) (by decide) ?_
    refine lv_aload_n hx hb dX10_told_32 rfl (lv_at hl 0 rfl) ?_
    obtain ⟨m3, hg⟩ := Go_n hg
    refine va_get (D := D) (ci := 10) (v := .ref (ad t_polygon 0)) (C := RX10) (T := TX10) (N := 13) hx hb hts zi_X10_told_X10 hown hK hP 0 rfl rfl 10 (by decide) (hts (.fieldLink RX10 84 "DiamondRows" "polygon" "LDiamondRows$Polygon;") zl_X10_told_84) (fun _ h9 => h9) (zpg_ok m3) dX10_told_33 ?_
    obtain ⟨o4, ho4, hg⟩ := Go_b hg
    refine zc_vi (rest := []) ⟨hx, hb, hml, hown, hts⟩ (zc_X5_corners l D κ (ad t_polygon) t_polygon  o4 ho4) (cwV 0 hts gX10_told_X5_corners rfl rfl rfl hv_X5_corners ⟨Nat.le_of_ble_eq_true rfl, Nat.le_of_ble_eq_true rfl⟩) (zpreV hK (hB t_polygon m3) 5 0 rfl rfl) rfl hl.1 rfl (Nat.le_of_ble_eq_true rfl) dX10_told_36 ⟨Nat.zero_le _, Nat.zero_le _⟩ ?_
    exact (Go_s hg) _ _ dX10_told_39
  · have hg := Go_f c2 hg
    by_cases c5 : i1 = (1 : Int)
    · have hg := Go_t c5 hg
      refine lv_tableIn (off := 39) (tgt := 40) hx hb dX10_told_1 (by rw [c5]; decide) (by rw [c5]; decide) (by rw [c5]; decide) (by decide) ?_
      refine lv_aload_n hx hb dX10_told_40 rfl (lv_at hl 0 rfl) ?_
      obtain ⟨m6, hg⟩ := Go_n hg
      refine va_get (D := D) (ci := 10) (v := .ref (ad t_polygon 0)) (C := RX10) (T := TX10) (N := 13) hx hb hts zi_X10_told_X10 hown hK hP 0 rfl rfl 10 (by decide) (hts (.fieldLink RX10 84 "DiamondRows" "polygon" "LDiamondRows$Polygon;") zl_X10_told_84) (fun _ h9 => h9) (zpg_ok m6) dX10_told_41 ?_
      refine lv_aload_n hx hb dX10_told_44 rfl (lv_at hl 0 rfl) ?_
      refine va_get (D := D) (ci := 10) (v := .int (zi t_bits)) (C := RX10) (T := TX10) (N := 13) hx hb hts zi_X10_told_X10 hown hK hP 0 rfl rfl 11 (by decide) (hts (.fieldLink RX10 94 "DiamondRows" "bits" "I") zl_X10_told_94) (fun _ h9 => h9) rfl dX10_told_45 ?_
      obtain ⟨o7, ho7, hg⟩ := Go_b hg
      refine zc_vi (rest := []) ⟨hx, hb, hml, hown, hts⟩ (zc_X5_numberOf l D κ (ad t_polygon) t_polygon t_bits o7 ho7) (cwV 1 hts gX10_told_X5_numberOf rfl rfl rfl hv_X5_numberOf ⟨Nat.le_of_ble_eq_true rfl, Nat.le_of_ble_eq_true rfl⟩) (zpreV hK (hB t_polygon m6) 5 0 rfl rfl) rfl hl.1 rfl (Nat.le_of_ble_eq_true rfl) dX10_told_48 ⟨Nat.zero_le _, Nat.zero_le _⟩ ?_
      exact (Go_s hg) _ _ dX10_told_51
    · have hg := Go_f c5 hg
      by_cases c8 : i1 = (2 : Int)
      · have hg := Go_t c8 hg
        refine lv_tableIn (off := 51) (tgt := 52) hx hb dX10_told_1 (by rw [c8]; decide) (by rw [c8]; decide) (by rw [c8]; decide) (by decide) ?_
        refine lv_aload_n hx hb dX10_told_52 rfl (lv_at hl 0 rfl) ?_
        obtain ⟨m9, hg⟩ := Go_n hg
        refine va_get (D := D) (ci := 10) (v := .ref (ad t_polygon 0)) (C := RX10) (T := TX10) (N := 13) hx hb hts zi_X10_told_X10 hown hK hP 0 rfl rfl 10 (by decide) (hts (.fieldLink RX10 84 "DiamondRows" "polygon" "LDiamondRows$Polygon;") zl_X10_told_84) (fun _ h9 => h9) (zpg_ok m9) dX10_told_53 ?_
        obtain ⟨o10, ho10, hg⟩ := Go_b hg
        refine zc_vi (rest := []) ⟨hx, hb, hml, hown, hts⟩ (zc_X5_cutCount l D κ (ad t_polygon) t_polygon  o10 ho10) (cwV 0 hts gX10_told_X5_cutCount rfl rfl rfl hv_X5_cutCount ⟨Nat.le_of_ble_eq_true rfl, Nat.le_of_ble_eq_true rfl⟩) (zpreV hK (hB t_polygon m9) 5 0 rfl rfl) rfl hl.1 rfl (Nat.le_of_ble_eq_true rfl) dX10_told_56 ⟨Nat.zero_le _, Nat.zero_le _⟩ ?_
        exact (Go_s hg) _ _ dX10_told_59
      · have hg := Go_f c8 hg
        by_cases c11 : i1 = (3 : Int)
        · have hg := Go_t c11 hg
          refine lv_tableIn (off := 59) (tgt := 60) hx hb dX10_told_1 (by rw [c11]; decide) (by rw [c11]; decide) (by rw [c11]; decide) (by decide) ?_
          refine lv_aload_n hx hb dX10_told_60 rfl (lv_at hl 0 rfl) ?_
          refine va_get (D := D) (ci := 10) (v := .ref (t 15)) (C := RX10) (T := TX10) (N := 13) hx hb hts zi_X10_told_X10 hown hK hP 0 rfl rfl 6 (by decide) (hts (.fieldLink RX10 54 "DiamondRows" "endless" "LDiamondRows$Endless;") zl_X10_told_54) (fun _ h9 => h9) rfl dX10_told_61 ?_
          obtain ⟨o12, ho12, hg⟩ := Go_b hg
          refine zc_vi (rest := []) ⟨hx, hb, hml, hown, hts⟩ (zc_X2_size l D κ (fun i => t (i + 15)) endless_size endless_numbers o12 ho12) (cwV 0 hts gX10_told_X2_size rfl rfl rfl hv_X2_size ⟨Nat.le_of_ble_eq_true rfl, Nat.le_of_ble_eq_true rfl⟩) (zpreV hK (hP.sub [1, 2] rfl) 2 0 rfl rfl) rfl hl.1 rfl (Nat.le_of_ble_eq_true rfl) dX10_told_64 ⟨Nat.zero_le _, Nat.zero_le _⟩ ?_
          exact (Go_s hg) _ _ dX10_told_67
        · have hg := Go_f c11 hg
          refine lv_tableOut (tgt := 68) hx hb dX10_told_1 (by rw [zi_int b1]; omega) (by decide) ?_
          refine zv_iconst hx hb dX10_told_68 ?_
          exact (Go_s hg) _ _ dX10_told_69
set_option maxHeartbeats 4000000 in
set_option maxRecDepth 100000 in
theorem zc_X10_told (l : Launch) (D : va_G) (κ : Nat → ClassId) (t : Nat → Nat) (mk : Nat) (ad : Nat → Nat → Nat) (t_polygon : Nat) (t_bits : Int) (t_mendedNumber : Int) (endless_size : Int) (endless_numbers : Nat) (i1 : Int) (out : Int) (h : zf_X10_told mk t_polygon t_bits endless_size i1 = some out) : Met l yX10_told wsX10_told zr_X10_told (va_Pc [.ref (t 0), .int (zi i1)] (zRa D κ mk ad ([((t 0), .inr (10, [.ref (t 1), .ref (t 3), .ref (t 5), .ref (t 6), .ref (t 9), .ref (t 11), .ref (t 15), .ref (t 17), .ref (t 27), .ref (t 30), zpg ad t_polygon, .int (zi t_bits), .int (zi t_mendedNumber)])), ((t 15), .inr (2, [.ref (t 16), .int (zi endless_size)])), ((t 16), .inl (κ 1, 10, .inl (zc endless_numbers)))]))) (vp_Si (fun x => x = zi out)) 0 0 (fun _ => False) := by
  refine Met.ofW (cc := cX10_told) (maxL := 2) (ret := (some .int)) (by decide +kernel) rfl ?_
  intro p e s m args below meth c s₁ B hml hv
  obtain ⟨rfl, hP, hK, hB⟩ := hv
  have hx := B.exec
  have hb := B.bytes
  have hr := B.returns
  have hts := atoms_spec (ws := wsX10_told) B.pre
  have hown : s.vm.findClass RX10 = some m.cls := findClass_of_methodNamed B.named
  have hlocks := B.notSynchronized
  have hl := lv_entry ([.ref (t 0), .int (zi i1)]) (n := 2) (Nat.le_of_ble_eq_true rfl)
  rw [lg_entry_eq]
  generalize (lg_sl ([.ref (t 0), .int (zi i1)]) ++ List.replicate (2 - (lg_sl ([.ref (t 0), .int (zi i1)])).length) Slot.unset).toArray = ls at hl ⊢
  have hl : lv_has ls 2 [(0, .ref (t 0)), (1, .int (zi i1))] := hl
  refine zs_X10_told t mk ad t_polygon t_bits t_mendedNumber endless_size endless_numbers i1 hx hb hml hown hts hK hP hB ls hl ⟨out, h, ?_⟩
  exact fun ls pc hd => W.iret hx hb hr (fun t ht hW => ⟨_, rfl, rfl, ht⟩) (fun _ h => by cases h) hd
/-! DiamondRows.triangle(II)I -/
abbrev zr_X10_triangle : Room := { frames := 5, cells := 0, slots := 0, locals := 126 }
noncomputable def zf_X10_triangle (mk : Nat) (t_polygon : Nat) (t_bits : Int) (triangles_count : Int) (triangles_cornersOf : Nat) (i1 : Int) (i2 : Int) : Option (Int × Int × Nat) :=
  if zout i1 then none else
  if i1 < 0 then
  some ((-2 : Int), triangles_count, triangles_cornersOf)
  else
  if zno mk t_polygon then none else
  Option.bind (zf_X5_corners t_polygon) (fun o3 =>
  if zout (o3 - (2 : Int)) then none else
  if (o3 - (2 : Int)) ≤ i1 then
  some ((-2 : Int), triangles_count, triangles_cornersOf)
  else
  if zout i2 then none else
  if i2 < 0 then
  some ((-2 : Int), triangles_count, triangles_cornersOf)
  else
  if i2 ≤ (2 : Int) then
  Option.bind (zf_X9_gather mk triangles_count triangles_cornersOf t_polygon t_bits) (fun o6 =>
  Option.bind (zf_X9_cornerOf mk (o6.1) (o6.2) i1 i2) (fun o7 =>
  some (o7, (o6.1), (o6.2))))
  else
  some ((-2 : Int), triangles_count, triangles_cornersOf))
theorem zi_X10_triangle_X10 : ∀ w ∈ u_ws RX10 TX10 13, w ∈ wsX10_triangle := fun w h => (List.mem_cons_of_mem _ (List.mem_append_right _ (List.mem_append_left _ h)))
theorem zl_X10_triangle_33 : Cond.fieldLink RX10 33 "DiamondRows" "triangles" "LDiamondRows$Triangles;" ∈ wsX10_triangle := (List.mem_cons_of_mem _ (List.mem_append_left _ (List.mem_of_getElem? (i := 1) rfl)))
theorem zl_X10_triangle_84 : Cond.fieldLink RX10 84 "DiamondRows" "polygon" "LDiamondRows$Polygon;" ∈ wsX10_triangle := (List.mem_cons_of_mem _ (List.mem_append_left _ (List.mem_of_getElem? (i := 0) rfl)))
theorem zl_X10_triangle_94 : Cond.fieldLink RX10 94 "DiamondRows" "bits" "I" ∈ wsX10_triangle := (List.mem_cons_of_mem _ (List.mem_append_left _ (List.mem_of_getElem? (i := 2) rfl)))
def zQ_X10_triangle (p : Program) (l : Launch) (e : Env) (s : State) (m : MethodId) (args : Array Value) (below : List Frame) (meth : Method) (c : Code) (Q : State → Prop) (D : va_G) (κ : Nat → ClassId) (A : Nat → Prop) (H0 : Heap) (t : Nat → Nat) (mk : Nat) (ad : Nat → Nat → Nat) (t_polygon : Nat) (t_bits : Int) (t_mendedNumber : Int) (triangles_polygon : Nat) (triangles_from : Int) (triangles_length : Int) (triangles_waysAhead : Int) (triangles_chosen : Nat) (o : Int × Int × Nat) : Prop := ∀ (H : Heap) (locs : List Loc) (ls : Array Slot) (pc : Nat), va_P D vwCl ([((t 0), .inr (10, [.ref (t 1), .ref (t 3), .ref (t 5), .ref (t 6), .ref (t 9), .ref (t 11), .ref (t 15), .ref (t 17), .ref (t 27), .ref (t 30), zpg ad t_polygon, .int (zi t_bits), .int (zi t_mendedNumber)])), ((t 6), .inr (9, [.ref (t 7), .ref (t 8), .int (zi (o.2.1)), zpg ad triangles_polygon, .int (zi triangles_from), .int (zi triangles_length), .int (zi triangles_waysAhead)])), ((t 7), .inl (κ 1, 21, .inl (zc (o.2.2)))), ((t 8), .inl (κ 1, 7, .inl (zc triangles_chosen)))]) H → va_D A ([((t 0), .inr (10, [.ref (t 1), .ref (t 3), .ref (t 5), .ref (t 6), .ref (t 9), .ref (t 11), .ref (t 15), .ref (t 17), .ref (t 27), .ref (t 30), zpg ad t_polygon, .int (zi t_bits), .int (zi t_mendedNumber)])), ((t 6), .inr (9, [.ref (t 7), .ref (t 8), .int (zi (o.2.1)), zpg ad triangles_polygon, .int (zi triangles_from), .int (zi triangles_length), .int (zi triangles_waysAhead)])), ((t 7), .inl (κ 1, 21, .inl (zc (o.2.2)))), ((t 8), .inl (κ 1, 7, .inl (zc triangles_chosen)))]) → va_S A H0 H locs → decode cX10_triangle pc = .ok (.ireturn, 1) → W p l e zr_X10_triangle s m args below meth c H locs 0 0 Q (F0 m pc ls [.int (zi (o.1))])
set_option maxHeartbeats 4000000 in
set_option maxRecDepth 100000 in
theorem zs_X10_triangle {p : Program} {l : Launch} {e : Env} {s : State} {m : MethodId} {args : Array Value} {below : List Frame} {meth : Method} {c : Code} {Q : State → Prop} {D : va_G} {κ : Nat → ClassId} {A : Nat → Prop} {H0 : Heap} (t : Nat → Nat) (mk : Nat) (ad : Nat → Nat → Nat) (t_polygon : Nat) (t_bits : Int) (t_mendedNumber : Int) (triangles_count : Int) (triangles_polygon : Nat) (triangles_from : Int) (triangles_length : Int) (triangles_waysAhead : Int) (triangles_cornersOf : Nat) (triangles_chosen : Nat) (i1 : Int) (i2 : Int) (hx : p.tables.exec = Jvm.exec) (hb : c.code = cX10_triangle) (hml : c.maxLocals = 3) (hown : s.vm.findClass RX10 = some m.cls) (hts : ∀ w ∈ wsX10_triangle, w.before args s = true) (hK : va_K D vwCl (zTY κ) s) (hA : ∀ q : Nat, H0.size ≤ q → A q) (hB : zAmb D κ mk ad H0) (hBA : zApt mk ad A H0.size) (H : Heap) (locs : List Loc) (ls : Array Slot) (hP : va_P D vwCl ([((t 0), .inr (10, [.ref (t 1), .ref (t 3), .ref (t 5), .ref (t 6), .ref (t 9), .ref (t 11), .ref (t 15), .ref (t 17), .ref (t 27), .ref (t 30), zpg ad t_polygon, .int (zi t_bits), .int (zi t_mendedNumber)])), ((t 6), .inr (9, [.ref (t 7), .ref (t 8), .int (zi triangles_count), zpg ad triangles_polygon, .int (zi triangles_from), .int (zi triangles_length), .int (zi triangles_waysAhead)])), ((t 7), .inl (κ 1, 21, .inl (zc triangles_cornersOf))), ((t 8), .inl (κ 1, 7, .inl (zc triangles_chosen)))]) H) (hD : va_D A ([((t 0), .inr (10, [.ref (t 1), .ref (t 3), .ref (t 5), .ref (t 6), .ref (t 9), .ref (t 11), .ref (t 15), .ref (t 17), .ref (t 27), .ref (t 30), zpg ad t_polygon, .int (zi t_bits), .int (zi t_mendedNumber)])), ((t 6), .inr (9, [.ref (t 7), .ref (t 8), .int (zi triangles_count), zpg ad triangles_polygon, .int (zi triangles_from), .int (zi triangles_length), .int (zi triangles_waysAhead)])), ((t 7), .inl (κ 1, 21, .inl (zc triangles_cornersOf))), ((t 8), .inl (κ 1, 7, .inl (zc triangles_chosen)))])) (hS : va_S A H0 H locs) (hl : lv_has ls 3 [(0, .ref (t 0)), (1, .int (zi i1)), (2, .int (zi i2))]) (hg : Go (zQ_X10_triangle p l e s m args below meth c Q D κ A H0 t mk ad t_polygon t_bits t_mendedNumber triangles_polygon triangles_from triangles_length triangles_waysAhead triangles_chosen) (zf_X10_triangle mk t_polygon t_bits triangles_count triangles_cornersOf i1 i2)) : W p l e zr_X10_triangle s m args below meth c H locs 0 0 Q (F0 m 0 ls []) := by
  unfold zf_X10_triangle at hg
  refine lv_iload_n hx hb dX10_triangle_0 rfl (lv_at hl 1 rfl) ?_
  obtain ⟨b1, hg⟩ := Go_n hg
  refine zv_if_lt (tgt := 26) hx hb dX10_triangle_1 (by decide) b1 (fun c11 => ?_) (fun c11 => ?_)
  · have hg := Go_t c11 hg
    refine zv_bipush hx hb dX10_triangle_26 (by decide) ?_
    exact (Go_s hg) _ _ _ _ hP hD hS dX10_triangle_28
  · have hg := Go_f c11 hg
    refine lv_iload_n hx hb dX10_triangle_4 rfl (lv_at hl 1 rfl) ?_
    refine lv_aload_n hx hb dX10_triangle_5 rfl (lv_at hl 0 rfl) ?_
    obtain ⟨m2, hg⟩ := Go_n hg
    refine va_get (D := D) (ci := 10) (v := .ref (ad t_polygon 0)) (C := RX10) (T := TX10) (N := 13) hx hb hts zi_X10_triangle_X10 hown hK hP 0 rfl rfl 10 (by decide) (hts (.fieldLink RX10 84 "DiamondRows" "polygon" "LDiamondRows$Polygon;") zl_X10_triangle_84) (fun _ h9 => h9) (zpg_ok m2) dX10_triangle_6 ?_
    obtain ⟨o3, ho3, hg⟩ := Go_b hg
    refine zc_vi (rest := [.int (zi i1)]) ⟨hx, hb, hml, hown, hts⟩ (zc_X5_corners l D κ (ad t_polygon) t_polygon  o3 ho3) (cwV 0 hts gX10_triangle_X5_corners rfl rfl rfl hv_X5_corners ⟨Nat.le_of_ble_eq_true rfl, Nat.le_of_ble_eq_true rfl⟩) (zpreV hK ((zamb hB hBA hS) t_polygon m2) 5 0 rfl rfl) rfl hl.1 rfl (Nat.le_of_ble_eq_true rfl) dX10_triangle_9 ⟨Nat.zero_le _, Nat.zero_le _⟩ ?_
    refine zv_iconst hx hb dX10_triangle_12 ?_
    refine zv_isub hx hb dX10_triangle_13 ?_
    obtain ⟨b4, hg⟩ := Go_n hg
    refine zv_icmp_ge (tgt := 26) hx hb dX10_triangle_14 (by decide) b1 b4 (fun c10 => ?_) (fun c10 => ?_)
    · have hg := Go_t c10 hg
      refine zv_bipush hx hb dX10_triangle_26 (by decide) ?_
      exact (Go_s hg) _ _ _ _ hP hD hS dX10_triangle_28
    · have hg := Go_f c10 hg
      refine lv_iload_n hx hb dX10_triangle_17 rfl (lv_at hl 2 rfl) ?_
      obtain ⟨b5, hg⟩ := Go_n hg
      refine zv_if_lt (tgt := 26) hx hb dX10_triangle_18 (by decide) b5 (fun c9 => ?_) (fun c9 => ?_)
      · have hg := Go_t c9 hg
        refine zv_bipush hx hb dX10_triangle_26 (by decide) ?_
        exact (Go_s hg) _ _ _ _ hP hD hS dX10_triangle_28
      · have hg := Go_f c9 hg
        refine lv_iload_n hx hb dX10_triangle_21 rfl (lv_at hl 2 rfl) ?_
        refine zv_iconst hx hb dX10_triangle_22 ?_
        refine zv_icmp_le (tgt := 29) hx hb dX10_triangle_23 (by decide) b5 (by decide) (fun c8 => ?_) (fun c8 => ?_)
        · have hg := Go_t c8 hg
          refine lv_aload_n hx hb dX10_triangle_29 rfl (lv_at hl 0 rfl) ?_
          refine va_get (D := D) (ci := 10) (v := .ref (t 6)) (C := RX10) (T := TX10) (N := 13) hx hb hts zi_X10_triangle_X10 hown hK hP 0 rfl rfl 3 (by decide) (hts (.fieldLink RX10 33 "DiamondRows" "triangles" "LDiamondRows$Triangles;") zl_X10_triangle_33) (fun _ h9 => h9) rfl dX10_triangle_30 ?_
          refine lv_aload_n hx hb dX10_triangle_33 rfl (lv_at hl 0 rfl) ?_
          refine va_get (D := D) (ci := 10) (v := .ref (ad t_polygon 0)) (C := RX10) (T := TX10) (N := 13) hx hb hts zi_X10_triangle_X10 hown hK hP 0 rfl rfl 10 (by decide) (hts (.fieldLink RX10 84 "DiamondRows" "polygon" "LDiamondRows$Polygon;") zl_X10_triangle_84) (fun _ h9 => h9) (zpg_ok m2) dX10_triangle_34 ?_
          refine lv_aload_n hx hb dX10_triangle_37 rfl (lv_at hl 0 rfl) ?_
          refine va_get (D := D) (ci := 10) (v := .int (zi t_bits)) (C := RX10) (T := TX10) (N := 13) hx hb hts zi_X10_triangle_X10 hown hK hP 0 rfl rfl 11 (by decide) (hts (.fieldLink RX10 94 "DiamondRows" "bits" "I") zl_X10_triangle_94) (fun _ h9 => h9) rfl dX10_triangle_38 ?_
          obtain ⟨o6, ho6, hg⟩ := Go_b hg
          refine zj_v (wr := [((t 0), .inr (10, [.ref (t 1), .ref (t 3), .ref (t 5), .ref (t 6), .ref (t 9), .ref (t 11), .ref (t 15), .ref (t 17), .ref (t 27), .ref (t 30), zpg ad t_polygon, .int (zi t_bits), .int (zi t_mendedNumber)]))]) (ws1 := [((t 0), .inr (10, [.ref (t 1), .ref (t 3), .ref (t 5), .ref (t 6), .ref (t 9), .ref (t 11), .ref (t 15), .ref (t 17), .ref (t 27), .ref (t 30), zpg ad t_polygon, .int (zi t_bits), .int (zi t_mendedNumber)])), ((t 6), .inr (9, [.ref (t 7), .ref (t 8), .int (zi (o6.1)), zpg ad triangles_polygon, .int (zi triangles_from), .int (zi triangles_length), .int (zi triangles_waysAhead)])), ((t 7), .inl (κ 1, 21, .inl (zc (o6.2)))), ((t 8), .inl (κ 1, 7, .inl (zc triangles_chosen)))]) (va_runV (rest := []) ⟨hx, hb, hml, hown, hts⟩ (zc_X9_gather l D κ (fun i => t (i + 6)) mk ad H.size triangles_count triangles_polygon triangles_from triangles_length triangles_waysAhead triangles_cornersOf triangles_chosen t_polygon t_bits o6 ho6) (cwV 2 hts gX10_triangle_X9_gather rfl rfl rfl hv_X9_gather ⟨Nat.le_of_ble_eq_true rfl, Nat.le_of_ble_eq_true rfl⟩) (zpreWVa hK (hP.sub [1, 2, 3] rfl) (hD.sub [1, 2, 3] (by decide) rfl) (zamb hB hBA hS) (zapt hBA hS (va_free hD hS hA [1, 2, 3] rfl)) 9 0 rfl rfl) rfl rfl hl.1 rfl (lv_room (Nat.le_of_ble_eq_true rfl)) dX10_triangle_41 ⟨Nat.zero_le _, Nat.zero_le _⟩) hP hD hS hA [1, 2, 3] [0] [0, 1, 2, 3] rfl rfl (by decide) (by decide) rfl rfl (by decide) (fun H locs hP hD hS => ?_)
          refine lv_aload_n hx hb dX10_triangle_44 rfl (lv_at hl 0 rfl) ?_
          refine va_get (D := D) (ci := 10) (v := .ref (t 6)) (C := RX10) (T := TX10) (N := 13) hx hb hts zi_X10_triangle_X10 hown hK hP 0 rfl rfl 3 (by decide) (hts (.fieldLink RX10 33 "DiamondRows" "triangles" "LDiamondRows$Triangles;") zl_X10_triangle_33) (fun _ h9 => h9) rfl dX10_triangle_45 ?_
          refine lv_iload_n hx hb dX10_triangle_48 rfl (lv_at hl 1 rfl) ?_
          refine lv_iload_n hx hb dX10_triangle_49 rfl (lv_at hl 2 rfl) ?_
          obtain ⟨o7, ho7, hg⟩ := Go_b hg
          refine zc_vi (rest := []) ⟨hx, hb, hml, hown, hts⟩ (zc_X9_cornerOf l D κ (fun i => t (i + 6)) mk ad (o6.1) triangles_polygon triangles_from triangles_length triangles_waysAhead (o6.2) triangles_chosen i1 i2 o7 ho7) (cwV 2 hts gX10_triangle_X9_cornerOf rfl rfl rfl hv_X9_cornerOf ⟨Nat.le_of_ble_eq_true rfl, Nat.le_of_ble_eq_true rfl⟩) (zpreVa hK (hP.sub [1, 2, 3] rfl) (zamb hB hBA hS) 9 0 rfl rfl) rfl hl.1 rfl (Nat.le_of_ble_eq_true rfl) dX10_triangle_50 ⟨Nat.zero_le _, Nat.zero_le _⟩ ?_
          exact (Go_s hg) _ _ _ _ hP hD hS dX10_triangle_53
        · have hg := Go_f c8 hg
          refine zv_bipush hx hb dX10_triangle_26 (by decide) ?_
          exact (Go_s hg) _ _ _ _ hP hD hS dX10_triangle_28
set_option maxHeartbeats 4000000 in
set_option maxRecDepth 100000 in
theorem zc_X10_triangle (l : Launch) (D : va_G) (κ : Nat → ClassId) (t : Nat → Nat) (mk : Nat) (ad : Nat → Nat → Nat) (sz : Nat) (t_polygon : Nat) (t_bits : Int) (t_mendedNumber : Int) (triangles_count : Int) (triangles_polygon : Nat) (triangles_from : Int) (triangles_length : Int) (triangles_waysAhead : Int) (triangles_cornersOf : Nat) (triangles_chosen : Nat) (i1 : Int) (i2 : Int) (out : Int × Int × Nat) (h : zf_X10_triangle mk t_polygon t_bits triangles_count triangles_cornersOf i1 i2 = some out) : Met l yX10_triangle wsX10_triangle zr_X10_triangle (va_Pc [.ref (t 0), .int (zi i1), .int (zi i2)] (zWa D κ mk ad ([((t 0), .inr (10, [.ref (t 1), .ref (t 3), .ref (t 5), .ref (t 6), .ref (t 9), .ref (t 11), .ref (t 15), .ref (t 17), .ref (t 27), .ref (t 30), zpg ad t_polygon, .int (zi t_bits), .int (zi t_mendedNumber)])), ((t 6), .inr (9, [.ref (t 7), .ref (t 8), .int (zi triangles_count), zpg ad triangles_polygon, .int (zi triangles_from), .int (zi triangles_length), .int (zi triangles_waysAhead)])), ((t 7), .inl (κ 1, 21, .inl (zc triangles_cornersOf))), ((t 8), .inl (κ 1, 7, .inl (zc triangles_chosen)))]) sz)) (va_Qi (fun r (_ : Unit) => r = zi (out.1)) (fun _ => zB D κ (va_A ([((t 0), .inr (10, [.ref (t 1), .ref (t 3), .ref (t 5), .ref (t 6), .ref (t 9), .ref (t 11), .ref (t 15), .ref (t 17), .ref (t 27), .ref (t 30), zpg ad t_polygon, .int (zi t_bits), .int (zi t_mendedNumber)])), ((t 6), .inr (9, [.ref (t 7), .ref (t 8), .int (zi triangles_count), zpg ad triangles_polygon, .int (zi triangles_from), .int (zi triangles_length), .int (zi triangles_waysAhead)])), ((t 7), .inl (κ 1, 21, .inl (zc triangles_cornersOf))), ((t 8), .inl (κ 1, 7, .inl (zc triangles_chosen)))]) sz) ([((t 0), .inr (10, [.ref (t 1), .ref (t 3), .ref (t 5), .ref (t 6), .ref (t 9), .ref (t 11), .ref (t 15), .ref (t 17), .ref (t 27), .ref (t 30), zpg ad t_polygon, .int (zi t_bits), .int (zi t_mendedNumber)])), ((t 6), .inr (9, [.ref (t 7), .ref (t 8), .int (zi (out.2.1)), zpg ad triangles_polygon, .int (zi triangles_from), .int (zi triangles_length), .int (zi triangles_waysAhead)])), ((t 7), .inl (κ 1, 21, .inl (zc (out.2.2)))), ((t 8), .inl (κ 1, 7, .inl (zc triangles_chosen)))])) (va_A ([((t 0), .inr (10, [.ref (t 1), .ref (t 3), .ref (t 5), .ref (t 6), .ref (t 9), .ref (t 11), .ref (t 15), .ref (t 17), .ref (t 27), .ref (t 30), zpg ad t_polygon, .int (zi t_bits), .int (zi t_mendedNumber)])), ((t 6), .inr (9, [.ref (t 7), .ref (t 8), .int (zi triangles_count), zpg ad triangles_polygon, .int (zi triangles_from), .int (zi triangles_length), .int (zi triangles_waysAhead)])), ((t 7), .inl (κ 1, 21, .inl (zc triangles_cornersOf))), ((t 8), .inl (κ 1, 7, .inl (zc triangles_chosen)))]) sz)) 0 0 (va_A ([((t 0), .inr (10, [.ref (t 1), .ref (t 3), .ref (t 5), .ref (t 6), .ref (t 9), .ref (t 11), .ref (t 15), .ref (t 17), .ref (t 27), .ref (t 30), zpg ad t_polygon, .int (zi t_bits), .int (zi t_mendedNumber)])), ((t 6), .inr (9, [.ref (t 7), .ref (t 8), .int (zi triangles_count), zpg ad triangles_polygon, .int (zi triangles_from), .int (zi triangles_length), .int (zi triangles_waysAhead)])), ((t 7), .inl (κ 1, 21, .inl (zc triangles_cornersOf))), ((t 8), .inl (κ 1, 7, .inl (zc triangles_chosen)))]) sz) := by
  refine Met.ofW (cc := cX10_triangle) (maxL := 3) (ret := (some .int)) (by decide +kernel) rfl ?_
  intro p e s m args below meth c s₁ B hml hv
  obtain ⟨rfl, hsz, hP, hK, hD0, hB, hBA⟩ := hv
  have hx := B.exec
  have hb := B.bytes
  have hr := B.returns
  have hts := atoms_spec (ws := wsX10_triangle) B.pre
  have hown : s.vm.findClass RX10 = some m.cls := findClass_of_methodNamed B.named
  have hlocks := B.notSynchronized
  subst hsz
  have hD := hD0.self (sz := s.heap.size)
  generalize hAe : va_A ([((t 0), .inr (10, [.ref (t 1), .ref (t 3), .ref (t 5), .ref (t 6), .ref (t 9), .ref (t 11), .ref (t 15), .ref (t 17), .ref (t 27), .ref (t 30), zpg ad t_polygon, .int (zi t_bits), .int (zi t_mendedNumber)])), ((t 6), .inr (9, [.ref (t 7), .ref (t 8), .int (zi triangles_count), zpg ad triangles_polygon, .int (zi triangles_from), .int (zi triangles_length), .int (zi triangles_waysAhead)])), ((t 7), .inl (κ 1, 21, .inl (zc triangles_cornersOf))), ((t 8), .inl (κ 1, 7, .inl (zc triangles_chosen)))]) s.heap.size = A at hD hBA ⊢
  have hA : ∀ q : Nat, s.heap.size ≤ q → A q := fun q h => by rw [← hAe]; exact Or.inr h
  have hS : va_S A s.heap s.heap [] := va_S.rf
  have hl := lv_entry ([.ref (t 0), .int (zi i1), .int (zi i2)]) (n := 3) (Nat.le_of_ble_eq_true rfl)
  rw [lg_entry_eq]
  generalize (lg_sl ([.ref (t 0), .int (zi i1), .int (zi i2)]) ++ List.replicate (3 - (lg_sl ([.ref (t 0), .int (zi i1), .int (zi i2)])).length) Slot.unset).toArray = ls at hl ⊢
  have hl : lv_has ls 3 [(0, .ref (t 0)), (1, .int (zi i1)), (2, .int (zi i2))] := hl
  refine zs_X10_triangle t mk ad t_polygon t_bits t_mendedNumber triangles_count triangles_polygon triangles_from triangles_length triangles_waysAhead triangles_cornersOf triangles_chosen i1 i2 hx hb hml hown hts hK hA hB hBA s.heap [] ls hP hD hS hl ⟨out, h, ?_⟩
  exact fun H locs ls pc hP hD hS hd => W.iret hx hb hr (fun t ht hW => ⟨⟨_, (), rfl, rfl, by rw [ht]; exact hP, va_K.moved hW.alike hK, hD⟩, hS.F ht⟩) hS.2.2 hd
/-! DiamondRows.areCorners(II)Z -/
abbrev zr_X10_areCorners : Room := { frames := 1, cells := 0, slots := 0, locals := 21 }
noncomputable def zf_X10_areCorners (mk : Nat) (t_polygon : Nat) (i1 : Int) (i2 : Int) : Option (Bool) :=
  if zno mk t_polygon then none else
  Option.bind (zf_X5_hasCorner t_polygon i1) (fun o2 =>
  if o2 = false then
  some (false)
  else
  Option.bind (zf_X5_hasCorner t_polygon i2) (fun o3 =>
  if o3 = false then
  some (false)
  else
  some (true)))
theorem zi_X10_areCorners_X10 : ∀ w ∈ u_ws RX10 TX10 13, w ∈ wsX10_areCorners := fun w h => (List.mem_cons_of_mem _ (List.mem_append_right _ (List.mem_append_left _ h)))
theorem zl_X10_areCorners_84 : Cond.fieldLink RX10 84 "DiamondRows" "polygon" "LDiamondRows$Polygon;" ∈ wsX10_areCorners := (List.mem_cons_of_mem _ (List.mem_append_left _ (List.mem_of_getElem? (i := 0) rfl)))
def zQ_X10_areCorners (p : Program) (l : Launch) (e : Env) (s : State) (m : MethodId) (args : Array Value) (below : List Frame) (meth : Method) (c : Code) (Q : State → Prop) (H : Heap) (locs : List Loc)  (o : Bool) : Prop := ∀ (ls : Array Slot) (pc : Nat), decode cX10_areCorners pc = .ok (.ireturn, 1) → W p l e zr_X10_areCorners s m args below meth c H locs 0 0 Q (F0 m pc ls [.int (zi (bI o))])
set_option maxHeartbeats 4000000 in
set_option maxRecDepth 100000 in
theorem zs_X10_areCorners {p : Program} {l : Launch} {e : Env} {s : State} {m : MethodId} {args : Array Value} {below : List Frame} {meth : Method} {c : Code} {Q : State → Prop} {D : va_G} {κ : Nat → ClassId} {H : Heap} {locs : List Loc} (t : Nat → Nat) (mk : Nat) (ad : Nat → Nat → Nat) (t_polygon : Nat) (t_bits : Int) (t_mendedNumber : Int) (i1 : Int) (i2 : Int) (hx : p.tables.exec = Jvm.exec) (hb : c.code = cX10_areCorners) (hml : c.maxLocals = 3) (hown : s.vm.findClass RX10 = some m.cls) (hts : ∀ w ∈ wsX10_areCorners, w.before args s = true) (hK : va_K D vwCl (zTY κ) s) (hP : va_P D vwCl ([((t 0), .inr (10, [.ref (t 1), .ref (t 3), .ref (t 5), .ref (t 6), .ref (t 9), .ref (t 11), .ref (t 15), .ref (t 17), .ref (t 27), .ref (t 30), zpg ad t_polygon, .int (zi t_bits), .int (zi t_mendedNumber)]))]) H) (hB : zAmb D κ mk ad H) (ls : Array Slot) (hl : lv_has ls 3 [(0, .ref (t 0)), (1, .int (zi i1)), (2, .int (zi i2))]) (hg : Go (zQ_X10_areCorners p l e s m args below meth c Q H locs) (zf_X10_areCorners mk t_polygon i1 i2)) : W p l e zr_X10_areCorners s m args below meth c H locs 0 0 Q (F0 m 0 ls []) := by
  unfold zf_X10_areCorners at hg
  refine lv_aload_n hx hb dX10_areCorners_0 rfl (lv_at hl 0 rfl) ?_
  obtain ⟨m1, hg⟩ := Go_n hg
  refine va_get (D := D) (ci := 10) (v := .ref (ad t_polygon 0)) (C := RX10) (T := TX10) (N := 13) hx hb hts zi_X10_areCorners_X10 hown hK hP 0 rfl rfl 10 (by decide) (hts (.fieldLink RX10 84 "DiamondRows" "polygon" "LDiamondRows$Polygon;") zl_X10_areCorners_84) (fun _ h9 => h9) (zpg_ok m1) dX10_areCorners_1 ?_
  refine lv_iload_n hx hb dX10_areCorners_4 rfl (lv_at hl 1 rfl) ?_
  obtain ⟨o2, ho2, hg⟩ := Go_b hg
  refine zc_vi (rest := []) ⟨hx, hb, hml, hown, hts⟩ (zc_X5_hasCorner l D κ (ad t_polygon) t_polygon i1 o2 ho2) (cwV 1 hts gX10_areCorners_X5_hasCorner rfl rfl rfl hv_X5_hasCorner ⟨Nat.le_of_ble_eq_true rfl, Nat.le_of_ble_eq_true rfl⟩) (zpreV hK (hB t_polygon m1) 5 0 rfl rfl) rfl hl.1 rfl (Nat.le_of_ble_eq_true rfl) dX10_areCorners_5 ⟨Nat.zero_le _, Nat.zero_le _⟩ ?_
  refine zv_ifb_eq (tgt := 26) hx hb dX10_areCorners_8 (by decide) (fun c5 => ?_) (fun c5 => ?_)
  · have hg := Go_t c5 hg
    refine zv_iconst hx hb dX10_areCorners_26 ?_
    exact (Go_s hg) _ _ dX10_areCorners_27
  · have hg := Go_f c5 hg
    refine lv_aload_n hx hb dX10_areCorners_11 rfl (lv_at hl 0 rfl) ?_
    refine va_get (D := D) (ci := 10) (v := .ref (ad t_polygon 0)) (C := RX10) (T := TX10) (N := 13) hx hb hts zi_X10_areCorners_X10 hown hK hP 0 rfl rfl 10 (by decide) (hts (.fieldLink RX10 84 "DiamondRows" "polygon" "LDiamondRows$Polygon;") zl_X10_areCorners_84) (fun _ h9 => h9) (zpg_ok m1) dX10_areCorners_12 ?_
    refine lv_iload_n hx hb dX10_areCorners_15 rfl (lv_at hl 2 rfl) ?_
    obtain ⟨o3, ho3, hg⟩ := Go_b hg
    refine zc_vi (rest := []) ⟨hx, hb, hml, hown, hts⟩ (zc_X5_hasCorner l D κ (ad t_polygon) t_polygon i2 o3 ho3) (cwV 1 hts gX10_areCorners_X5_hasCorner rfl rfl rfl hv_X5_hasCorner ⟨Nat.le_of_ble_eq_true rfl, Nat.le_of_ble_eq_true rfl⟩) (zpreV hK (hB t_polygon m1) 5 0 rfl rfl) rfl hl.1 rfl (Nat.le_of_ble_eq_true rfl) dX10_areCorners_16 ⟨Nat.zero_le _, Nat.zero_le _⟩ ?_
    refine zv_ifb_eq (tgt := 26) hx hb dX10_areCorners_19 (by decide) (fun c4 => ?_) (fun c4 => ?_)
    · have hg := Go_t c4 hg
      refine zv_iconst hx hb dX10_areCorners_26 ?_
      exact (Go_s hg) _ _ dX10_areCorners_27
    · have hg := Go_f c4 hg
      refine zv_iconst hx hb dX10_areCorners_22 ?_
      refine lv_goto (tgt := 27) hx hb dX10_areCorners_23 (by decide) ?_
      exact (Go_s hg) _ _ dX10_areCorners_27
set_option maxHeartbeats 4000000 in
set_option maxRecDepth 100000 in
theorem zc_X10_areCorners (l : Launch) (D : va_G) (κ : Nat → ClassId) (t : Nat → Nat) (mk : Nat) (ad : Nat → Nat → Nat) (t_polygon : Nat) (t_bits : Int) (t_mendedNumber : Int) (i1 : Int) (i2 : Int) (out : Bool) (h : zf_X10_areCorners mk t_polygon i1 i2 = some out) : Met l yX10_areCorners wsX10_areCorners zr_X10_areCorners (va_Pc [.ref (t 0), .int (zi i1), .int (zi i2)] (zRa D κ mk ad ([((t 0), .inr (10, [.ref (t 1), .ref (t 3), .ref (t 5), .ref (t 6), .ref (t 9), .ref (t 11), .ref (t 15), .ref (t 17), .ref (t 27), .ref (t 30), zpg ad t_polygon, .int (zi t_bits), .int (zi t_mendedNumber)]))]))) (vp_Si (fun x => x = zi (bI out))) 0 0 (fun _ => False) := by
  refine Met.ofW (cc := cX10_areCorners) (maxL := 3) (ret := (some .boolean)) (by decide +kernel) rfl ?_
  intro p e s m args below meth c s₁ B hml hv
  obtain ⟨rfl, hP, hK, hB⟩ := hv
  have hx := B.exec
  have hb := B.bytes
  have hr := B.returns
  have hts := atoms_spec (ws := wsX10_areCorners) B.pre
  have hown : s.vm.findClass RX10 = some m.cls := findClass_of_methodNamed B.named
  have hlocks := B.notSynchronized
  have hl := lv_entry ([.ref (t 0), .int (zi i1), .int (zi i2)]) (n := 3) (Nat.le_of_ble_eq_true rfl)
  rw [lg_entry_eq]
  generalize (lg_sl ([.ref (t 0), .int (zi i1), .int (zi i2)]) ++ List.replicate (3 - (lg_sl ([.ref (t 0), .int (zi i1), .int (zi i2)])).length) Slot.unset).toArray = ls at hl ⊢
  have hl : lv_has ls 3 [(0, .ref (t 0)), (1, .int (zi i1)), (2, .int (zi i2))] := hl
  refine zs_X10_areCorners t mk ad t_polygon t_bits t_mendedNumber i1 i2 hx hb hml hown hts hK hP hB ls hl ⟨out, h, ?_⟩
  exact fun ls pc hd => W.zret hx hb hr (bI_nar _) (fun t ht hW => ⟨_, rfl, rfl, ht⟩) (fun _ h => by cases h) hd
/-! DiamondRows.entry(II)I -/
abbrev zr_X10_entry : Room := { frames := 3, cells := 0, slots := 0, locals := 70 }
noncomputable def zf_X10_entry (mk : Nat) (t_polygon : Nat) (t_bits : Int) (i1 : Int) (i2 : Int) : Option (Int) :=
  Option.bind (zf_X10_areCorners mk t_polygon i1 i2) (fun o1 =>
  if o1 = false then
  some ((-2 : Int))
  else
  if zno mk t_polygon then none else
  Option.bind (zf_X5_entryOf t_polygon t_bits i1 i2) (fun o3 =>
  some (o3)))
theorem zi_X10_entry_X10 : ∀ w ∈ u_ws RX10 TX10 13, w ∈ wsX10_entry := fun w h => (List.mem_cons_of_mem _ (List.mem_append_right _ (List.mem_append_left _ h)))
theorem zl_X10_entry_84 : Cond.fieldLink RX10 84 "DiamondRows" "polygon" "LDiamondRows$Polygon;" ∈ wsX10_entry := (List.mem_cons_of_mem _ (List.mem_append_left _ (List.mem_of_getElem? (i := 0) rfl)))
theorem zl_X10_entry_94 : Cond.fieldLink RX10 94 "DiamondRows" "bits" "I" ∈ wsX10_entry := (List.mem_cons_of_mem _ (List.mem_append_left _ (List.mem_of_getElem? (i := 1) rfl)))
def zQ_X10_entry (p : Program) (l : Launch) (e : Env) (s : State) (m : MethodId) (args : Array Value) (below : List Frame) (meth : Method) (c : Code) (Q : State → Prop) (H : Heap) (locs : List Loc)  (o : Int) : Prop := ∀ (ls : Array Slot) (pc : Nat), decode cX10_entry pc = .ok (.ireturn, 1) → W p l e zr_X10_entry s m args below meth c H locs 0 0 Q (F0 m pc ls [.int (zi o)])
set_option maxHeartbeats 4000000 in
set_option maxRecDepth 100000 in
theorem zs_X10_entry {p : Program} {l : Launch} {e : Env} {s : State} {m : MethodId} {args : Array Value} {below : List Frame} {meth : Method} {c : Code} {Q : State → Prop} {D : va_G} {κ : Nat → ClassId} {H : Heap} {locs : List Loc} (t : Nat → Nat) (mk : Nat) (ad : Nat → Nat → Nat) (t_polygon : Nat) (t_bits : Int) (t_mendedNumber : Int) (i1 : Int) (i2 : Int) (hx : p.tables.exec = Jvm.exec) (hb : c.code = cX10_entry) (hml : c.maxLocals = 3) (hown : s.vm.findClass RX10 = some m.cls) (hts : ∀ w ∈ wsX10_entry, w.before args s = true) (hK : va_K D vwCl (zTY κ) s) (hP : va_P D vwCl ([((t 0), .inr (10, [.ref (t 1), .ref (t 3), .ref (t 5), .ref (t 6), .ref (t 9), .ref (t 11), .ref (t 15), .ref (t 17), .ref (t 27), .ref (t 30), zpg ad t_polygon, .int (zi t_bits), .int (zi t_mendedNumber)]))]) H) (hB : zAmb D κ mk ad H) (ls : Array Slot) (hl : lv_has ls 3 [(0, .ref (t 0)), (1, .int (zi i1)), (2, .int (zi i2))]) (hg : Go (zQ_X10_entry p l e s m args below meth c Q H locs) (zf_X10_entry mk t_polygon t_bits i1 i2)) : W p l e zr_X10_entry s m args below meth c H locs 0 0 Q (F0 m 0 ls []) := by
  unfold zf_X10_entry at hg
  refine lv_aload_n hx hb dX10_entry_0 rfl (lv_at hl 0 rfl) ?_
  refine lv_iload_n hx hb dX10_entry_1 rfl (lv_at hl 1 rfl) ?_
  refine lv_iload_n hx hb dX10_entry_2 rfl (lv_at hl 2 rfl) ?_
  obtain ⟨o1, ho1, hg⟩ := Go_b hg
  refine zc_vi (rest := []) ⟨hx, hb, hml, hown, hts⟩ (zc_X10_areCorners l D κ t mk ad t_polygon t_bits t_mendedNumber i1 i2 o1 ho1) (cwV 2 hts gX10_entry_X10_areCorners rfl rfl rfl hv_X10_areCorners ⟨Nat.le_of_ble_eq_true rfl, Nat.le_of_ble_eq_true rfl⟩) (zpreVa hK (hP.sub [0] rfl) hB 10 0 rfl rfl) rfl hl.1 rfl (Nat.le_of_ble_eq_true rfl) dX10_entry_3 ⟨Nat.zero_le _, Nat.zero_le _⟩ ?_
  refine zv_ifb_eq (tgt := 25) hx hb dX10_entry_6 (by decide) (fun c4 => ?_) (fun c4 => ?_)
  · have hg := Go_t c4 hg
    refine zv_bipush hx hb dX10_entry_25 (by decide) ?_
    exact (Go_s hg) _ _ dX10_entry_27
  · have hg := Go_f c4 hg
    refine lv_aload_n hx hb dX10_entry_9 rfl (lv_at hl 0 rfl) ?_
    obtain ⟨m2, hg⟩ := Go_n hg
    refine va_get (D := D) (ci := 10) (v := .ref (ad t_polygon 0)) (C := RX10) (T := TX10) (N := 13) hx hb hts zi_X10_entry_X10 hown hK hP 0 rfl rfl 10 (by decide) (hts (.fieldLink RX10 84 "DiamondRows" "polygon" "LDiamondRows$Polygon;") zl_X10_entry_84) (fun _ h9 => h9) (zpg_ok m2) dX10_entry_10 ?_
    refine lv_aload_n hx hb dX10_entry_13 rfl (lv_at hl 0 rfl) ?_
    refine va_get (D := D) (ci := 10) (v := .int (zi t_bits)) (C := RX10) (T := TX10) (N := 13) hx hb hts zi_X10_entry_X10 hown hK hP 0 rfl rfl 11 (by decide) (hts (.fieldLink RX10 94 "DiamondRows" "bits" "I") zl_X10_entry_94) (fun _ h9 => h9) rfl dX10_entry_14 ?_
    refine lv_iload_n hx hb dX10_entry_17 rfl (lv_at hl 1 rfl) ?_
    refine lv_iload_n hx hb dX10_entry_18 rfl (lv_at hl 2 rfl) ?_
    obtain ⟨o3, ho3, hg⟩ := Go_b hg
    refine zc_vi (rest := []) ⟨hx, hb, hml, hown, hts⟩ (zc_X5_entryOf l D κ (ad t_polygon) t_polygon t_bits i1 i2 o3 ho3) (cwV 3 hts gX10_entry_X5_entryOf rfl rfl rfl hv_X5_entryOf ⟨Nat.le_of_ble_eq_true rfl, Nat.le_of_ble_eq_true rfl⟩) (zpreV hK (hB t_polygon m2) 5 0 rfl rfl) rfl hl.1 rfl (Nat.le_of_ble_eq_true rfl) dX10_entry_19 ⟨Nat.zero_le _, Nat.zero_le _⟩ ?_
    refine lv_goto (tgt := 27) hx hb dX10_entry_22 (by decide) ?_
    exact (Go_s hg) _ _ dX10_entry_27
set_option maxHeartbeats 4000000 in
set_option maxRecDepth 100000 in
theorem zc_X10_entry (l : Launch) (D : va_G) (κ : Nat → ClassId) (t : Nat → Nat) (mk : Nat) (ad : Nat → Nat → Nat) (t_polygon : Nat) (t_bits : Int) (t_mendedNumber : Int) (i1 : Int) (i2 : Int) (out : Int) (h : zf_X10_entry mk t_polygon t_bits i1 i2 = some out) : Met l yX10_entry wsX10_entry zr_X10_entry (va_Pc [.ref (t 0), .int (zi i1), .int (zi i2)] (zRa D κ mk ad ([((t 0), .inr (10, [.ref (t 1), .ref (t 3), .ref (t 5), .ref (t 6), .ref (t 9), .ref (t 11), .ref (t 15), .ref (t 17), .ref (t 27), .ref (t 30), zpg ad t_polygon, .int (zi t_bits), .int (zi t_mendedNumber)]))]))) (vp_Si (fun x => x = zi out)) 0 0 (fun _ => False) := by
  refine Met.ofW (cc := cX10_entry) (maxL := 3) (ret := (some .int)) (by decide +kernel) rfl ?_
  intro p e s m args below meth c s₁ B hml hv
  obtain ⟨rfl, hP, hK, hB⟩ := hv
  have hx := B.exec
  have hb := B.bytes
  have hr := B.returns
  have hts := atoms_spec (ws := wsX10_entry) B.pre
  have hown : s.vm.findClass RX10 = some m.cls := findClass_of_methodNamed B.named
  have hlocks := B.notSynchronized
  have hl := lv_entry ([.ref (t 0), .int (zi i1), .int (zi i2)]) (n := 3) (Nat.le_of_ble_eq_true rfl)
  rw [lg_entry_eq]
  generalize (lg_sl ([.ref (t 0), .int (zi i1), .int (zi i2)]) ++ List.replicate (3 - (lg_sl ([.ref (t 0), .int (zi i1), .int (zi i2)])).length) Slot.unset).toArray = ls at hl ⊢
  have hl : lv_has ls 3 [(0, .ref (t 0)), (1, .int (zi i1)), (2, .int (zi i2))] := hl
  refine zs_X10_entry t mk ad t_polygon t_bits t_mendedNumber i1 i2 hx hb hml hown hts hK hP hB ls hl ⟨out, h, ?_⟩
  exact fun ls pc hd => W.iret hx hb hr (fun t ht hW => ⟨_, rfl, rfl, ht⟩) (fun _ h => by cases h) hd
/-! DiamondRows.row(I)I -/
abbrev zr_X10_row : Room := { frames := 2, cells := 0, slots := 0, locals := 43 }
noncomputable def zf_X10_row (mk : Nat) (t_polygon : Nat) (t_bits : Int) (i1 : Int) : Option (Int) :=
  if zno mk t_polygon then none else
  Option.bind (zf_X5_hasCorner t_polygon i1) (fun o2 =>
  if o2 = false then
  some ((-2 : Int))
  else
  Option.bind (zf_X5_trianglesAt t_polygon t_bits i1) (fun o3 =>
  some (o3)))
theorem zi_X10_row_X10 : ∀ w ∈ u_ws RX10 TX10 13, w ∈ wsX10_row := fun w h => (List.mem_cons_of_mem _ (List.mem_append_right _ (List.mem_append_left _ h)))
theorem zl_X10_row_84 : Cond.fieldLink RX10 84 "DiamondRows" "polygon" "LDiamondRows$Polygon;" ∈ wsX10_row := (List.mem_cons_of_mem _ (List.mem_append_left _ (List.mem_of_getElem? (i := 0) rfl)))
theorem zl_X10_row_94 : Cond.fieldLink RX10 94 "DiamondRows" "bits" "I" ∈ wsX10_row := (List.mem_cons_of_mem _ (List.mem_append_left _ (List.mem_of_getElem? (i := 1) rfl)))
def zQ_X10_row (p : Program) (l : Launch) (e : Env) (s : State) (m : MethodId) (args : Array Value) (below : List Frame) (meth : Method) (c : Code) (Q : State → Prop) (H : Heap) (locs : List Loc)  (o : Int) : Prop := ∀ (ls : Array Slot) (pc : Nat), decode cX10_row pc = .ok (.ireturn, 1) → W p l e zr_X10_row s m args below meth c H locs 0 0 Q (F0 m pc ls [.int (zi o)])
set_option maxHeartbeats 4000000 in
set_option maxRecDepth 100000 in
theorem zs_X10_row {p : Program} {l : Launch} {e : Env} {s : State} {m : MethodId} {args : Array Value} {below : List Frame} {meth : Method} {c : Code} {Q : State → Prop} {D : va_G} {κ : Nat → ClassId} {H : Heap} {locs : List Loc} (t : Nat → Nat) (mk : Nat) (ad : Nat → Nat → Nat) (t_polygon : Nat) (t_bits : Int) (t_mendedNumber : Int) (i1 : Int) (hx : p.tables.exec = Jvm.exec) (hb : c.code = cX10_row) (hml : c.maxLocals = 2) (hown : s.vm.findClass RX10 = some m.cls) (hts : ∀ w ∈ wsX10_row, w.before args s = true) (hK : va_K D vwCl (zTY κ) s) (hP : va_P D vwCl ([((t 0), .inr (10, [.ref (t 1), .ref (t 3), .ref (t 5), .ref (t 6), .ref (t 9), .ref (t 11), .ref (t 15), .ref (t 17), .ref (t 27), .ref (t 30), zpg ad t_polygon, .int (zi t_bits), .int (zi t_mendedNumber)]))]) H) (hB : zAmb D κ mk ad H) (ls : Array Slot) (hl : lv_has ls 2 [(0, .ref (t 0)), (1, .int (zi i1))]) (hg : Go (zQ_X10_row p l e s m args below meth c Q H locs) (zf_X10_row mk t_polygon t_bits i1)) : W p l e zr_X10_row s m args below meth c H locs 0 0 Q (F0 m 0 ls []) := by
  unfold zf_X10_row at hg
  refine lv_aload_n hx hb dX10_row_0 rfl (lv_at hl 0 rfl) ?_
  obtain ⟨m1, hg⟩ := Go_n hg
  refine va_get (D := D) (ci := 10) (v := .ref (ad t_polygon 0)) (C := RX10) (T := TX10) (N := 13) hx hb hts zi_X10_row_X10 hown hK hP 0 rfl rfl 10 (by decide) (hts (.fieldLink RX10 84 "DiamondRows" "polygon" "LDiamondRows$Polygon;") zl_X10_row_84) (fun _ h9 => h9) (zpg_ok m1) dX10_row_1 ?_
  refine lv_iload_n hx hb dX10_row_4 rfl (lv_at hl 1 rfl) ?_
  obtain ⟨o2, ho2, hg⟩ := Go_b hg
  refine zc_vi (rest := []) ⟨hx, hb, hml, hown, hts⟩ (zc_X5_hasCorner l D κ (ad t_polygon) t_polygon i1 o2 ho2) (cwV 1 hts gX10_row_X5_hasCorner rfl rfl rfl hv_X5_hasCorner ⟨Nat.le_of_ble_eq_true rfl, Nat.le_of_ble_eq_true rfl⟩) (zpreV hK (hB t_polygon m1) 5 0 rfl rfl) rfl hl.1 rfl (Nat.le_of_ble_eq_true rfl) dX10_row_5 ⟨Nat.zero_le _, Nat.zero_le _⟩ ?_
  refine zv_ifb_eq (tgt := 26) hx hb dX10_row_8 (by decide) (fun c4 => ?_) (fun c4 => ?_)
  · have hg := Go_t c4 hg
    refine zv_bipush hx hb dX10_row_26 (by decide) ?_
    exact (Go_s hg) _ _ dX10_row_28
  · have hg := Go_f c4 hg
    refine lv_aload_n hx hb dX10_row_11 rfl (lv_at hl 0 rfl) ?_
    refine va_get (D := D) (ci := 10) (v := .ref (ad t_polygon 0)) (C := RX10) (T := TX10) (N := 13) hx hb hts zi_X10_row_X10 hown hK hP 0 rfl rfl 10 (by decide) (hts (.fieldLink RX10 84 "DiamondRows" "polygon" "LDiamondRows$Polygon;") zl_X10_row_84) (fun _ h9 => h9) (zpg_ok m1) dX10_row_12 ?_
    refine lv_aload_n hx hb dX10_row_15 rfl (lv_at hl 0 rfl) ?_
    refine va_get (D := D) (ci := 10) (v := .int (zi t_bits)) (C := RX10) (T := TX10) (N := 13) hx hb hts zi_X10_row_X10 hown hK hP 0 rfl rfl 11 (by decide) (hts (.fieldLink RX10 94 "DiamondRows" "bits" "I") zl_X10_row_94) (fun _ h9 => h9) rfl dX10_row_16 ?_
    refine lv_iload_n hx hb dX10_row_19 rfl (lv_at hl 1 rfl) ?_
    obtain ⟨o3, ho3, hg⟩ := Go_b hg
    refine zc_vi (rest := []) ⟨hx, hb, hml, hown, hts⟩ (zc_X5_trianglesAt l D κ (ad t_polygon) t_polygon t_bits i1 o3 ho3) (cwV 2 hts gX10_row_X5_trianglesAt rfl rfl rfl hv_X5_trianglesAt ⟨Nat.le_of_ble_eq_true rfl, Nat.le_of_ble_eq_true rfl⟩) (zpreV hK (hB t_polygon m1) 5 0 rfl rfl) rfl hl.1 rfl (Nat.le_of_ble_eq_true rfl) dX10_row_20 ⟨Nat.zero_le _, Nat.zero_le _⟩ ?_
    refine lv_goto (tgt := 28) hx hb dX10_row_23 (by decide) ?_
    exact (Go_s hg) _ _ dX10_row_28
set_option maxHeartbeats 4000000 in
set_option maxRecDepth 100000 in
theorem zc_X10_row (l : Launch) (D : va_G) (κ : Nat → ClassId) (t : Nat → Nat) (mk : Nat) (ad : Nat → Nat → Nat) (t_polygon : Nat) (t_bits : Int) (t_mendedNumber : Int) (i1 : Int) (out : Int) (h : zf_X10_row mk t_polygon t_bits i1 = some out) : Met l yX10_row wsX10_row zr_X10_row (va_Pc [.ref (t 0), .int (zi i1)] (zRa D κ mk ad ([((t 0), .inr (10, [.ref (t 1), .ref (t 3), .ref (t 5), .ref (t 6), .ref (t 9), .ref (t 11), .ref (t 15), .ref (t 17), .ref (t 27), .ref (t 30), zpg ad t_polygon, .int (zi t_bits), .int (zi t_mendedNumber)]))]))) (vp_Si (fun x => x = zi out)) 0 0 (fun _ => False) := by
  refine Met.ofW (cc := cX10_row) (maxL := 2) (ret := (some .int)) (by decide +kernel) rfl ?_
  intro p e s m args below meth c s₁ B hml hv
  obtain ⟨rfl, hP, hK, hB⟩ := hv
  have hx := B.exec
  have hb := B.bytes
  have hr := B.returns
  have hts := atoms_spec (ws := wsX10_row) B.pre
  have hown : s.vm.findClass RX10 = some m.cls := findClass_of_methodNamed B.named
  have hlocks := B.notSynchronized
  have hl := lv_entry ([.ref (t 0), .int (zi i1)]) (n := 2) (Nat.le_of_ble_eq_true rfl)
  rw [lg_entry_eq]
  generalize (lg_sl ([.ref (t 0), .int (zi i1)]) ++ List.replicate (2 - (lg_sl ([.ref (t 0), .int (zi i1)])).length) Slot.unset).toArray = ls at hl ⊢
  have hl : lv_has ls 2 [(0, .ref (t 0)), (1, .int (zi i1))] := hl
  refine zs_X10_row t mk ad t_polygon t_bits t_mendedNumber i1 hx hb hml hown hts hK hP hB ls hl ⟨out, h, ?_⟩
  exact fun ls pc hd => W.iret hx hb hr (fun t ht hW => ⟨_, rfl, rfl, ht⟩) (fun _ h => by cases h) hd
/-! DiamondRows.way(IIII)I -/
abbrev zr_X10_way : Room := { frames := 14, cells := 0, slots := 0, locals := 333 }
noncomputable def zf_X10_way (mk : Nat) (t_polygon : Nat) (t_bits : Int) (triangles_count : Int) (triangles_polygon : Nat) (triangles_from : Int) (triangles_length : Int) (triangles_waysAhead : Int) (triangles_cornersOf : Nat) (triangles_chosen : Nat) (i1 : Int) (i2 : Int) (i3 : Int) (i4 : Int) : Option (Int × Int × Nat × Int × Int × Int × Nat × Nat) :=
  Option.bind (zf_X10_areCorners mk t_polygon i1 i2) (fun o1 =>
  if o1 = false then
  some ((-2 : Int), triangles_count, triangles_polygon, triangles_from, triangles_length, triangles_waysAhead, triangles_cornersOf, triangles_chosen)
  else
  if zno mk t_polygon then none else
  Option.bind (zf_X5_hasCorner t_polygon i4) (fun o3 =>
  if o3 = false then
  some ((-2 : Int), triangles_count, triangles_polygon, triangles_from, triangles_length, triangles_waysAhead, triangles_cornersOf, triangles_chosen)
  else
  if zout i3 then none else
  if i3 < 0 then
  some ((-2 : Int), triangles_count, triangles_polygon, triangles_from, triangles_length, triangles_waysAhead, triangles_cornersOf, triangles_chosen)
  else
  Option.bind (zf_X5_entryOf t_polygon t_bits i1 i2) (fun o5 =>
  if zout o5 then none else
  if i3 < o5 then
  Option.bind (zf_X5_ahead t_polygon i1 i4) (fun o7 =>
  if zout (o7 - (1 : Int)) then none else
  if (o7 - (1 : Int)) < 0 then
  some ((-1 : Int), triangles_count, triangles_polygon, triangles_from, triangles_length, triangles_waysAhead, triangles_cornersOf, triangles_chosen)
  else
  Option.bind (zf_X5_ahead t_polygon i1 i2) (fun o9 =>
  if zout (o9 - (1 : Int)) then none else
  if (o7 - (1 : Int)) < (o9 - (1 : Int)) then
  Option.bind (zf_X9_gather mk triangles_count triangles_cornersOf t_polygon t_bits) (fun o11 =>
  Option.bind (zf_X9_onWay mk (o11.1) triangles_polygon triangles_from triangles_length triangles_waysAhead (o11.2) triangles_chosen t_polygon i1 i2 i3 (o7 - (1 : Int))) (fun o12 =>
  some ((o12.1), (o11.1), (o12.2.1), (o12.2.2.1), (o12.2.2.2.1), (o12.2.2.2.2.1), (o11.2), (o12.2.2.2.2.2))))
  else
  some ((-1 : Int), triangles_count, triangles_polygon, triangles_from, triangles_length, triangles_waysAhead, triangles_cornersOf, triangles_chosen)))
  else
  some ((-2 : Int), triangles_count, triangles_polygon, triangles_from, triangles_length, triangles_waysAhead, triangles_cornersOf, triangles_chosen))))
theorem zi_X10_way_X10 : ∀ w ∈ u_ws RX10 TX10 13, w ∈ wsX10_way := fun w h => (List.mem_cons_of_mem _ (List.mem_append_right _ (List.mem_append_left _ h)))
theorem zl_X10_way_33 : Cond.fieldLink RX10 33 "DiamondRows" "triangles" "LDiamondRows$Triangles;" ∈ wsX10_way := (List.mem_cons_of_mem _ (List.mem_append_left _ (List.mem_of_getElem? (i := 2) rfl)))
theorem zl_X10_way_84 : Cond.fieldLink RX10 84 "DiamondRows" "polygon" "LDiamondRows$Polygon;" ∈ wsX10_way := (List.mem_cons_of_mem _ (List.mem_append_left _ (List.mem_of_getElem? (i := 0) rfl)))
theorem zl_X10_way_94 : Cond.fieldLink RX10 94 "DiamondRows" "bits" "I" ∈ wsX10_way := (List.mem_cons_of_mem _ (List.mem_append_left _ (List.mem_of_getElem? (i := 1) rfl)))
def zQ_X10_way (p : Program) (l : Launch) (e : Env) (s : State) (m : MethodId) (args : Array Value) (below : List Frame) (meth : Method) (c : Code) (Q : State → Prop) (D : va_G) (κ : Nat → ClassId) (A : Nat → Prop) (H0 : Heap) (t : Nat → Nat) (mk : Nat) (ad : Nat → Nat → Nat) (t_polygon : Nat) (t_bits : Int) (t_mendedNumber : Int) (o : Int × Int × Nat × Int × Int × Int × Nat × Nat) : Prop := ∀ (H : Heap) (locs : List Loc) (ls : Array Slot) (pc : Nat), va_P D vwCl ([((t 0), .inr (10, [.ref (t 1), .ref (t 3), .ref (t 5), .ref (t 6), .ref (t 9), .ref (t 11), .ref (t 15), .ref (t 17), .ref (t 27), .ref (t 30), zpg ad t_polygon, .int (zi t_bits), .int (zi t_mendedNumber)])), ((t 6), .inr (9, [.ref (t 7), .ref (t 8), .int (zi (o.2.1)), zpg ad (o.2.2.1), .int (zi (o.2.2.2.1)), .int (zi (o.2.2.2.2.1)), .int (zi (o.2.2.2.2.2.1))])), ((t 7), .inl (κ 1, 21, .inl (zc (o.2.2.2.2.2.2.1)))), ((t 8), .inl (κ 1, 7, .inl (zc (o.2.2.2.2.2.2.2))))]) H → va_D A ([((t 0), .inr (10, [.ref (t 1), .ref (t 3), .ref (t 5), .ref (t 6), .ref (t 9), .ref (t 11), .ref (t 15), .ref (t 17), .ref (t 27), .ref (t 30), zpg ad t_polygon, .int (zi t_bits), .int (zi t_mendedNumber)])), ((t 6), .inr (9, [.ref (t 7), .ref (t 8), .int (zi (o.2.1)), zpg ad (o.2.2.1), .int (zi (o.2.2.2.1)), .int (zi (o.2.2.2.2.1)), .int (zi (o.2.2.2.2.2.1))])), ((t 7), .inl (κ 1, 21, .inl (zc (o.2.2.2.2.2.2.1)))), ((t 8), .inl (κ 1, 7, .inl (zc (o.2.2.2.2.2.2.2))))]) → va_S A H0 H locs → decode cX10_way pc = .ok (.ireturn, 1) → W p l e zr_X10_way s m args below meth c H locs 0 0 Q (F0 m pc ls [.int (zi (o.1))])
set_option maxHeartbeats 4000000 in
set_option maxRecDepth 100000 in
theorem zs_X10_way {p : Program} {l : Launch} {e : Env} {s : State} {m : MethodId} {args : Array Value} {below : List Frame} {meth : Method} {c : Code} {Q : State → Prop} {D : va_G} {κ : Nat → ClassId} {A : Nat → Prop} {H0 : Heap} (t : Nat → Nat) (mk : Nat) (ad : Nat → Nat → Nat) (t_polygon : Nat) (t_bits : Int) (t_mendedNumber : Int) (triangles_count : Int) (triangles_polygon : Nat) (triangles_from : Int) (triangles_length : Int) (triangles_waysAhead : Int) (triangles_cornersOf : Nat) (triangles_chosen : Nat) (i1 : Int) (i2 : Int) (i3 : Int) (i4 : Int) (hx : p.tables.exec = Jvm.exec) (hb : c.code = cX10_way) (hml : c.maxLocals = 6) (hown : s.vm.findClass RX10 = some m.cls) (hts : ∀ w ∈ wsX10_way, w.before args s = true) (hK : va_K D vwCl (zTY κ) s) (hA : ∀ q : Nat, H0.size ≤ q → A q) (hB : zAmb D κ mk ad H0) (hBA : zApt mk ad A H0.size) (H : Heap) (locs : List Loc) (ls : Array Slot) (hP : va_P D vwCl ([((t 0), .inr (10, [.ref (t 1), .ref (t 3), .ref (t 5), .ref (t 6), .ref (t 9), .ref (t 11), .ref (t 15), .ref (t 17), .ref (t 27), .ref (t 30), zpg ad t_polygon, .int (zi t_bits), .int (zi t_mendedNumber)])), ((t 6), .inr (9, [.ref (t 7), .ref (t 8), .int (zi triangles_count), zpg ad triangles_polygon, .int (zi triangles_from), .int (zi triangles_length), .int (zi triangles_waysAhead)])), ((t 7), .inl (κ 1, 21, .inl (zc triangles_cornersOf))), ((t 8), .inl (κ 1, 7, .inl (zc triangles_chosen)))]) H) (hD : va_D A ([((t 0), .inr (10, [.ref (t 1), .ref (t 3), .ref (t 5), .ref (t 6), .ref (t 9), .ref (t 11), .ref (t 15), .ref (t 17), .ref (t 27), .ref (t 30), zpg ad t_polygon, .int (zi t_bits), .int (zi t_mendedNumber)])), ((t 6), .inr (9, [.ref (t 7), .ref (t 8), .int (zi triangles_count), zpg ad triangles_polygon, .int (zi triangles_from), .int (zi triangles_length), .int (zi triangles_waysAhead)])), ((t 7), .inl (κ 1, 21, .inl (zc triangles_cornersOf))), ((t 8), .inl (κ 1, 7, .inl (zc triangles_chosen)))])) (hS : va_S A H0 H locs) (hl : lv_has ls 6 [(0, .ref (t 0)), (1, .int (zi i1)), (2, .int (zi i2)), (3, .int (zi i3)), (4, .int (zi i4))]) (hg : Go (zQ_X10_way p l e s m args below meth c Q D κ A H0 t mk ad t_polygon t_bits t_mendedNumber) (zf_X10_way mk t_polygon t_bits triangles_count triangles_polygon triangles_from triangles_length triangles_waysAhead triangles_cornersOf triangles_chosen i1 i2 i3 i4)) : W p l e zr_X10_way s m args below meth c H locs 0 0 Q (F0 m 0 ls []) := by
  unfold zf_X10_way at hg
  refine lv_aload_n hx hb dX10_way_0 rfl (lv_at hl 0 rfl) ?_
  refine lv_iload_n hx hb dX10_way_1 rfl (lv_at hl 1 rfl) ?_
  refine lv_iload_n hx hb dX10_way_2 rfl (lv_at hl 2 rfl) ?_
  obtain ⟨o1, ho1, hg⟩ := Go_b hg
  refine zc_vi (rest := []) ⟨hx, hb, hml, hown, hts⟩ (zc_X10_areCorners l D κ t mk ad t_polygon t_bits t_mendedNumber i1 i2 o1 ho1) (cwV 2 hts gX10_way_X10_areCorners rfl rfl rfl hv_X10_areCorners ⟨Nat.le_of_ble_eq_true rfl, Nat.le_of_ble_eq_true rfl⟩) (zpreVa hK (hP.sub [0] rfl) (zamb hB hBA hS) 10 0 rfl rfl) rfl hl.1 rfl (Nat.le_of_ble_eq_true rfl) dX10_way_3 ⟨Nat.zero_le _, Nat.zero_le _⟩ ?_
  refine zv_ifb_eq (tgt := 21) hx hb dX10_way_6 (by decide) (fun c18 => ?_) (fun c18 => ?_)
  · have hg := Go_t c18 hg
    refine zv_bipush hx hb dX10_way_21 (by decide) ?_
    exact (Go_s hg) _ _ _ _ hP hD hS dX10_way_23
  · have hg := Go_f c18 hg
    refine lv_aload_n hx hb dX10_way_9 rfl (lv_at hl 0 rfl) ?_
    obtain ⟨m2, hg⟩ := Go_n hg
    refine va_get (D := D) (ci := 10) (v := .ref (ad t_polygon 0)) (C := RX10) (T := TX10) (N := 13) hx hb hts zi_X10_way_X10 hown hK hP 0 rfl rfl 10 (by decide) (hts (.fieldLink RX10 84 "DiamondRows" "polygon" "LDiamondRows$Polygon;") zl_X10_way_84) (fun _ h9 => h9) (zpg_ok m2) dX10_way_10 ?_
    refine lv_iload hx hb dX10_way_13 (lv_at hl 4 rfl) ?_
    obtain ⟨o3, ho3, hg⟩ := Go_b hg
    refine zc_vi (rest := []) ⟨hx, hb, hml, hown, hts⟩ (zc_X5_hasCorner l D κ (ad t_polygon) t_polygon i4 o3 ho3) (cwV 1 hts gX10_way_X5_hasCorner rfl rfl rfl hv_X5_hasCorner ⟨Nat.le_of_ble_eq_true rfl, Nat.le_of_ble_eq_true rfl⟩) (zpreV hK ((zamb hB hBA hS) t_polygon m2) 5 0 rfl rfl) rfl hl.1 rfl (Nat.le_of_ble_eq_true rfl) dX10_way_15 ⟨Nat.zero_le _, Nat.zero_le _⟩ ?_
    refine zv_ifb_ne (tgt := 24) hx hb dX10_way_18 (by decide) (fun c17 => ?_) (fun c17 => ?_)
    · have hg := Go_f c17 hg
      refine lv_iload_n hx hb dX10_way_24 rfl (lv_at hl 3 rfl) ?_
      obtain ⟨b4, hg⟩ := Go_n hg
      refine zv_if_lt (tgt := 45) hx hb dX10_way_25 (by decide) b4 (fun c16 => ?_) (fun c16 => ?_)
      · have hg := Go_t c16 hg
        refine zv_bipush hx hb dX10_way_45 (by decide) ?_
        exact (Go_s hg) _ _ _ _ hP hD hS dX10_way_47
      · have hg := Go_f c16 hg
        refine lv_iload_n hx hb dX10_way_28 rfl (lv_at hl 3 rfl) ?_
        refine lv_aload_n hx hb dX10_way_29 rfl (lv_at hl 0 rfl) ?_
        refine va_get (D := D) (ci := 10) (v := .ref (ad t_polygon 0)) (C := RX10) (T := TX10) (N := 13) hx hb hts zi_X10_way_X10 hown hK hP 0 rfl rfl 10 (by decide) (hts (.fieldLink RX10 84 "DiamondRows" "polygon" "LDiamondRows$Polygon;") zl_X10_way_84) (fun _ h9 => h9) (zpg_ok m2) dX10_way_30 ?_
        refine lv_aload_n hx hb dX10_way_33 rfl (lv_at hl 0 rfl) ?_
        refine va_get (D := D) (ci := 10) (v := .int (zi t_bits)) (C := RX10) (T := TX10) (N := 13) hx hb hts zi_X10_way_X10 hown hK hP 0 rfl rfl 11 (by decide) (hts (.fieldLink RX10 94 "DiamondRows" "bits" "I") zl_X10_way_94) (fun _ h9 => h9) rfl dX10_way_34 ?_
        refine lv_iload_n hx hb dX10_way_37 rfl (lv_at hl 1 rfl) ?_
        refine lv_iload_n hx hb dX10_way_38 rfl (lv_at hl 2 rfl) ?_
        obtain ⟨o5, ho5, hg⟩ := Go_b hg
        refine zc_vi (rest := [.int (zi i3)]) ⟨hx, hb, hml, hown, hts⟩ (zc_X5_entryOf l D κ (ad t_polygon) t_polygon t_bits i1 i2 o5 ho5) (cwV 3 hts gX10_way_X5_entryOf rfl rfl rfl hv_X5_entryOf ⟨Nat.le_of_ble_eq_true rfl, Nat.le_of_ble_eq_true rfl⟩) (zpreV hK ((zamb hB hBA hS) t_polygon m2) 5 0 rfl rfl) rfl hl.1 rfl (Nat.le_of_ble_eq_true rfl) dX10_way_39 ⟨Nat.zero_le _, Nat.zero_le _⟩ ?_
        obtain ⟨b6, hg⟩ := Go_n hg
        refine zv_icmp_lt (tgt := 48) hx hb dX10_way_42 (by decide) b4 b6 (fun c15 => ?_) (fun c15 => ?_)
        · have hg := Go_t c15 hg
          refine lv_aload_n hx hb dX10_way_48 rfl (lv_at hl 0 rfl) ?_
          refine va_get (D := D) (ci := 10) (v := .ref (ad t_polygon 0)) (C := RX10) (T := TX10) (N := 13) hx hb hts zi_X10_way_X10 hown hK hP 0 rfl rfl 10 (by decide) (hts (.fieldLink RX10 84 "DiamondRows" "polygon" "LDiamondRows$Polygon;") zl_X10_way_84) (fun _ h9 => h9) (zpg_ok m2) dX10_way_49 ?_
          refine lv_iload_n hx hb dX10_way_52 rfl (lv_at hl 1 rfl) ?_
          refine lv_iload hx hb dX10_way_53 (lv_at hl 4 rfl) ?_
          obtain ⟨o7, ho7, hg⟩ := Go_b hg
          refine zc_vi (rest := []) ⟨hx, hb, hml, hown, hts⟩ (zc_X5_ahead l D κ (ad t_polygon) t_polygon i1 i4 o7 ho7) (cwV 2 hts gX10_way_X5_ahead rfl rfl rfl hv_X5_ahead ⟨Nat.le_of_ble_eq_true rfl, Nat.le_of_ble_eq_true rfl⟩) (zpreV hK ((zamb hB hBA hS) t_polygon m2) 5 0 rfl rfl) rfl hl.1 rfl (Nat.le_of_ble_eq_true rfl) dX10_way_55 ⟨Nat.zero_le _, Nat.zero_le _⟩ ?_
          refine zv_iconst hx hb dX10_way_58 ?_
          refine zv_isub hx hb dX10_way_59 ?_
          refine lv_istore (lv' := [(5, .int (zi (o7 - (1 : Int)))), (0, .ref (t 0)), (1, .int (zi i1)), (2, .int (zi i2)), (3, .int (zi i3)), (4, .int (zi i4))]) hx hb dX10_way_60 hl (by decide) rfl (fun ls hl => ?_)
          refine lv_iload hx hb dX10_way_62 (lv_at hl 0 rfl) ?_
          obtain ⟨b8, hg⟩ := Go_n hg
          refine zv_if_lt (tgt := 83) hx hb dX10_way_64 (by decide) b8 (fun c14 => ?_) (fun c14 => ?_)
          · have hg := Go_t c14 hg
            refine zv_iconst hx hb dX10_way_83 ?_
            exact (Go_s hg) _ _ _ _ hP hD hS dX10_way_84
          · have hg := Go_f c14 hg
            refine lv_iload hx hb dX10_way_67 (lv_at hl 0 rfl) ?_
            refine lv_aload_n hx hb dX10_way_69 rfl (lv_at hl 1 rfl) ?_
            refine va_get (D := D) (ci := 10) (v := .ref (ad t_polygon 0)) (C := RX10) (T := TX10) (N := 13) hx hb hts zi_X10_way_X10 hown hK hP 0 rfl rfl 10 (by decide) (hts (.fieldLink RX10 84 "DiamondRows" "polygon" "LDiamondRows$Polygon;") zl_X10_way_84) (fun _ h9 => h9) (zpg_ok m2) dX10_way_70 ?_
            refine lv_iload_n hx hb dX10_way_73 rfl (lv_at hl 2 rfl) ?_
            refine lv_iload_n hx hb dX10_way_74 rfl (lv_at hl 3 rfl) ?_
            obtain ⟨o9, ho9, hg⟩ := Go_b hg
            refine zc_vi (rest := [.int (zi (o7 - (1 : Int)))]) ⟨hx, hb, hml, hown, hts⟩ (zc_X5_ahead l D κ (ad t_polygon) t_polygon i1 i2 o9 ho9) (cwV 2 hts gX10_way_X5_ahead rfl rfl rfl hv_X5_ahead ⟨Nat.le_of_ble_eq_true rfl, Nat.le_of_ble_eq_true rfl⟩) (zpreV hK ((zamb hB hBA hS) t_polygon m2) 5 0 rfl rfl) rfl hl.1 rfl (Nat.le_of_ble_eq_true rfl) dX10_way_75 ⟨Nat.zero_le _, Nat.zero_le _⟩ ?_
            refine zv_iconst hx hb dX10_way_78 ?_
            refine zv_isub hx hb dX10_way_79 ?_
            obtain ⟨b10, hg⟩ := Go_n hg
            refine zv_icmp_lt (tgt := 85) hx hb dX10_way_80 (by decide) b8 b10 (fun c13 => ?_) (fun c13 => ?_)
            · have hg := Go_t c13 hg
              refine lv_aload_n hx hb dX10_way_85 rfl (lv_at hl 1 rfl) ?_
              refine va_get (D := D) (ci := 10) (v := .ref (t 6)) (C := RX10) (T := TX10) (N := 13) hx hb hts zi_X10_way_X10 hown hK hP 0 rfl rfl 3 (by decide) (hts (.fieldLink RX10 33 "DiamondRows" "triangles" "LDiamondRows$Triangles;") zl_X10_way_33) (fun _ h9 => h9) rfl dX10_way_86 ?_
              refine lv_aload_n hx hb dX10_way_89 rfl (lv_at hl 1 rfl) ?_
              refine va_get (D := D) (ci := 10) (v := .ref (ad t_polygon 0)) (C := RX10) (T := TX10) (N := 13) hx hb hts zi_X10_way_X10 hown hK hP 0 rfl rfl 10 (by decide) (hts (.fieldLink RX10 84 "DiamondRows" "polygon" "LDiamondRows$Polygon;") zl_X10_way_84) (fun _ h9 => h9) (zpg_ok m2) dX10_way_90 ?_
              refine lv_aload_n hx hb dX10_way_93 rfl (lv_at hl 1 rfl) ?_
              refine va_get (D := D) (ci := 10) (v := .int (zi t_bits)) (C := RX10) (T := TX10) (N := 13) hx hb hts zi_X10_way_X10 hown hK hP 0 rfl rfl 11 (by decide) (hts (.fieldLink RX10 94 "DiamondRows" "bits" "I") zl_X10_way_94) (fun _ h9 => h9) rfl dX10_way_94 ?_
              obtain ⟨o11, ho11, hg⟩ := Go_b hg
              refine zj_v (wr := [((t 0), .inr (10, [.ref (t 1), .ref (t 3), .ref (t 5), .ref (t 6), .ref (t 9), .ref (t 11), .ref (t 15), .ref (t 17), .ref (t 27), .ref (t 30), zpg ad t_polygon, .int (zi t_bits), .int (zi t_mendedNumber)]))]) (ws1 := [((t 0), .inr (10, [.ref (t 1), .ref (t 3), .ref (t 5), .ref (t 6), .ref (t 9), .ref (t 11), .ref (t 15), .ref (t 17), .ref (t 27), .ref (t 30), zpg ad t_polygon, .int (zi t_bits), .int (zi t_mendedNumber)])), ((t 6), .inr (9, [.ref (t 7), .ref (t 8), .int (zi (o11.1)), zpg ad triangles_polygon, .int (zi triangles_from), .int (zi triangles_length), .int (zi triangles_waysAhead)])), ((t 7), .inl (κ 1, 21, .inl (zc (o11.2)))), ((t 8), .inl (κ 1, 7, .inl (zc triangles_chosen)))]) (va_runV (rest := []) ⟨hx, hb, hml, hown, hts⟩ (zc_X9_gather l D κ (fun i => t (i + 6)) mk ad H.size triangles_count triangles_polygon triangles_from triangles_length triangles_waysAhead triangles_cornersOf triangles_chosen t_polygon t_bits o11 ho11) (cwV 2 hts gX10_way_X9_gather rfl rfl rfl hv_X9_gather ⟨Nat.le_of_ble_eq_true rfl, Nat.le_of_ble_eq_true rfl⟩) (zpreWVa hK (hP.sub [1, 2, 3] rfl) (hD.sub [1, 2, 3] (by decide) rfl) (zamb hB hBA hS) (zapt hBA hS (va_free hD hS hA [1, 2, 3] rfl)) 9 0 rfl rfl) rfl rfl hl.1 rfl (lv_room (Nat.le_of_ble_eq_true rfl)) dX10_way_97 ⟨Nat.zero_le _, Nat.zero_le _⟩) hP hD hS hA [1, 2, 3] [0] [0, 1, 2, 3] rfl rfl (by decide) (by decide) rfl rfl (by decide) (fun H locs hP hD hS => ?_)
              refine lv_aload_n hx hb dX10_way_100 rfl (lv_at hl 1 rfl) ?_
              refine va_get (D := D) (ci := 10) (v := .ref (t 6)) (C := RX10) (T := TX10) (N := 13) hx hb hts zi_X10_way_X10 hown hK hP 0 rfl rfl 3 (by decide) (hts (.fieldLink RX10 33 "DiamondRows" "triangles" "LDiamondRows$Triangles;") zl_X10_way_33) (fun _ h9 => h9) rfl dX10_way_101 ?_
              refine lv_aload_n hx hb dX10_way_104 rfl (lv_at hl 1 rfl) ?_
              refine va_get (D := D) (ci := 10) (v := .ref (ad t_polygon 0)) (C := RX10) (T := TX10) (N := 13) hx hb hts zi_X10_way_X10 hown hK hP 0 rfl rfl 10 (by decide) (hts (.fieldLink RX10 84 "DiamondRows" "polygon" "LDiamondRows$Polygon;") zl_X10_way_84) (fun _ h9 => h9) (zpg_ok m2) dX10_way_105 ?_
              refine lv_iload_n hx hb dX10_way_108 rfl (lv_at hl 2 rfl) ?_
              refine lv_iload_n hx hb dX10_way_109 rfl (lv_at hl 3 rfl) ?_
              refine lv_iload_n hx hb dX10_way_110 rfl (lv_at hl 4 rfl) ?_
              refine lv_iload hx hb dX10_way_111 (lv_at hl 0 rfl) ?_
              obtain ⟨o12, ho12, hg⟩ := Go_b hg
              refine zj_i (wr := [((t 0), .inr (10, [.ref (t 1), .ref (t 3), .ref (t 5), .ref (t 6), .ref (t 9), .ref (t 11), .ref (t 15), .ref (t 17), .ref (t 27), .ref (t 30), zpg ad t_polygon, .int (zi t_bits), .int (zi t_mendedNumber)]))]) (ws1 := [((t 0), .inr (10, [.ref (t 1), .ref (t 3), .ref (t 5), .ref (t 6), .ref (t 9), .ref (t 11), .ref (t 15), .ref (t 17), .ref (t 27), .ref (t 30), zpg ad t_polygon, .int (zi t_bits), .int (zi t_mendedNumber)])), ((t 6), .inr (9, [.ref (t 7), .ref (t 8), .int (zi (o11.1)), zpg ad (o12.2.1), .int (zi (o12.2.2.1)), .int (zi (o12.2.2.2.1)), .int (zi (o12.2.2.2.2.1))])), ((t 7), .inl (κ 1, 21, .inl (zc (o11.2)))), ((t 8), .inl (κ 1, 7, .inl (zc (o12.2.2.2.2.2))))]) (va_runV (rest := []) ⟨hx, hb, hml, hown, hts⟩ (zc_X9_onWay l D κ (fun i => t (i + 6)) mk ad H.size (o11.1) triangles_polygon triangles_from triangles_length triangles_waysAhead (o11.2) triangles_chosen t_polygon i1 i2 i3 (o7 - (1 : Int)) o12 ho12) (cwV 5 hts gX10_way_X9_onWay rfl rfl rfl hv_X9_onWay ⟨Nat.le_of_ble_eq_true rfl, Nat.le_of_ble_eq_true rfl⟩) (zpreWVa hK (hP.sub [1, 2, 3] rfl) (hD.sub [1, 2, 3] (by decide) rfl) (zamb hB hBA hS) (zapt hBA hS (va_free hD hS hA [1, 2, 3] rfl)) 9 0 rfl rfl) rfl rfl hl.1 rfl (lv_room (Nat.le_of_ble_eq_true rfl)) dX10_way_113 ⟨Nat.zero_le _, Nat.zero_le _⟩) hP hD hS hA [1, 2, 3] [0] [0, 1, 2, 3] rfl rfl (by decide) (by decide) rfl rfl (by decide) (fun H locs hP hD hS => ?_)
              exact (Go_s hg) _ _ _ _ hP hD hS dX10_way_116
            · have hg := Go_f c13 hg
              refine zv_iconst hx hb dX10_way_83 ?_
              exact (Go_s hg) _ _ _ _ hP hD hS dX10_way_84
        · have hg := Go_f c15 hg
          refine zv_bipush hx hb dX10_way_45 (by decide) ?_
          exact (Go_s hg) _ _ _ _ hP hD hS dX10_way_47
    · have hg := Go_t c17 hg
      refine zv_bipush hx hb dX10_way_21 (by decide) ?_
      exact (Go_s hg) _ _ _ _ hP hD hS dX10_way_23
set_option maxHeartbeats 4000000 in
set_option maxRecDepth 100000 in
theorem zc_X10_way (l : Launch) (D : va_G) (κ : Nat → ClassId) (t : Nat → Nat) (mk : Nat) (ad : Nat → Nat → Nat) (sz : Nat) (t_polygon : Nat) (t_bits : Int) (t_mendedNumber : Int) (triangles_count : Int) (triangles_polygon : Nat) (triangles_from : Int) (triangles_length : Int) (triangles_waysAhead : Int) (triangles_cornersOf : Nat) (triangles_chosen : Nat) (i1 : Int) (i2 : Int) (i3 : Int) (i4 : Int) (out : Int × Int × Nat × Int × Int × Int × Nat × Nat) (h : zf_X10_way mk t_polygon t_bits triangles_count triangles_polygon triangles_from triangles_length triangles_waysAhead triangles_cornersOf triangles_chosen i1 i2 i3 i4 = some out) : Met l yX10_way wsX10_way zr_X10_way (va_Pc [.ref (t 0), .int (zi i1), .int (zi i2), .int (zi i3), .int (zi i4)] (zWa D κ mk ad ([((t 0), .inr (10, [.ref (t 1), .ref (t 3), .ref (t 5), .ref (t 6), .ref (t 9), .ref (t 11), .ref (t 15), .ref (t 17), .ref (t 27), .ref (t 30), zpg ad t_polygon, .int (zi t_bits), .int (zi t_mendedNumber)])), ((t 6), .inr (9, [.ref (t 7), .ref (t 8), .int (zi triangles_count), zpg ad triangles_polygon, .int (zi triangles_from), .int (zi triangles_length), .int (zi triangles_waysAhead)])), ((t 7), .inl (κ 1, 21, .inl (zc triangles_cornersOf))), ((t 8), .inl (κ 1, 7, .inl (zc triangles_chosen)))]) sz)) (va_Qi (fun r (_ : Unit) => r = zi (out.1)) (fun _ => zB D κ (va_A ([((t 0), .inr (10, [.ref (t 1), .ref (t 3), .ref (t 5), .ref (t 6), .ref (t 9), .ref (t 11), .ref (t 15), .ref (t 17), .ref (t 27), .ref (t 30), zpg ad t_polygon, .int (zi t_bits), .int (zi t_mendedNumber)])), ((t 6), .inr (9, [.ref (t 7), .ref (t 8), .int (zi triangles_count), zpg ad triangles_polygon, .int (zi triangles_from), .int (zi triangles_length), .int (zi triangles_waysAhead)])), ((t 7), .inl (κ 1, 21, .inl (zc triangles_cornersOf))), ((t 8), .inl (κ 1, 7, .inl (zc triangles_chosen)))]) sz) ([((t 0), .inr (10, [.ref (t 1), .ref (t 3), .ref (t 5), .ref (t 6), .ref (t 9), .ref (t 11), .ref (t 15), .ref (t 17), .ref (t 27), .ref (t 30), zpg ad t_polygon, .int (zi t_bits), .int (zi t_mendedNumber)])), ((t 6), .inr (9, [.ref (t 7), .ref (t 8), .int (zi (out.2.1)), zpg ad (out.2.2.1), .int (zi (out.2.2.2.1)), .int (zi (out.2.2.2.2.1)), .int (zi (out.2.2.2.2.2.1))])), ((t 7), .inl (κ 1, 21, .inl (zc (out.2.2.2.2.2.2.1)))), ((t 8), .inl (κ 1, 7, .inl (zc (out.2.2.2.2.2.2.2))))])) (va_A ([((t 0), .inr (10, [.ref (t 1), .ref (t 3), .ref (t 5), .ref (t 6), .ref (t 9), .ref (t 11), .ref (t 15), .ref (t 17), .ref (t 27), .ref (t 30), zpg ad t_polygon, .int (zi t_bits), .int (zi t_mendedNumber)])), ((t 6), .inr (9, [.ref (t 7), .ref (t 8), .int (zi triangles_count), zpg ad triangles_polygon, .int (zi triangles_from), .int (zi triangles_length), .int (zi triangles_waysAhead)])), ((t 7), .inl (κ 1, 21, .inl (zc triangles_cornersOf))), ((t 8), .inl (κ 1, 7, .inl (zc triangles_chosen)))]) sz)) 0 0 (va_A ([((t 0), .inr (10, [.ref (t 1), .ref (t 3), .ref (t 5), .ref (t 6), .ref (t 9), .ref (t 11), .ref (t 15), .ref (t 17), .ref (t 27), .ref (t 30), zpg ad t_polygon, .int (zi t_bits), .int (zi t_mendedNumber)])), ((t 6), .inr (9, [.ref (t 7), .ref (t 8), .int (zi triangles_count), zpg ad triangles_polygon, .int (zi triangles_from), .int (zi triangles_length), .int (zi triangles_waysAhead)])), ((t 7), .inl (κ 1, 21, .inl (zc triangles_cornersOf))), ((t 8), .inl (κ 1, 7, .inl (zc triangles_chosen)))]) sz) := by
  refine Met.ofW (cc := cX10_way) (maxL := 6) (ret := (some .int)) (by decide +kernel) rfl ?_
  intro p e s m args below meth c s₁ B hml hv
  obtain ⟨rfl, hsz, hP, hK, hD0, hB, hBA⟩ := hv
  have hx := B.exec
  have hb := B.bytes
  have hr := B.returns
  have hts := atoms_spec (ws := wsX10_way) B.pre
  have hown : s.vm.findClass RX10 = some m.cls := findClass_of_methodNamed B.named
  have hlocks := B.notSynchronized
  subst hsz
  have hD := hD0.self (sz := s.heap.size)
  generalize hAe : va_A ([((t 0), .inr (10, [.ref (t 1), .ref (t 3), .ref (t 5), .ref (t 6), .ref (t 9), .ref (t 11), .ref (t 15), .ref (t 17), .ref (t 27), .ref (t 30), zpg ad t_polygon, .int (zi t_bits), .int (zi t_mendedNumber)])), ((t 6), .inr (9, [.ref (t 7), .ref (t 8), .int (zi triangles_count), zpg ad triangles_polygon, .int (zi triangles_from), .int (zi triangles_length), .int (zi triangles_waysAhead)])), ((t 7), .inl (κ 1, 21, .inl (zc triangles_cornersOf))), ((t 8), .inl (κ 1, 7, .inl (zc triangles_chosen)))]) s.heap.size = A at hD hBA ⊢
  have hA : ∀ q : Nat, s.heap.size ≤ q → A q := fun q h => by rw [← hAe]; exact Or.inr h
  have hS : va_S A s.heap s.heap [] := va_S.rf
  have hl := lv_entry ([.ref (t 0), .int (zi i1), .int (zi i2), .int (zi i3), .int (zi i4)]) (n := 6) (Nat.le_of_ble_eq_true rfl)
  rw [lg_entry_eq]
  generalize (lg_sl ([.ref (t 0), .int (zi i1), .int (zi i2), .int (zi i3), .int (zi i4)]) ++ List.replicate (6 - (lg_sl ([.ref (t 0), .int (zi i1), .int (zi i2), .int (zi i3), .int (zi i4)])).length) Slot.unset).toArray = ls at hl ⊢
  have hl : lv_has ls 6 [(0, .ref (t 0)), (1, .int (zi i1)), (2, .int (zi i2)), (3, .int (zi i3)), (4, .int (zi i4))] := hl
  refine zs_X10_way t mk ad t_polygon t_bits t_mendedNumber triangles_count triangles_polygon triangles_from triangles_length triangles_waysAhead triangles_cornersOf triangles_chosen i1 i2 i3 i4 hx hb hml hown hts hK hA hB hBA s.heap [] ls hP hD hS hl ⟨out, h, ?_⟩
  exact fun H locs ls pc hP hD hS hd => W.iret hx hb hr (fun t ht hW => ⟨⟨_, (), rfl, rfl, by rw [ht]; exact hP, va_K.moved hW.alike hK, hD⟩, hS.F ht⟩) hS.2.2 hd
/-! DiamondRows.flip(II)I -/
abbrev zr_X10_flip : Room := { frames := 2, cells := 0, slots := 0, locals := 43 }
noncomputable def zf_X10_flip (mk : Nat) (t_polygon : Nat) (t_bits : Int) (i1 : Int) (i2 : Int) : Option (Int × Int) :=
  Option.bind (zf_X10_areCorners mk t_polygon i1 i2) (fun o1 =>
  if o1 = false then
  some ((-2 : Int), t_bits)
  else
  if zno mk t_polygon then none else
  Option.bind (zf_X5_lineOf t_polygon i1 i2) (fun o3 =>
  Option.bind (zf_X5_has t_polygon t_bits o3) (fun o4 =>
  if o4 = false then
  some ((-1 : Int), t_bits)
  else
  Option.bind (zf_X5_otherLine t_polygon t_bits o3) (fun o5 =>
  Option.bind (zf_X5_pairOf t_polygon o5) (fun o6 =>
  some (o6, (zor (zand t_bits (zxor (zshl (1 : Int) o3) (-1 : Int))) (zshl (1 : Int) o5))))))))
theorem zi_X10_flip_X10 : ∀ w ∈ u_ws RX10 TX10 13, w ∈ wsX10_flip := fun w h => (List.mem_cons_of_mem _ (List.mem_append_right _ (List.mem_append_left _ h)))
theorem zl_X10_flip_84 : Cond.fieldLink RX10 84 "DiamondRows" "polygon" "LDiamondRows$Polygon;" ∈ wsX10_flip := (List.mem_cons_of_mem _ (List.mem_append_left _ (List.mem_of_getElem? (i := 0) rfl)))
theorem zl_X10_flip_94 : Cond.fieldLink RX10 94 "DiamondRows" "bits" "I" ∈ wsX10_flip := (List.mem_cons_of_mem _ (List.mem_append_left _ (List.mem_of_getElem? (i := 1) rfl)))
def zQ_X10_flip (p : Program) (l : Launch) (e : Env) (s : State) (m : MethodId) (args : Array Value) (below : List Frame) (meth : Method) (c : Code) (Q : State → Prop) (D : va_G) (κ : Nat → ClassId) (A : Nat → Prop) (H0 : Heap) (t : Nat → Nat) (mk : Nat) (ad : Nat → Nat → Nat) (t_polygon : Nat) (t_mendedNumber : Int) (o : Int × Int) : Prop := ∀ (H : Heap) (locs : List Loc) (ls : Array Slot) (pc : Nat), va_P D vwCl ([((t 0), .inr (10, [.ref (t 1), .ref (t 3), .ref (t 5), .ref (t 6), .ref (t 9), .ref (t 11), .ref (t 15), .ref (t 17), .ref (t 27), .ref (t 30), zpg ad t_polygon, .int (zi (o.2)), .int (zi t_mendedNumber)]))]) H → va_D A ([((t 0), .inr (10, [.ref (t 1), .ref (t 3), .ref (t 5), .ref (t 6), .ref (t 9), .ref (t 11), .ref (t 15), .ref (t 17), .ref (t 27), .ref (t 30), zpg ad t_polygon, .int (zi (o.2)), .int (zi t_mendedNumber)]))]) → va_S A H0 H locs → decode cX10_flip pc = .ok (.ireturn, 1) → W p l e zr_X10_flip s m args below meth c H locs 0 0 Q (F0 m pc ls [.int (zi (o.1))])
set_option maxHeartbeats 4000000 in
set_option maxRecDepth 100000 in
theorem zs_X10_flip {p : Program} {l : Launch} {e : Env} {s : State} {m : MethodId} {args : Array Value} {below : List Frame} {meth : Method} {c : Code} {Q : State → Prop} {D : va_G} {κ : Nat → ClassId} {A : Nat → Prop} {H0 : Heap} (t : Nat → Nat) (mk : Nat) (ad : Nat → Nat → Nat) (t_polygon : Nat) (t_bits : Int) (t_mendedNumber : Int) (i1 : Int) (i2 : Int) (hx : p.tables.exec = Jvm.exec) (hb : c.code = cX10_flip) (hml : c.maxLocals = 5) (hown : s.vm.findClass RX10 = some m.cls) (hts : ∀ w ∈ wsX10_flip, w.before args s = true) (hK : va_K D vwCl (zTY κ) s) (hA : ∀ q : Nat, H0.size ≤ q → A q) (hB : zAmb D κ mk ad H0) (hBA : zApt mk ad A H0.size) (H : Heap) (locs : List Loc) (ls : Array Slot) (hP : va_P D vwCl ([((t 0), .inr (10, [.ref (t 1), .ref (t 3), .ref (t 5), .ref (t 6), .ref (t 9), .ref (t 11), .ref (t 15), .ref (t 17), .ref (t 27), .ref (t 30), zpg ad t_polygon, .int (zi t_bits), .int (zi t_mendedNumber)]))]) H) (hD : va_D A ([((t 0), .inr (10, [.ref (t 1), .ref (t 3), .ref (t 5), .ref (t 6), .ref (t 9), .ref (t 11), .ref (t 15), .ref (t 17), .ref (t 27), .ref (t 30), zpg ad t_polygon, .int (zi t_bits), .int (zi t_mendedNumber)]))])) (hS : va_S A H0 H locs) (hl : lv_has ls 5 [(0, .ref (t 0)), (1, .int (zi i1)), (2, .int (zi i2))]) (hg : Go (zQ_X10_flip p l e s m args below meth c Q D κ A H0 t mk ad t_polygon t_mendedNumber) (zf_X10_flip mk t_polygon t_bits i1 i2)) : W p l e zr_X10_flip s m args below meth c H locs 0 0 Q (F0 m 0 ls []) := by
  unfold zf_X10_flip at hg
  refine lv_aload_n hx hb dX10_flip_0 rfl (lv_at hl 0 rfl) ?_
  refine lv_iload_n hx hb dX10_flip_1 rfl (lv_at hl 1 rfl) ?_
  refine lv_iload_n hx hb dX10_flip_2 rfl (lv_at hl 2 rfl) ?_
  obtain ⟨o1, ho1, hg⟩ := Go_b hg
  refine zc_vi (rest := []) ⟨hx, hb, hml, hown, hts⟩ (zc_X10_areCorners l D κ t mk ad t_polygon t_bits t_mendedNumber i1 i2 o1 ho1) (cwV 2 hts gX10_flip_X10_areCorners rfl rfl rfl hv_X10_areCorners ⟨Nat.le_of_ble_eq_true rfl, Nat.le_of_ble_eq_true rfl⟩) (zpreVa hK (hP.sub [0] rfl) (zamb hB hBA hS) 10 0 rfl rfl) rfl hl.1 rfl (Nat.le_of_ble_eq_true rfl) dX10_flip_3 ⟨Nat.zero_le _, Nat.zero_le _⟩ ?_
  refine zv_ifb_ne (tgt := 12) hx hb dX10_flip_6 (by decide) (fun c8 => ?_) (fun c8 => ?_)
  · have hg := Go_f c8 hg
    refine lv_aload_n hx hb dX10_flip_12 rfl (lv_at hl 0 rfl) ?_
    obtain ⟨m2, hg⟩ := Go_n hg
    refine va_get (D := D) (ci := 10) (v := .ref (ad t_polygon 0)) (C := RX10) (T := TX10) (N := 13) hx hb hts zi_X10_flip_X10 hown hK hP 0 rfl rfl 10 (by decide) (hts (.fieldLink RX10 84 "DiamondRows" "polygon" "LDiamondRows$Polygon;") zl_X10_flip_84) (fun _ h9 => h9) (zpg_ok m2) dX10_flip_13 ?_
    refine lv_iload_n hx hb dX10_flip_16 rfl (lv_at hl 1 rfl) ?_
    refine lv_iload_n hx hb dX10_flip_17 rfl (lv_at hl 2 rfl) ?_
    obtain ⟨o3, ho3, hg⟩ := Go_b hg
    refine zc_vi (rest := []) ⟨hx, hb, hml, hown, hts⟩ (zc_X5_lineOf l D κ (ad t_polygon) t_polygon i1 i2 o3 ho3) (cwV 2 hts gX10_flip_X5_lineOf rfl rfl rfl hv_X5_lineOf ⟨Nat.le_of_ble_eq_true rfl, Nat.le_of_ble_eq_true rfl⟩) (zpreV hK ((zamb hB hBA hS) t_polygon m2) 5 0 rfl rfl) rfl hl.1 rfl (Nat.le_of_ble_eq_true rfl) dX10_flip_18 ⟨Nat.zero_le _, Nat.zero_le _⟩ ?_
    refine lv_istore_n (lv' := [(3, .int (zi o3)), (0, .ref (t 0)), (1, .int (zi i1)), (2, .int (zi i2))]) hx hb dX10_flip_21 rfl hl (by decide) rfl (fun ls hl => ?_)
    refine lv_aload_n hx hb dX10_flip_22 rfl (lv_at hl 1 rfl) ?_
    refine va_get (D := D) (ci := 10) (v := .ref (ad t_polygon 0)) (C := RX10) (T := TX10) (N := 13) hx hb hts zi_X10_flip_X10 hown hK hP 0 rfl rfl 10 (by decide) (hts (.fieldLink RX10 84 "DiamondRows" "polygon" "LDiamondRows$Polygon;") zl_X10_flip_84) (fun _ h9 => h9) (zpg_ok m2) dX10_flip_23 ?_
    refine lv_aload_n hx hb dX10_flip_26 rfl (lv_at hl 1 rfl) ?_
    refine va_get (D := D) (ci := 10) (v := .int (zi t_bits)) (C := RX10) (T := TX10) (N := 13) hx hb hts zi_X10_flip_X10 hown hK hP 0 rfl rfl 11 (by decide) (hts (.fieldLink RX10 94 "DiamondRows" "bits" "I") zl_X10_flip_94) (fun _ h9 => h9) rfl dX10_flip_27 ?_
    refine lv_iload_n hx hb dX10_flip_30 rfl (lv_at hl 0 rfl) ?_
    obtain ⟨o4, ho4, hg⟩ := Go_b hg
    refine zc_vi (rest := []) ⟨hx, hb, hml, hown, hts⟩ (zc_X5_has l D κ (ad t_polygon) t_polygon t_bits o3 o4 ho4) (cwV 2 hts gX10_flip_X5_has rfl rfl rfl hv_X5_has ⟨Nat.le_of_ble_eq_true rfl, Nat.le_of_ble_eq_true rfl⟩) (zpreV hK ((zamb hB hBA hS) t_polygon m2) 5 0 rfl rfl) rfl hl.1 rfl (Nat.le_of_ble_eq_true rfl) dX10_flip_31 ⟨Nat.zero_le _, Nat.zero_le _⟩ ?_
    refine zv_ifb_ne (tgt := 39) hx hb dX10_flip_34 (by decide) (fun c7 => ?_) (fun c7 => ?_)
    · have hg := Go_f c7 hg
      refine lv_aload_n hx hb dX10_flip_39 rfl (lv_at hl 1 rfl) ?_
      refine va_get (D := D) (ci := 10) (v := .ref (ad t_polygon 0)) (C := RX10) (T := TX10) (N := 13) hx hb hts zi_X10_flip_X10 hown hK hP 0 rfl rfl 10 (by decide) (hts (.fieldLink RX10 84 "DiamondRows" "polygon" "LDiamondRows$Polygon;") zl_X10_flip_84) (fun _ h9 => h9) (zpg_ok m2) dX10_flip_40 ?_
      refine lv_aload_n hx hb dX10_flip_43 rfl (lv_at hl 1 rfl) ?_
      refine va_get (D := D) (ci := 10) (v := .int (zi t_bits)) (C := RX10) (T := TX10) (N := 13) hx hb hts zi_X10_flip_X10 hown hK hP 0 rfl rfl 11 (by decide) (hts (.fieldLink RX10 94 "DiamondRows" "bits" "I") zl_X10_flip_94) (fun _ h9 => h9) rfl dX10_flip_44 ?_
      refine lv_iload_n hx hb dX10_flip_47 rfl (lv_at hl 0 rfl) ?_
      obtain ⟨o5, ho5, hg⟩ := Go_b hg
      refine zc_vi (rest := []) ⟨hx, hb, hml, hown, hts⟩ (zc_X5_otherLine l D κ (ad t_polygon) t_polygon t_bits o3 o5 ho5) (cwV 2 hts gX10_flip_X5_otherLine rfl rfl rfl hv_X5_otherLine ⟨Nat.le_of_ble_eq_true rfl, Nat.le_of_ble_eq_true rfl⟩) (zpreV hK ((zamb hB hBA hS) t_polygon m2) 5 0 rfl rfl) rfl hl.1 rfl (Nat.le_of_ble_eq_true rfl) dX10_flip_48 ⟨Nat.zero_le _, Nat.zero_le _⟩ ?_
      refine lv_istore (lv' := [(4, .int (zi o5)), (3, .int (zi o3)), (0, .ref (t 0)), (1, .int (zi i1)), (2, .int (zi i2))]) hx hb dX10_flip_51 hl (by decide) rfl (fun ls hl => ?_)
      refine lv_aload_n hx hb dX10_flip_53 rfl (lv_at hl 2 rfl) ?_
      refine lv_aload_n hx hb dX10_flip_54 rfl (lv_at hl 2 rfl) ?_
      refine va_get (D := D) (ci := 10) (v := .int (zi t_bits)) (C := RX10) (T := TX10) (N := 13) hx hb hts zi_X10_flip_X10 hown hK hP 0 rfl rfl 11 (by decide) (hts (.fieldLink RX10 94 "DiamondRows" "bits" "I") zl_X10_flip_94) (fun _ h9 => h9) rfl dX10_flip_55 ?_
      refine zv_iconst hx hb dX10_flip_58 ?_
      refine lv_iload_n hx hb dX10_flip_59 rfl (lv_at hl 1 rfl) ?_
      refine zv_ishl hx hb dX10_flip_60 ?_
      refine zv_iconst hx hb dX10_flip_61 ?_
      refine zv_ixor hx hb dX10_flip_62 ?_
      refine zv_iand hx hb dX10_flip_63 ?_
      refine zv_iconst hx hb dX10_flip_64 ?_
      refine lv_iload hx hb dX10_flip_65 (lv_at hl 0 rfl) ?_
      refine zv_ishl hx hb dX10_flip_67 ?_
      refine zv_ior hx hb dX10_flip_68 ?_
      refine va_put (D := D) (ci := 10) (v := .int (zi (zor (zand t_bits (zxor (zshl (1 : Int) o3) (-1 : Int))) (zshl (1 : Int) o5)))) (ty := .int) (C := RX10) (T := TX10) (N := 13) hx hb hts zi_X10_flip_X10 tyX10 tyX10_ok nmX10 hown hK hP hD hS 0 rfl rfl 11 (by decide) (hts (.fieldLink RX10 94 "DiamondRows" "bits" "I") zl_X10_flip_94) (fun _ h9 => h9) rfl (by decide +kernel) rfl rfl (Nat.le_of_ble_eq_true rfl) dX10_flip_69 (fun H locs hP hD hS => ?_)
      have hP : va_P D vwCl ([((t 0), .inr (10, [.ref (t 1), .ref (t 3), .ref (t 5), .ref (t 6), .ref (t 9), .ref (t 11), .ref (t 15), .ref (t 17), .ref (t 27), .ref (t 30), zpg ad t_polygon, .int (zi (zor (zand t_bits (zxor (zshl (1 : Int) o3) (-1 : Int))) (zshl (1 : Int) o5))), .int (zi t_mendedNumber)]))]) H := hP
      have hD : va_D A ([((t 0), .inr (10, [.ref (t 1), .ref (t 3), .ref (t 5), .ref (t 6), .ref (t 9), .ref (t 11), .ref (t 15), .ref (t 17), .ref (t 27), .ref (t 30), zpg ad t_polygon, .int (zi (zor (zand t_bits (zxor (zshl (1 : Int) o3) (-1 : Int))) (zshl (1 : Int) o5))), .int (zi t_mendedNumber)]))]) := hD
      refine lv_aload_n hx hb dX10_flip_72 rfl (lv_at hl 2 rfl) ?_
      refine va_get (D := D) (ci := 10) (v := .ref (ad t_polygon 0)) (C := RX10) (T := TX10) (N := 13) hx hb hts zi_X10_flip_X10 hown hK hP 0 rfl rfl 10 (by decide) (hts (.fieldLink RX10 84 "DiamondRows" "polygon" "LDiamondRows$Polygon;") zl_X10_flip_84) (fun _ h9 => h9) (zpg_ok m2) dX10_flip_73 ?_
      refine lv_iload hx hb dX10_flip_76 (lv_at hl 0 rfl) ?_
      obtain ⟨o6, ho6, hg⟩ := Go_b hg
      refine zc_vi (rest := []) ⟨hx, hb, hml, hown, hts⟩ (zc_X5_pairOf l D κ (ad t_polygon) t_polygon o5 o6 ho6) (cwV 1 hts gX10_flip_X5_pairOf rfl rfl rfl hv_X5_pairOf ⟨Nat.le_of_ble_eq_true rfl, Nat.le_of_ble_eq_true rfl⟩) (zpreV hK ((zamb hB hBA hS) t_polygon m2) 5 0 rfl rfl) rfl hl.1 rfl (Nat.le_of_ble_eq_true rfl) dX10_flip_78 ⟨Nat.zero_le _, Nat.zero_le _⟩ ?_
      exact (Go_s hg) _ _ _ _ hP hD hS dX10_flip_81
    · have hg := Go_t c7 hg
      refine zv_iconst hx hb dX10_flip_37 ?_
      exact (Go_s hg) _ _ _ _ hP hD hS dX10_flip_38
  · have hg := Go_t c8 hg
    refine zv_bipush hx hb dX10_flip_9 (by decide) ?_
    exact (Go_s hg) _ _ _ _ hP hD hS dX10_flip_11
set_option maxHeartbeats 4000000 in
set_option maxRecDepth 100000 in
theorem zc_X10_flip (l : Launch) (D : va_G) (κ : Nat → ClassId) (t : Nat → Nat) (mk : Nat) (ad : Nat → Nat → Nat) (sz : Nat) (t_polygon : Nat) (t_bits : Int) (t_mendedNumber : Int) (i1 : Int) (i2 : Int) (out : Int × Int) (h : zf_X10_flip mk t_polygon t_bits i1 i2 = some out) : Met l yX10_flip wsX10_flip zr_X10_flip (va_Pc [.ref (t 0), .int (zi i1), .int (zi i2)] (zWa D κ mk ad ([((t 0), .inr (10, [.ref (t 1), .ref (t 3), .ref (t 5), .ref (t 6), .ref (t 9), .ref (t 11), .ref (t 15), .ref (t 17), .ref (t 27), .ref (t 30), zpg ad t_polygon, .int (zi t_bits), .int (zi t_mendedNumber)]))]) sz)) (va_Qi (fun r (_ : Unit) => r = zi (out.1)) (fun _ => zB D κ (va_A ([((t 0), .inr (10, [.ref (t 1), .ref (t 3), .ref (t 5), .ref (t 6), .ref (t 9), .ref (t 11), .ref (t 15), .ref (t 17), .ref (t 27), .ref (t 30), zpg ad t_polygon, .int (zi t_bits), .int (zi t_mendedNumber)]))]) sz) ([((t 0), .inr (10, [.ref (t 1), .ref (t 3), .ref (t 5), .ref (t 6), .ref (t 9), .ref (t 11), .ref (t 15), .ref (t 17), .ref (t 27), .ref (t 30), zpg ad t_polygon, .int (zi (out.2)), .int (zi t_mendedNumber)]))])) (va_A ([((t 0), .inr (10, [.ref (t 1), .ref (t 3), .ref (t 5), .ref (t 6), .ref (t 9), .ref (t 11), .ref (t 15), .ref (t 17), .ref (t 27), .ref (t 30), zpg ad t_polygon, .int (zi t_bits), .int (zi t_mendedNumber)]))]) sz)) 0 0 (va_A ([((t 0), .inr (10, [.ref (t 1), .ref (t 3), .ref (t 5), .ref (t 6), .ref (t 9), .ref (t 11), .ref (t 15), .ref (t 17), .ref (t 27), .ref (t 30), zpg ad t_polygon, .int (zi t_bits), .int (zi t_mendedNumber)]))]) sz) := by
  refine Met.ofW (cc := cX10_flip) (maxL := 5) (ret := (some .int)) (by decide +kernel) rfl ?_
  intro p e s m args below meth c s₁ B hml hv
  obtain ⟨rfl, hsz, hP, hK, hD0, hB, hBA⟩ := hv
  have hx := B.exec
  have hb := B.bytes
  have hr := B.returns
  have hts := atoms_spec (ws := wsX10_flip) B.pre
  have hown : s.vm.findClass RX10 = some m.cls := findClass_of_methodNamed B.named
  have hlocks := B.notSynchronized
  subst hsz
  have hD := hD0.self (sz := s.heap.size)
  generalize hAe : va_A ([((t 0), .inr (10, [.ref (t 1), .ref (t 3), .ref (t 5), .ref (t 6), .ref (t 9), .ref (t 11), .ref (t 15), .ref (t 17), .ref (t 27), .ref (t 30), zpg ad t_polygon, .int (zi t_bits), .int (zi t_mendedNumber)]))]) s.heap.size = A at hD hBA ⊢
  have hA : ∀ q : Nat, s.heap.size ≤ q → A q := fun q h => by rw [← hAe]; exact Or.inr h
  have hS : va_S A s.heap s.heap [] := va_S.rf
  have hl := lv_entry ([.ref (t 0), .int (zi i1), .int (zi i2)]) (n := 5) (Nat.le_of_ble_eq_true rfl)
  rw [lg_entry_eq]
  generalize (lg_sl ([.ref (t 0), .int (zi i1), .int (zi i2)]) ++ List.replicate (5 - (lg_sl ([.ref (t 0), .int (zi i1), .int (zi i2)])).length) Slot.unset).toArray = ls at hl ⊢
  have hl : lv_has ls 5 [(0, .ref (t 0)), (1, .int (zi i1)), (2, .int (zi i2))] := hl
  refine zs_X10_flip t mk ad t_polygon t_bits t_mendedNumber i1 i2 hx hb hml hown hts hK hA hB hBA s.heap [] ls hP hD hS hl ⟨out, h, ?_⟩
  exact fun H locs ls pc hP hD hS hd => W.iret hx hb hr (fun t ht hW => ⟨⟨_, (), rfl, rfl, by rw [ht]; exact hP, va_K.moved hW.alike hK, hD⟩, hS.F ht⟩) hS.2.2 hd
/-! DiamondRows.fewest(I)I -/
abbrev zr_X10_fewest : Room := { frames := 5, cells := 0, slots := 0, locals := 118 }
noncomputable def zf_X10_fewest (mk : Nat) (t_polygon : Nat) (t_bits : Int) (flips_wayLength : Int) (flips_queued : Int) (flips_steps : Nat) (flips_queue : Nat) (flips_way : Nat) (i1 : Int) : Option (Int × Int × Int × Nat × Nat × Nat) :=
  if zno mk t_polygon then none else
  Option.bind (zf_X5_hasCut t_polygon i1) (fun o2 =>
  if o2 = false then
  some ((-2 : Int), flips_wayLength, flips_queued, flips_steps, flips_queue, flips_way)
  else
  Option.bind (zf_X5_numberOf t_polygon t_bits) (fun o3 =>
  Option.bind (zf_X4_layWay mk flips_wayLength flips_queued flips_steps flips_queue flips_way t_polygon o3 i1) (fun o4 =>
  some ((o4.1), (o4.2.1), (o4.2.2.1), (o4.2.2.2.1), (o4.2.2.2.2.1), (o4.2.2.2.2.2)))))
theorem zi_X10_fewest_X10 : ∀ w ∈ u_ws RX10 TX10 13, w ∈ wsX10_fewest := fun w h => (List.mem_cons_of_mem _ (List.mem_append_right _ (List.mem_append_left _ h)))
theorem zl_X10_fewest_47 : Cond.fieldLink RX10 47 "DiamondRows" "flips" "LDiamondRows$Flips;" ∈ wsX10_fewest := (List.mem_cons_of_mem _ (List.mem_append_left _ (List.mem_of_getElem? (i := 1) rfl)))
theorem zl_X10_fewest_84 : Cond.fieldLink RX10 84 "DiamondRows" "polygon" "LDiamondRows$Polygon;" ∈ wsX10_fewest := (List.mem_cons_of_mem _ (List.mem_append_left _ (List.mem_of_getElem? (i := 0) rfl)))
theorem zl_X10_fewest_94 : Cond.fieldLink RX10 94 "DiamondRows" "bits" "I" ∈ wsX10_fewest := (List.mem_cons_of_mem _ (List.mem_append_left _ (List.mem_of_getElem? (i := 2) rfl)))
def zQ_X10_fewest (p : Program) (l : Launch) (e : Env) (s : State) (m : MethodId) (args : Array Value) (below : List Frame) (meth : Method) (c : Code) (Q : State → Prop) (D : va_G) (κ : Nat → ClassId) (A : Nat → Prop) (H0 : Heap) (t : Nat → Nat) (mk : Nat) (ad : Nat → Nat → Nat) (t_polygon : Nat) (t_bits : Int) (t_mendedNumber : Int) (o : Int × Int × Int × Nat × Nat × Nat) : Prop := ∀ (H : Heap) (locs : List Loc) (ls : Array Slot) (pc : Nat), va_P D vwCl ([((t 0), .inr (10, [.ref (t 1), .ref (t 3), .ref (t 5), .ref (t 6), .ref (t 9), .ref (t 11), .ref (t 15), .ref (t 17), .ref (t 27), .ref (t 30), zpg ad t_polygon, .int (zi t_bits), .int (zi t_mendedNumber)])), ((t 11), .inr (4, [.ref (t 12), .ref (t 13), .ref (t 14), .int (zi (o.2.1)), .int (zi (o.2.2.1))])), ((t 12), .inl (κ 1, 429, .inl (zc (o.2.2.2.1)))), ((t 13), .inl (κ 1, 429, .inl (zc (o.2.2.2.2.1)))), ((t 14), .inl (κ 1, 429, .inl (zc (o.2.2.2.2.2))))]) H → va_D A ([((t 0), .inr (10, [.ref (t 1), .ref (t 3), .ref (t 5), .ref (t 6), .ref (t 9), .ref (t 11), .ref (t 15), .ref (t 17), .ref (t 27), .ref (t 30), zpg ad t_polygon, .int (zi t_bits), .int (zi t_mendedNumber)])), ((t 11), .inr (4, [.ref (t 12), .ref (t 13), .ref (t 14), .int (zi (o.2.1)), .int (zi (o.2.2.1))])), ((t 12), .inl (κ 1, 429, .inl (zc (o.2.2.2.1)))), ((t 13), .inl (κ 1, 429, .inl (zc (o.2.2.2.2.1)))), ((t 14), .inl (κ 1, 429, .inl (zc (o.2.2.2.2.2))))]) → va_S A H0 H locs → decode cX10_fewest pc = .ok (.ireturn, 1) → W p l e zr_X10_fewest s m args below meth c H locs 0 0 Q (F0 m pc ls [.int (zi (o.1))])
set_option maxHeartbeats 4000000 in
set_option maxRecDepth 100000 in
theorem zs_X10_fewest {p : Program} {l : Launch} {e : Env} {s : State} {m : MethodId} {args : Array Value} {below : List Frame} {meth : Method} {c : Code} {Q : State → Prop} {D : va_G} {κ : Nat → ClassId} {A : Nat → Prop} {H0 : Heap} (t : Nat → Nat) (mk : Nat) (ad : Nat → Nat → Nat) (t_polygon : Nat) (t_bits : Int) (t_mendedNumber : Int) (flips_wayLength : Int) (flips_queued : Int) (flips_steps : Nat) (flips_queue : Nat) (flips_way : Nat) (i1 : Int) (hx : p.tables.exec = Jvm.exec) (hb : c.code = cX10_fewest) (hml : c.maxLocals = 2) (hown : s.vm.findClass RX10 = some m.cls) (hts : ∀ w ∈ wsX10_fewest, w.before args s = true) (hK : va_K D vwCl (zTY κ) s) (hA : ∀ q : Nat, H0.size ≤ q → A q) (hB : zAmb D κ mk ad H0) (hBA : zApt mk ad A H0.size) (H : Heap) (locs : List Loc) (ls : Array Slot) (hP : va_P D vwCl ([((t 0), .inr (10, [.ref (t 1), .ref (t 3), .ref (t 5), .ref (t 6), .ref (t 9), .ref (t 11), .ref (t 15), .ref (t 17), .ref (t 27), .ref (t 30), zpg ad t_polygon, .int (zi t_bits), .int (zi t_mendedNumber)])), ((t 11), .inr (4, [.ref (t 12), .ref (t 13), .ref (t 14), .int (zi flips_wayLength), .int (zi flips_queued)])), ((t 12), .inl (κ 1, 429, .inl (zc flips_steps))), ((t 13), .inl (κ 1, 429, .inl (zc flips_queue))), ((t 14), .inl (κ 1, 429, .inl (zc flips_way)))]) H) (hD : va_D A ([((t 0), .inr (10, [.ref (t 1), .ref (t 3), .ref (t 5), .ref (t 6), .ref (t 9), .ref (t 11), .ref (t 15), .ref (t 17), .ref (t 27), .ref (t 30), zpg ad t_polygon, .int (zi t_bits), .int (zi t_mendedNumber)])), ((t 11), .inr (4, [.ref (t 12), .ref (t 13), .ref (t 14), .int (zi flips_wayLength), .int (zi flips_queued)])), ((t 12), .inl (κ 1, 429, .inl (zc flips_steps))), ((t 13), .inl (κ 1, 429, .inl (zc flips_queue))), ((t 14), .inl (κ 1, 429, .inl (zc flips_way)))])) (hS : va_S A H0 H locs) (hl : lv_has ls 2 [(0, .ref (t 0)), (1, .int (zi i1))]) (hg : Go (zQ_X10_fewest p l e s m args below meth c Q D κ A H0 t mk ad t_polygon t_bits t_mendedNumber) (zf_X10_fewest mk t_polygon t_bits flips_wayLength flips_queued flips_steps flips_queue flips_way i1)) : W p l e zr_X10_fewest s m args below meth c H locs 0 0 Q (F0 m 0 ls []) := by
  unfold zf_X10_fewest at hg
  refine lv_aload_n hx hb dX10_fewest_0 rfl (lv_at hl 0 rfl) ?_
  obtain ⟨m1, hg⟩ := Go_n hg
  refine va_get (D := D) (ci := 10) (v := .ref (ad t_polygon 0)) (C := RX10) (T := TX10) (N := 13) hx hb hts zi_X10_fewest_X10 hown hK hP 0 rfl rfl 10 (by decide) (hts (.fieldLink RX10 84 "DiamondRows" "polygon" "LDiamondRows$Polygon;") zl_X10_fewest_84) (fun _ h9 => h9) (zpg_ok m1) dX10_fewest_1 ?_
  refine lv_iload_n hx hb dX10_fewest_4 rfl (lv_at hl 1 rfl) ?_
  obtain ⟨o2, ho2, hg⟩ := Go_b hg
  refine zc_vi (rest := []) ⟨hx, hb, hml, hown, hts⟩ (zc_X5_hasCut l D κ (ad t_polygon) t_polygon i1 o2 ho2) (cwV 1 hts gX10_fewest_X5_hasCut rfl rfl rfl hv_X5_hasCut ⟨Nat.le_of_ble_eq_true rfl, Nat.le_of_ble_eq_true rfl⟩) (zpreV hK ((zamb hB hBA hS) t_polygon m1) 5 0 rfl rfl) rfl hl.1 rfl (Nat.le_of_ble_eq_true rfl) dX10_fewest_5 ⟨Nat.zero_le _, Nat.zero_le _⟩ ?_
  refine zv_ifb_ne (tgt := 14) hx hb dX10_fewest_8 (by decide) (fun c5 => ?_) (fun c5 => ?_)
  · have hg := Go_f c5 hg
    refine lv_aload_n hx hb dX10_fewest_14 rfl (lv_at hl 0 rfl) ?_
    refine va_get (D := D) (ci := 10) (v := .ref (t 11)) (C := RX10) (T := TX10) (N := 13) hx hb hts zi_X10_fewest_X10 hown hK hP 0 rfl rfl 5 (by decide) (hts (.fieldLink RX10 47 "DiamondRows" "flips" "LDiamondRows$Flips;") zl_X10_fewest_47) (fun _ h9 => h9) rfl dX10_fewest_15 ?_
    refine lv_aload_n hx hb dX10_fewest_18 rfl (lv_at hl 0 rfl) ?_
    refine va_get (D := D) (ci := 10) (v := .ref (ad t_polygon 0)) (C := RX10) (T := TX10) (N := 13) hx hb hts zi_X10_fewest_X10 hown hK hP 0 rfl rfl 10 (by decide) (hts (.fieldLink RX10 84 "DiamondRows" "polygon" "LDiamondRows$Polygon;") zl_X10_fewest_84) (fun _ h9 => h9) (zpg_ok m1) dX10_fewest_19 ?_
    refine lv_aload_n hx hb dX10_fewest_22 rfl (lv_at hl 0 rfl) ?_
    refine va_get (D := D) (ci := 10) (v := .ref (ad t_polygon 0)) (C := RX10) (T := TX10) (N := 13) hx hb hts zi_X10_fewest_X10 hown hK hP 0 rfl rfl 10 (by decide) (hts (.fieldLink RX10 84 "DiamondRows" "polygon" "LDiamondRows$Polygon;") zl_X10_fewest_84) (fun _ h9 => h9) (zpg_ok m1) dX10_fewest_23 ?_
    refine lv_aload_n hx hb dX10_fewest_26 rfl (lv_at hl 0 rfl) ?_
    refine va_get (D := D) (ci := 10) (v := .int (zi t_bits)) (C := RX10) (T := TX10) (N := 13) hx hb hts zi_X10_fewest_X10 hown hK hP 0 rfl rfl 11 (by decide) (hts (.fieldLink RX10 94 "DiamondRows" "bits" "I") zl_X10_fewest_94) (fun _ h9 => h9) rfl dX10_fewest_27 ?_
    obtain ⟨o3, ho3, hg⟩ := Go_b hg
    refine zc_vi (rest := [.ref (ad t_polygon 0), .ref (t 11)]) ⟨hx, hb, hml, hown, hts⟩ (zc_X5_numberOf l D κ (ad t_polygon) t_polygon t_bits o3 ho3) (cwV 1 hts gX10_fewest_X5_numberOf rfl rfl rfl hv_X5_numberOf ⟨Nat.le_of_ble_eq_true rfl, Nat.le_of_ble_eq_true rfl⟩) (zpreV hK ((zamb hB hBA hS) t_polygon m1) 5 0 rfl rfl) rfl hl.1 rfl (Nat.le_of_ble_eq_true rfl) dX10_fewest_30 ⟨Nat.zero_le _, Nat.zero_le _⟩ ?_
    refine lv_iload_n hx hb dX10_fewest_33 rfl (lv_at hl 1 rfl) ?_
    obtain ⟨o4, ho4, hg⟩ := Go_b hg
    refine zj_i (wr := [((t 0), .inr (10, [.ref (t 1), .ref (t 3), .ref (t 5), .ref (t 6), .ref (t 9), .ref (t 11), .ref (t 15), .ref (t 17), .ref (t 27), .ref (t 30), zpg ad t_polygon, .int (zi t_bits), .int (zi t_mendedNumber)]))]) (ws1 := [((t 0), .inr (10, [.ref (t 1), .ref (t 3), .ref (t 5), .ref (t 6), .ref (t 9), .ref (t 11), .ref (t 15), .ref (t 17), .ref (t 27), .ref (t 30), zpg ad t_polygon, .int (zi t_bits), .int (zi t_mendedNumber)])), ((t 11), .inr (4, [.ref (t 12), .ref (t 13), .ref (t 14), .int (zi (o4.2.1)), .int (zi (o4.2.2.1))])), ((t 12), .inl (κ 1, 429, .inl (zc (o4.2.2.2.1)))), ((t 13), .inl (κ 1, 429, .inl (zc (o4.2.2.2.2.1)))), ((t 14), .inl (κ 1, 429, .inl (zc (o4.2.2.2.2.2))))]) (va_runV (rest := []) ⟨hx, hb, hml, hown, hts⟩ (zc_X4_layWay l D κ (fun i => t (i + 11)) mk ad H.size flips_wayLength flips_queued flips_steps flips_queue flips_way t_polygon o3 i1 o4 ho4) (cwV 3 hts gX10_fewest_X4_layWay rfl rfl rfl hv_X4_layWay ⟨Nat.le_of_ble_eq_true rfl, Nat.le_of_ble_eq_true rfl⟩) (zpreWVa hK (hP.sub [1, 2, 3, 4] rfl) (hD.sub [1, 2, 3, 4] (by decide) rfl) (zamb hB hBA hS) (zapt hBA hS (va_free hD hS hA [1, 2, 3, 4] rfl)) 4 0 rfl rfl) rfl rfl hl.1 rfl (lv_room (Nat.le_of_ble_eq_true rfl)) dX10_fewest_34 ⟨Nat.zero_le _, Nat.zero_le _⟩) hP hD hS hA [1, 2, 3, 4] [0] [0, 1, 2, 3, 4] rfl rfl (by decide) (by decide) rfl rfl (by decide) (fun H locs hP hD hS => ?_)
    exact (Go_s hg) _ _ _ _ hP hD hS dX10_fewest_37
  · have hg := Go_t c5 hg
    refine zv_bipush hx hb dX10_fewest_11 (by decide) ?_
    exact (Go_s hg) _ _ _ _ hP hD hS dX10_fewest_13
set_option maxHeartbeats 4000000 in
set_option maxRecDepth 100000 in
theorem zc_X10_fewest (l : Launch) (D : va_G) (κ : Nat → ClassId) (t : Nat → Nat) (mk : Nat) (ad : Nat → Nat → Nat) (sz : Nat) (t_polygon : Nat) (t_bits : Int) (t_mendedNumber : Int) (flips_wayLength : Int) (flips_queued : Int) (flips_steps : Nat) (flips_queue : Nat) (flips_way : Nat) (i1 : Int) (out : Int × Int × Int × Nat × Nat × Nat) (h : zf_X10_fewest mk t_polygon t_bits flips_wayLength flips_queued flips_steps flips_queue flips_way i1 = some out) : Met l yX10_fewest wsX10_fewest zr_X10_fewest (va_Pc [.ref (t 0), .int (zi i1)] (zWa D κ mk ad ([((t 0), .inr (10, [.ref (t 1), .ref (t 3), .ref (t 5), .ref (t 6), .ref (t 9), .ref (t 11), .ref (t 15), .ref (t 17), .ref (t 27), .ref (t 30), zpg ad t_polygon, .int (zi t_bits), .int (zi t_mendedNumber)])), ((t 11), .inr (4, [.ref (t 12), .ref (t 13), .ref (t 14), .int (zi flips_wayLength), .int (zi flips_queued)])), ((t 12), .inl (κ 1, 429, .inl (zc flips_steps))), ((t 13), .inl (κ 1, 429, .inl (zc flips_queue))), ((t 14), .inl (κ 1, 429, .inl (zc flips_way)))]) sz)) (va_Qi (fun r (_ : Unit) => r = zi (out.1)) (fun _ => zB D κ (va_A ([((t 0), .inr (10, [.ref (t 1), .ref (t 3), .ref (t 5), .ref (t 6), .ref (t 9), .ref (t 11), .ref (t 15), .ref (t 17), .ref (t 27), .ref (t 30), zpg ad t_polygon, .int (zi t_bits), .int (zi t_mendedNumber)])), ((t 11), .inr (4, [.ref (t 12), .ref (t 13), .ref (t 14), .int (zi flips_wayLength), .int (zi flips_queued)])), ((t 12), .inl (κ 1, 429, .inl (zc flips_steps))), ((t 13), .inl (κ 1, 429, .inl (zc flips_queue))), ((t 14), .inl (κ 1, 429, .inl (zc flips_way)))]) sz) ([((t 0), .inr (10, [.ref (t 1), .ref (t 3), .ref (t 5), .ref (t 6), .ref (t 9), .ref (t 11), .ref (t 15), .ref (t 17), .ref (t 27), .ref (t 30), zpg ad t_polygon, .int (zi t_bits), .int (zi t_mendedNumber)])), ((t 11), .inr (4, [.ref (t 12), .ref (t 13), .ref (t 14), .int (zi (out.2.1)), .int (zi (out.2.2.1))])), ((t 12), .inl (κ 1, 429, .inl (zc (out.2.2.2.1)))), ((t 13), .inl (κ 1, 429, .inl (zc (out.2.2.2.2.1)))), ((t 14), .inl (κ 1, 429, .inl (zc (out.2.2.2.2.2))))])) (va_A ([((t 0), .inr (10, [.ref (t 1), .ref (t 3), .ref (t 5), .ref (t 6), .ref (t 9), .ref (t 11), .ref (t 15), .ref (t 17), .ref (t 27), .ref (t 30), zpg ad t_polygon, .int (zi t_bits), .int (zi t_mendedNumber)])), ((t 11), .inr (4, [.ref (t 12), .ref (t 13), .ref (t 14), .int (zi flips_wayLength), .int (zi flips_queued)])), ((t 12), .inl (κ 1, 429, .inl (zc flips_steps))), ((t 13), .inl (κ 1, 429, .inl (zc flips_queue))), ((t 14), .inl (κ 1, 429, .inl (zc flips_way)))]) sz)) 0 0 (va_A ([((t 0), .inr (10, [.ref (t 1), .ref (t 3), .ref (t 5), .ref (t 6), .ref (t 9), .ref (t 11), .ref (t 15), .ref (t 17), .ref (t 27), .ref (t 30), zpg ad t_polygon, .int (zi t_bits), .int (zi t_mendedNumber)])), ((t 11), .inr (4, [.ref (t 12), .ref (t 13), .ref (t 14), .int (zi flips_wayLength), .int (zi flips_queued)])), ((t 12), .inl (κ 1, 429, .inl (zc flips_steps))), ((t 13), .inl (κ 1, 429, .inl (zc flips_queue))), ((t 14), .inl (κ 1, 429, .inl (zc flips_way)))]) sz) := by
  refine Met.ofW (cc := cX10_fewest) (maxL := 2) (ret := (some .int)) (by decide +kernel) rfl ?_
  intro p e s m args below meth c s₁ B hml hv
  obtain ⟨rfl, hsz, hP, hK, hD0, hB, hBA⟩ := hv
  have hx := B.exec
  have hb := B.bytes
  have hr := B.returns
  have hts := atoms_spec (ws := wsX10_fewest) B.pre
  have hown : s.vm.findClass RX10 = some m.cls := findClass_of_methodNamed B.named
  have hlocks := B.notSynchronized
  subst hsz
  have hD := hD0.self (sz := s.heap.size)
  generalize hAe : va_A ([((t 0), .inr (10, [.ref (t 1), .ref (t 3), .ref (t 5), .ref (t 6), .ref (t 9), .ref (t 11), .ref (t 15), .ref (t 17), .ref (t 27), .ref (t 30), zpg ad t_polygon, .int (zi t_bits), .int (zi t_mendedNumber)])), ((t 11), .inr (4, [.ref (t 12), .ref (t 13), .ref (t 14), .int (zi flips_wayLength), .int (zi flips_queued)])), ((t 12), .inl (κ 1, 429, .inl (zc flips_steps))), ((t 13), .inl (κ 1, 429, .inl (zc flips_queue))), ((t 14), .inl (κ 1, 429, .inl (zc flips_way)))]) s.heap.size = A at hD hBA ⊢
  have hA : ∀ q : Nat, s.heap.size ≤ q → A q := fun q h => by rw [← hAe]; exact Or.inr h
  have hS : va_S A s.heap s.heap [] := va_S.rf
  have hl := lv_entry ([.ref (t 0), .int (zi i1)]) (n := 2) (Nat.le_of_ble_eq_true rfl)
  rw [lg_entry_eq]
  generalize (lg_sl ([.ref (t 0), .int (zi i1)]) ++ List.replicate (2 - (lg_sl ([.ref (t 0), .int (zi i1)])).length) Slot.unset).toArray = ls at hl ⊢
  have hl : lv_has ls 2 [(0, .ref (t 0)), (1, .int (zi i1))] := hl
  refine zs_X10_fewest t mk ad t_polygon t_bits t_mendedNumber flips_wayLength flips_queued flips_steps flips_queue flips_way i1 hx hb hml hown hts hK hA hB hBA s.heap [] ls hP hD hS hl ⟨out, h, ?_⟩
  exact fun H locs ls pc hP hD hS hd => W.iret hx hb hr (fun t ht hW => ⟨⟨_, (), rfl, rfl, by rw [ht]; exact hP, va_K.moved hW.alike hK, hD⟩, hS.F ht⟩) hS.2.2 hd
/-! DiamondRows.passed(I)I -/
abbrev zr_X10_passed : Room := { frames := 1, cells := 0, slots := 0, locals := 21 }
noncomputable def zf_X10_passed (mk : Nat) (flips_wayLength : Int) (flips_way : Nat) (i1 : Int) : Option (Int) :=
  Option.bind (zf_X4_onWay flips_wayLength flips_way i1) (fun o1 =>
  some (o1))
theorem zi_X10_passed_X10 : ∀ w ∈ u_ws RX10 TX10 13, w ∈ wsX10_passed := fun w h => (List.mem_cons_of_mem _ (List.mem_append_right _ (List.mem_append_left _ h)))
theorem zl_X10_passed_47 : Cond.fieldLink RX10 47 "DiamondRows" "flips" "LDiamondRows$Flips;" ∈ wsX10_passed := (List.mem_cons_of_mem _ (List.mem_append_left _ (List.mem_of_getElem? (i := 0) rfl)))
def zQ_X10_passed (p : Program) (l : Launch) (e : Env) (s : State) (m : MethodId) (args : Array Value) (below : List Frame) (meth : Method) (c : Code) (Q : State → Prop) (H : Heap) (locs : List Loc)  (o : Int) : Prop := ∀ (ls : Array Slot) (pc : Nat), decode cX10_passed pc = .ok (.ireturn, 1) → W p l e zr_X10_passed s m args below meth c H locs 0 0 Q (F0 m pc ls [.int (zi o)])
set_option maxHeartbeats 4000000 in
set_option maxRecDepth 100000 in
theorem zs_X10_passed {p : Program} {l : Launch} {e : Env} {s : State} {m : MethodId} {args : Array Value} {below : List Frame} {meth : Method} {c : Code} {Q : State → Prop} {D : va_G} {κ : Nat → ClassId} {H : Heap} {locs : List Loc} (t : Nat → Nat) (mk : Nat) (ad : Nat → Nat → Nat) (t_polygon : Nat) (t_bits : Int) (t_mendedNumber : Int) (flips_wayLength : Int) (flips_queued : Int) (flips_steps : Nat) (flips_queue : Nat) (flips_way : Nat) (i1 : Int) (hx : p.tables.exec = Jvm.exec) (hb : c.code = cX10_passed) (hml : c.maxLocals = 2) (hown : s.vm.findClass RX10 = some m.cls) (hts : ∀ w ∈ wsX10_passed, w.before args s = true) (hK : va_K D vwCl (zTY κ) s) (hP : va_P D vwCl ([((t 0), .inr (10, [.ref (t 1), .ref (t 3), .ref (t 5), .ref (t 6), .ref (t 9), .ref (t 11), .ref (t 15), .ref (t 17), .ref (t 27), .ref (t 30), zpg ad t_polygon, .int (zi t_bits), .int (zi t_mendedNumber)])), ((t 11), .inr (4, [.ref (t 12), .ref (t 13), .ref (t 14), .int (zi flips_wayLength), .int (zi flips_queued)])), ((t 12), .inl (κ 1, 429, .inl (zc flips_steps))), ((t 13), .inl (κ 1, 429, .inl (zc flips_queue))), ((t 14), .inl (κ 1, 429, .inl (zc flips_way)))]) H) (hB : zAmb D κ mk ad H) (ls : Array Slot) (hl : lv_has ls 2 [(0, .ref (t 0)), (1, .int (zi i1))]) (hg : Go (zQ_X10_passed p l e s m args below meth c Q H locs) (zf_X10_passed mk flips_wayLength flips_way i1)) : W p l e zr_X10_passed s m args below meth c H locs 0 0 Q (F0 m 0 ls []) := by
  unfold zf_X10_passed at hg
  refine lv_aload_n hx hb dX10_passed_0 rfl (lv_at hl 0 rfl) ?_
  refine va_get (D := D) (ci := 10) (v := .ref (t 11)) (C := RX10) (T := TX10) (N := 13) hx hb hts zi_X10_passed_X10 hown hK hP 0 rfl rfl 5 (by decide) (hts (.fieldLink RX10 47 "DiamondRows" "flips" "LDiamondRows$Flips;") zl_X10_passed_47) (fun _ h9 => h9) rfl dX10_passed_1 ?_
  refine lv_iload_n hx hb dX10_passed_4 rfl (lv_at hl 1 rfl) ?_
  obtain ⟨o1, ho1, hg⟩ := Go_b hg
  refine zc_vi (rest := []) ⟨hx, hb, hml, hown, hts⟩ (zc_X4_onWay l D κ (fun i => t (i + 11)) flips_wayLength flips_queued flips_steps flips_queue flips_way i1 o1 ho1) (cwV 1 hts gX10_passed_X4_onWay rfl rfl rfl hv_X4_onWay ⟨Nat.le_of_ble_eq_true rfl, Nat.le_of_ble_eq_true rfl⟩) (zpreV hK (hP.sub [1, 2, 3, 4] rfl) 4 0 rfl rfl) rfl hl.1 rfl (Nat.le_of_ble_eq_true rfl) dX10_passed_5 ⟨Nat.zero_le _, Nat.zero_le _⟩ ?_
  exact (Go_s hg) _ _ dX10_passed_8
set_option maxHeartbeats 4000000 in
set_option maxRecDepth 100000 in
theorem zc_X10_passed (l : Launch) (D : va_G) (κ : Nat → ClassId) (t : Nat → Nat) (mk : Nat) (ad : Nat → Nat → Nat) (t_polygon : Nat) (t_bits : Int) (t_mendedNumber : Int) (flips_wayLength : Int) (flips_queued : Int) (flips_steps : Nat) (flips_queue : Nat) (flips_way : Nat) (i1 : Int) (out : Int) (h : zf_X10_passed mk flips_wayLength flips_way i1 = some out) : Met l yX10_passed wsX10_passed zr_X10_passed (va_Pc [.ref (t 0), .int (zi i1)] (zRa D κ mk ad ([((t 0), .inr (10, [.ref (t 1), .ref (t 3), .ref (t 5), .ref (t 6), .ref (t 9), .ref (t 11), .ref (t 15), .ref (t 17), .ref (t 27), .ref (t 30), zpg ad t_polygon, .int (zi t_bits), .int (zi t_mendedNumber)])), ((t 11), .inr (4, [.ref (t 12), .ref (t 13), .ref (t 14), .int (zi flips_wayLength), .int (zi flips_queued)])), ((t 12), .inl (κ 1, 429, .inl (zc flips_steps))), ((t 13), .inl (κ 1, 429, .inl (zc flips_queue))), ((t 14), .inl (κ 1, 429, .inl (zc flips_way)))]))) (vp_Si (fun x => x = zi out)) 0 0 (fun _ => False) := by
  refine Met.ofW (cc := cX10_passed) (maxL := 2) (ret := (some .int)) (by decide +kernel) rfl ?_
  intro p e s m args below meth c s₁ B hml hv
  obtain ⟨rfl, hP, hK, hB⟩ := hv
  have hx := B.exec
  have hb := B.bytes
  have hr := B.returns
  have hts := atoms_spec (ws := wsX10_passed) B.pre
  have hown : s.vm.findClass RX10 = some m.cls := findClass_of_methodNamed B.named
  have hlocks := B.notSynchronized
  have hl := lv_entry ([.ref (t 0), .int (zi i1)]) (n := 2) (Nat.le_of_ble_eq_true rfl)
  rw [lg_entry_eq]
  generalize (lg_sl ([.ref (t 0), .int (zi i1)]) ++ List.replicate (2 - (lg_sl ([.ref (t 0), .int (zi i1)])).length) Slot.unset).toArray = ls at hl ⊢
  have hl : lv_has ls 2 [(0, .ref (t 0)), (1, .int (zi i1))] := hl
  refine zs_X10_passed t mk ad t_polygon t_bits t_mendedNumber flips_wayLength flips_queued flips_steps flips_queue flips_way i1 hx hb hml hown hts hK hP hB ls hl ⟨out, h, ?_⟩
  exact fun ls pc hd => W.iret hx hb hr (fun t ht hW => ⟨_, rfl, rfl, ht⟩) (fun _ h => by cases h) hd
/-! DiamondRows.farthest(I)I -/
abbrev zr_X10_farthest : Room := { frames := 4, cells := 0, slots := 0, locals := 90 }
abbrev zS_X10_farthest : Type := Nat × Int × Int × Nat × Nat
abbrev zO_X10_farthest : Type := Int × Int × Nat × Nat
noncomputable def zg_X10_farthest_0 (mk : Nat) (t_polygon : Nat) (t_bits : Int) (i1 : Int) (flips_queued : Int) (flips_steps : Nat) (flips_queue : Nat) : Option (zO_X10_farthest ⊕ zS_X10_farthest) :=
  if zout i1 then none else
  if i1 = 0 then
  some (.inr (11, i1, flips_queued, flips_steps, flips_queue))
  else
  if i1 = (1 : Int) then
  some (.inr (11, i1, flips_queued, flips_steps, flips_queue))
  else
  some (.inl ((-1 : Int), flips_queued, flips_steps, flips_queue))
noncomputable def zg_X10_farthest_11 (mk : Nat) (t_polygon : Nat) (t_bits : Int) (i1 : Int) (flips_queued : Int) (flips_steps : Nat) (flips_queue : Nat) : Option (zO_X10_farthest ⊕ zS_X10_farthest) :=
  if zno mk t_polygon then none else
  Option.bind (zf_X5_numberOf t_polygon t_bits) (fun o5 =>
  Option.bind (zf_X4_measure mk flips_queued flips_steps flips_queue t_polygon o5) (fun o6 =>
  Option.bind (zf_X4_mostSteps mk (o6.2.1) t_polygon) (fun o7 =>
  if zout i1 then none else
  if i1 = 0 then
  some (.inl (o7, (o6.1), (o6.2.1), (o6.2.2)))
  else
  Option.bind (zf_X4_howManyAt mk (o6.2.1) t_polygon o7) (fun o9 =>
  some (.inl (o9, (o6.1), (o6.2.1), (o6.2.2)))))))
noncomputable def zg_X10_farthest (mk : Nat) (t_polygon : Nat) (t_bits : Int) (st : zS_X10_farthest) : Option (zO_X10_farthest ⊕ zS_X10_farthest) := match st with
  | (lab, i1, flips_queued, flips_steps, flips_queue) => if lab = 0 then zg_X10_farthest_0 mk t_polygon t_bits i1 flips_queued flips_steps flips_queue else if lab = 11 then zg_X10_farthest_11 mk t_polygon t_bits i1 flips_queued flips_steps flips_queue else none
noncomputable def zf_X10_farthest (mk : Nat) (t_polygon : Nat) (t_bits : Int) (flips_queued : Int) (flips_steps : Nat) (flips_queue : Nat) (i1 : Int) : Option (Int × Int × Nat × Nat) := jrun (zg_X10_farthest mk t_polygon t_bits) jfuel (0, i1, flips_queued, flips_steps, flips_queue)
theorem zi_X10_farthest_X10 : ∀ w ∈ u_ws RX10 TX10 13, w ∈ wsX10_farthest := fun w h => (List.mem_cons_of_mem _ (List.mem_append_right _ (List.mem_append_left _ h)))
theorem zl_X10_farthest_47 : Cond.fieldLink RX10 47 "DiamondRows" "flips" "LDiamondRows$Flips;" ∈ wsX10_farthest := (List.mem_cons_of_mem _ (List.mem_append_left _ (List.mem_of_getElem? (i := 0) rfl)))
theorem zl_X10_farthest_84 : Cond.fieldLink RX10 84 "DiamondRows" "polygon" "LDiamondRows$Polygon;" ∈ wsX10_farthest := (List.mem_cons_of_mem _ (List.mem_append_left _ (List.mem_of_getElem? (i := 1) rfl)))
theorem zl_X10_farthest_94 : Cond.fieldLink RX10 94 "DiamondRows" "bits" "I" ∈ wsX10_farthest := (List.mem_cons_of_mem _ (List.mem_append_left _ (List.mem_of_getElem? (i := 2) rfl)))
def zQ_X10_farthest (p : Program) (l : Launch) (e : Env) (s : State) (m : MethodId) (args : Array Value) (below : List Frame) (meth : Method) (c : Code) (Q : State → Prop) (D : va_G) (κ : Nat → ClassId) (A : Nat → Prop) (H0 : Heap) (t : Nat → Nat) (mk : Nat) (ad : Nat → Nat → Nat) (t_polygon : Nat) (t_bits : Int) (t_mendedNumber : Int) (flips_wayLength : Int) (flips_way : Nat) (o : Int × Int × Nat × Nat) : Prop := ∀ (H : Heap) (locs : List Loc) (ls : Array Slot) (pc : Nat), va_P D vwCl ([((t 0), .inr (10, [.ref (t 1), .ref (t 3), .ref (t 5), .ref (t 6), .ref (t 9), .ref (t 11), .ref (t 15), .ref (t 17), .ref (t 27), .ref (t 30), zpg ad t_polygon, .int (zi t_bits), .int (zi t_mendedNumber)])), ((t 11), .inr (4, [.ref (t 12), .ref (t 13), .ref (t 14), .int (zi flips_wayLength), .int (zi (o.2.1))])), ((t 12), .inl (κ 1, 429, .inl (zc (o.2.2.1)))), ((t 13), .inl (κ 1, 429, .inl (zc (o.2.2.2)))), ((t 14), .inl (κ 1, 429, .inl (zc flips_way)))]) H → va_D A ([((t 0), .inr (10, [.ref (t 1), .ref (t 3), .ref (t 5), .ref (t 6), .ref (t 9), .ref (t 11), .ref (t 15), .ref (t 17), .ref (t 27), .ref (t 30), zpg ad t_polygon, .int (zi t_bits), .int (zi t_mendedNumber)])), ((t 11), .inr (4, [.ref (t 12), .ref (t 13), .ref (t 14), .int (zi flips_wayLength), .int (zi (o.2.1))])), ((t 12), .inl (κ 1, 429, .inl (zc (o.2.2.1)))), ((t 13), .inl (κ 1, 429, .inl (zc (o.2.2.2)))), ((t 14), .inl (κ 1, 429, .inl (zc flips_way)))]) → va_S A H0 H locs → decode cX10_farthest pc = .ok (.ireturn, 1) → W p l e zr_X10_farthest s m args below meth c H locs 0 0 Q (F0 m pc ls [.int (zi (o.1))])
def zA_X10_farthest_0 (p : Program) (l : Launch) (e : Env) (s : State) (m : MethodId) (args : Array Value) (below : List Frame) (meth : Method) (c : Code) (Q : State → Prop) (D : va_G) (κ : Nat → ClassId) (A : Nat → Prop) (H0 : Heap) (t : Nat → Nat) (mk : Nat) (ad : Nat → Nat → Nat) (t_polygon : Nat) (t_bits : Int) (t_mendedNumber : Int) (flips_wayLength : Int) (flips_way : Nat) (i1 : Int) (flips_queued : Int) (flips_steps : Nat) (flips_queue : Nat) : Prop := ∀ (H : Heap) (locs : List Loc) (ls : Array Slot), va_P D vwCl ([((t 0), .inr (10, [.ref (t 1), .ref (t 3), .ref (t 5), .ref (t 6), .ref (t 9), .ref (t 11), .ref (t 15), .ref (t 17), .ref (t 27), .ref (t 30), zpg ad t_polygon, .int (zi t_bits), .int (zi t_mendedNumber)])), ((t 11), .inr (4, [.ref (t 12), .ref (t 13), .ref (t 14), .int (zi flips_wayLength), .int (zi flips_queued)])), ((t 12), .inl (κ 1, 429, .inl (zc flips_steps))), ((t 13), .inl (κ 1, 429, .inl (zc flips_queue))), ((t 14), .inl (κ 1, 429, .inl (zc flips_way)))]) H → va_D A ([((t 0), .inr (10, [.ref (t 1), .ref (t 3), .ref (t 5), .ref (t 6), .ref (t 9), .ref (t 11), .ref (t 15), .ref (t 17), .ref (t 27), .ref (t 30), zpg ad t_polygon, .int (zi t_bits), .int (zi t_mendedNumber)])), ((t 11), .inr (4, [.ref (t 12), .ref (t 13), .ref (t 14), .int (zi flips_wayLength), .int (zi flips_queued)])), ((t 12), .inl (κ 1, 429, .inl (zc flips_steps))), ((t 13), .inl (κ 1, 429, .inl (zc flips_queue))), ((t 14), .inl (κ 1, 429, .inl (zc flips_way)))]) → va_S A H0 H locs → lv_has ls 3 [(0, .ref (t 0)), (1, .int (zi i1))] → W p l e zr_X10_farthest s m args below meth c H locs 0 0 Q (F0 m 0 ls [])
def zA_X10_farthest_11 (p : Program) (l : Launch) (e : Env) (s : State) (m : MethodId) (args : Array Value) (below : List Frame) (meth : Method) (c : Code) (Q : State → Prop) (D : va_G) (κ : Nat → ClassId) (A : Nat → Prop) (H0 : Heap) (t : Nat → Nat) (mk : Nat) (ad : Nat → Nat → Nat) (t_polygon : Nat) (t_bits : Int) (t_mendedNumber : Int) (flips_wayLength : Int) (flips_way : Nat) (i1 : Int) (flips_queued : Int) (flips_steps : Nat) (flips_queue : Nat) : Prop := ∀ (H : Heap) (locs : List Loc) (ls : Array Slot), va_P D vwCl ([((t 0), .inr (10, [.ref (t 1), .ref (t 3), .ref (t 5), .ref (t 6), .ref (t 9), .ref (t 11), .ref (t 15), .ref (t 17), .ref (t 27), .ref (t 30), zpg ad t_polygon, .int (zi t_bits), .int (zi t_mendedNumber)])), ((t 11), .inr (4, [.ref (t 12), .ref (t 13), .ref (t 14), .int (zi flips_wayLength), .int (zi flips_queued)])), ((t 12), .inl (κ 1, 429, .inl (zc flips_steps))), ((t 13), .inl (κ 1, 429, .inl (zc flips_queue))), ((t 14), .inl (κ 1, 429, .inl (zc flips_way)))]) H → va_D A ([((t 0), .inr (10, [.ref (t 1), .ref (t 3), .ref (t 5), .ref (t 6), .ref (t 9), .ref (t 11), .ref (t 15), .ref (t 17), .ref (t 27), .ref (t 30), zpg ad t_polygon, .int (zi t_bits), .int (zi t_mendedNumber)])), ((t 11), .inr (4, [.ref (t 12), .ref (t 13), .ref (t 14), .int (zi flips_wayLength), .int (zi flips_queued)])), ((t 12), .inl (κ 1, 429, .inl (zc flips_steps))), ((t 13), .inl (κ 1, 429, .inl (zc flips_queue))), ((t 14), .inl (κ 1, 429, .inl (zc flips_way)))]) → va_S A H0 H locs → lv_has ls 3 [(0, .ref (t 0)), (1, .int (zi i1))] → W p l e zr_X10_farthest s m args below meth c H locs 0 0 Q (F0 m 11 ls [])
def zA_X10_farthest (p : Program) (l : Launch) (e : Env) (s : State) (m : MethodId) (args : Array Value) (below : List Frame) (meth : Method) (c : Code) (Q : State → Prop) (D : va_G) (κ : Nat → ClassId) (A : Nat → Prop) (H0 : Heap) (t : Nat → Nat) (mk : Nat) (ad : Nat → Nat → Nat) (t_polygon : Nat) (t_bits : Int) (t_mendedNumber : Int) (flips_wayLength : Int) (flips_way : Nat) (st : zS_X10_farthest) : Prop := match st with
  | (lab, i1, flips_queued, flips_steps, flips_queue) => if lab = 0 then zA_X10_farthest_0 p l e s m args below meth c Q D κ A H0 t mk ad t_polygon t_bits t_mendedNumber flips_wayLength flips_way i1 flips_queued flips_steps flips_queue else if lab = 11 then zA_X10_farthest_11 p l e s m args below meth c Q D κ A H0 t mk ad t_polygon t_bits t_mendedNumber flips_wayLength flips_way i1 flips_queued flips_steps flips_queue else True
set_option maxHeartbeats 4000000 in
set_option maxRecDepth 100000 in
theorem zs_X10_farthest_0 {p : Program} {l : Launch} {e : Env} {s : State} {m : MethodId} {args : Array Value} {below : List Frame} {meth : Method} {c : Code} {Q : State → Prop} {D : va_G} {κ : Nat → ClassId} {A : Nat → Prop} {H0 : Heap} (t : Nat → Nat) (mk : Nat) (ad : Nat → Nat → Nat) (t_polygon : Nat) (t_bits : Int) (t_mendedNumber : Int) (flips_wayLength : Int) (flips_way : Nat) (hx : p.tables.exec = Jvm.exec) (hb : c.code = cX10_farthest) (hml : c.maxLocals = 3) (hown : s.vm.findClass RX10 = some m.cls) (hts : ∀ w ∈ wsX10_farthest, w.before args s = true) (hK : va_K D vwCl (zTY κ) s) (hA : ∀ q : Nat, H0.size ≤ q → A q) (hB : zAmb D κ mk ad H0) (hBA : zApt mk ad A H0.size) (i1 : Int) (flips_queued : Int) (flips_steps : Nat) (flips_queue : Nat) (hg : Go (GoE (zA_X10_farthest p l e s m args below meth c Q D κ A H0 t mk ad t_polygon t_bits t_mendedNumber flips_wayLength flips_way) (zQ_X10_farthest p l e s m args below meth c Q D κ A H0 t mk ad t_polygon t_bits t_mendedNumber flips_wayLength flips_way)) (zg_X10_farthest_0 mk t_polygon t_bits i1 flips_queued flips_steps flips_queue)) : zA_X10_farthest_0 p l e s m args below meth c Q D κ A H0 t mk ad t_polygon t_bits t_mendedNumber flips_wayLength flips_way i1 flips_queued flips_steps flips_queue := by
  intro H locs ls hP hD hS hl
  unfold zg_X10_farthest_0 at hg
  refine lv_iload_n hx hb dX10_farthest_0 rfl (lv_at hl 1 rfl) ?_
  obtain ⟨b1, hg⟩ := Go_n hg
  refine zv_if_eq (tgt := 11) hx hb dX10_farthest_1 (by decide) b1 (fun c3 => ?_) (fun c3 => ?_)
  · have hg := Go_t c3 hg
    exact (Go_s hg) H locs ls hP hD hS (lv_sub hl [0, 1] rfl)
  · have hg := Go_f c3 hg
    refine lv_iload_n hx hb dX10_farthest_4 rfl (lv_at hl 1 rfl) ?_
    refine zv_iconst hx hb dX10_farthest_5 ?_
    refine zv_icmp_eq (tgt := 11) hx hb dX10_farthest_6 (by decide) b1 (by decide) (fun c2 => ?_) (fun c2 => ?_)
    · have hg := Go_t c2 hg
      exact (Go_s hg) H locs ls hP hD hS (lv_sub hl [0, 1] rfl)
    · have hg := Go_f c2 hg
      refine zv_iconst hx hb dX10_farthest_9 ?_
      exact (Go_s hg) _ _ _ _ hP hD hS dX10_farthest_10
set_option maxHeartbeats 4000000 in
set_option maxRecDepth 100000 in
theorem zs_X10_farthest_11 {p : Program} {l : Launch} {e : Env} {s : State} {m : MethodId} {args : Array Value} {below : List Frame} {meth : Method} {c : Code} {Q : State → Prop} {D : va_G} {κ : Nat → ClassId} {A : Nat → Prop} {H0 : Heap} (t : Nat → Nat) (mk : Nat) (ad : Nat → Nat → Nat) (t_polygon : Nat) (t_bits : Int) (t_mendedNumber : Int) (flips_wayLength : Int) (flips_way : Nat) (hx : p.tables.exec = Jvm.exec) (hb : c.code = cX10_farthest) (hml : c.maxLocals = 3) (hown : s.vm.findClass RX10 = some m.cls) (hts : ∀ w ∈ wsX10_farthest, w.before args s = true) (hK : va_K D vwCl (zTY κ) s) (hA : ∀ q : Nat, H0.size ≤ q → A q) (hB : zAmb D κ mk ad H0) (hBA : zApt mk ad A H0.size) (i1 : Int) (flips_queued : Int) (flips_steps : Nat) (flips_queue : Nat) (hg : Go (GoE (zA_X10_farthest p l e s m args below meth c Q D κ A H0 t mk ad t_polygon t_bits t_mendedNumber flips_wayLength flips_way) (zQ_X10_farthest p l e s m args below meth c Q D κ A H0 t mk ad t_polygon t_bits t_mendedNumber flips_wayLength flips_way)) (zg_X10_farthest_11 mk t_polygon t_bits i1 flips_queued flips_steps flips_queue)) : zA_X10_farthest_11 p l e s m args below meth c Q D κ A H0 t mk ad t_polygon t_bits t_mendedNumber flips_wayLength flips_way i1 flips_queued flips_steps flips_queue := by
  intro H locs ls hP hD hS hl
  unfold zg_X10_farthest_11 at hg
  refine lv_aload_n hx hb dX10_farthest_11 rfl (lv_at hl 0 rfl) ?_
  refine va_get (D := D) (ci := 10) (v := .ref (t 11)) (C := RX10) (T := TX10) (N := 13) hx hb hts zi_X10_farthest_X10 hown hK hP 0 rfl rfl 5 (by decide) (hts (.fieldLink RX10 47 "DiamondRows" "flips" "LDiamondRows$Flips;") zl_X10_farthest_47) (fun _ h9 => h9) rfl dX10_farthest_12 ?_
  refine lv_aload_n hx hb dX10_farthest_15 rfl (lv_at hl 0 rfl) ?_
  obtain ⟨m4, hg⟩ := Go_n hg
  refine va_get (D := D) (ci := 10) (v := .ref (ad t_polygon 0)) (C := RX10) (T := TX10) (N := 13) hx hb hts zi_X10_farthest_X10 hown hK hP 0 rfl rfl 10 (by decide) (hts (.fieldLink RX10 84 "DiamondRows" "polygon" "LDiamondRows$Polygon;") zl_X10_farthest_84) (fun _ h9 => h9) (zpg_ok m4) dX10_farthest_16 ?_
  refine lv_aload_n hx hb dX10_farthest_19 rfl (lv_at hl 0 rfl) ?_
  refine va_get (D := D) (ci := 10) (v := .ref (ad t_polygon 0)) (C := RX10) (T := TX10) (N := 13) hx hb hts zi_X10_farthest_X10 hown hK hP 0 rfl rfl 10 (by decide) (hts (.fieldLink RX10 84 "DiamondRows" "polygon" "LDiamondRows$Polygon;") zl_X10_farthest_84) (fun _ h9 => h9) (zpg_ok m4) dX10_farthest_20 ?_
  refine lv_aload_n hx hb dX10_farthest_23 rfl (lv_at hl 0 rfl) ?_
  refine va_get (D := D) (ci := 10) (v := .int (zi t_bits)) (C := RX10) (T := TX10) (N := 13) hx hb hts zi_X10_farthest_X10 hown hK hP 0 rfl rfl 11 (by decide) (hts (.fieldLink RX10 94 "DiamondRows" "bits" "I") zl_X10_farthest_94) (fun _ h9 => h9) rfl dX10_farthest_24 ?_
  obtain ⟨o5, ho5, hg⟩ := Go_b hg
  refine zc_vi (rest := [.ref (ad t_polygon 0), .ref (t 11)]) ⟨hx, hb, hml, hown, hts⟩ (zc_X5_numberOf l D κ (ad t_polygon) t_polygon t_bits o5 ho5) (cwV 1 hts gX10_farthest_X5_numberOf rfl rfl rfl hv_X5_numberOf ⟨Nat.le_of_ble_eq_true rfl, Nat.le_of_ble_eq_true rfl⟩) (zpreV hK ((zamb hB hBA hS) t_polygon m4) 5 0 rfl rfl) rfl hl.1 rfl (Nat.le_of_ble_eq_true rfl) dX10_farthest_27 ⟨Nat.zero_le _, Nat.zero_le _⟩ ?_
  obtain ⟨o6, ho6, hg⟩ := Go_b hg
  refine zj_v (wr := [((t 0), .inr (10, [.ref (t 1), .ref (t 3), .ref (t 5), .ref (t 6), .ref (t 9), .ref (t 11), .ref (t 15), .ref (t 17), .ref (t 27), .ref (t 30), zpg ad t_polygon, .int (zi t_bits), .int (zi t_mendedNumber)]))]) (ws1 := [((t 0), .inr (10, [.ref (t 1), .ref (t 3), .ref (t 5), .ref (t 6), .ref (t 9), .ref (t 11), .ref (t 15), .ref (t 17), .ref (t 27), .ref (t 30), zpg ad t_polygon, .int (zi t_bits), .int (zi t_mendedNumber)])), ((t 11), .inr (4, [.ref (t 12), .ref (t 13), .ref (t 14), .int (zi flips_wayLength), .int (zi (o6.1))])), ((t 12), .inl (κ 1, 429, .inl (zc (o6.2.1)))), ((t 13), .inl (κ 1, 429, .inl (zc (o6.2.2)))), ((t 14), .inl (κ 1, 429, .inl (zc flips_way)))]) (va_runV (rest := []) ⟨hx, hb, hml, hown, hts⟩ (zc_X4_measure l D κ (fun i => t (i + 11)) mk ad H.size flips_wayLength flips_queued flips_steps flips_queue flips_way t_polygon o5 o6 ho6) (cwV 2 hts gX10_farthest_X4_measure rfl rfl rfl hv_X4_measure ⟨Nat.le_of_ble_eq_true rfl, Nat.le_of_ble_eq_true rfl⟩) (zpreWVa hK (hP.sub [1, 2, 3, 4] rfl) (hD.sub [1, 2, 3, 4] (by decide) rfl) (zamb hB hBA hS) (zapt hBA hS (va_free hD hS hA [1, 2, 3, 4] rfl)) 4 0 rfl rfl) rfl rfl hl.1 rfl (lv_room (Nat.le_of_ble_eq_true rfl)) dX10_farthest_30 ⟨Nat.zero_le _, Nat.zero_le _⟩) hP hD hS hA [1, 2, 3, 4] [0] [0, 1, 2, 3, 4] rfl rfl (by decide) (by decide) rfl rfl (by decide) (fun H locs hP hD hS => ?_)
  refine lv_aload_n hx hb dX10_farthest_33 rfl (lv_at hl 0 rfl) ?_
  refine va_get (D := D) (ci := 10) (v := .ref (t 11)) (C := RX10) (T := TX10) (N := 13) hx hb hts zi_X10_farthest_X10 hown hK hP 0 rfl rfl 5 (by decide) (hts (.fieldLink RX10 47 "DiamondRows" "flips" "LDiamondRows$Flips;") zl_X10_farthest_47) (fun _ h9 => h9) rfl dX10_farthest_34 ?_
  refine lv_aload_n hx hb dX10_farthest_37 rfl (lv_at hl 0 rfl) ?_
  refine va_get (D := D) (ci := 10) (v := .ref (ad t_polygon 0)) (C := RX10) (T := TX10) (N := 13) hx hb hts zi_X10_farthest_X10 hown hK hP 0 rfl rfl 10 (by decide) (hts (.fieldLink RX10 84 "DiamondRows" "polygon" "LDiamondRows$Polygon;") zl_X10_farthest_84) (fun _ h9 => h9) (zpg_ok m4) dX10_farthest_38 ?_
  obtain ⟨o7, ho7, hg⟩ := Go_b hg
  refine zc_vi (rest := []) ⟨hx, hb, hml, hown, hts⟩ (zc_X4_mostSteps l D κ (fun i => t (i + 11)) mk ad flips_wayLength (o6.1) (o6.2.1) (o6.2.2) flips_way t_polygon o7 ho7) (cwV 1 hts gX10_farthest_X4_mostSteps rfl rfl rfl hv_X4_mostSteps ⟨Nat.le_of_ble_eq_true rfl, Nat.le_of_ble_eq_true rfl⟩) (zpreVa hK (hP.sub [1, 2, 3, 4] rfl) (zamb hB hBA hS) 4 0 rfl rfl) rfl hl.1 rfl (Nat.le_of_ble_eq_true rfl) dX10_farthest_41 ⟨Nat.zero_le _, Nat.zero_le _⟩ ?_
  refine lv_istore_n (lv' := [(2, .int (zi o7)), (0, .ref (t 0)), (1, .int (zi i1))]) hx hb dX10_farthest_44 rfl hl (by decide) rfl (fun ls hl => ?_)
  refine lv_iload_n hx hb dX10_farthest_45 rfl (lv_at hl 2 rfl) ?_
  obtain ⟨b8, hg⟩ := Go_n hg
  refine zv_if_ne (tgt := 53) hx hb dX10_farthest_46 (by decide) b8 (fun c10 => ?_) (fun c10 => ?_)
  · have hg := Go_f c10 hg
    refine lv_aload_n hx hb dX10_farthest_53 rfl (lv_at hl 1 rfl) ?_
    refine va_get (D := D) (ci := 10) (v := .ref (t 11)) (C := RX10) (T := TX10) (N := 13) hx hb hts zi_X10_farthest_X10 hown hK hP 0 rfl rfl 5 (by decide) (hts (.fieldLink RX10 47 "DiamondRows" "flips" "LDiamondRows$Flips;") zl_X10_farthest_47) (fun _ h9 => h9) rfl dX10_farthest_54 ?_
    refine lv_aload_n hx hb dX10_farthest_57 rfl (lv_at hl 1 rfl) ?_
    refine va_get (D := D) (ci := 10) (v := .ref (ad t_polygon 0)) (C := RX10) (T := TX10) (N := 13) hx hb hts zi_X10_farthest_X10 hown hK hP 0 rfl rfl 10 (by decide) (hts (.fieldLink RX10 84 "DiamondRows" "polygon" "LDiamondRows$Polygon;") zl_X10_farthest_84) (fun _ h9 => h9) (zpg_ok m4) dX10_farthest_58 ?_
    refine lv_iload_n hx hb dX10_farthest_61 rfl (lv_at hl 0 rfl) ?_
    obtain ⟨o9, ho9, hg⟩ := Go_b hg
    refine zc_vi (rest := []) ⟨hx, hb, hml, hown, hts⟩ (zc_X4_howManyAt l D κ (fun i => t (i + 11)) mk ad flips_wayLength (o6.1) (o6.2.1) (o6.2.2) flips_way t_polygon o7 o9 ho9) (cwV 2 hts gX10_farthest_X4_howManyAt rfl rfl rfl hv_X4_howManyAt ⟨Nat.le_of_ble_eq_true rfl, Nat.le_of_ble_eq_true rfl⟩) (zpreVa hK (hP.sub [1, 2, 3, 4] rfl) (zamb hB hBA hS) 4 0 rfl rfl) rfl hl.1 rfl (Nat.le_of_ble_eq_true rfl) dX10_farthest_62 ⟨Nat.zero_le _, Nat.zero_le _⟩ ?_
    exact (Go_s hg) _ _ _ _ hP hD hS dX10_farthest_65
  · have hg := Go_t c10 hg
    refine lv_iload_n hx hb dX10_farthest_49 rfl (lv_at hl 0 rfl) ?_
    refine lv_goto (tgt := 65) hx hb dX10_farthest_50 (by decide) ?_
    exact (Go_s hg) _ _ _ _ hP hD hS dX10_farthest_65
set_option maxHeartbeats 4000000 in
set_option maxRecDepth 100000 in
theorem zw_X10_farthest {p : Program} {l : Launch} {e : Env} {s : State} {m : MethodId} {args : Array Value} {below : List Frame} {meth : Method} {c : Code} {Q : State → Prop} {D : va_G} {κ : Nat → ClassId} {A : Nat → Prop} {H0 : Heap} (t : Nat → Nat) (mk : Nat) (ad : Nat → Nat → Nat) (t_polygon : Nat) (t_bits : Int) (t_mendedNumber : Int) (flips_wayLength : Int) (flips_way : Nat) (flips_queued : Int) (flips_steps : Nat) (flips_queue : Nat) (i1 : Int) (hx : p.tables.exec = Jvm.exec) (hb : c.code = cX10_farthest) (hml : c.maxLocals = 3) (hown : s.vm.findClass RX10 = some m.cls) (hts : ∀ w ∈ wsX10_farthest, w.before args s = true) (hK : va_K D vwCl (zTY κ) s) (hA : ∀ q : Nat, H0.size ≤ q → A q) (hB : zAmb D κ mk ad H0) (hBA : zApt mk ad A H0.size) (out : Int × Int × Nat × Nat) (h : zf_X10_farthest mk t_polygon t_bits flips_queued flips_steps flips_queue i1 = some out) (hq : zQ_X10_farthest p l e s m args below meth c Q D κ A H0 t mk ad t_polygon t_bits t_mendedNumber flips_wayLength flips_way out) : zA_X10_farthest_0 p l e s m args below meth c Q D κ A H0 t mk ad t_polygon t_bits t_mendedNumber flips_wayLength flips_way i1 flips_queued flips_steps flips_queue := by
  have hst : ∀ st : zS_X10_farthest, Go (GoE (zA_X10_farthest p l e s m args below meth c Q D κ A H0 t mk ad t_polygon t_bits t_mendedNumber flips_wayLength flips_way) (zQ_X10_farthest p l e s m args below meth c Q D κ A H0 t mk ad t_polygon t_bits t_mendedNumber flips_wayLength flips_way)) (zg_X10_farthest mk t_polygon t_bits st) → zA_X10_farthest p l e s m args below meth c Q D κ A H0 t mk ad t_polygon t_bits t_mendedNumber flips_wayLength flips_way st := by
    intro st hg
    obtain ⟨lab, i1, flips_queued, flips_steps, flips_queue⟩ := st
    by_cases h0 : lab = 0
    · subst h0
      exact zs_X10_farthest_0 t mk ad t_polygon t_bits t_mendedNumber flips_wayLength flips_way hx hb hml hown hts hK hA hB hBA i1 flips_queued flips_steps flips_queue hg
    by_cases h11 : lab = 11
    · subst h11
      exact zs_X10_farthest_11 t mk ad t_polygon t_bits t_mendedNumber flips_wayLength flips_way hx hb hml hown hts hK hA hB hBA i1 flips_queued flips_steps flips_queue hg
    have hz : zg_X10_farthest mk t_polygon t_bits (lab, i1, flips_queued, flips_steps, flips_queue) = none := by simp [zg_X10_farthest, h0, h11]
    rw [hz] at hg
    obtain ⟨a, h1, -⟩ := hg
    cases h1
  exact jwalk (At := zA_X10_farthest p l e s m args below meth c Q D κ A H0 t mk ad t_polygon t_bits t_mendedNumber flips_wayLength flips_way) (Ret := zQ_X10_farthest p l e s m args below meth c Q D κ A H0 t mk ad t_polygon t_bits t_mendedNumber flips_wayLength flips_way) hst _ _ _ h hq
set_option maxHeartbeats 4000000 in
set_option maxRecDepth 100000 in
theorem zc_X10_farthest (l : Launch) (D : va_G) (κ : Nat → ClassId) (t : Nat → Nat) (mk : Nat) (ad : Nat → Nat → Nat) (sz : Nat) (t_polygon : Nat) (t_bits : Int) (t_mendedNumber : Int) (flips_wayLength : Int) (flips_queued : Int) (flips_steps : Nat) (flips_queue : Nat) (flips_way : Nat) (i1 : Int) (out : Int × Int × Nat × Nat) (h : zf_X10_farthest mk t_polygon t_bits flips_queued flips_steps flips_queue i1 = some out) : Met l yX10_farthest wsX10_farthest zr_X10_farthest (va_Pc [.ref (t 0), .int (zi i1)] (zWa D κ mk ad ([((t 0), .inr (10, [.ref (t 1), .ref (t 3), .ref (t 5), .ref (t 6), .ref (t 9), .ref (t 11), .ref (t 15), .ref (t 17), .ref (t 27), .ref (t 30), zpg ad t_polygon, .int (zi t_bits), .int (zi t_mendedNumber)])), ((t 11), .inr (4, [.ref (t 12), .ref (t 13), .ref (t 14), .int (zi flips_wayLength), .int (zi flips_queued)])), ((t 12), .inl (κ 1, 429, .inl (zc flips_steps))), ((t 13), .inl (κ 1, 429, .inl (zc flips_queue))), ((t 14), .inl (κ 1, 429, .inl (zc flips_way)))]) sz)) (va_Qi (fun r (_ : Unit) => r = zi (out.1)) (fun _ => zB D κ (va_A ([((t 0), .inr (10, [.ref (t 1), .ref (t 3), .ref (t 5), .ref (t 6), .ref (t 9), .ref (t 11), .ref (t 15), .ref (t 17), .ref (t 27), .ref (t 30), zpg ad t_polygon, .int (zi t_bits), .int (zi t_mendedNumber)])), ((t 11), .inr (4, [.ref (t 12), .ref (t 13), .ref (t 14), .int (zi flips_wayLength), .int (zi flips_queued)])), ((t 12), .inl (κ 1, 429, .inl (zc flips_steps))), ((t 13), .inl (κ 1, 429, .inl (zc flips_queue))), ((t 14), .inl (κ 1, 429, .inl (zc flips_way)))]) sz) ([((t 0), .inr (10, [.ref (t 1), .ref (t 3), .ref (t 5), .ref (t 6), .ref (t 9), .ref (t 11), .ref (t 15), .ref (t 17), .ref (t 27), .ref (t 30), zpg ad t_polygon, .int (zi t_bits), .int (zi t_mendedNumber)])), ((t 11), .inr (4, [.ref (t 12), .ref (t 13), .ref (t 14), .int (zi flips_wayLength), .int (zi (out.2.1))])), ((t 12), .inl (κ 1, 429, .inl (zc (out.2.2.1)))), ((t 13), .inl (κ 1, 429, .inl (zc (out.2.2.2)))), ((t 14), .inl (κ 1, 429, .inl (zc flips_way)))])) (va_A ([((t 0), .inr (10, [.ref (t 1), .ref (t 3), .ref (t 5), .ref (t 6), .ref (t 9), .ref (t 11), .ref (t 15), .ref (t 17), .ref (t 27), .ref (t 30), zpg ad t_polygon, .int (zi t_bits), .int (zi t_mendedNumber)])), ((t 11), .inr (4, [.ref (t 12), .ref (t 13), .ref (t 14), .int (zi flips_wayLength), .int (zi flips_queued)])), ((t 12), .inl (κ 1, 429, .inl (zc flips_steps))), ((t 13), .inl (κ 1, 429, .inl (zc flips_queue))), ((t 14), .inl (κ 1, 429, .inl (zc flips_way)))]) sz)) 0 0 (va_A ([((t 0), .inr (10, [.ref (t 1), .ref (t 3), .ref (t 5), .ref (t 6), .ref (t 9), .ref (t 11), .ref (t 15), .ref (t 17), .ref (t 27), .ref (t 30), zpg ad t_polygon, .int (zi t_bits), .int (zi t_mendedNumber)])), ((t 11), .inr (4, [.ref (t 12), .ref (t 13), .ref (t 14), .int (zi flips_wayLength), .int (zi flips_queued)])), ((t 12), .inl (κ 1, 429, .inl (zc flips_steps))), ((t 13), .inl (κ 1, 429, .inl (zc flips_queue))), ((t 14), .inl (κ 1, 429, .inl (zc flips_way)))]) sz) := by
  refine Met.ofW (cc := cX10_farthest) (maxL := 3) (ret := (some .int)) (by decide +kernel) rfl ?_
  intro p e s m args below meth c s₁ B hml hv
  obtain ⟨rfl, hsz, hP, hK, hD0, hB, hBA⟩ := hv
  have hx := B.exec
  have hb := B.bytes
  have hr := B.returns
  have hts := atoms_spec (ws := wsX10_farthest) B.pre
  have hown : s.vm.findClass RX10 = some m.cls := findClass_of_methodNamed B.named
  have hlocks := B.notSynchronized
  subst hsz
  have hD := hD0.self (sz := s.heap.size)
  generalize hAe : va_A ([((t 0), .inr (10, [.ref (t 1), .ref (t 3), .ref (t 5), .ref (t 6), .ref (t 9), .ref (t 11), .ref (t 15), .ref (t 17), .ref (t 27), .ref (t 30), zpg ad t_polygon, .int (zi t_bits), .int (zi t_mendedNumber)])), ((t 11), .inr (4, [.ref (t 12), .ref (t 13), .ref (t 14), .int (zi flips_wayLength), .int (zi flips_queued)])), ((t 12), .inl (κ 1, 429, .inl (zc flips_steps))), ((t 13), .inl (κ 1, 429, .inl (zc flips_queue))), ((t 14), .inl (κ 1, 429, .inl (zc flips_way)))]) s.heap.size = A at hD hBA ⊢
  have hA : ∀ q : Nat, s.heap.size ≤ q → A q := fun q h => by rw [← hAe]; exact Or.inr h
  have hS : va_S A s.heap s.heap [] := va_S.rf
  have hl := lv_entry ([.ref (t 0), .int (zi i1)]) (n := 3) (Nat.le_of_ble_eq_true rfl)
  rw [lg_entry_eq]
  generalize (lg_sl ([.ref (t 0), .int (zi i1)]) ++ List.replicate (3 - (lg_sl ([.ref (t 0), .int (zi i1)])).length) Slot.unset).toArray = ls at hl ⊢
  have hl : lv_has ls 3 [(0, .ref (t 0)), (1, .int (zi i1))] := hl
  refine (zw_X10_farthest t mk ad t_polygon t_bits t_mendedNumber flips_wayLength flips_way flips_queued flips_steps flips_queue i1 hx hb hml hown hts hK hA hB hBA out h ?_) s.heap [] ls hP hD hS (lv_sub hl [0, 1] rfl)
  exact fun H locs ls pc hP hD hS hd => W.iret hx hb hr (fun t ht hW => ⟨⟨_, (), rfl, rfl, by rw [ht]; exact hP, va_K.moved hW.alike hK, hD⟩, hS.F ht⟩) hS.2.2 hd
/-! DiamondRows.least(Z)I -/
abbrev zr_X10_least : Room := { frames := 5, cells := 0, slots := 0, locals := 116 }
noncomputable def zf_X10_least (mk : Nat) (t_polygon : Nat) (t_bits : Int) (i1 : Bool) : Option (Int) :=
  if zno mk t_polygon then none else
  Option.bind (zf_X5_leastAlike t_polygon t_bits i1) (fun o2 =>
  Option.bind (zf_X5_numberOf t_polygon o2) (fun o3 =>
  some (o3)))
theorem zi_X10_least_X10 : ∀ w ∈ u_ws RX10 TX10 13, w ∈ wsX10_least := fun w h => (List.mem_cons_of_mem _ (List.mem_append_right _ (List.mem_append_left _ h)))
theorem zl_X10_least_84 : Cond.fieldLink RX10 84 "DiamondRows" "polygon" "LDiamondRows$Polygon;" ∈ wsX10_least := (List.mem_cons_of_mem _ (List.mem_append_left _ (List.mem_of_getElem? (i := 0) rfl)))
theorem zl_X10_least_94 : Cond.fieldLink RX10 94 "DiamondRows" "bits" "I" ∈ wsX10_least := (List.mem_cons_of_mem _ (List.mem_append_left _ (List.mem_of_getElem? (i := 1) rfl)))
def zQ_X10_least (p : Program) (l : Launch) (e : Env) (s : State) (m : MethodId) (args : Array Value) (below : List Frame) (meth : Method) (c : Code) (Q : State → Prop) (H : Heap) (locs : List Loc)  (o : Int) : Prop := ∀ (ls : Array Slot) (pc : Nat), decode cX10_least pc = .ok (.ireturn, 1) → W p l e zr_X10_least s m args below meth c H locs 0 0 Q (F0 m pc ls [.int (zi o)])
set_option maxHeartbeats 4000000 in
set_option maxRecDepth 100000 in
theorem zs_X10_least {p : Program} {l : Launch} {e : Env} {s : State} {m : MethodId} {args : Array Value} {below : List Frame} {meth : Method} {c : Code} {Q : State → Prop} {D : va_G} {κ : Nat → ClassId} {H : Heap} {locs : List Loc} (t : Nat → Nat) (mk : Nat) (ad : Nat → Nat → Nat) (t_polygon : Nat) (t_bits : Int) (t_mendedNumber : Int) (i1 : Bool) (hx : p.tables.exec = Jvm.exec) (hb : c.code = cX10_least) (hml : c.maxLocals = 2) (hown : s.vm.findClass RX10 = some m.cls) (hts : ∀ w ∈ wsX10_least, w.before args s = true) (hK : va_K D vwCl (zTY κ) s) (hP : va_P D vwCl ([((t 0), .inr (10, [.ref (t 1), .ref (t 3), .ref (t 5), .ref (t 6), .ref (t 9), .ref (t 11), .ref (t 15), .ref (t 17), .ref (t 27), .ref (t 30), zpg ad t_polygon, .int (zi t_bits), .int (zi t_mendedNumber)]))]) H) (hB : zAmb D κ mk ad H) (ls : Array Slot) (hl : lv_has ls 2 [(0, .ref (t 0)), (1, .int (zi (bI i1)))]) (hg : Go (zQ_X10_least p l e s m args below meth c Q H locs) (zf_X10_least mk t_polygon t_bits i1)) : W p l e zr_X10_least s m args below meth c H locs 0 0 Q (F0 m 0 ls []) := by
  unfold zf_X10_least at hg
  refine lv_aload_n hx hb dX10_least_0 rfl (lv_at hl 0 rfl) ?_
  obtain ⟨m1, hg⟩ := Go_n hg
  refine va_get (D := D) (ci := 10) (v := .ref (ad t_polygon 0)) (C := RX10) (T := TX10) (N := 13) hx hb hts zi_X10_least_X10 hown hK hP 0 rfl rfl 10 (by decide) (hts (.fieldLink RX10 84 "DiamondRows" "polygon" "LDiamondRows$Polygon;") zl_X10_least_84) (fun _ h9 => h9) (zpg_ok m1) dX10_least_1 ?_
  refine lv_aload_n hx hb dX10_least_4 rfl (lv_at hl 0 rfl) ?_
  refine va_get (D := D) (ci := 10) (v := .ref (ad t_polygon 0)) (C := RX10) (T := TX10) (N := 13) hx hb hts zi_X10_least_X10 hown hK hP 0 rfl rfl 10 (by decide) (hts (.fieldLink RX10 84 "DiamondRows" "polygon" "LDiamondRows$Polygon;") zl_X10_least_84) (fun _ h9 => h9) (zpg_ok m1) dX10_least_5 ?_
  refine lv_aload_n hx hb dX10_least_8 rfl (lv_at hl 0 rfl) ?_
  refine va_get (D := D) (ci := 10) (v := .int (zi t_bits)) (C := RX10) (T := TX10) (N := 13) hx hb hts zi_X10_least_X10 hown hK hP 0 rfl rfl 11 (by decide) (hts (.fieldLink RX10 94 "DiamondRows" "bits" "I") zl_X10_least_94) (fun _ h9 => h9) rfl dX10_least_9 ?_
  refine lv_iload_n hx hb dX10_least_12 rfl (lv_at hl 1 rfl) ?_
  obtain ⟨o2, ho2, hg⟩ := Go_b hg
  refine zc_vi (rest := [.ref (ad t_polygon 0)]) ⟨hx, hb, hml, hown, hts⟩ (zc_X5_leastAlike l D κ (ad t_polygon) t_polygon t_bits i1 o2 ho2) (cwV 2 hts gX10_least_X5_leastAlike rfl rfl rfl hv_X5_leastAlike ⟨Nat.le_of_ble_eq_true rfl, Nat.le_of_ble_eq_true rfl⟩) (zpreV hK (hB t_polygon m1) 5 0 rfl rfl) rfl hl.1 rfl (Nat.le_of_ble_eq_true rfl) dX10_least_13 ⟨Nat.zero_le _, Nat.zero_le _⟩ ?_
  obtain ⟨o3, ho3, hg⟩ := Go_b hg
  refine zc_vi (rest := []) ⟨hx, hb, hml, hown, hts⟩ (zc_X5_numberOf l D κ (ad t_polygon) t_polygon o2 o3 ho3) (cwV 1 hts gX10_least_X5_numberOf rfl rfl rfl hv_X5_numberOf ⟨Nat.le_of_ble_eq_true rfl, Nat.le_of_ble_eq_true rfl⟩) (zpreV hK (hB t_polygon m1) 5 0 rfl rfl) rfl hl.1 rfl (Nat.le_of_ble_eq_true rfl) dX10_least_16 ⟨Nat.zero_le _, Nat.zero_le _⟩ ?_
  exact (Go_s hg) _ _ dX10_least_19
set_option maxHeartbeats 4000000 in
set_option maxRecDepth 100000 in
theorem zc_X10_least (l : Launch) (D : va_G) (κ : Nat → ClassId) (t : Nat → Nat) (mk : Nat) (ad : Nat → Nat → Nat) (t_polygon : Nat) (t_bits : Int) (t_mendedNumber : Int) (i1 : Bool) (out : Int) (h : zf_X10_least mk t_polygon t_bits i1 = some out) : Met l yX10_least wsX10_least zr_X10_least (va_Pc [.ref (t 0), .int (zi (bI i1))] (zRa D κ mk ad ([((t 0), .inr (10, [.ref (t 1), .ref (t 3), .ref (t 5), .ref (t 6), .ref (t 9), .ref (t 11), .ref (t 15), .ref (t 17), .ref (t 27), .ref (t 30), zpg ad t_polygon, .int (zi t_bits), .int (zi t_mendedNumber)]))]))) (vp_Si (fun x => x = zi out)) 0 0 (fun _ => False) := by
  refine Met.ofW (cc := cX10_least) (maxL := 2) (ret := (some .int)) (by decide +kernel) rfl ?_
  intro p e s m args below meth c s₁ B hml hv
  obtain ⟨rfl, hP, hK, hB⟩ := hv
  have hx := B.exec
  have hb := B.bytes
  have hr := B.returns
  have hts := atoms_spec (ws := wsX10_least) B.pre
  have hown : s.vm.findClass RX10 = some m.cls := findClass_of_methodNamed B.named
  have hlocks := B.notSynchronized
  have hl := lv_entry ([.ref (t 0), .int (zi (bI i1))]) (n := 2) (Nat.le_of_ble_eq_true rfl)
  rw [lg_entry_eq]
  generalize (lg_sl ([.ref (t 0), .int (zi (bI i1))]) ++ List.replicate (2 - (lg_sl ([.ref (t 0), .int (zi (bI i1))])).length) Slot.unset).toArray = ls at hl ⊢
  have hl : lv_has ls 2 [(0, .ref (t 0)), (1, .int (zi (bI i1)))] := hl
  refine zs_X10_least t mk ad t_polygon t_bits t_mendedNumber i1 hx hb hml hown hts hK hP hB ls hl ⟨out, h, ?_⟩
  exact fun ls pc hd => W.iret hx hb hr (fun t ht hW => ⟨_, rfl, rfl, ht⟩) (fun _ h => by cases h) hd
/-! DiamondRows.takeRow()Z -/
abbrev zr_X10_takeRow : Room := { frames := 4, cells := 0, slots := 0, locals := 82 }
noncomputable def zf_X10_takeRow (mk : Nat) (t_polygon : Nat) (tape_length : Int) (tape_next : Int) (tape_kind : Int) (tape_place : Int) (tape_value : Int) (tape_bytes : Nat) (t_toldRow : Nat)  : Option (Bool × Int × Int × Int × Int × Int × Nat) :=
  Option.bind (zf_X8_readNumbers tape_length tape_next tape_kind tape_place tape_value tape_bytes t_toldRow) (fun o1 =>
  Option.bind (zf_X8_shorten tape_length (0 : Int)) (fun o2 =>
  if zno mk t_polygon then none else
  Option.bind (zf_X5_corners t_polygon) (fun o4 =>
  if zout (o1.1) then none else
  if zout o4 then none else
  if (o1.1) = o4 then
  some (true, o2, (o1.2.1), (o1.2.2.1), (o1.2.2.2.1), (o1.2.2.2.2.1), (o1.2.2.2.2.2))
  else
  some (false, o2, (o1.2.1), (o1.2.2.1), (o1.2.2.2.1), (o1.2.2.2.2.1), (o1.2.2.2.2.2)))))
theorem zi_X10_takeRow_X10 : ∀ w ∈ u_ws RX10 TX10 13, w ∈ wsX10_takeRow := fun w h => (List.mem_cons_of_mem _ (List.mem_append_right _ (List.mem_append_left _ h)))
theorem zl_X10_takeRow_10 : Cond.fieldLink RX10 10 "DiamondRows" "tape" "LDiamondRows$Tape;" ∈ wsX10_takeRow := (List.mem_cons_of_mem _ (List.mem_append_left _ (List.mem_of_getElem? (i := 0) rfl)))
theorem zl_X10_takeRow_72 : Cond.fieldLink RX10 72 "DiamondRows" "toldRow" "[I" ∈ wsX10_takeRow := (List.mem_cons_of_mem _ (List.mem_append_left _ (List.mem_of_getElem? (i := 1) rfl)))
theorem zl_X10_takeRow_84 : Cond.fieldLink RX10 84 "DiamondRows" "polygon" "LDiamondRows$Polygon;" ∈ wsX10_takeRow := (List.mem_cons_of_mem _ (List.mem_append_left _ (List.mem_of_getElem? (i := 2) rfl)))
def zQ_X10_takeRow (p : Program) (l : Launch) (e : Env) (s : State) (m : MethodId) (args : Array Value) (below : List Frame) (meth : Method) (c : Code) (Q : State → Prop) (D : va_G) (κ : Nat → ClassId) (A : Nat → Prop) (H0 : Heap) (t : Nat → Nat) (mk : Nat) (ad : Nat → Nat → Nat) (t_polygon : Nat) (t_bits : Int) (t_mendedNumber : Int) (tape_bytes : Nat) (o : Bool × Int × Int × Int × Int × Int × Nat) : Prop := ∀ (H : Heap) (locs : List Loc) (ls : Array Slot) (pc : Nat), va_P D vwCl ([((t 0), .inr (10, [.ref (t 1), .ref (t 3), .ref (t 5), .ref (t 6), .ref (t 9), .ref (t 11), .ref (t 15), .ref (t 17), .ref (t 27), .ref (t 30), zpg ad t_polygon, .int (zi t_bits), .int (zi t_mendedNumber)])), ((t 1), .inr (8, [.ref (t 2), .int (zi (o.2.1)), .int (zi (o.2.2.1)), .int (zi (o.2.2.2.1)), .int (zi (o.2.2.2.2.1)), .int (zi (o.2.2.2.2.2.1))])), ((t 2), .inl (κ 0, 300, .inl (zc tape_bytes))), ((t 30), .inl (κ 1, 10, .inl (zc (o.2.2.2.2.2.2))))]) H → va_D A ([((t 0), .inr (10, [.ref (t 1), .ref (t 3), .ref (t 5), .ref (t 6), .ref (t 9), .ref (t 11), .ref (t 15), .ref (t 17), .ref (t 27), .ref (t 30), zpg ad t_polygon, .int (zi t_bits), .int (zi t_mendedNumber)])), ((t 1), .inr (8, [.ref (t 2), .int (zi (o.2.1)), .int (zi (o.2.2.1)), .int (zi (o.2.2.2.1)), .int (zi (o.2.2.2.2.1)), .int (zi (o.2.2.2.2.2.1))])), ((t 2), .inl (κ 0, 300, .inl (zc tape_bytes))), ((t 30), .inl (κ 1, 10, .inl (zc (o.2.2.2.2.2.2))))]) → va_S A H0 H locs → decode cX10_takeRow pc = .ok (.ireturn, 1) → W p l e zr_X10_takeRow s m args below meth c H locs 0 0 Q (F0 m pc ls [.int (zi (bI (o.1)))])
set_option maxHeartbeats 4000000 in
set_option maxRecDepth 100000 in
theorem zs_X10_takeRow {p : Program} {l : Launch} {e : Env} {s : State} {m : MethodId} {args : Array Value} {below : List Frame} {meth : Method} {c : Code} {Q : State → Prop} {D : va_G} {κ : Nat → ClassId} {A : Nat → Prop} {H0 : Heap} (t : Nat → Nat) (mk : Nat) (ad : Nat → Nat → Nat) (t_polygon : Nat) (t_bits : Int) (t_mendedNumber : Int) (tape_length : Int) (tape_next : Int) (tape_kind : Int) (tape_place : Int) (tape_value : Int) (tape_bytes : Nat) (t_toldRow : Nat)  (hx : p.tables.exec = Jvm.exec) (hb : c.code = cX10_takeRow) (hml : c.maxLocals = 2) (hown : s.vm.findClass RX10 = some m.cls) (hts : ∀ w ∈ wsX10_takeRow, w.before args s = true) (hK : va_K D vwCl (zTY κ) s) (hA : ∀ q : Nat, H0.size ≤ q → A q) (hB : zAmb D κ mk ad H0) (hBA : zApt mk ad A H0.size) (H : Heap) (locs : List Loc) (ls : Array Slot) (hP : va_P D vwCl ([((t 0), .inr (10, [.ref (t 1), .ref (t 3), .ref (t 5), .ref (t 6), .ref (t 9), .ref (t 11), .ref (t 15), .ref (t 17), .ref (t 27), .ref (t 30), zpg ad t_polygon, .int (zi t_bits), .int (zi t_mendedNumber)])), ((t 1), .inr (8, [.ref (t 2), .int (zi tape_length), .int (zi tape_next), .int (zi tape_kind), .int (zi tape_place), .int (zi tape_value)])), ((t 2), .inl (κ 0, 300, .inl (zc tape_bytes))), ((t 30), .inl (κ 1, 10, .inl (zc t_toldRow)))]) H) (hD : va_D A ([((t 0), .inr (10, [.ref (t 1), .ref (t 3), .ref (t 5), .ref (t 6), .ref (t 9), .ref (t 11), .ref (t 15), .ref (t 17), .ref (t 27), .ref (t 30), zpg ad t_polygon, .int (zi t_bits), .int (zi t_mendedNumber)])), ((t 1), .inr (8, [.ref (t 2), .int (zi tape_length), .int (zi tape_next), .int (zi tape_kind), .int (zi tape_place), .int (zi tape_value)])), ((t 2), .inl (κ 0, 300, .inl (zc tape_bytes))), ((t 30), .inl (κ 1, 10, .inl (zc t_toldRow)))])) (hS : va_S A H0 H locs) (hl : lv_has ls 2 [(0, .ref (t 0))]) (hg : Go (zQ_X10_takeRow p l e s m args below meth c Q D κ A H0 t mk ad t_polygon t_bits t_mendedNumber tape_bytes) (zf_X10_takeRow mk t_polygon tape_length tape_next tape_kind tape_place tape_value tape_bytes t_toldRow )) : W p l e zr_X10_takeRow s m args below meth c H locs 0 0 Q (F0 m 0 ls []) := by
  unfold zf_X10_takeRow at hg
  refine lv_aload_n hx hb dX10_takeRow_0 rfl (lv_at hl 0 rfl) ?_
  refine va_get (D := D) (ci := 10) (v := .ref (t 1)) (C := RX10) (T := TX10) (N := 13) hx hb hts zi_X10_takeRow_X10 hown hK hP 0 rfl rfl 0 (by decide) (hts (.fieldLink RX10 10 "DiamondRows" "tape" "LDiamondRows$Tape;") zl_X10_takeRow_10) (fun _ h9 => h9) rfl dX10_takeRow_1 ?_
  refine lv_aload_n hx hb dX10_takeRow_4 rfl (lv_at hl 0 rfl) ?_
  refine va_get (D := D) (ci := 10) (v := .ref (t 30)) (C := RX10) (T := TX10) (N := 13) hx hb hts zi_X10_takeRow_X10 hown hK hP 0 rfl rfl 9 (by decide) (hts (.fieldLink RX10 72 "DiamondRows" "toldRow" "[I") zl_X10_takeRow_72) (fun _ h9 => h9) rfl dX10_takeRow_5 ?_
  obtain ⟨o1, ho1, hg⟩ := Go_b hg
  refine zj_i (wr := [((t 0), .inr (10, [.ref (t 1), .ref (t 3), .ref (t 5), .ref (t 6), .ref (t 9), .ref (t 11), .ref (t 15), .ref (t 17), .ref (t 27), .ref (t 30), zpg ad t_polygon, .int (zi t_bits), .int (zi t_mendedNumber)]))]) (ws1 := [((t 0), .inr (10, [.ref (t 1), .ref (t 3), .ref (t 5), .ref (t 6), .ref (t 9), .ref (t 11), .ref (t 15), .ref (t 17), .ref (t 27), .ref (t 30), zpg ad t_polygon, .int (zi t_bits), .int (zi t_mendedNumber)])), ((t 1), .inr (8, [.ref (t 2), .int (zi tape_length), .int (zi (o1.2.1)), .int (zi (o1.2.2.1)), .int (zi (o1.2.2.2.1)), .int (zi (o1.2.2.2.2.1))])), ((t 2), .inl (κ 0, 300, .inl (zc tape_bytes))), ((t 30), .inl (κ 1, 10, .inl (zc (o1.2.2.2.2.2))))]) (va_runV (rest := []) ⟨hx, hb, hml, hown, hts⟩ (zc_X8_readNumbers l D κ (fun i => t (i + 1)) (t 30) H.size tape_length tape_next tape_kind tape_place tape_value tape_bytes t_toldRow o1 ho1) (cwV 1 hts gX10_takeRow_X8_readNumbers rfl rfl rfl hv_X8_readNumbers ⟨Nat.le_of_ble_eq_true rfl, Nat.le_of_ble_eq_true rfl⟩) (zpreWV hK (hP.sub [1, 2, 3] rfl) (hD.sub [1, 2, 3] (by decide) rfl) 8 0 rfl rfl) rfl rfl hl.1 rfl (lv_room (Nat.le_of_ble_eq_true rfl)) dX10_takeRow_8 ⟨Nat.zero_le _, Nat.zero_le _⟩) hP hD hS hA [1, 2, 3] [0] [0, 1, 2, 3] rfl rfl (by decide) (by decide) rfl rfl (by decide) (fun H locs hP hD hS => ?_)
  refine lv_istore_n (lv' := [(1, .int (zi (o1.1))), (0, .ref (t 0))]) hx hb dX10_takeRow_11 rfl hl (by decide) rfl (fun ls hl => ?_)
  refine lv_aload_n hx hb dX10_takeRow_12 rfl (lv_at hl 1 rfl) ?_
  refine va_get (D := D) (ci := 10) (v := .ref (t 1)) (C := RX10) (T := TX10) (N := 13) hx hb hts zi_X10_takeRow_X10 hown hK hP 0 rfl rfl 0 (by decide) (hts (.fieldLink RX10 10 "DiamondRows" "tape" "LDiamondRows$Tape;") zl_X10_takeRow_10) (fun _ h9 => h9) rfl dX10_takeRow_13 ?_
  refine zv_iconst hx hb dX10_takeRow_16 ?_
  obtain ⟨o2, ho2, hg⟩ := Go_b hg
  refine zj_v (wr := [((t 0), .inr (10, [.ref (t 1), .ref (t 3), .ref (t 5), .ref (t 6), .ref (t 9), .ref (t 11), .ref (t 15), .ref (t 17), .ref (t 27), .ref (t 30), zpg ad t_polygon, .int (zi t_bits), .int (zi t_mendedNumber)])), ((t 30), .inl (κ 1, 10, .inl (zc (o1.2.2.2.2.2))))]) (ws1 := [((t 0), .inr (10, [.ref (t 1), .ref (t 3), .ref (t 5), .ref (t 6), .ref (t 9), .ref (t 11), .ref (t 15), .ref (t 17), .ref (t 27), .ref (t 30), zpg ad t_polygon, .int (zi t_bits), .int (zi t_mendedNumber)])), ((t 1), .inr (8, [.ref (t 2), .int (zi o2), .int (zi (o1.2.1)), .int (zi (o1.2.2.1)), .int (zi (o1.2.2.2.1)), .int (zi (o1.2.2.2.2.1))])), ((t 2), .inl (κ 0, 300, .inl (zc tape_bytes))), ((t 30), .inl (κ 1, 10, .inl (zc (o1.2.2.2.2.2))))]) (va_runV (rest := []) ⟨hx, hb, hml, hown, hts⟩ (zc_X8_shorten l D κ (fun i => t (i + 1)) H.size tape_length (o1.2.1) (o1.2.2.1) (o1.2.2.2.1) (o1.2.2.2.2.1) tape_bytes (0 : Int) o2 ho2) (cwV 1 hts gX10_takeRow_X8_shorten rfl rfl rfl hv_X8_shorten ⟨Nat.le_of_ble_eq_true rfl, Nat.le_of_ble_eq_true rfl⟩) (zpreWV hK (hP.sub [1, 2] rfl) (hD.sub [1, 2] (by decide) rfl) 8 0 rfl rfl) rfl rfl hl.1 rfl (lv_room (Nat.le_of_ble_eq_true rfl)) dX10_takeRow_17 ⟨Nat.zero_le _, Nat.zero_le _⟩) hP hD hS hA [1, 2] [0, 3] [0, 2, 3, 1] rfl rfl (by decide) (by decide) rfl rfl (by decide) (fun H locs hP hD hS => ?_)
  refine lv_iload_n hx hb dX10_takeRow_20 rfl (lv_at hl 0 rfl) ?_
  refine lv_aload_n hx hb dX10_takeRow_21 rfl (lv_at hl 1 rfl) ?_
  obtain ⟨m3, hg⟩ := Go_n hg
  refine va_get (D := D) (ci := 10) (v := .ref (ad t_polygon 0)) (C := RX10) (T := TX10) (N := 13) hx hb hts zi_X10_takeRow_X10 hown hK hP 0 rfl rfl 10 (by decide) (hts (.fieldLink RX10 84 "DiamondRows" "polygon" "LDiamondRows$Polygon;") zl_X10_takeRow_84) (fun _ h9 => h9) (zpg_ok m3) dX10_takeRow_22 ?_
  obtain ⟨o4, ho4, hg⟩ := Go_b hg
  refine zc_vi (rest := [.int (zi (o1.1))]) ⟨hx, hb, hml, hown, hts⟩ (zc_X5_corners l D κ (ad t_polygon) t_polygon  o4 ho4) (cwV 0 hts gX10_takeRow_X5_corners rfl rfl rfl hv_X5_corners ⟨Nat.le_of_ble_eq_true rfl, Nat.le_of_ble_eq_true rfl⟩) (zpreV hK ((zamb hB hBA hS) t_polygon m3) 5 0 rfl rfl) rfl hl.1 rfl (Nat.le_of_ble_eq_true rfl) dX10_takeRow_25 ⟨Nat.zero_le _, Nat.zero_le _⟩ ?_
  obtain ⟨b5, hg⟩ := Go_n hg
  obtain ⟨b6, hg⟩ := Go_n hg
  refine zv_icmp_ne (tgt := 35) hx hb dX10_takeRow_28 (by decide) b5 b6 (fun c7 => ?_) (fun c7 => ?_)
  · have hg := Go_f c7 hg
    refine zv_iconst hx hb dX10_takeRow_35 ?_
    exact (Go_s hg) _ _ _ _ hP hD hS dX10_takeRow_36
  · have hg := Go_t c7 hg
    refine zv_iconst hx hb dX10_takeRow_31 ?_
    refine lv_goto (tgt := 36) hx hb dX10_takeRow_32 (by decide) ?_
    exact (Go_s hg) _ _ _ _ hP hD hS dX10_takeRow_36
set_option maxHeartbeats 4000000 in
set_option maxRecDepth 100000 in
theorem zc_X10_takeRow (l : Launch) (D : va_G) (κ : Nat → ClassId) (t : Nat → Nat) (mk : Nat) (ad : Nat → Nat → Nat) (sz : Nat) (t_polygon : Nat) (t_bits : Int) (t_mendedNumber : Int) (tape_length : Int) (tape_next : Int) (tape_kind : Int) (tape_place : Int) (tape_value : Int) (tape_bytes : Nat) (t_toldRow : Nat)  (out : Bool × Int × Int × Int × Int × Int × Nat) (h : zf_X10_takeRow mk t_polygon tape_length tape_next tape_kind tape_place tape_value tape_bytes t_toldRow  = some out) : Met l yX10_takeRow wsX10_takeRow zr_X10_takeRow (va_Pc [.ref (t 0)] (zWa D κ mk ad ([((t 0), .inr (10, [.ref (t 1), .ref (t 3), .ref (t 5), .ref (t 6), .ref (t 9), .ref (t 11), .ref (t 15), .ref (t 17), .ref (t 27), .ref (t 30), zpg ad t_polygon, .int (zi t_bits), .int (zi t_mendedNumber)])), ((t 1), .inr (8, [.ref (t 2), .int (zi tape_length), .int (zi tape_next), .int (zi tape_kind), .int (zi tape_place), .int (zi tape_value)])), ((t 2), .inl (κ 0, 300, .inl (zc tape_bytes))), ((t 30), .inl (κ 1, 10, .inl (zc t_toldRow)))]) sz)) (va_Qi (fun r (_ : Unit) => r = zi (bI (out.1))) (fun _ => zB D κ (va_A ([((t 0), .inr (10, [.ref (t 1), .ref (t 3), .ref (t 5), .ref (t 6), .ref (t 9), .ref (t 11), .ref (t 15), .ref (t 17), .ref (t 27), .ref (t 30), zpg ad t_polygon, .int (zi t_bits), .int (zi t_mendedNumber)])), ((t 1), .inr (8, [.ref (t 2), .int (zi tape_length), .int (zi tape_next), .int (zi tape_kind), .int (zi tape_place), .int (zi tape_value)])), ((t 2), .inl (κ 0, 300, .inl (zc tape_bytes))), ((t 30), .inl (κ 1, 10, .inl (zc t_toldRow)))]) sz) ([((t 0), .inr (10, [.ref (t 1), .ref (t 3), .ref (t 5), .ref (t 6), .ref (t 9), .ref (t 11), .ref (t 15), .ref (t 17), .ref (t 27), .ref (t 30), zpg ad t_polygon, .int (zi t_bits), .int (zi t_mendedNumber)])), ((t 1), .inr (8, [.ref (t 2), .int (zi (out.2.1)), .int (zi (out.2.2.1)), .int (zi (out.2.2.2.1)), .int (zi (out.2.2.2.2.1)), .int (zi (out.2.2.2.2.2.1))])), ((t 2), .inl (κ 0, 300, .inl (zc tape_bytes))), ((t 30), .inl (κ 1, 10, .inl (zc (out.2.2.2.2.2.2))))])) (va_A ([((t 0), .inr (10, [.ref (t 1), .ref (t 3), .ref (t 5), .ref (t 6), .ref (t 9), .ref (t 11), .ref (t 15), .ref (t 17), .ref (t 27), .ref (t 30), zpg ad t_polygon, .int (zi t_bits), .int (zi t_mendedNumber)])), ((t 1), .inr (8, [.ref (t 2), .int (zi tape_length), .int (zi tape_next), .int (zi tape_kind), .int (zi tape_place), .int (zi tape_value)])), ((t 2), .inl (κ 0, 300, .inl (zc tape_bytes))), ((t 30), .inl (κ 1, 10, .inl (zc t_toldRow)))]) sz)) 0 0 (va_A ([((t 0), .inr (10, [.ref (t 1), .ref (t 3), .ref (t 5), .ref (t 6), .ref (t 9), .ref (t 11), .ref (t 15), .ref (t 17), .ref (t 27), .ref (t 30), zpg ad t_polygon, .int (zi t_bits), .int (zi t_mendedNumber)])), ((t 1), .inr (8, [.ref (t 2), .int (zi tape_length), .int (zi tape_next), .int (zi tape_kind), .int (zi tape_place), .int (zi tape_value)])), ((t 2), .inl (κ 0, 300, .inl (zc tape_bytes))), ((t 30), .inl (κ 1, 10, .inl (zc t_toldRow)))]) sz) := by
  refine Met.ofW (cc := cX10_takeRow) (maxL := 2) (ret := (some .boolean)) (by decide +kernel) rfl ?_
  intro p e s m args below meth c s₁ B hml hv
  obtain ⟨rfl, hsz, hP, hK, hD0, hB, hBA⟩ := hv
  have hx := B.exec
  have hb := B.bytes
  have hr := B.returns
  have hts := atoms_spec (ws := wsX10_takeRow) B.pre
  have hown : s.vm.findClass RX10 = some m.cls := findClass_of_methodNamed B.named
  have hlocks := B.notSynchronized
  subst hsz
  have hD := hD0.self (sz := s.heap.size)
  generalize hAe : va_A ([((t 0), .inr (10, [.ref (t 1), .ref (t 3), .ref (t 5), .ref (t 6), .ref (t 9), .ref (t 11), .ref (t 15), .ref (t 17), .ref (t 27), .ref (t 30), zpg ad t_polygon, .int (zi t_bits), .int (zi t_mendedNumber)])), ((t 1), .inr (8, [.ref (t 2), .int (zi tape_length), .int (zi tape_next), .int (zi tape_kind), .int (zi tape_place), .int (zi tape_value)])), ((t 2), .inl (κ 0, 300, .inl (zc tape_bytes))), ((t 30), .inl (κ 1, 10, .inl (zc t_toldRow)))]) s.heap.size = A at hD hBA ⊢
  have hA : ∀ q : Nat, s.heap.size ≤ q → A q := fun q h => by rw [← hAe]; exact Or.inr h
  have hS : va_S A s.heap s.heap [] := va_S.rf
  have hl := lv_entry ([.ref (t 0)]) (n := 2) (Nat.le_of_ble_eq_true rfl)
  rw [lg_entry_eq]
  generalize (lg_sl ([.ref (t 0)]) ++ List.replicate (2 - (lg_sl ([.ref (t 0)])).length) Slot.unset).toArray = ls at hl ⊢
  have hl : lv_has ls 2 [(0, .ref (t 0))] := hl
  refine zs_X10_takeRow t mk ad t_polygon t_bits t_mendedNumber tape_length tape_next tape_kind tape_place tape_value tape_bytes t_toldRow  hx hb hml hown hts hK hA hB hBA s.heap [] ls hP hD hS hl ⟨out, h, ?_⟩
  exact fun H locs ls pc hP hD hS hd => W.zret hx hb hr (bI_nar _) (fun t ht hW => ⟨⟨_, (), rfl, rfl, by rw [ht]; exact hP, va_K.moved hW.alike hK, hD⟩, hS.F ht⟩) hS.2.2 hd
/-! DiamondRows.read()I -/
abbrev zr_X10_read : Room := { frames := 5, cells := 0, slots := 0, locals := 103 }
noncomputable def zf_X10_read (mk : Nat) (t_polygon : Nat) (t_bits : Int) (tape_length : Int) (tape_next : Int) (tape_kind : Int) (tape_place : Int) (tape_value : Int) (tape_bytes : Nat) (t_toldRow : Nat)  : Option (Int × Int × Int × Int × Int × Int × Int × Nat) :=
  Option.bind (zf_X10_takeRow mk t_polygon tape_length tape_next tape_kind tape_place tape_value tape_bytes t_toldRow) (fun o1 =>
  if (o1.1) = false then
  some ((-2 : Int), t_bits, (o1.2.1), (o1.2.2.1), (o1.2.2.2.1), (o1.2.2.2.2.1), (o1.2.2.2.2.2.1), (o1.2.2.2.2.2.2))
  else
  if zno mk t_polygon then none else
  Option.bind (zf_X5_nearestTo t_polygon (o1.2.2.2.2.2.2)) (fun o3 =>
  Option.bind (zf_X5_cutAt t_polygon o3) (fun o4 =>
  Option.bind (zf_X5_differenceFrom t_polygon (o1.2.2.2.2.2.2) o4) (fun o5 =>
  if zout o5 then none else
  if o5 = 0 then
  Option.bind (zf_X5_cutAt t_polygon o3) (fun o7 =>
  some (o3, o7, (o1.2.1), (o1.2.2.1), (o1.2.2.2.1), (o1.2.2.2.2.1), (o1.2.2.2.2.2.1), (o1.2.2.2.2.2.2)))
  else
  some ((-1 : Int), t_bits, (o1.2.1), (o1.2.2.1), (o1.2.2.2.1), (o1.2.2.2.2.1), (o1.2.2.2.2.2.1), (o1.2.2.2.2.2.2))))))
theorem zi_X10_read_X10 : ∀ w ∈ u_ws RX10 TX10 13, w ∈ wsX10_read := fun w h => (List.mem_cons_of_mem _ (List.mem_append_right _ (List.mem_append_left _ h)))
theorem zl_X10_read_72 : Cond.fieldLink RX10 72 "DiamondRows" "toldRow" "[I" ∈ wsX10_read := (List.mem_cons_of_mem _ (List.mem_append_left _ (List.mem_of_getElem? (i := 1) rfl)))
theorem zl_X10_read_84 : Cond.fieldLink RX10 84 "DiamondRows" "polygon" "LDiamondRows$Polygon;" ∈ wsX10_read := (List.mem_cons_of_mem _ (List.mem_append_left _ (List.mem_of_getElem? (i := 0) rfl)))
theorem zl_X10_read_94 : Cond.fieldLink RX10 94 "DiamondRows" "bits" "I" ∈ wsX10_read := (List.mem_cons_of_mem _ (List.mem_append_left _ (List.mem_of_getElem? (i := 2) rfl)))
def zQ_X10_read (p : Program) (l : Launch) (e : Env) (s : State) (m : MethodId) (args : Array Value) (below : List Frame) (meth : Method) (c : Code) (Q : State → Prop) (D : va_G) (κ : Nat → ClassId) (A : Nat → Prop) (H0 : Heap) (t : Nat → Nat) (mk : Nat) (ad : Nat → Nat → Nat) (t_polygon : Nat) (t_mendedNumber : Int) (tape_bytes : Nat) (o : Int × Int × Int × Int × Int × Int × Int × Nat) : Prop := ∀ (H : Heap) (locs : List Loc) (ls : Array Slot) (pc : Nat), va_P D vwCl ([((t 0), .inr (10, [.ref (t 1), .ref (t 3), .ref (t 5), .ref (t 6), .ref (t 9), .ref (t 11), .ref (t 15), .ref (t 17), .ref (t 27), .ref (t 30), zpg ad t_polygon, .int (zi (o.2.1)), .int (zi t_mendedNumber)])), ((t 1), .inr (8, [.ref (t 2), .int (zi (o.2.2.1)), .int (zi (o.2.2.2.1)), .int (zi (o.2.2.2.2.1)), .int (zi (o.2.2.2.2.2.1)), .int (zi (o.2.2.2.2.2.2.1))])), ((t 2), .inl (κ 0, 300, .inl (zc tape_bytes))), ((t 30), .inl (κ 1, 10, .inl (zc (o.2.2.2.2.2.2.2))))]) H → va_D A ([((t 0), .inr (10, [.ref (t 1), .ref (t 3), .ref (t 5), .ref (t 6), .ref (t 9), .ref (t 11), .ref (t 15), .ref (t 17), .ref (t 27), .ref (t 30), zpg ad t_polygon, .int (zi (o.2.1)), .int (zi t_mendedNumber)])), ((t 1), .inr (8, [.ref (t 2), .int (zi (o.2.2.1)), .int (zi (o.2.2.2.1)), .int (zi (o.2.2.2.2.1)), .int (zi (o.2.2.2.2.2.1)), .int (zi (o.2.2.2.2.2.2.1))])), ((t 2), .inl (κ 0, 300, .inl (zc tape_bytes))), ((t 30), .inl (κ 1, 10, .inl (zc (o.2.2.2.2.2.2.2))))]) → va_S A H0 H locs → decode cX10_read pc = .ok (.ireturn, 1) → W p l e zr_X10_read s m args below meth c H locs 0 0 Q (F0 m pc ls [.int (zi (o.1))])
set_option maxHeartbeats 4000000 in
set_option maxRecDepth 100000 in
theorem zs_X10_read {p : Program} {l : Launch} {e : Env} {s : State} {m : MethodId} {args : Array Value} {below : List Frame} {meth : Method} {c : Code} {Q : State → Prop} {D : va_G} {κ : Nat → ClassId} {A : Nat → Prop} {H0 : Heap} (t : Nat → Nat) (mk : Nat) (ad : Nat → Nat → Nat) (t_polygon : Nat) (t_bits : Int) (t_mendedNumber : Int) (tape_length : Int) (tape_next : Int) (tape_kind : Int) (tape_place : Int) (tape_value : Int) (tape_bytes : Nat) (t_toldRow : Nat)  (hx : p.tables.exec = Jvm.exec) (hb : c.code = cX10_read) (hml : c.maxLocals = 2) (hown : s.vm.findClass RX10 = some m.cls) (hts : ∀ w ∈ wsX10_read, w.before args s = true) (hK : va_K D vwCl (zTY κ) s) (hA : ∀ q : Nat, H0.size ≤ q → A q) (hB : zAmb D κ mk ad H0) (hBA : zApt mk ad A H0.size) (H : Heap) (locs : List Loc) (ls : Array Slot) (hP : va_P D vwCl ([((t 0), .inr (10, [.ref (t 1), .ref (t 3), .ref (t 5), .ref (t 6), .ref (t 9), .ref (t 11), .ref (t 15), .ref (t 17), .ref (t 27), .ref (t 30), zpg ad t_polygon, .int (zi t_bits), .int (zi t_mendedNumber)])), ((t 1), .inr (8, [.ref (t 2), .int (zi tape_length), .int (zi tape_next), .int (zi tape_kind), .int (zi tape_place), .int (zi tape_value)])), ((t 2), .inl (κ 0, 300, .inl (zc tape_bytes))), ((t 30), .inl (κ 1, 10, .inl (zc t_toldRow)))]) H) (hD : va_D A ([((t 0), .inr (10, [.ref (t 1), .ref (t 3), .ref (t 5), .ref (t 6), .ref (t 9), .ref (t 11), .ref (t 15), .ref (t 17), .ref (t 27), .ref (t 30), zpg ad t_polygon, .int (zi t_bits), .int (zi t_mendedNumber)])), ((t 1), .inr (8, [.ref (t 2), .int (zi tape_length), .int (zi tape_next), .int (zi tape_kind), .int (zi tape_place), .int (zi tape_value)])), ((t 2), .inl (κ 0, 300, .inl (zc tape_bytes))), ((t 30), .inl (κ 1, 10, .inl (zc t_toldRow)))])) (hS : va_S A H0 H locs) (hl : lv_has ls 2 [(0, .ref (t 0))]) (hg : Go (zQ_X10_read p l e s m args below meth c Q D κ A H0 t mk ad t_polygon t_mendedNumber tape_bytes) (zf_X10_read mk t_polygon t_bits tape_length tape_next tape_kind tape_place tape_value tape_bytes t_toldRow )) : W p l e zr_X10_read s m args below meth c H locs 0 0 Q (F0 m 0 ls []) := by
  unfold zf_X10_read at hg
  refine lv_aload_n hx hb dX10_read_0 rfl (lv_at hl 0 rfl) ?_
  obtain ⟨o1, ho1, hg⟩ := Go_b hg
  refine zj_i (wr := []) (ws1 := [((t 0), .inr (10, [.ref (t 1), .ref (t 3), .ref (t 5), .ref (t 6), .ref (t 9), .ref (t 11), .ref (t 15), .ref (t 17), .ref (t 27), .ref (t 30), zpg ad t_polygon, .int (zi t_bits), .int (zi t_mendedNumber)])), ((t 1), .inr (8, [.ref (t 2), .int (zi (o1.2.1)), .int (zi (o1.2.2.1)), .int (zi (o1.2.2.2.1)), .int (zi (o1.2.2.2.2.1)), .int (zi (o1.2.2.2.2.2.1))])), ((t 2), .inl (κ 0, 300, .inl (zc tape_bytes))), ((t 30), .inl (κ 1, 10, .inl (zc (o1.2.2.2.2.2.2))))]) (va_runV (rest := []) ⟨hx, hb, hml, hown, hts⟩ (zc_X10_takeRow l D κ t mk ad H.size t_polygon t_bits t_mendedNumber tape_length tape_next tape_kind tape_place tape_value tape_bytes t_toldRow o1 ho1) (cwV 0 hts gX10_read_X10_takeRow rfl rfl rfl hv_X10_takeRow ⟨Nat.le_of_ble_eq_true rfl, Nat.le_of_ble_eq_true rfl⟩) (zpreWVa hK (hP.sub [0, 1, 2, 3] rfl) (hD.sub [0, 1, 2, 3] (by decide) rfl) (zamb hB hBA hS) (zapt hBA hS (va_free hD hS hA [0, 1, 2, 3] rfl)) 10 0 rfl rfl) rfl rfl hl.1 rfl (lv_room (Nat.le_of_ble_eq_true rfl)) dX10_read_1 ⟨Nat.zero_le _, Nat.zero_le _⟩) hP hD hS hA [0, 1, 2, 3] [] [0, 1, 2, 3] rfl rfl (by decide) (by decide) rfl rfl (by decide) (fun H locs hP hD hS => ?_)
  refine zv_ifb_ne (tgt := 10) hx hb dX10_read_4 (by decide) (fun c9 => ?_) (fun c9 => ?_)
  · have hg := Go_f c9 hg
    refine lv_aload_n hx hb dX10_read_10 rfl (lv_at hl 0 rfl) ?_
    obtain ⟨m2, hg⟩ := Go_n hg
    refine va_get (D := D) (ci := 10) (v := .ref (ad t_polygon 0)) (C := RX10) (T := TX10) (N := 13) hx hb hts zi_X10_read_X10 hown hK hP 0 rfl rfl 10 (by decide) (hts (.fieldLink RX10 84 "DiamondRows" "polygon" "LDiamondRows$Polygon;") zl_X10_read_84) (fun _ h9 => h9) (zpg_ok m2) dX10_read_11 ?_
    refine lv_aload_n hx hb dX10_read_14 rfl (lv_at hl 0 rfl) ?_
    refine va_get (D := D) (ci := 10) (v := .ref (t 30)) (C := RX10) (T := TX10) (N := 13) hx hb hts zi_X10_read_X10 hown hK hP 0 rfl rfl 9 (by decide) (hts (.fieldLink RX10 72 "DiamondRows" "toldRow" "[I") zl_X10_read_72) (fun _ h9 => h9) rfl dX10_read_15 ?_
    obtain ⟨o3, ho3, hg⟩ := Go_b hg
    refine zc_vi (rest := []) ⟨hx, hb, hml, hown, hts⟩ (zc_X5_nearestTo l D κ (ad t_polygon) (t 30) t_polygon (o1.2.2.2.2.2.2) o3 ho3) (cwV 1 hts gX10_read_X5_nearestTo rfl rfl rfl hv_X5_nearestTo ⟨Nat.le_of_ble_eq_true rfl, Nat.le_of_ble_eq_true rfl⟩) (zpreV hK (((zamb hB hBA hS) t_polygon m2).app (hP.sub [3] rfl)) 5 0 rfl rfl) rfl hl.1 rfl (Nat.le_of_ble_eq_true rfl) dX10_read_18 ⟨Nat.zero_le _, Nat.zero_le _⟩ ?_
    refine lv_istore_n (lv' := [(1, .int (zi o3)), (0, .ref (t 0))]) hx hb dX10_read_21 rfl hl (by decide) rfl (fun ls hl => ?_)
    refine lv_aload_n hx hb dX10_read_22 rfl (lv_at hl 1 rfl) ?_
    refine va_get (D := D) (ci := 10) (v := .ref (ad t_polygon 0)) (C := RX10) (T := TX10) (N := 13) hx hb hts zi_X10_read_X10 hown hK hP 0 rfl rfl 10 (by decide) (hts (.fieldLink RX10 84 "DiamondRows" "polygon" "LDiamondRows$Polygon;") zl_X10_read_84) (fun _ h9 => h9) (zpg_ok m2) dX10_read_23 ?_
    refine lv_aload_n hx hb dX10_read_26 rfl (lv_at hl 1 rfl) ?_
    refine va_get (D := D) (ci := 10) (v := .ref (t 30)) (C := RX10) (T := TX10) (N := 13) hx hb hts zi_X10_read_X10 hown hK hP 0 rfl rfl 9 (by decide) (hts (.fieldLink RX10 72 "DiamondRows" "toldRow" "[I") zl_X10_read_72) (fun _ h9 => h9) rfl dX10_read_27 ?_
    refine lv_aload_n hx hb dX10_read_30 rfl (lv_at hl 1 rfl) ?_
    refine va_get (D := D) (ci := 10) (v := .ref (ad t_polygon 0)) (C := RX10) (T := TX10) (N := 13) hx hb hts zi_X10_read_X10 hown hK hP 0 rfl rfl 10 (by decide) (hts (.fieldLink RX10 84 "DiamondRows" "polygon" "LDiamondRows$Polygon;") zl_X10_read_84) (fun _ h9 => h9) (zpg_ok m2) dX10_read_31 ?_
    refine lv_iload_n hx hb dX10_read_34 rfl (lv_at hl 0 rfl) ?_
    obtain ⟨o4, ho4, hg⟩ := Go_b hg
    refine zc_vi (rest := [.ref (t 30), .ref (ad t_polygon 0)]) ⟨hx, hb, hml, hown, hts⟩ (zc_X5_cutAt l D κ (ad t_polygon) t_polygon o3 o4 ho4) (cwV 1 hts gX10_read_X5_cutAt rfl rfl rfl hv_X5_cutAt ⟨Nat.le_of_ble_eq_true rfl, Nat.le_of_ble_eq_true rfl⟩) (zpreV hK ((zamb hB hBA hS) t_polygon m2) 5 0 rfl rfl) rfl hl.1 rfl (Nat.le_of_ble_eq_true rfl) dX10_read_35 ⟨Nat.zero_le _, Nat.zero_le _⟩ ?_
    obtain ⟨o5, ho5, hg⟩ := Go_b hg
    refine zc_vi (rest := []) ⟨hx, hb, hml, hown, hts⟩ (zc_X5_differenceFrom l D κ (ad t_polygon) (t 30) t_polygon (o1.2.2.2.2.2.2) o4 o5 ho5) (cwV 2 hts gX10_read_X5_differenceFrom rfl rfl rfl hv_X5_differenceFrom ⟨Nat.le_of_ble_eq_true rfl, Nat.le_of_ble_eq_true rfl⟩) (zpreV hK (((zamb hB hBA hS) t_polygon m2).app (hP.sub [3] rfl)) 5 0 rfl rfl) rfl hl.1 rfl (Nat.le_of_ble_eq_true rfl) dX10_read_38 ⟨Nat.zero_le _, Nat.zero_le _⟩ ?_
    obtain ⟨b6, hg⟩ := Go_n hg
    refine zv_if_eq (tgt := 46) hx hb dX10_read_41 (by decide) b6 (fun c8 => ?_) (fun c8 => ?_)
    · have hg := Go_t c8 hg
      refine lv_aload_n hx hb dX10_read_46 rfl (lv_at hl 1 rfl) ?_
      refine lv_aload_n hx hb dX10_read_47 rfl (lv_at hl 1 rfl) ?_
      refine va_get (D := D) (ci := 10) (v := .ref (ad t_polygon 0)) (C := RX10) (T := TX10) (N := 13) hx hb hts zi_X10_read_X10 hown hK hP 0 rfl rfl 10 (by decide) (hts (.fieldLink RX10 84 "DiamondRows" "polygon" "LDiamondRows$Polygon;") zl_X10_read_84) (fun _ h9 => h9) (zpg_ok m2) dX10_read_48 ?_
      refine lv_iload_n hx hb dX10_read_51 rfl (lv_at hl 0 rfl) ?_
      obtain ⟨o7, ho7, hg⟩ := Go_b hg
      refine zc_vi (rest := [.ref (t 0)]) ⟨hx, hb, hml, hown, hts⟩ (zc_X5_cutAt l D κ (ad t_polygon) t_polygon o3 o7 ho7) (cwV 1 hts gX10_read_X5_cutAt rfl rfl rfl hv_X5_cutAt ⟨Nat.le_of_ble_eq_true rfl, Nat.le_of_ble_eq_true rfl⟩) (zpreV hK ((zamb hB hBA hS) t_polygon m2) 5 0 rfl rfl) rfl hl.1 rfl (Nat.le_of_ble_eq_true rfl) dX10_read_52 ⟨Nat.zero_le _, Nat.zero_le _⟩ ?_
      refine va_put (D := D) (ci := 10) (v := .int (zi o7)) (ty := .int) (C := RX10) (T := TX10) (N := 13) hx hb hts zi_X10_read_X10 tyX10 tyX10_ok nmX10 hown hK hP hD hS 0 rfl rfl 11 (by decide) (hts (.fieldLink RX10 94 "DiamondRows" "bits" "I") zl_X10_read_94) (fun _ h9 => h9) rfl (by decide +kernel) rfl rfl (Nat.le_of_ble_eq_true rfl) dX10_read_55 (fun H locs hP hD hS => ?_)
      have hP : va_P D vwCl ([((t 0), .inr (10, [.ref (t 1), .ref (t 3), .ref (t 5), .ref (t 6), .ref (t 9), .ref (t 11), .ref (t 15), .ref (t 17), .ref (t 27), .ref (t 30), zpg ad t_polygon, .int (zi o7), .int (zi t_mendedNumber)])), ((t 1), .inr (8, [.ref (t 2), .int (zi (o1.2.1)), .int (zi (o1.2.2.1)), .int (zi (o1.2.2.2.1)), .int (zi (o1.2.2.2.2.1)), .int (zi (o1.2.2.2.2.2.1))])), ((t 2), .inl (κ 0, 300, .inl (zc tape_bytes))), ((t 30), .inl (κ 1, 10, .inl (zc (o1.2.2.2.2.2.2))))]) H := hP
      have hD : va_D A ([((t 0), .inr (10, [.ref (t 1), .ref (t 3), .ref (t 5), .ref (t 6), .ref (t 9), .ref (t 11), .ref (t 15), .ref (t 17), .ref (t 27), .ref (t 30), zpg ad t_polygon, .int (zi o7), .int (zi t_mendedNumber)])), ((t 1), .inr (8, [.ref (t 2), .int (zi (o1.2.1)), .int (zi (o1.2.2.1)), .int (zi (o1.2.2.2.1)), .int (zi (o1.2.2.2.2.1)), .int (zi (o1.2.2.2.2.2.1))])), ((t 2), .inl (κ 0, 300, .inl (zc tape_bytes))), ((t 30), .inl (κ 1, 10, .inl (zc (o1.2.2.2.2.2.2))))]) := hD
      refine lv_iload_n hx hb dX10_read_58 rfl (lv_at hl 0 rfl) ?_
      exact (Go_s hg) _ _ _ _ hP hD hS dX10_read_59
    · have hg := Go_f c8 hg
      refine zv_iconst hx hb dX10_read_44 ?_
      exact (Go_s hg) _ _ _ _ hP hD hS dX10_read_45
  · have hg := Go_t c9 hg
    refine zv_bipush hx hb dX10_read_7 (by decide) ?_
    exact (Go_s hg) _ _ _ _ hP hD hS dX10_read_9
set_option maxHeartbeats 4000000 in
set_option maxRecDepth 100000 in
theorem zc_X10_read (l : Launch) (D : va_G) (κ : Nat → ClassId) (t : Nat → Nat) (mk : Nat) (ad : Nat → Nat → Nat) (sz : Nat) (t_polygon : Nat) (t_bits : Int) (t_mendedNumber : Int) (tape_length : Int) (tape_next : Int) (tape_kind : Int) (tape_place : Int) (tape_value : Int) (tape_bytes : Nat) (t_toldRow : Nat)  (out : Int × Int × Int × Int × Int × Int × Int × Nat) (h : zf_X10_read mk t_polygon t_bits tape_length tape_next tape_kind tape_place tape_value tape_bytes t_toldRow  = some out) : Met l yX10_read wsX10_read zr_X10_read (va_Pc [.ref (t 0)] (zWa D κ mk ad ([((t 0), .inr (10, [.ref (t 1), .ref (t 3), .ref (t 5), .ref (t 6), .ref (t 9), .ref (t 11), .ref (t 15), .ref (t 17), .ref (t 27), .ref (t 30), zpg ad t_polygon, .int (zi t_bits), .int (zi t_mendedNumber)])), ((t 1), .inr (8, [.ref (t 2), .int (zi tape_length), .int (zi tape_next), .int (zi tape_kind), .int (zi tape_place), .int (zi tape_value)])), ((t 2), .inl (κ 0, 300, .inl (zc tape_bytes))), ((t 30), .inl (κ 1, 10, .inl (zc t_toldRow)))]) sz)) (va_Qi (fun r (_ : Unit) => r = zi (out.1)) (fun _ => zB D κ (va_A ([((t 0), .inr (10, [.ref (t 1), .ref (t 3), .ref (t 5), .ref (t 6), .ref (t 9), .ref (t 11), .ref (t 15), .ref (t 17), .ref (t 27), .ref (t 30), zpg ad t_polygon, .int (zi t_bits), .int (zi t_mendedNumber)])), ((t 1), .inr (8, [.ref (t 2), .int (zi tape_length), .int (zi tape_next), .int (zi tape_kind), .int (zi tape_place), .int (zi tape_value)])), ((t 2), .inl (κ 0, 300, .inl (zc tape_bytes))), ((t 30), .inl (κ 1, 10, .inl (zc t_toldRow)))]) sz) ([((t 0), .inr (10, [.ref (t 1), .ref (t 3), .ref (t 5), .ref (t 6), .ref (t 9), .ref (t 11), .ref (t 15), .ref (t 17), .ref (t 27), .ref (t 30), zpg ad t_polygon, .int (zi (out.2.1)), .int (zi t_mendedNumber)])), ((t 1), .inr (8, [.ref (t 2), .int (zi (out.2.2.1)), .int (zi (out.2.2.2.1)), .int (zi (out.2.2.2.2.1)), .int (zi (out.2.2.2.2.2.1)), .int (zi (out.2.2.2.2.2.2.1))])), ((t 2), .inl (κ 0, 300, .inl (zc tape_bytes))), ((t 30), .inl (κ 1, 10, .inl (zc (out.2.2.2.2.2.2.2))))])) (va_A ([((t 0), .inr (10, [.ref (t 1), .ref (t 3), .ref (t 5), .ref (t 6), .ref (t 9), .ref (t 11), .ref (t 15), .ref (t 17), .ref (t 27), .ref (t 30), zpg ad t_polygon, .int (zi t_bits), .int (zi t_mendedNumber)])), ((t 1), .inr (8, [.ref (t 2), .int (zi tape_length), .int (zi tape_next), .int (zi tape_kind), .int (zi tape_place), .int (zi tape_value)])), ((t 2), .inl (κ 0, 300, .inl (zc tape_bytes))), ((t 30), .inl (κ 1, 10, .inl (zc t_toldRow)))]) sz)) 0 0 (va_A ([((t 0), .inr (10, [.ref (t 1), .ref (t 3), .ref (t 5), .ref (t 6), .ref (t 9), .ref (t 11), .ref (t 15), .ref (t 17), .ref (t 27), .ref (t 30), zpg ad t_polygon, .int (zi t_bits), .int (zi t_mendedNumber)])), ((t 1), .inr (8, [.ref (t 2), .int (zi tape_length), .int (zi tape_next), .int (zi tape_kind), .int (zi tape_place), .int (zi tape_value)])), ((t 2), .inl (κ 0, 300, .inl (zc tape_bytes))), ((t 30), .inl (κ 1, 10, .inl (zc t_toldRow)))]) sz) := by
  refine Met.ofW (cc := cX10_read) (maxL := 2) (ret := (some .int)) (by decide +kernel) rfl ?_
  intro p e s m args below meth c s₁ B hml hv
  obtain ⟨rfl, hsz, hP, hK, hD0, hB, hBA⟩ := hv
  have hx := B.exec
  have hb := B.bytes
  have hr := B.returns
  have hts := atoms_spec (ws := wsX10_read) B.pre
  have hown : s.vm.findClass RX10 = some m.cls := findClass_of_methodNamed B.named
  have hlocks := B.notSynchronized
  subst hsz
  have hD := hD0.self (sz := s.heap.size)
  generalize hAe : va_A ([((t 0), .inr (10, [.ref (t 1), .ref (t 3), .ref (t 5), .ref (t 6), .ref (t 9), .ref (t 11), .ref (t 15), .ref (t 17), .ref (t 27), .ref (t 30), zpg ad t_polygon, .int (zi t_bits), .int (zi t_mendedNumber)])), ((t 1), .inr (8, [.ref (t 2), .int (zi tape_length), .int (zi tape_next), .int (zi tape_kind), .int (zi tape_place), .int (zi tape_value)])), ((t 2), .inl (κ 0, 300, .inl (zc tape_bytes))), ((t 30), .inl (κ 1, 10, .inl (zc t_toldRow)))]) s.heap.size = A at hD hBA ⊢
  have hA : ∀ q : Nat, s.heap.size ≤ q → A q := fun q h => by rw [← hAe]; exact Or.inr h
  have hS : va_S A s.heap s.heap [] := va_S.rf
  have hl := lv_entry ([.ref (t 0)]) (n := 2) (Nat.le_of_ble_eq_true rfl)
  rw [lg_entry_eq]
  generalize (lg_sl ([.ref (t 0)]) ++ List.replicate (2 - (lg_sl ([.ref (t 0)])).length) Slot.unset).toArray = ls at hl ⊢
  have hl : lv_has ls 2 [(0, .ref (t 0))] := hl
  refine zs_X10_read t mk ad t_polygon t_bits t_mendedNumber tape_length tape_next tape_kind tape_place tape_value tape_bytes t_toldRow  hx hb hml hown hts hK hA hB hBA s.heap [] ls hP hD hS hl ⟨out, h, ?_⟩
  exact fun H locs ls pc hP hD hS hd => W.iret hx hb hr (fun t ht hW => ⟨⟨_, (), rfl, rfl, by rw [ht]; exact hP, va_K.moved hW.alike hK, hD⟩, hS.F ht⟩) hS.2.2 hd
/-! DiamondRows.mend()I -/
abbrev zr_X10_mend : Room := { frames := 5, cells := 0, slots := 0, locals := 103 }
noncomputable def zf_X10_mend (mk : Nat) (t_polygon : Nat) (t_mendedNumber : Int) (tape_length : Int) (tape_next : Int) (tape_kind : Int) (tape_place : Int) (tape_value : Int) (tape_bytes : Nat) (t_toldRow : Nat)  : Option (Int × Int × Int × Int × Int × Int × Int × Nat) :=
  Option.bind (zf_X10_takeRow mk t_polygon tape_length tape_next tape_kind tape_place tape_value tape_bytes t_toldRow) (fun o1 =>
  if (o1.1) = false then
  some ((-2 : Int), t_mendedNumber, (o1.2.1), (o1.2.2.1), (o1.2.2.2.1), (o1.2.2.2.2.1), (o1.2.2.2.2.2.1), (o1.2.2.2.2.2.2))
  else
  if zno mk t_polygon then none else
  Option.bind (zf_X5_nearestTo t_polygon (o1.2.2.2.2.2.2)) (fun o3 =>
  Option.bind (zf_X5_cutAt t_polygon o3) (fun o4 =>
  Option.bind (zf_X5_differenceFrom t_polygon (o1.2.2.2.2.2.2) o4) (fun o5 =>
  some (o5, o3, (o1.2.1), (o1.2.2.1), (o1.2.2.2.1), (o1.2.2.2.2.1), (o1.2.2.2.2.2.1), (o1.2.2.2.2.2.2))))))
theorem zi_X10_mend_X10 : ∀ w ∈ u_ws RX10 TX10 13, w ∈ wsX10_mend := fun w h => (List.mem_cons_of_mem _ (List.mem_append_right _ (List.mem_append_left _ h)))
theorem zl_X10_mend_72 : Cond.fieldLink RX10 72 "DiamondRows" "toldRow" "[I" ∈ wsX10_mend := (List.mem_cons_of_mem _ (List.mem_append_left _ (List.mem_of_getElem? (i := 1) rfl)))
theorem zl_X10_mend_76 : Cond.fieldLink RX10 76 "DiamondRows" "mendedNumber" "I" ∈ wsX10_mend := (List.mem_cons_of_mem _ (List.mem_append_left _ (List.mem_of_getElem? (i := 2) rfl)))
theorem zl_X10_mend_84 : Cond.fieldLink RX10 84 "DiamondRows" "polygon" "LDiamondRows$Polygon;" ∈ wsX10_mend := (List.mem_cons_of_mem _ (List.mem_append_left _ (List.mem_of_getElem? (i := 0) rfl)))
def zQ_X10_mend (p : Program) (l : Launch) (e : Env) (s : State) (m : MethodId) (args : Array Value) (below : List Frame) (meth : Method) (c : Code) (Q : State → Prop) (D : va_G) (κ : Nat → ClassId) (A : Nat → Prop) (H0 : Heap) (t : Nat → Nat) (mk : Nat) (ad : Nat → Nat → Nat) (t_polygon : Nat) (t_bits : Int) (tape_bytes : Nat) (o : Int × Int × Int × Int × Int × Int × Int × Nat) : Prop := ∀ (H : Heap) (locs : List Loc) (ls : Array Slot) (pc : Nat), va_P D vwCl ([((t 0), .inr (10, [.ref (t 1), .ref (t 3), .ref (t 5), .ref (t 6), .ref (t 9), .ref (t 11), .ref (t 15), .ref (t 17), .ref (t 27), .ref (t 30), zpg ad t_polygon, .int (zi t_bits), .int (zi (o.2.1))])), ((t 1), .inr (8, [.ref (t 2), .int (zi (o.2.2.1)), .int (zi (o.2.2.2.1)), .int (zi (o.2.2.2.2.1)), .int (zi (o.2.2.2.2.2.1)), .int (zi (o.2.2.2.2.2.2.1))])), ((t 2), .inl (κ 0, 300, .inl (zc tape_bytes))), ((t 30), .inl (κ 1, 10, .inl (zc (o.2.2.2.2.2.2.2))))]) H → va_D A ([((t 0), .inr (10, [.ref (t 1), .ref (t 3), .ref (t 5), .ref (t 6), .ref (t 9), .ref (t 11), .ref (t 15), .ref (t 17), .ref (t 27), .ref (t 30), zpg ad t_polygon, .int (zi t_bits), .int (zi (o.2.1))])), ((t 1), .inr (8, [.ref (t 2), .int (zi (o.2.2.1)), .int (zi (o.2.2.2.1)), .int (zi (o.2.2.2.2.1)), .int (zi (o.2.2.2.2.2.1)), .int (zi (o.2.2.2.2.2.2.1))])), ((t 2), .inl (κ 0, 300, .inl (zc tape_bytes))), ((t 30), .inl (κ 1, 10, .inl (zc (o.2.2.2.2.2.2.2))))]) → va_S A H0 H locs → decode cX10_mend pc = .ok (.ireturn, 1) → W p l e zr_X10_mend s m args below meth c H locs 0 0 Q (F0 m pc ls [.int (zi (o.1))])
set_option maxHeartbeats 4000000 in
set_option maxRecDepth 100000 in
theorem zs_X10_mend {p : Program} {l : Launch} {e : Env} {s : State} {m : MethodId} {args : Array Value} {below : List Frame} {meth : Method} {c : Code} {Q : State → Prop} {D : va_G} {κ : Nat → ClassId} {A : Nat → Prop} {H0 : Heap} (t : Nat → Nat) (mk : Nat) (ad : Nat → Nat → Nat) (t_polygon : Nat) (t_bits : Int) (t_mendedNumber : Int) (tape_length : Int) (tape_next : Int) (tape_kind : Int) (tape_place : Int) (tape_value : Int) (tape_bytes : Nat) (t_toldRow : Nat)  (hx : p.tables.exec = Jvm.exec) (hb : c.code = cX10_mend) (hml : c.maxLocals = 1) (hown : s.vm.findClass RX10 = some m.cls) (hts : ∀ w ∈ wsX10_mend, w.before args s = true) (hK : va_K D vwCl (zTY κ) s) (hA : ∀ q : Nat, H0.size ≤ q → A q) (hB : zAmb D κ mk ad H0) (hBA : zApt mk ad A H0.size) (H : Heap) (locs : List Loc) (ls : Array Slot) (hP : va_P D vwCl ([((t 0), .inr (10, [.ref (t 1), .ref (t 3), .ref (t 5), .ref (t 6), .ref (t 9), .ref (t 11), .ref (t 15), .ref (t 17), .ref (t 27), .ref (t 30), zpg ad t_polygon, .int (zi t_bits), .int (zi t_mendedNumber)])), ((t 1), .inr (8, [.ref (t 2), .int (zi tape_length), .int (zi tape_next), .int (zi tape_kind), .int (zi tape_place), .int (zi tape_value)])), ((t 2), .inl (κ 0, 300, .inl (zc tape_bytes))), ((t 30), .inl (κ 1, 10, .inl (zc t_toldRow)))]) H) (hD : va_D A ([((t 0), .inr (10, [.ref (t 1), .ref (t 3), .ref (t 5), .ref (t 6), .ref (t 9), .ref (t 11), .ref (t 15), .ref (t 17), .ref (t 27), .ref (t 30), zpg ad t_polygon, .int (zi t_bits), .int (zi t_mendedNumber)])), ((t 1), .inr (8, [.ref (t 2), .int (zi tape_length), .int (zi tape_next), .int (zi tape_kind), .int (zi tape_place), .int (zi tape_value)])), ((t 2), .inl (κ 0, 300, .inl (zc tape_bytes))), ((t 30), .inl (κ 1, 10, .inl (zc t_toldRow)))])) (hS : va_S A H0 H locs) (hl : lv_has ls 1 [(0, .ref (t 0))]) (hg : Go (zQ_X10_mend p l e s m args below meth c Q D κ A H0 t mk ad t_polygon t_bits tape_bytes) (zf_X10_mend mk t_polygon t_mendedNumber tape_length tape_next tape_kind tape_place tape_value tape_bytes t_toldRow )) : W p l e zr_X10_mend s m args below meth c H locs 0 0 Q (F0 m 0 ls []) := by
  unfold zf_X10_mend at hg
  refine lv_aload_n hx hb dX10_mend_0 rfl (lv_at hl 0 rfl) ?_
  obtain ⟨o1, ho1, hg⟩ := Go_b hg
  refine zj_i (wr := []) (ws1 := [((t 0), .inr (10, [.ref (t 1), .ref (t 3), .ref (t 5), .ref (t 6), .ref (t 9), .ref (t 11), .ref (t 15), .ref (t 17), .ref (t 27), .ref (t 30), zpg ad t_polygon, .int (zi t_bits), .int (zi t_mendedNumber)])), ((t 1), .inr (8, [.ref (t 2), .int (zi (o1.2.1)), .int (zi (o1.2.2.1)), .int (zi (o1.2.2.2.1)), .int (zi (o1.2.2.2.2.1)), .int (zi (o1.2.2.2.2.2.1))])), ((t 2), .inl (κ 0, 300, .inl (zc tape_bytes))), ((t 30), .inl (κ 1, 10, .inl (zc (o1.2.2.2.2.2.2))))]) (va_runV (rest := []) ⟨hx, hb, hml, hown, hts⟩ (zc_X10_takeRow l D κ t mk ad H.size t_polygon t_bits t_mendedNumber tape_length tape_next tape_kind tape_place tape_value tape_bytes t_toldRow o1 ho1) (cwV 0 hts gX10_mend_X10_takeRow rfl rfl rfl hv_X10_takeRow ⟨Nat.le_of_ble_eq_true rfl, Nat.le_of_ble_eq_true rfl⟩) (zpreWVa hK (hP.sub [0, 1, 2, 3] rfl) (hD.sub [0, 1, 2, 3] (by decide) rfl) (zamb hB hBA hS) (zapt hBA hS (va_free hD hS hA [0, 1, 2, 3] rfl)) 10 0 rfl rfl) rfl rfl hl.1 rfl (lv_room (Nat.le_of_ble_eq_true rfl)) dX10_mend_1 ⟨Nat.zero_le _, Nat.zero_le _⟩) hP hD hS hA [0, 1, 2, 3] [] [0, 1, 2, 3] rfl rfl (by decide) (by decide) rfl rfl (by decide) (fun H locs hP hD hS => ?_)
  refine zv_ifb_ne (tgt := 10) hx hb dX10_mend_4 (by decide) (fun c6 => ?_) (fun c6 => ?_)
  · have hg := Go_f c6 hg
    refine lv_aload_n hx hb dX10_mend_10 rfl (lv_at hl 0 rfl) ?_
    refine lv_aload_n hx hb dX10_mend_11 rfl (lv_at hl 0 rfl) ?_
    obtain ⟨m2, hg⟩ := Go_n hg
    refine va_get (D := D) (ci := 10) (v := .ref (ad t_polygon 0)) (C := RX10) (T := TX10) (N := 13) hx hb hts zi_X10_mend_X10 hown hK hP 0 rfl rfl 10 (by decide) (hts (.fieldLink RX10 84 "DiamondRows" "polygon" "LDiamondRows$Polygon;") zl_X10_mend_84) (fun _ h9 => h9) (zpg_ok m2) dX10_mend_12 ?_
    refine lv_aload_n hx hb dX10_mend_15 rfl (lv_at hl 0 rfl) ?_
    refine va_get (D := D) (ci := 10) (v := .ref (t 30)) (C := RX10) (T := TX10) (N := 13) hx hb hts zi_X10_mend_X10 hown hK hP 0 rfl rfl 9 (by decide) (hts (.fieldLink RX10 72 "DiamondRows" "toldRow" "[I") zl_X10_mend_72) (fun _ h9 => h9) rfl dX10_mend_16 ?_
    obtain ⟨o3, ho3, hg⟩ := Go_b hg
    refine zc_vi (rest := [.ref (t 0)]) ⟨hx, hb, hml, hown, hts⟩ (zc_X5_nearestTo l D κ (ad t_polygon) (t 30) t_polygon (o1.2.2.2.2.2.2) o3 ho3) (cwV 1 hts gX10_mend_X5_nearestTo rfl rfl rfl hv_X5_nearestTo ⟨Nat.le_of_ble_eq_true rfl, Nat.le_of_ble_eq_true rfl⟩) (zpreV hK (((zamb hB hBA hS) t_polygon m2).app (hP.sub [3] rfl)) 5 0 rfl rfl) rfl hl.1 rfl (Nat.le_of_ble_eq_true rfl) dX10_mend_19 ⟨Nat.zero_le _, Nat.zero_le _⟩ ?_
    refine va_put (D := D) (ci := 10) (v := .int (zi o3)) (ty := .int) (C := RX10) (T := TX10) (N := 13) hx hb hts zi_X10_mend_X10 tyX10 tyX10_ok nmX10 hown hK hP hD hS 0 rfl rfl 12 (by decide) (hts (.fieldLink RX10 76 "DiamondRows" "mendedNumber" "I") zl_X10_mend_76) (fun _ h9 => h9) rfl (by decide +kernel) rfl rfl (Nat.le_of_ble_eq_true rfl) dX10_mend_22 (fun H locs hP hD hS => ?_)
    have hP : va_P D vwCl ([((t 0), .inr (10, [.ref (t 1), .ref (t 3), .ref (t 5), .ref (t 6), .ref (t 9), .ref (t 11), .ref (t 15), .ref (t 17), .ref (t 27), .ref (t 30), zpg ad t_polygon, .int (zi t_bits), .int (zi o3)])), ((t 1), .inr (8, [.ref (t 2), .int (zi (o1.2.1)), .int (zi (o1.2.2.1)), .int (zi (o1.2.2.2.1)), .int (zi (o1.2.2.2.2.1)), .int (zi (o1.2.2.2.2.2.1))])), ((t 2), .inl (κ 0, 300, .inl (zc tape_bytes))), ((t 30), .inl (κ 1, 10, .inl (zc (o1.2.2.2.2.2.2))))]) H := hP
    have hD : va_D A ([((t 0), .inr (10, [.ref (t 1), .ref (t 3), .ref (t 5), .ref (t 6), .ref (t 9), .ref (t 11), .ref (t 15), .ref (t 17), .ref (t 27), .ref (t 30), zpg ad t_polygon, .int (zi t_bits), .int (zi o3)])), ((t 1), .inr (8, [.ref (t 2), .int (zi (o1.2.1)), .int (zi (o1.2.2.1)), .int (zi (o1.2.2.2.1)), .int (zi (o1.2.2.2.2.1)), .int (zi (o1.2.2.2.2.2.1))])), ((t 2), .inl (κ 0, 300, .inl (zc tape_bytes))), ((t 30), .inl (κ 1, 10, .inl (zc (o1.2.2.2.2.2.2))))]) := hD
    refine lv_aload_n hx hb dX10_mend_25 rfl (lv_at hl 0 rfl) ?_
    refine va_get (D := D) (ci := 10) (v := .ref (ad t_polygon 0)) (C := RX10) (T := TX10) (N := 13) hx hb hts zi_X10_mend_X10 hown hK hP 0 rfl rfl 10 (by decide) (hts (.fieldLink RX10 84 "DiamondRows" "polygon" "LDiamondRows$Polygon;") zl_X10_mend_84) (fun _ h9 => h9) (zpg_ok m2) dX10_mend_26 ?_
    refine lv_aload_n hx hb dX10_mend_29 rfl (lv_at hl 0 rfl) ?_
    refine va_get (D := D) (ci := 10) (v := .ref (t 30)) (C := RX10) (T := TX10) (N := 13) hx hb hts zi_X10_mend_X10 hown hK hP 0 rfl rfl 9 (by decide) (hts (.fieldLink RX10 72 "DiamondRows" "toldRow" "[I") zl_X10_mend_72) (fun _ h9 => h9) rfl dX10_mend_30 ?_
    refine lv_aload_n hx hb dX10_mend_33 rfl (lv_at hl 0 rfl) ?_
    refine va_get (D := D) (ci := 10) (v := .ref (ad t_polygon 0)) (C := RX10) (T := TX10) (N := 13) hx hb hts zi_X10_mend_X10 hown hK hP 0 rfl rfl 10 (by decide) (hts (.fieldLink RX10 84 "DiamondRows" "polygon" "LDiamondRows$Polygon;") zl_X10_mend_84) (fun _ h9 => h9) (zpg_ok m2) dX10_mend_34 ?_
    refine lv_aload_n hx hb dX10_mend_37 rfl (lv_at hl 0 rfl) ?_
    refine va_get (D := D) (ci := 10) (v := .int (zi o3)) (C := RX10) (T := TX10) (N := 13) hx hb hts zi_X10_mend_X10 hown hK hP 0 rfl rfl 12 (by decide) (hts (.fieldLink RX10 76 "DiamondRows" "mendedNumber" "I") zl_X10_mend_76) (fun _ h9 => h9) rfl dX10_mend_38 ?_
    obtain ⟨o4, ho4, hg⟩ := Go_b hg
    refine zc_vi (rest := [.ref (t 30), .ref (ad t_polygon 0)]) ⟨hx, hb, hml, hown, hts⟩ (zc_X5_cutAt l D κ (ad t_polygon) t_polygon o3 o4 ho4) (cwV 1 hts gX10_mend_X5_cutAt rfl rfl rfl hv_X5_cutAt ⟨Nat.le_of_ble_eq_true rfl, Nat.le_of_ble_eq_true rfl⟩) (zpreV hK ((zamb hB hBA hS) t_polygon m2) 5 0 rfl rfl) rfl hl.1 rfl (Nat.le_of_ble_eq_true rfl) dX10_mend_41 ⟨Nat.zero_le _, Nat.zero_le _⟩ ?_
    obtain ⟨o5, ho5, hg⟩ := Go_b hg
    refine zc_vi (rest := []) ⟨hx, hb, hml, hown, hts⟩ (zc_X5_differenceFrom l D κ (ad t_polygon) (t 30) t_polygon (o1.2.2.2.2.2.2) o4 o5 ho5) (cwV 2 hts gX10_mend_X5_differenceFrom rfl rfl rfl hv_X5_differenceFrom ⟨Nat.le_of_ble_eq_true rfl, Nat.le_of_ble_eq_true rfl⟩) (zpreV hK (((zamb hB hBA hS) t_polygon m2).app (hP.sub [3] rfl)) 5 0 rfl rfl) rfl hl.1 rfl (Nat.le_of_ble_eq_true rfl) dX10_mend_44 ⟨Nat.zero_le _, Nat.zero_le _⟩ ?_
    exact (Go_s hg) _ _ _ _ hP hD hS dX10_mend_47
  · have hg := Go_t c6 hg
    refine zv_bipush hx hb dX10_mend_7 (by decide) ?_
    exact (Go_s hg) _ _ _ _ hP hD hS dX10_mend_9
set_option maxHeartbeats 4000000 in
set_option maxRecDepth 100000 in
theorem zc_X10_mend (l : Launch) (D : va_G) (κ : Nat → ClassId) (t : Nat → Nat) (mk : Nat) (ad : Nat → Nat → Nat) (sz : Nat) (t_polygon : Nat) (t_bits : Int) (t_mendedNumber : Int) (tape_length : Int) (tape_next : Int) (tape_kind : Int) (tape_place : Int) (tape_value : Int) (tape_bytes : Nat) (t_toldRow : Nat)  (out : Int × Int × Int × Int × Int × Int × Int × Nat) (h : zf_X10_mend mk t_polygon t_mendedNumber tape_length tape_next tape_kind tape_place tape_value tape_bytes t_toldRow  = some out) : Met l yX10_mend wsX10_mend zr_X10_mend (va_Pc [.ref (t 0)] (zWa D κ mk ad ([((t 0), .inr (10, [.ref (t 1), .ref (t 3), .ref (t 5), .ref (t 6), .ref (t 9), .ref (t 11), .ref (t 15), .ref (t 17), .ref (t 27), .ref (t 30), zpg ad t_polygon, .int (zi t_bits), .int (zi t_mendedNumber)])), ((t 1), .inr (8, [.ref (t 2), .int (zi tape_length), .int (zi tape_next), .int (zi tape_kind), .int (zi tape_place), .int (zi tape_value)])), ((t 2), .inl (κ 0, 300, .inl (zc tape_bytes))), ((t 30), .inl (κ 1, 10, .inl (zc t_toldRow)))]) sz)) (va_Qi (fun r (_ : Unit) => r = zi (out.1)) (fun _ => zB D κ (va_A ([((t 0), .inr (10, [.ref (t 1), .ref (t 3), .ref (t 5), .ref (t 6), .ref (t 9), .ref (t 11), .ref (t 15), .ref (t 17), .ref (t 27), .ref (t 30), zpg ad t_polygon, .int (zi t_bits), .int (zi t_mendedNumber)])), ((t 1), .inr (8, [.ref (t 2), .int (zi tape_length), .int (zi tape_next), .int (zi tape_kind), .int (zi tape_place), .int (zi tape_value)])), ((t 2), .inl (κ 0, 300, .inl (zc tape_bytes))), ((t 30), .inl (κ 1, 10, .inl (zc t_toldRow)))]) sz) ([((t 0), .inr (10, [.ref (t 1), .ref (t 3), .ref (t 5), .ref (t 6), .ref (t 9), .ref (t 11), .ref (t 15), .ref (t 17), .ref (t 27), .ref (t 30), zpg ad t_polygon, .int (zi t_bits), .int (zi (out.2.1))])), ((t 1), .inr (8, [.ref (t 2), .int (zi (out.2.2.1)), .int (zi (out.2.2.2.1)), .int (zi (out.2.2.2.2.1)), .int (zi (out.2.2.2.2.2.1)), .int (zi (out.2.2.2.2.2.2.1))])), ((t 2), .inl (κ 0, 300, .inl (zc tape_bytes))), ((t 30), .inl (κ 1, 10, .inl (zc (out.2.2.2.2.2.2.2))))])) (va_A ([((t 0), .inr (10, [.ref (t 1), .ref (t 3), .ref (t 5), .ref (t 6), .ref (t 9), .ref (t 11), .ref (t 15), .ref (t 17), .ref (t 27), .ref (t 30), zpg ad t_polygon, .int (zi t_bits), .int (zi t_mendedNumber)])), ((t 1), .inr (8, [.ref (t 2), .int (zi tape_length), .int (zi tape_next), .int (zi tape_kind), .int (zi tape_place), .int (zi tape_value)])), ((t 2), .inl (κ 0, 300, .inl (zc tape_bytes))), ((t 30), .inl (κ 1, 10, .inl (zc t_toldRow)))]) sz)) 0 0 (va_A ([((t 0), .inr (10, [.ref (t 1), .ref (t 3), .ref (t 5), .ref (t 6), .ref (t 9), .ref (t 11), .ref (t 15), .ref (t 17), .ref (t 27), .ref (t 30), zpg ad t_polygon, .int (zi t_bits), .int (zi t_mendedNumber)])), ((t 1), .inr (8, [.ref (t 2), .int (zi tape_length), .int (zi tape_next), .int (zi tape_kind), .int (zi tape_place), .int (zi tape_value)])), ((t 2), .inl (κ 0, 300, .inl (zc tape_bytes))), ((t 30), .inl (κ 1, 10, .inl (zc t_toldRow)))]) sz) := by
  refine Met.ofW (cc := cX10_mend) (maxL := 1) (ret := (some .int)) (by decide +kernel) rfl ?_
  intro p e s m args below meth c s₁ B hml hv
  obtain ⟨rfl, hsz, hP, hK, hD0, hB, hBA⟩ := hv
  have hx := B.exec
  have hb := B.bytes
  have hr := B.returns
  have hts := atoms_spec (ws := wsX10_mend) B.pre
  have hown : s.vm.findClass RX10 = some m.cls := findClass_of_methodNamed B.named
  have hlocks := B.notSynchronized
  subst hsz
  have hD := hD0.self (sz := s.heap.size)
  generalize hAe : va_A ([((t 0), .inr (10, [.ref (t 1), .ref (t 3), .ref (t 5), .ref (t 6), .ref (t 9), .ref (t 11), .ref (t 15), .ref (t 17), .ref (t 27), .ref (t 30), zpg ad t_polygon, .int (zi t_bits), .int (zi t_mendedNumber)])), ((t 1), .inr (8, [.ref (t 2), .int (zi tape_length), .int (zi tape_next), .int (zi tape_kind), .int (zi tape_place), .int (zi tape_value)])), ((t 2), .inl (κ 0, 300, .inl (zc tape_bytes))), ((t 30), .inl (κ 1, 10, .inl (zc t_toldRow)))]) s.heap.size = A at hD hBA ⊢
  have hA : ∀ q : Nat, s.heap.size ≤ q → A q := fun q h => by rw [← hAe]; exact Or.inr h
  have hS : va_S A s.heap s.heap [] := va_S.rf
  have hl := lv_entry ([.ref (t 0)]) (n := 1) (Nat.le_of_ble_eq_true rfl)
  rw [lg_entry_eq]
  generalize (lg_sl ([.ref (t 0)]) ++ List.replicate (1 - (lg_sl ([.ref (t 0)])).length) Slot.unset).toArray = ls at hl ⊢
  have hl : lv_has ls 1 [(0, .ref (t 0))] := hl
  refine zs_X10_mend t mk ad t_polygon t_bits t_mendedNumber tape_length tape_next tape_kind tape_place tape_value tape_bytes t_toldRow  hx hb hml hown hts hK hA hB hBA s.heap [] ls hP hD hS hl ⟨out, h, ?_⟩
  exact fun H locs ls pc hP hD hS hd => W.iret hx hb hr (fun t ht hW => ⟨⟨_, (), rfl, rfl, by rw [ht]; exact hP, va_K.moved hW.alike hK, hD⟩, hS.F ht⟩) hS.2.2 hd
/-! DiamondRows.mended()I -/
abbrev zr_X10_mended : Room := { frames := 0, cells := 0, slots := 0, locals := 0 }
noncomputable def zf_X10_mended (mk : Nat) (t_mendedNumber : Int)  : Option (Int) :=
  some (t_mendedNumber)
theorem zi_X10_mended_X10 : ∀ w ∈ u_ws RX10 TX10 13, w ∈ wsX10_mended := fun w h => (List.mem_cons_of_mem _ (List.mem_append_right _ h))
theorem zl_X10_mended_76 : Cond.fieldLink RX10 76 "DiamondRows" "mendedNumber" "I" ∈ wsX10_mended := (List.mem_cons_of_mem _ (List.mem_append_left _ (List.mem_of_getElem? (i := 0) rfl)))
def zQ_X10_mended (p : Program) (l : Launch) (e : Env) (s : State) (m : MethodId) (args : Array Value) (below : List Frame) (meth : Method) (c : Code) (Q : State → Prop) (H : Heap) (locs : List Loc)  (o : Int) : Prop := ∀ (ls : Array Slot) (pc : Nat), decode cX10_mended pc = .ok (.ireturn, 1) → W p l e zr_X10_mended s m args below meth c H locs 0 0 Q (F0 m pc ls [.int (zi o)])
set_option maxHeartbeats 4000000 in
set_option maxRecDepth 100000 in
theorem zs_X10_mended {p : Program} {l : Launch} {e : Env} {s : State} {m : MethodId} {args : Array Value} {below : List Frame} {meth : Method} {c : Code} {Q : State → Prop} {D : va_G} {κ : Nat → ClassId} {H : Heap} {locs : List Loc} (t : Nat → Nat) (mk : Nat) (ad : Nat → Nat → Nat) (t_polygon : Nat) (t_bits : Int) (t_mendedNumber : Int)  (hx : p.tables.exec = Jvm.exec) (hb : c.code = cX10_mended) (hml : c.maxLocals = 1) (hown : s.vm.findClass RX10 = some m.cls) (hts : ∀ w ∈ wsX10_mended, w.before args s = true) (hK : va_K D vwCl (zTY κ) s) (hP : va_P D vwCl ([((t 0), .inr (10, [.ref (t 1), .ref (t 3), .ref (t 5), .ref (t 6), .ref (t 9), .ref (t 11), .ref (t 15), .ref (t 17), .ref (t 27), .ref (t 30), zpg ad t_polygon, .int (zi t_bits), .int (zi t_mendedNumber)]))]) H) (hB : zAmb D κ mk ad H) (ls : Array Slot) (hl : lv_has ls 1 [(0, .ref (t 0))]) (hg : Go (zQ_X10_mended p l e s m args below meth c Q H locs) (zf_X10_mended mk t_mendedNumber )) : W p l e zr_X10_mended s m args below meth c H locs 0 0 Q (F0 m 0 ls []) := by
  unfold zf_X10_mended at hg
  refine lv_aload_n hx hb dX10_mended_0 rfl (lv_at hl 0 rfl) ?_
  refine va_get (D := D) (ci := 10) (v := .int (zi t_mendedNumber)) (C := RX10) (T := TX10) (N := 13) hx hb hts zi_X10_mended_X10 hown hK hP 0 rfl rfl 12 (by decide) (hts (.fieldLink RX10 76 "DiamondRows" "mendedNumber" "I") zl_X10_mended_76) (fun _ h9 => h9) rfl dX10_mended_1 ?_
  exact (Go_s hg) _ _ dX10_mended_4
set_option maxHeartbeats 4000000 in
set_option maxRecDepth 100000 in
theorem zc_X10_mended (l : Launch) (D : va_G) (κ : Nat → ClassId) (t : Nat → Nat) (mk : Nat) (ad : Nat → Nat → Nat) (t_polygon : Nat) (t_bits : Int) (t_mendedNumber : Int)  (out : Int) (h : zf_X10_mended mk t_mendedNumber  = some out) : Met l yX10_mended wsX10_mended zr_X10_mended (va_Pc [.ref (t 0)] (zRa D κ mk ad ([((t 0), .inr (10, [.ref (t 1), .ref (t 3), .ref (t 5), .ref (t 6), .ref (t 9), .ref (t 11), .ref (t 15), .ref (t 17), .ref (t 27), .ref (t 30), zpg ad t_polygon, .int (zi t_bits), .int (zi t_mendedNumber)]))]))) (vp_Si (fun x => x = zi out)) 0 0 (fun _ => False) := by
  refine Met.ofW (cc := cX10_mended) (maxL := 1) (ret := (some .int)) (by decide +kernel) rfl ?_
  intro p e s m args below meth c s₁ B hml hv
  obtain ⟨rfl, hP, hK, hB⟩ := hv
  have hx := B.exec
  have hb := B.bytes
  have hr := B.returns
  have hts := atoms_spec (ws := wsX10_mended) B.pre
  have hown : s.vm.findClass RX10 = some m.cls := findClass_of_methodNamed B.named
  have hlocks := B.notSynchronized
  have hl := lv_entry ([.ref (t 0)]) (n := 1) (Nat.le_of_ble_eq_true rfl)
  rw [lg_entry_eq]
  generalize (lg_sl ([.ref (t 0)]) ++ List.replicate (1 - (lg_sl ([.ref (t 0)])).length) Slot.unset).toArray = ls at hl ⊢
  have hl : lv_has ls 1 [(0, .ref (t 0))] := hl
  refine zs_X10_mended t mk ad t_polygon t_bits t_mendedNumber  hx hb hml hown hts hK hP hB ls hl ⟨out, h, ?_⟩
  exact fun ls pc hd => W.iret hx hb hr (fun t ht hW => ⟨_, rfl, rfl, ht⟩) (fun _ h => by cases h) hd
/-! DiamondRows.crossed(III)I -/
abbrev zr_X10_crossed : Room := { frames := 4, cells := 0, slots := 0, locals := 93 }
noncomputable def zf_X10_crossed (mk : Nat) (t_polygon : Nat) (t_bits : Int) (crossedLines_size : Int) (crossedLines_lines : Nat) (i1 : Int) (i2 : Int) (i3 : Int) : Option (Int × Int × Nat) :=
  Option.bind (zf_X10_areCorners mk t_polygon i1 i2) (fun o1 =>
  if o1 = false then
  some ((-2 : Int), crossedLines_size, crossedLines_lines)
  else
  if zout i1 then none else
  if zout i2 then none else
  if i1 = i2 then
  some ((-2 : Int), crossedLines_size, crossedLines_lines)
  else
  if zno mk t_polygon then none else
  Option.bind (zf_X0_gather mk crossedLines_size crossedLines_lines t_polygon t_bits i1 i2) (fun o5 =>
  if zout i3 then none else
  if i3 = (-1 : Int) then
  Option.bind (zf_X0_size (o5.1)) (fun o8 =>
  some (o8, (o5.1), (o5.2)))
  else
  Option.bind (zf_X0_pairAt mk (o5.1) (o5.2) t_polygon i3) (fun o7 =>
  some (o7, (o5.1), (o5.2)))))
theorem zi_X10_crossed_X10 : ∀ w ∈ u_ws RX10 TX10 13, w ∈ wsX10_crossed := fun w h => (List.mem_cons_of_mem _ (List.mem_append_right _ (List.mem_append_left _ h)))
theorem zl_X10_crossed_40 : Cond.fieldLink RX10 40 "DiamondRows" "crossedLines" "LDiamondRows$CrossedLines;" ∈ wsX10_crossed := (List.mem_cons_of_mem _ (List.mem_append_left _ (List.mem_of_getElem? (i := 0) rfl)))
theorem zl_X10_crossed_84 : Cond.fieldLink RX10 84 "DiamondRows" "polygon" "LDiamondRows$Polygon;" ∈ wsX10_crossed := (List.mem_cons_of_mem _ (List.mem_append_left _ (List.mem_of_getElem? (i := 1) rfl)))
theorem zl_X10_crossed_94 : Cond.fieldLink RX10 94 "DiamondRows" "bits" "I" ∈ wsX10_crossed := (List.mem_cons_of_mem _ (List.mem_append_left _ (List.mem_of_getElem? (i := 2) rfl)))
def zQ_X10_crossed (p : Program) (l : Launch) (e : Env) (s : State) (m : MethodId) (args : Array Value) (below : List Frame) (meth : Method) (c : Code) (Q : State → Prop) (D : va_G) (κ : Nat → ClassId) (A : Nat → Prop) (H0 : Heap) (t : Nat → Nat) (mk : Nat) (ad : Nat → Nat → Nat) (t_polygon : Nat) (t_bits : Int) (t_mendedNumber : Int) (o : Int × Int × Nat) : Prop := ∀ (H : Heap) (locs : List Loc) (ls : Array Slot) (pc : Nat), va_P D vwCl ([((t 0), .inr (10, [.ref (t 1), .ref (t 3), .ref (t 5), .ref (t 6), .ref (t 9), .ref (t 11), .ref (t 15), .ref (t 17), .ref (t 27), .ref (t 30), zpg ad t_polygon, .int (zi t_bits), .int (zi t_mendedNumber)])), ((t 9), .inr (0, [.ref (t 10), .int (zi (o.2.1))])), ((t 10), .inl (κ 1, 27, .inl (zc (o.2.2))))]) H → va_D A ([((t 0), .inr (10, [.ref (t 1), .ref (t 3), .ref (t 5), .ref (t 6), .ref (t 9), .ref (t 11), .ref (t 15), .ref (t 17), .ref (t 27), .ref (t 30), zpg ad t_polygon, .int (zi t_bits), .int (zi t_mendedNumber)])), ((t 9), .inr (0, [.ref (t 10), .int (zi (o.2.1))])), ((t 10), .inl (κ 1, 27, .inl (zc (o.2.2))))]) → va_S A H0 H locs → decode cX10_crossed pc = .ok (.ireturn, 1) → W p l e zr_X10_crossed s m args below meth c H locs 0 0 Q (F0 m pc ls [.int (zi (o.1))])
set_option maxHeartbeats 4000000 in
set_option maxRecDepth 100000 in
theorem zs_X10_crossed {p : Program} {l : Launch} {e : Env} {s : State} {m : MethodId} {args : Array Value} {below : List Frame} {meth : Method} {c : Code} {Q : State → Prop} {D : va_G} {κ : Nat → ClassId} {A : Nat → Prop} {H0 : Heap} (t : Nat → Nat) (mk : Nat) (ad : Nat → Nat → Nat) (t_polygon : Nat) (t_bits : Int) (t_mendedNumber : Int) (crossedLines_size : Int) (crossedLines_lines : Nat) (i1 : Int) (i2 : Int) (i3 : Int) (hx : p.tables.exec = Jvm.exec) (hb : c.code = cX10_crossed) (hml : c.maxLocals = 4) (hown : s.vm.findClass RX10 = some m.cls) (hts : ∀ w ∈ wsX10_crossed, w.before args s = true) (hK : va_K D vwCl (zTY κ) s) (hA : ∀ q : Nat, H0.size ≤ q → A q) (hB : zAmb D κ mk ad H0) (hBA : zApt mk ad A H0.size) (H : Heap) (locs : List Loc) (ls : Array Slot) (hP : va_P D vwCl ([((t 0), .inr (10, [.ref (t 1), .ref (t 3), .ref (t 5), .ref (t 6), .ref (t 9), .ref (t 11), .ref (t 15), .ref (t 17), .ref (t 27), .ref (t 30), zpg ad t_polygon, .int (zi t_bits), .int (zi t_mendedNumber)])), ((t 9), .inr (0, [.ref (t 10), .int (zi crossedLines_size)])), ((t 10), .inl (κ 1, 27, .inl (zc crossedLines_lines)))]) H) (hD : va_D A ([((t 0), .inr (10, [.ref (t 1), .ref (t 3), .ref (t 5), .ref (t 6), .ref (t 9), .ref (t 11), .ref (t 15), .ref (t 17), .ref (t 27), .ref (t 30), zpg ad t_polygon, .int (zi t_bits), .int (zi t_mendedNumber)])), ((t 9), .inr (0, [.ref (t 10), .int (zi crossedLines_size)])), ((t 10), .inl (κ 1, 27, .inl (zc crossedLines_lines)))])) (hS : va_S A H0 H locs) (hl : lv_has ls 4 [(0, .ref (t 0)), (1, .int (zi i1)), (2, .int (zi i2)), (3, .int (zi i3))]) (hg : Go (zQ_X10_crossed p l e s m args below meth c Q D κ A H0 t mk ad t_polygon t_bits t_mendedNumber) (zf_X10_crossed mk t_polygon t_bits crossedLines_size crossedLines_lines i1 i2 i3)) : W p l e zr_X10_crossed s m args below meth c H locs 0 0 Q (F0 m 0 ls []) := by
  unfold zf_X10_crossed at hg
  refine lv_aload_n hx hb dX10_crossed_0 rfl (lv_at hl 0 rfl) ?_
  refine lv_iload_n hx hb dX10_crossed_1 rfl (lv_at hl 1 rfl) ?_
  refine lv_iload_n hx hb dX10_crossed_2 rfl (lv_at hl 2 rfl) ?_
  obtain ⟨o1, ho1, hg⟩ := Go_b hg
  refine zc_vi (rest := []) ⟨hx, hb, hml, hown, hts⟩ (zc_X10_areCorners l D κ t mk ad t_polygon t_bits t_mendedNumber i1 i2 o1 ho1) (cwV 2 hts gX10_crossed_X10_areCorners rfl rfl rfl hv_X10_areCorners ⟨Nat.le_of_ble_eq_true rfl, Nat.le_of_ble_eq_true rfl⟩) (zpreVa hK (hP.sub [0] rfl) (zamb hB hBA hS) 10 0 rfl rfl) rfl hl.1 rfl (Nat.le_of_ble_eq_true rfl) dX10_crossed_3 ⟨Nat.zero_le _, Nat.zero_le _⟩ ?_
  refine zv_ifb_eq (tgt := 14) hx hb dX10_crossed_6 (by decide) (fun c11 => ?_) (fun c11 => ?_)
  · have hg := Go_t c11 hg
    refine zv_bipush hx hb dX10_crossed_14 (by decide) ?_
    exact (Go_s hg) _ _ _ _ hP hD hS dX10_crossed_16
  · have hg := Go_f c11 hg
    refine lv_iload_n hx hb dX10_crossed_9 rfl (lv_at hl 1 rfl) ?_
    refine lv_iload_n hx hb dX10_crossed_10 rfl (lv_at hl 2 rfl) ?_
    obtain ⟨b2, hg⟩ := Go_n hg
    obtain ⟨b3, hg⟩ := Go_n hg
    refine zv_icmp_ne (tgt := 17) hx hb dX10_crossed_11 (by decide) b2 b3 (fun c10 => ?_) (fun c10 => ?_)
    · have hg := Go_f c10 hg
      refine lv_aload_n hx hb dX10_crossed_17 rfl (lv_at hl 0 rfl) ?_
      refine va_get (D := D) (ci := 10) (v := .ref (t 9)) (C := RX10) (T := TX10) (N := 13) hx hb hts zi_X10_crossed_X10 hown hK hP 0 rfl rfl 4 (by decide) (hts (.fieldLink RX10 40 "DiamondRows" "crossedLines" "LDiamondRows$CrossedLines;") zl_X10_crossed_40) (fun _ h9 => h9) rfl dX10_crossed_18 ?_
      refine lv_aload_n hx hb dX10_crossed_21 rfl (lv_at hl 0 rfl) ?_
      obtain ⟨m4, hg⟩ := Go_n hg
      refine va_get (D := D) (ci := 10) (v := .ref (ad t_polygon 0)) (C := RX10) (T := TX10) (N := 13) hx hb hts zi_X10_crossed_X10 hown hK hP 0 rfl rfl 10 (by decide) (hts (.fieldLink RX10 84 "DiamondRows" "polygon" "LDiamondRows$Polygon;") zl_X10_crossed_84) (fun _ h9 => h9) (zpg_ok m4) dX10_crossed_22 ?_
      refine lv_aload_n hx hb dX10_crossed_25 rfl (lv_at hl 0 rfl) ?_
      refine va_get (D := D) (ci := 10) (v := .int (zi t_bits)) (C := RX10) (T := TX10) (N := 13) hx hb hts zi_X10_crossed_X10 hown hK hP 0 rfl rfl 11 (by decide) (hts (.fieldLink RX10 94 "DiamondRows" "bits" "I") zl_X10_crossed_94) (fun _ h9 => h9) rfl dX10_crossed_26 ?_
      refine lv_iload_n hx hb dX10_crossed_29 rfl (lv_at hl 1 rfl) ?_
      refine lv_iload_n hx hb dX10_crossed_30 rfl (lv_at hl 2 rfl) ?_
      obtain ⟨o5, ho5, hg⟩ := Go_b hg
      refine zj_v (wr := [((t 0), .inr (10, [.ref (t 1), .ref (t 3), .ref (t 5), .ref (t 6), .ref (t 9), .ref (t 11), .ref (t 15), .ref (t 17), .ref (t 27), .ref (t 30), zpg ad t_polygon, .int (zi t_bits), .int (zi t_mendedNumber)]))]) (ws1 := [((t 0), .inr (10, [.ref (t 1), .ref (t 3), .ref (t 5), .ref (t 6), .ref (t 9), .ref (t 11), .ref (t 15), .ref (t 17), .ref (t 27), .ref (t 30), zpg ad t_polygon, .int (zi t_bits), .int (zi t_mendedNumber)])), ((t 9), .inr (0, [.ref (t 10), .int (zi (o5.1))])), ((t 10), .inl (κ 1, 27, .inl (zc (o5.2))))]) (va_runV (rest := []) ⟨hx, hb, hml, hown, hts⟩ (zc_X0_gather l D κ (fun i => t (i + 9)) mk ad H.size crossedLines_size crossedLines_lines t_polygon t_bits i1 i2 o5 ho5) (cwV 4 hts gX10_crossed_X0_gather rfl rfl rfl hv_X0_gather ⟨Nat.le_of_ble_eq_true rfl, Nat.le_of_ble_eq_true rfl⟩) (zpreWVa hK (hP.sub [1, 2] rfl) (hD.sub [1, 2] (by decide) rfl) (zamb hB hBA hS) (zapt hBA hS (va_free hD hS hA [1, 2] rfl)) 0 0 rfl rfl) rfl rfl hl.1 rfl (lv_room (Nat.le_of_ble_eq_true rfl)) dX10_crossed_31 ⟨Nat.zero_le _, Nat.zero_le _⟩) hP hD hS hA [1, 2] [0] [0, 1, 2] rfl rfl (by decide) (by decide) rfl rfl (by decide) (fun H locs hP hD hS => ?_)
      refine lv_iload_n hx hb dX10_crossed_34 rfl (lv_at hl 3 rfl) ?_
      refine zv_iconst hx hb dX10_crossed_35 ?_
      obtain ⟨b6, hg⟩ := Go_n hg
      refine zv_icmp_ne (tgt := 49) hx hb dX10_crossed_36 (by decide) b6 (by decide) (fun c9 => ?_) (fun c9 => ?_)
      · have hg := Go_f c9 hg
        refine lv_aload_n hx hb dX10_crossed_49 rfl (lv_at hl 0 rfl) ?_
        refine va_get (D := D) (ci := 10) (v := .ref (t 9)) (C := RX10) (T := TX10) (N := 13) hx hb hts zi_X10_crossed_X10 hown hK hP 0 rfl rfl 4 (by decide) (hts (.fieldLink RX10 40 "DiamondRows" "crossedLines" "LDiamondRows$CrossedLines;") zl_X10_crossed_40) (fun _ h9 => h9) rfl dX10_crossed_50 ?_
        refine lv_aload_n hx hb dX10_crossed_53 rfl (lv_at hl 0 rfl) ?_
        refine va_get (D := D) (ci := 10) (v := .ref (ad t_polygon 0)) (C := RX10) (T := TX10) (N := 13) hx hb hts zi_X10_crossed_X10 hown hK hP 0 rfl rfl 10 (by decide) (hts (.fieldLink RX10 84 "DiamondRows" "polygon" "LDiamondRows$Polygon;") zl_X10_crossed_84) (fun _ h9 => h9) (zpg_ok m4) dX10_crossed_54 ?_
        refine lv_iload_n hx hb dX10_crossed_57 rfl (lv_at hl 3 rfl) ?_
        obtain ⟨o7, ho7, hg⟩ := Go_b hg
        refine zc_vi (rest := []) ⟨hx, hb, hml, hown, hts⟩ (zc_X0_pairAt l D κ (fun i => t (i + 9)) mk ad (o5.1) (o5.2) t_polygon i3 o7 ho7) (cwV 2 hts gX10_crossed_X0_pairAt rfl rfl rfl hv_X0_pairAt ⟨Nat.le_of_ble_eq_true rfl, Nat.le_of_ble_eq_true rfl⟩) (zpreVa hK (hP.sub [1, 2] rfl) (zamb hB hBA hS) 0 0 rfl rfl) rfl hl.1 rfl (Nat.le_of_ble_eq_true rfl) dX10_crossed_58 ⟨Nat.zero_le _, Nat.zero_le _⟩ ?_
        exact (Go_s hg) _ _ _ _ hP hD hS dX10_crossed_61
      · have hg := Go_t c9 hg
        refine lv_aload_n hx hb dX10_crossed_39 rfl (lv_at hl 0 rfl) ?_
        refine va_get (D := D) (ci := 10) (v := .ref (t 9)) (C := RX10) (T := TX10) (N := 13) hx hb hts zi_X10_crossed_X10 hown hK hP 0 rfl rfl 4 (by decide) (hts (.fieldLink RX10 40 "DiamondRows" "crossedLines" "LDiamondRows$CrossedLines;") zl_X10_crossed_40) (fun _ h9 => h9) rfl dX10_crossed_40 ?_
        obtain ⟨o8, ho8, hg⟩ := Go_b hg
        refine zc_vi (rest := []) ⟨hx, hb, hml, hown, hts⟩ (zc_X0_size l D κ (fun i => t (i + 9)) (o5.1) (o5.2) o8 ho8) (cwV 0 hts gX10_crossed_X0_size rfl rfl rfl hv_X0_size ⟨Nat.le_of_ble_eq_true rfl, Nat.le_of_ble_eq_true rfl⟩) (zpreV hK (hP.sub [1, 2] rfl) 0 0 rfl rfl) rfl hl.1 rfl (Nat.le_of_ble_eq_true rfl) dX10_crossed_43 ⟨Nat.zero_le _, Nat.zero_le _⟩ ?_
        refine lv_goto (tgt := 61) hx hb dX10_crossed_46 (by decide) ?_
        exact (Go_s hg) _ _ _ _ hP hD hS dX10_crossed_61
    · have hg := Go_t c10 hg
      refine zv_bipush hx hb dX10_crossed_14 (by decide) ?_
      exact (Go_s hg) _ _ _ _ hP hD hS dX10_crossed_16
set_option maxHeartbeats 4000000 in
set_option maxRecDepth 100000 in
theorem zc_X10_crossed (l : Launch) (D : va_G) (κ : Nat → ClassId) (t : Nat → Nat) (mk : Nat) (ad : Nat → Nat → Nat) (sz : Nat) (t_polygon : Nat) (t_bits : Int) (t_mendedNumber : Int) (crossedLines_size : Int) (crossedLines_lines : Nat) (i1 : Int) (i2 : Int) (i3 : Int) (out : Int × Int × Nat) (h : zf_X10_crossed mk t_polygon t_bits crossedLines_size crossedLines_lines i1 i2 i3 = some out) : Met l yX10_crossed wsX10_crossed zr_X10_crossed (va_Pc [.ref (t 0), .int (zi i1), .int (zi i2), .int (zi i3)] (zWa D κ mk ad ([((t 0), .inr (10, [.ref (t 1), .ref (t 3), .ref (t 5), .ref (t 6), .ref (t 9), .ref (t 11), .ref (t 15), .ref (t 17), .ref (t 27), .ref (t 30), zpg ad t_polygon, .int (zi t_bits), .int (zi t_mendedNumber)])), ((t 9), .inr (0, [.ref (t 10), .int (zi crossedLines_size)])), ((t 10), .inl (κ 1, 27, .inl (zc crossedLines_lines)))]) sz)) (va_Qi (fun r (_ : Unit) => r = zi (out.1)) (fun _ => zB D κ (va_A ([((t 0), .inr (10, [.ref (t 1), .ref (t 3), .ref (t 5), .ref (t 6), .ref (t 9), .ref (t 11), .ref (t 15), .ref (t 17), .ref (t 27), .ref (t 30), zpg ad t_polygon, .int (zi t_bits), .int (zi t_mendedNumber)])), ((t 9), .inr (0, [.ref (t 10), .int (zi crossedLines_size)])), ((t 10), .inl (κ 1, 27, .inl (zc crossedLines_lines)))]) sz) ([((t 0), .inr (10, [.ref (t 1), .ref (t 3), .ref (t 5), .ref (t 6), .ref (t 9), .ref (t 11), .ref (t 15), .ref (t 17), .ref (t 27), .ref (t 30), zpg ad t_polygon, .int (zi t_bits), .int (zi t_mendedNumber)])), ((t 9), .inr (0, [.ref (t 10), .int (zi (out.2.1))])), ((t 10), .inl (κ 1, 27, .inl (zc (out.2.2))))])) (va_A ([((t 0), .inr (10, [.ref (t 1), .ref (t 3), .ref (t 5), .ref (t 6), .ref (t 9), .ref (t 11), .ref (t 15), .ref (t 17), .ref (t 27), .ref (t 30), zpg ad t_polygon, .int (zi t_bits), .int (zi t_mendedNumber)])), ((t 9), .inr (0, [.ref (t 10), .int (zi crossedLines_size)])), ((t 10), .inl (κ 1, 27, .inl (zc crossedLines_lines)))]) sz)) 0 0 (va_A ([((t 0), .inr (10, [.ref (t 1), .ref (t 3), .ref (t 5), .ref (t 6), .ref (t 9), .ref (t 11), .ref (t 15), .ref (t 17), .ref (t 27), .ref (t 30), zpg ad t_polygon, .int (zi t_bits), .int (zi t_mendedNumber)])), ((t 9), .inr (0, [.ref (t 10), .int (zi crossedLines_size)])), ((t 10), .inl (κ 1, 27, .inl (zc crossedLines_lines)))]) sz) := by
  refine Met.ofW (cc := cX10_crossed) (maxL := 4) (ret := (some .int)) (by decide +kernel) rfl ?_
  intro p e s m args below meth c s₁ B hml hv
  obtain ⟨rfl, hsz, hP, hK, hD0, hB, hBA⟩ := hv
  have hx := B.exec
  have hb := B.bytes
  have hr := B.returns
  have hts := atoms_spec (ws := wsX10_crossed) B.pre
  have hown : s.vm.findClass RX10 = some m.cls := findClass_of_methodNamed B.named
  have hlocks := B.notSynchronized
  subst hsz
  have hD := hD0.self (sz := s.heap.size)
  generalize hAe : va_A ([((t 0), .inr (10, [.ref (t 1), .ref (t 3), .ref (t 5), .ref (t 6), .ref (t 9), .ref (t 11), .ref (t 15), .ref (t 17), .ref (t 27), .ref (t 30), zpg ad t_polygon, .int (zi t_bits), .int (zi t_mendedNumber)])), ((t 9), .inr (0, [.ref (t 10), .int (zi crossedLines_size)])), ((t 10), .inl (κ 1, 27, .inl (zc crossedLines_lines)))]) s.heap.size = A at hD hBA ⊢
  have hA : ∀ q : Nat, s.heap.size ≤ q → A q := fun q h => by rw [← hAe]; exact Or.inr h
  have hS : va_S A s.heap s.heap [] := va_S.rf
  have hl := lv_entry ([.ref (t 0), .int (zi i1), .int (zi i2), .int (zi i3)]) (n := 4) (Nat.le_of_ble_eq_true rfl)
  rw [lg_entry_eq]
  generalize (lg_sl ([.ref (t 0), .int (zi i1), .int (zi i2), .int (zi i3)]) ++ List.replicate (4 - (lg_sl ([.ref (t 0), .int (zi i1), .int (zi i2), .int (zi i3)])).length) Slot.unset).toArray = ls at hl ⊢
  have hl : lv_has ls 4 [(0, .ref (t 0)), (1, .int (zi i1)), (2, .int (zi i2)), (3, .int (zi i3))] := hl
  refine zs_X10_crossed t mk ad t_polygon t_bits t_mendedNumber crossedLines_size crossedLines_lines i1 i2 i3 hx hb hml hown hts hK hA hB hBA s.heap [] ls hP hD hS hl ⟨out, h, ?_⟩
  exact fun H locs ls pc hP hD hS hd => W.iret hx hb hr (fun t ht hW => ⟨⟨_, (), rfl, rfl, by rw [ht]; exact hP, va_K.moved hW.alike hK, hD⟩, hS.F ht⟩) hS.2.2 hd
/-! DiamondRows.side(III)I -/
abbrev zr_X10_side : Room := { frames := 4, cells := 0, slots := 0, locals := 93 }
noncomputable def zf_X10_side (mk : Nat) (t_polygon : Nat) (t_bits : Int) (crossedLines_size : Int) (crossedLines_lines : Nat) (i1 : Int) (i2 : Int) (i3 : Int) : Option (Int × Int × Nat) :=
  Option.bind (zf_X10_areCorners mk t_polygon i1 i2) (fun o1 =>
  if o1 = false then
  some ((-2 : Int), crossedLines_size, crossedLines_lines)
  else
  if zout i1 then none else
  if zout i2 then none else
  if i1 = i2 then
  some ((-2 : Int), crossedLines_size, crossedLines_lines)
  else
  if zno mk t_polygon then none else
  Option.bind (zf_X0_gather mk crossedLines_size crossedLines_lines t_polygon t_bits i1 i2) (fun o5 =>
  Option.bind (zf_X0_sharedWithNext mk (o5.1) (o5.2) t_polygon i3) (fun o6 =>
  if zout o6 then none else
  if o6 = (-1 : Int) then
  some ((-1 : Int), (o5.1), (o5.2))
  else
  Option.bind (zf_X5_ahead t_polygon i1 o6) (fun o8 =>
  Option.bind (zf_X5_ahead t_polygon i1 i2) (fun o9 =>
  if zout o8 then none else
  if zout o9 then none else
  if o9 ≤ o8 then
  some ((1 : Int), (o5.1), (o5.2))
  else
  some ((0 : Int), (o5.1), (o5.2)))))))
theorem zi_X10_side_X10 : ∀ w ∈ u_ws RX10 TX10 13, w ∈ wsX10_side := fun w h => (List.mem_cons_of_mem _ (List.mem_append_right _ (List.mem_append_left _ h)))
theorem zl_X10_side_40 : Cond.fieldLink RX10 40 "DiamondRows" "crossedLines" "LDiamondRows$CrossedLines;" ∈ wsX10_side := (List.mem_cons_of_mem _ (List.mem_append_left _ (List.mem_of_getElem? (i := 0) rfl)))
theorem zl_X10_side_84 : Cond.fieldLink RX10 84 "DiamondRows" "polygon" "LDiamondRows$Polygon;" ∈ wsX10_side := (List.mem_cons_of_mem _ (List.mem_append_left _ (List.mem_of_getElem? (i := 1) rfl)))
theorem zl_X10_side_94 : Cond.fieldLink RX10 94 "DiamondRows" "bits" "I" ∈ wsX10_side := (List.mem_cons_of_mem _ (List.mem_append_left _ (List.mem_of_getElem? (i := 2) rfl)))
def zQ_X10_side (p : Program) (l : Launch) (e : Env) (s : State) (m : MethodId) (args : Array Value) (below : List Frame) (meth : Method) (c : Code) (Q : State → Prop) (D : va_G) (κ : Nat → ClassId) (A : Nat → Prop) (H0 : Heap) (t : Nat → Nat) (mk : Nat) (ad : Nat → Nat → Nat) (t_polygon : Nat) (t_bits : Int) (t_mendedNumber : Int) (o : Int × Int × Nat) : Prop := ∀ (H : Heap) (locs : List Loc) (ls : Array Slot) (pc : Nat), va_P D vwCl ([((t 0), .inr (10, [.ref (t 1), .ref (t 3), .ref (t 5), .ref (t 6), .ref (t 9), .ref (t 11), .ref (t 15), .ref (t 17), .ref (t 27), .ref (t 30), zpg ad t_polygon, .int (zi t_bits), .int (zi t_mendedNumber)])), ((t 9), .inr (0, [.ref (t 10), .int (zi (o.2.1))])), ((t 10), .inl (κ 1, 27, .inl (zc (o.2.2))))]) H → va_D A ([((t 0), .inr (10, [.ref (t 1), .ref (t 3), .ref (t 5), .ref (t 6), .ref (t 9), .ref (t 11), .ref (t 15), .ref (t 17), .ref (t 27), .ref (t 30), zpg ad t_polygon, .int (zi t_bits), .int (zi t_mendedNumber)])), ((t 9), .inr (0, [.ref (t 10), .int (zi (o.2.1))])), ((t 10), .inl (κ 1, 27, .inl (zc (o.2.2))))]) → va_S A H0 H locs → decode cX10_side pc = .ok (.ireturn, 1) → W p l e zr_X10_side s m args below meth c H locs 0 0 Q (F0 m pc ls [.int (zi (o.1))])
set_option maxHeartbeats 4000000 in
set_option maxRecDepth 100000 in
theorem zs_X10_side {p : Program} {l : Launch} {e : Env} {s : State} {m : MethodId} {args : Array Value} {below : List Frame} {meth : Method} {c : Code} {Q : State → Prop} {D : va_G} {κ : Nat → ClassId} {A : Nat → Prop} {H0 : Heap} (t : Nat → Nat) (mk : Nat) (ad : Nat → Nat → Nat) (t_polygon : Nat) (t_bits : Int) (t_mendedNumber : Int) (crossedLines_size : Int) (crossedLines_lines : Nat) (i1 : Int) (i2 : Int) (i3 : Int) (hx : p.tables.exec = Jvm.exec) (hb : c.code = cX10_side) (hml : c.maxLocals = 5) (hown : s.vm.findClass RX10 = some m.cls) (hts : ∀ w ∈ wsX10_side, w.before args s = true) (hK : va_K D vwCl (zTY κ) s) (hA : ∀ q : Nat, H0.size ≤ q → A q) (hB : zAmb D κ mk ad H0) (hBA : zApt mk ad A H0.size) (H : Heap) (locs : List Loc) (ls : Array Slot) (hP : va_P D vwCl ([((t 0), .inr (10, [.ref (t 1), .ref (t 3), .ref (t 5), .ref (t 6), .ref (t 9), .ref (t 11), .ref (t 15), .ref (t 17), .ref (t 27), .ref (t 30), zpg ad t_polygon, .int (zi t_bits), .int (zi t_mendedNumber)])), ((t 9), .inr (0, [.ref (t 10), .int (zi crossedLines_size)])), ((t 10), .inl (κ 1, 27, .inl (zc crossedLines_lines)))]) H) (hD : va_D A ([((t 0), .inr (10, [.ref (t 1), .ref (t 3), .ref (t 5), .ref (t 6), .ref (t 9), .ref (t 11), .ref (t 15), .ref (t 17), .ref (t 27), .ref (t 30), zpg ad t_polygon, .int (zi t_bits), .int (zi t_mendedNumber)])), ((t 9), .inr (0, [.ref (t 10), .int (zi crossedLines_size)])), ((t 10), .inl (κ 1, 27, .inl (zc crossedLines_lines)))])) (hS : va_S A H0 H locs) (hl : lv_has ls 5 [(0, .ref (t 0)), (1, .int (zi i1)), (2, .int (zi i2)), (3, .int (zi i3))]) (hg : Go (zQ_X10_side p l e s m args below meth c Q D κ A H0 t mk ad t_polygon t_bits t_mendedNumber) (zf_X10_side mk t_polygon t_bits crossedLines_size crossedLines_lines i1 i2 i3)) : W p l e zr_X10_side s m args below meth c H locs 0 0 Q (F0 m 0 ls []) := by
  unfold zf_X10_side at hg
  refine lv_aload_n hx hb dX10_side_0 rfl (lv_at hl 0 rfl) ?_
  refine lv_iload_n hx hb dX10_side_1 rfl (lv_at hl 1 rfl) ?_
  refine lv_iload_n hx hb dX10_side_2 rfl (lv_at hl 2 rfl) ?_
  obtain ⟨o1, ho1, hg⟩ := Go_b hg
  refine zc_vi (rest := []) ⟨hx, hb, hml, hown, hts⟩ (zc_X10_areCorners l D κ t mk ad t_polygon t_bits t_mendedNumber i1 i2 o1 ho1) (cwV 2 hts gX10_side_X10_areCorners rfl rfl rfl hv_X10_areCorners ⟨Nat.le_of_ble_eq_true rfl, Nat.le_of_ble_eq_true rfl⟩) (zpreVa hK (hP.sub [0] rfl) (zamb hB hBA hS) 10 0 rfl rfl) rfl hl.1 rfl (Nat.le_of_ble_eq_true rfl) dX10_side_3 ⟨Nat.zero_le _, Nat.zero_le _⟩ ?_
  refine zv_ifb_eq (tgt := 14) hx hb dX10_side_6 (by decide) (fun c15 => ?_) (fun c15 => ?_)
  · have hg := Go_t c15 hg
    refine zv_bipush hx hb dX10_side_14 (by decide) ?_
    exact (Go_s hg) _ _ _ _ hP hD hS dX10_side_16
  · have hg := Go_f c15 hg
    refine lv_iload_n hx hb dX10_side_9 rfl (lv_at hl 1 rfl) ?_
    refine lv_iload_n hx hb dX10_side_10 rfl (lv_at hl 2 rfl) ?_
    obtain ⟨b2, hg⟩ := Go_n hg
    obtain ⟨b3, hg⟩ := Go_n hg
    refine zv_icmp_ne (tgt := 17) hx hb dX10_side_11 (by decide) b2 b3 (fun c14 => ?_) (fun c14 => ?_)
    · have hg := Go_f c14 hg
      refine lv_aload_n hx hb dX10_side_17 rfl (lv_at hl 0 rfl) ?_
      refine va_get (D := D) (ci := 10) (v := .ref (t 9)) (C := RX10) (T := TX10) (N := 13) hx hb hts zi_X10_side_X10 hown hK hP 0 rfl rfl 4 (by decide) (hts (.fieldLink RX10 40 "DiamondRows" "crossedLines" "LDiamondRows$CrossedLines;") zl_X10_side_40) (fun _ h9 => h9) rfl dX10_side_18 ?_
      refine lv_aload_n hx hb dX10_side_21 rfl (lv_at hl 0 rfl) ?_
      obtain ⟨m4, hg⟩ := Go_n hg
      refine va_get (D := D) (ci := 10) (v := .ref (ad t_polygon 0)) (C := RX10) (T := TX10) (N := 13) hx hb hts zi_X10_side_X10 hown hK hP 0 rfl rfl 10 (by decide) (hts (.fieldLink RX10 84 "DiamondRows" "polygon" "LDiamondRows$Polygon;") zl_X10_side_84) (fun _ h9 => h9) (zpg_ok m4) dX10_side_22 ?_
      refine lv_aload_n hx hb dX10_side_25 rfl (lv_at hl 0 rfl) ?_
      refine va_get (D := D) (ci := 10) (v := .int (zi t_bits)) (C := RX10) (T := TX10) (N := 13) hx hb hts zi_X10_side_X10 hown hK hP 0 rfl rfl 11 (by decide) (hts (.fieldLink RX10 94 "DiamondRows" "bits" "I") zl_X10_side_94) (fun _ h9 => h9) rfl dX10_side_26 ?_
      refine lv_iload_n hx hb dX10_side_29 rfl (lv_at hl 1 rfl) ?_
      refine lv_iload_n hx hb dX10_side_30 rfl (lv_at hl 2 rfl) ?_
      obtain ⟨o5, ho5, hg⟩ := Go_b hg
      refine zj_v (wr := [((t 0), .inr (10, [.ref (t 1), .ref (t 3), .ref (t 5), .ref (t 6), .ref (t 9), .ref (t 11), .ref (t 15), .ref (t 17), .ref (t 27), .ref (t 30), zpg ad t_polygon, .int (zi t_bits), .int (zi t_mendedNumber)]))]) (ws1 := [((t 0), .inr (10, [.ref (t 1), .ref (t 3), .ref (t 5), .ref (t 6), .ref (t 9), .ref (t 11), .ref (t 15), .ref (t 17), .ref (t 27), .ref (t 30), zpg ad t_polygon, .int (zi t_bits), .int (zi t_mendedNumber)])), ((t 9), .inr (0, [.ref (t 10), .int (zi (o5.1))])), ((t 10), .inl (κ 1, 27, .inl (zc (o5.2))))]) (va_runV (rest := []) ⟨hx, hb, hml, hown, hts⟩ (zc_X0_gather l D κ (fun i => t (i + 9)) mk ad H.size crossedLines_size crossedLines_lines t_polygon t_bits i1 i2 o5 ho5) (cwV 4 hts gX10_side_X0_gather rfl rfl rfl hv_X0_gather ⟨Nat.le_of_ble_eq_true rfl, Nat.le_of_ble_eq_true rfl⟩) (zpreWVa hK (hP.sub [1, 2] rfl) (hD.sub [1, 2] (by decide) rfl) (zamb hB hBA hS) (zapt hBA hS (va_free hD hS hA [1, 2] rfl)) 0 0 rfl rfl) rfl rfl hl.1 rfl (lv_room (Nat.le_of_ble_eq_true rfl)) dX10_side_31 ⟨Nat.zero_le _, Nat.zero_le _⟩) hP hD hS hA [1, 2] [0] [0, 1, 2] rfl rfl (by decide) (by decide) rfl rfl (by decide) (fun H locs hP hD hS => ?_)
      refine lv_aload_n hx hb dX10_side_34 rfl (lv_at hl 0 rfl) ?_
      refine va_get (D := D) (ci := 10) (v := .ref (t 9)) (C := RX10) (T := TX10) (N := 13) hx hb hts zi_X10_side_X10 hown hK hP 0 rfl rfl 4 (by decide) (hts (.fieldLink RX10 40 "DiamondRows" "crossedLines" "LDiamondRows$CrossedLines;") zl_X10_side_40) (fun _ h9 => h9) rfl dX10_side_35 ?_
      refine lv_aload_n hx hb dX10_side_38 rfl (lv_at hl 0 rfl) ?_
      refine va_get (D := D) (ci := 10) (v := .ref (ad t_polygon 0)) (C := RX10) (T := TX10) (N := 13) hx hb hts zi_X10_side_X10 hown hK hP 0 rfl rfl 10 (by decide) (hts (.fieldLink RX10 84 "DiamondRows" "polygon" "LDiamondRows$Polygon;") zl_X10_side_84) (fun _ h9 => h9) (zpg_ok m4) dX10_side_39 ?_
      refine lv_iload_n hx hb dX10_side_42 rfl (lv_at hl 3 rfl) ?_
      obtain ⟨o6, ho6, hg⟩ := Go_b hg
      refine zc_vi (rest := []) ⟨hx, hb, hml, hown, hts⟩ (zc_X0_sharedWithNext l D κ (fun i => t (i + 9)) mk ad (o5.1) (o5.2) t_polygon i3 o6 ho6) (cwV 2 hts gX10_side_X0_sharedWithNext rfl rfl rfl hv_X0_sharedWithNext ⟨Nat.le_of_ble_eq_true rfl, Nat.le_of_ble_eq_true rfl⟩) (zpreVa hK (hP.sub [1, 2] rfl) (zamb hB hBA hS) 0 0 rfl rfl) rfl hl.1 rfl (Nat.le_of_ble_eq_true rfl) dX10_side_43 ⟨Nat.zero_le _, Nat.zero_le _⟩ ?_
      refine lv_istore (lv' := [(4, .int (zi o6)), (0, .ref (t 0)), (1, .int (zi i1)), (2, .int (zi i2)), (3, .int (zi i3))]) hx hb dX10_side_46 hl (by decide) rfl (fun ls hl => ?_)
      refine lv_iload hx hb dX10_side_48 (lv_at hl 0 rfl) ?_
      refine zv_iconst hx hb dX10_side_50 ?_
      obtain ⟨b7, hg⟩ := Go_n hg
      refine zv_icmp_ne (tgt := 56) hx hb dX10_side_51 (by decide) b7 (by decide) (fun c13 => ?_) (fun c13 => ?_)
      · have hg := Go_f c13 hg
        refine lv_aload_n hx hb dX10_side_56 rfl (lv_at hl 1 rfl) ?_
        refine va_get (D := D) (ci := 10) (v := .ref (ad t_polygon 0)) (C := RX10) (T := TX10) (N := 13) hx hb hts zi_X10_side_X10 hown hK hP 0 rfl rfl 10 (by decide) (hts (.fieldLink RX10 84 "DiamondRows" "polygon" "LDiamondRows$Polygon;") zl_X10_side_84) (fun _ h9 => h9) (zpg_ok m4) dX10_side_57 ?_
        refine lv_iload_n hx hb dX10_side_60 rfl (lv_at hl 2 rfl) ?_
        refine lv_iload hx hb dX10_side_61 (lv_at hl 0 rfl) ?_
        obtain ⟨o8, ho8, hg⟩ := Go_b hg
        refine zc_vi (rest := []) ⟨hx, hb, hml, hown, hts⟩ (zc_X5_ahead l D κ (ad t_polygon) t_polygon i1 o6 o8 ho8) (cwV 2 hts gX10_side_X5_ahead rfl rfl rfl hv_X5_ahead ⟨Nat.le_of_ble_eq_true rfl, Nat.le_of_ble_eq_true rfl⟩) (zpreV hK ((zamb hB hBA hS) t_polygon m4) 5 0 rfl rfl) rfl hl.1 rfl (Nat.le_of_ble_eq_true rfl) dX10_side_63 ⟨Nat.zero_le _, Nat.zero_le _⟩ ?_
        refine lv_aload_n hx hb dX10_side_66 rfl (lv_at hl 1 rfl) ?_
        refine va_get (D := D) (ci := 10) (v := .ref (ad t_polygon 0)) (C := RX10) (T := TX10) (N := 13) hx hb hts zi_X10_side_X10 hown hK hP 0 rfl rfl 10 (by decide) (hts (.fieldLink RX10 84 "DiamondRows" "polygon" "LDiamondRows$Polygon;") zl_X10_side_84) (fun _ h9 => h9) (zpg_ok m4) dX10_side_67 ?_
        refine lv_iload_n hx hb dX10_side_70 rfl (lv_at hl 2 rfl) ?_
        refine lv_iload_n hx hb dX10_side_71 rfl (lv_at hl 3 rfl) ?_
        obtain ⟨o9, ho9, hg⟩ := Go_b hg
        refine zc_vi (rest := [.int (zi o8)]) ⟨hx, hb, hml, hown, hts⟩ (zc_X5_ahead l D κ (ad t_polygon) t_polygon i1 i2 o9 ho9) (cwV 2 hts gX10_side_X5_ahead rfl rfl rfl hv_X5_ahead ⟨Nat.le_of_ble_eq_true rfl, Nat.le_of_ble_eq_true rfl⟩) (zpreV hK ((zamb hB hBA hS) t_polygon m4) 5 0 rfl rfl) rfl hl.1 rfl (Nat.le_of_ble_eq_true rfl) dX10_side_72 ⟨Nat.zero_le _, Nat.zero_le _⟩ ?_
        obtain ⟨b10, hg⟩ := Go_n hg
        obtain ⟨b11, hg⟩ := Go_n hg
        refine zv_icmp_ge (tgt := 82) hx hb dX10_side_75 (by decide) b10 b11 (fun c12 => ?_) (fun c12 => ?_)
        · have hg := Go_t c12 hg
          refine zv_iconst hx hb dX10_side_82 ?_
          exact (Go_s hg) _ _ _ _ hP hD hS dX10_side_83
        · have hg := Go_f c12 hg
          refine zv_iconst hx hb dX10_side_78 ?_
          refine lv_goto (tgt := 83) hx hb dX10_side_79 (by decide) ?_
          exact (Go_s hg) _ _ _ _ hP hD hS dX10_side_83
      · have hg := Go_t c13 hg
        refine zv_iconst hx hb dX10_side_54 ?_
        exact (Go_s hg) _ _ _ _ hP hD hS dX10_side_55
    · have hg := Go_t c14 hg
      refine zv_bipush hx hb dX10_side_14 (by decide) ?_
      exact (Go_s hg) _ _ _ _ hP hD hS dX10_side_16
set_option maxHeartbeats 4000000 in
set_option maxRecDepth 100000 in
theorem zc_X10_side (l : Launch) (D : va_G) (κ : Nat → ClassId) (t : Nat → Nat) (mk : Nat) (ad : Nat → Nat → Nat) (sz : Nat) (t_polygon : Nat) (t_bits : Int) (t_mendedNumber : Int) (crossedLines_size : Int) (crossedLines_lines : Nat) (i1 : Int) (i2 : Int) (i3 : Int) (out : Int × Int × Nat) (h : zf_X10_side mk t_polygon t_bits crossedLines_size crossedLines_lines i1 i2 i3 = some out) : Met l yX10_side wsX10_side zr_X10_side (va_Pc [.ref (t 0), .int (zi i1), .int (zi i2), .int (zi i3)] (zWa D κ mk ad ([((t 0), .inr (10, [.ref (t 1), .ref (t 3), .ref (t 5), .ref (t 6), .ref (t 9), .ref (t 11), .ref (t 15), .ref (t 17), .ref (t 27), .ref (t 30), zpg ad t_polygon, .int (zi t_bits), .int (zi t_mendedNumber)])), ((t 9), .inr (0, [.ref (t 10), .int (zi crossedLines_size)])), ((t 10), .inl (κ 1, 27, .inl (zc crossedLines_lines)))]) sz)) (va_Qi (fun r (_ : Unit) => r = zi (out.1)) (fun _ => zB D κ (va_A ([((t 0), .inr (10, [.ref (t 1), .ref (t 3), .ref (t 5), .ref (t 6), .ref (t 9), .ref (t 11), .ref (t 15), .ref (t 17), .ref (t 27), .ref (t 30), zpg ad t_polygon, .int (zi t_bits), .int (zi t_mendedNumber)])), ((t 9), .inr (0, [.ref (t 10), .int (zi crossedLines_size)])), ((t 10), .inl (κ 1, 27, .inl (zc crossedLines_lines)))]) sz) ([((t 0), .inr (10, [.ref (t 1), .ref (t 3), .ref (t 5), .ref (t 6), .ref (t 9), .ref (t 11), .ref (t 15), .ref (t 17), .ref (t 27), .ref (t 30), zpg ad t_polygon, .int (zi t_bits), .int (zi t_mendedNumber)])), ((t 9), .inr (0, [.ref (t 10), .int (zi (out.2.1))])), ((t 10), .inl (κ 1, 27, .inl (zc (out.2.2))))])) (va_A ([((t 0), .inr (10, [.ref (t 1), .ref (t 3), .ref (t 5), .ref (t 6), .ref (t 9), .ref (t 11), .ref (t 15), .ref (t 17), .ref (t 27), .ref (t 30), zpg ad t_polygon, .int (zi t_bits), .int (zi t_mendedNumber)])), ((t 9), .inr (0, [.ref (t 10), .int (zi crossedLines_size)])), ((t 10), .inl (κ 1, 27, .inl (zc crossedLines_lines)))]) sz)) 0 0 (va_A ([((t 0), .inr (10, [.ref (t 1), .ref (t 3), .ref (t 5), .ref (t 6), .ref (t 9), .ref (t 11), .ref (t 15), .ref (t 17), .ref (t 27), .ref (t 30), zpg ad t_polygon, .int (zi t_bits), .int (zi t_mendedNumber)])), ((t 9), .inr (0, [.ref (t 10), .int (zi crossedLines_size)])), ((t 10), .inl (κ 1, 27, .inl (zc crossedLines_lines)))]) sz) := by
  refine Met.ofW (cc := cX10_side) (maxL := 5) (ret := (some .int)) (by decide +kernel) rfl ?_
  intro p e s m args below meth c s₁ B hml hv
  obtain ⟨rfl, hsz, hP, hK, hD0, hB, hBA⟩ := hv
  have hx := B.exec
  have hb := B.bytes
  have hr := B.returns
  have hts := atoms_spec (ws := wsX10_side) B.pre
  have hown : s.vm.findClass RX10 = some m.cls := findClass_of_methodNamed B.named
  have hlocks := B.notSynchronized
  subst hsz
  have hD := hD0.self (sz := s.heap.size)
  generalize hAe : va_A ([((t 0), .inr (10, [.ref (t 1), .ref (t 3), .ref (t 5), .ref (t 6), .ref (t 9), .ref (t 11), .ref (t 15), .ref (t 17), .ref (t 27), .ref (t 30), zpg ad t_polygon, .int (zi t_bits), .int (zi t_mendedNumber)])), ((t 9), .inr (0, [.ref (t 10), .int (zi crossedLines_size)])), ((t 10), .inl (κ 1, 27, .inl (zc crossedLines_lines)))]) s.heap.size = A at hD hBA ⊢
  have hA : ∀ q : Nat, s.heap.size ≤ q → A q := fun q h => by rw [← hAe]; exact Or.inr h
  have hS : va_S A s.heap s.heap [] := va_S.rf
  have hl := lv_entry ([.ref (t 0), .int (zi i1), .int (zi i2), .int (zi i3)]) (n := 5) (Nat.le_of_ble_eq_true rfl)
  rw [lg_entry_eq]
  generalize (lg_sl ([.ref (t 0), .int (zi i1), .int (zi i2), .int (zi i3)]) ++ List.replicate (5 - (lg_sl ([.ref (t 0), .int (zi i1), .int (zi i2), .int (zi i3)])).length) Slot.unset).toArray = ls at hl ⊢
  have hl : lv_has ls 5 [(0, .ref (t 0)), (1, .int (zi i1)), (2, .int (zi i2)), (3, .int (zi i3))] := hl
  refine zs_X10_side t mk ad t_polygon t_bits t_mendedNumber crossedLines_size crossedLines_lines i1 i2 i3 hx hb hml hown hts hK hA hB hBA s.heap [] ls hP hD hS hl ⟨out, h, ?_⟩
  exact fun H locs ls pc hP hD hS hd => W.iret hx hb hr (fun t ht hW => ⟨⟨_, (), rfl, rfl, by rw [ht]; exact hP, va_K.moved hW.alike hK, hD⟩, hS.F ht⟩) hS.2.2 hd
/-! DiamondRows.spread(III)I -/
abbrev zr_X10_spread : Room := { frames := 4, cells := 0, slots := 0, locals := 95 }
noncomputable def zf_X10_spread (mk : Nat) (t_polygon : Nat) (i1 : Int) (i2 : Int) (i3 : Int) : Option (Int) :=
  Option.bind (zf_X10_areCorners mk t_polygon i1 i2) (fun o1 =>
  if o1 = false then
  some ((-2 : Int))
  else
  if zno mk t_polygon then none else
  Option.bind (zf_X5_countWith t_polygon i1 i2 i3) (fun o3 =>
  some (o3)))
theorem zi_X10_spread_X10 : ∀ w ∈ u_ws RX10 TX10 13, w ∈ wsX10_spread := fun w h => (List.mem_cons_of_mem _ (List.mem_append_right _ (List.mem_append_left _ h)))
theorem zl_X10_spread_84 : Cond.fieldLink RX10 84 "DiamondRows" "polygon" "LDiamondRows$Polygon;" ∈ wsX10_spread := (List.mem_cons_of_mem _ (List.mem_append_left _ (List.mem_of_getElem? (i := 0) rfl)))
def zQ_X10_spread (p : Program) (l : Launch) (e : Env) (s : State) (m : MethodId) (args : Array Value) (below : List Frame) (meth : Method) (c : Code) (Q : State → Prop) (H : Heap) (locs : List Loc)  (o : Int) : Prop := ∀ (ls : Array Slot) (pc : Nat), decode cX10_spread pc = .ok (.ireturn, 1) → W p l e zr_X10_spread s m args below meth c H locs 0 0 Q (F0 m pc ls [.int (zi o)])
set_option maxHeartbeats 4000000 in
set_option maxRecDepth 100000 in
theorem zs_X10_spread {p : Program} {l : Launch} {e : Env} {s : State} {m : MethodId} {args : Array Value} {below : List Frame} {meth : Method} {c : Code} {Q : State → Prop} {D : va_G} {κ : Nat → ClassId} {H : Heap} {locs : List Loc} (t : Nat → Nat) (mk : Nat) (ad : Nat → Nat → Nat) (t_polygon : Nat) (t_bits : Int) (t_mendedNumber : Int) (i1 : Int) (i2 : Int) (i3 : Int) (hx : p.tables.exec = Jvm.exec) (hb : c.code = cX10_spread) (hml : c.maxLocals = 4) (hown : s.vm.findClass RX10 = some m.cls) (hts : ∀ w ∈ wsX10_spread, w.before args s = true) (hK : va_K D vwCl (zTY κ) s) (hP : va_P D vwCl ([((t 0), .inr (10, [.ref (t 1), .ref (t 3), .ref (t 5), .ref (t 6), .ref (t 9), .ref (t 11), .ref (t 15), .ref (t 17), .ref (t 27), .ref (t 30), zpg ad t_polygon, .int (zi t_bits), .int (zi t_mendedNumber)]))]) H) (hB : zAmb D κ mk ad H) (ls : Array Slot) (hl : lv_has ls 4 [(0, .ref (t 0)), (1, .int (zi i1)), (2, .int (zi i2)), (3, .int (zi i3))]) (hg : Go (zQ_X10_spread p l e s m args below meth c Q H locs) (zf_X10_spread mk t_polygon i1 i2 i3)) : W p l e zr_X10_spread s m args below meth c H locs 0 0 Q (F0 m 0 ls []) := by
  unfold zf_X10_spread at hg
  refine lv_aload_n hx hb dX10_spread_0 rfl (lv_at hl 0 rfl) ?_
  refine lv_iload_n hx hb dX10_spread_1 rfl (lv_at hl 1 rfl) ?_
  refine lv_iload_n hx hb dX10_spread_2 rfl (lv_at hl 2 rfl) ?_
  obtain ⟨o1, ho1, hg⟩ := Go_b hg
  refine zc_vi (rest := []) ⟨hx, hb, hml, hown, hts⟩ (zc_X10_areCorners l D κ t mk ad t_polygon t_bits t_mendedNumber i1 i2 o1 ho1) (cwV 2 hts gX10_spread_X10_areCorners rfl rfl rfl hv_X10_areCorners ⟨Nat.le_of_ble_eq_true rfl, Nat.le_of_ble_eq_true rfl⟩) (zpreVa hK (hP.sub [0] rfl) hB 10 0 rfl rfl) rfl hl.1 rfl (Nat.le_of_ble_eq_true rfl) dX10_spread_3 ⟨Nat.zero_le _, Nat.zero_le _⟩ ?_
  refine zv_ifb_eq (tgt := 22) hx hb dX10_spread_6 (by decide) (fun c4 => ?_) (fun c4 => ?_)
  · have hg := Go_t c4 hg
    refine zv_bipush hx hb dX10_spread_22 (by decide) ?_
    exact (Go_s hg) _ _ dX10_spread_24
  · have hg := Go_f c4 hg
    refine lv_aload_n hx hb dX10_spread_9 rfl (lv_at hl 0 rfl) ?_
    obtain ⟨m2, hg⟩ := Go_n hg
    refine va_get (D := D) (ci := 10) (v := .ref (ad t_polygon 0)) (C := RX10) (T := TX10) (N := 13) hx hb hts zi_X10_spread_X10 hown hK hP 0 rfl rfl 10 (by decide) (hts (.fieldLink RX10 84 "DiamondRows" "polygon" "LDiamondRows$Polygon;") zl_X10_spread_84) (fun _ h9 => h9) (zpg_ok m2) dX10_spread_10 ?_
    refine lv_iload_n hx hb dX10_spread_13 rfl (lv_at hl 1 rfl) ?_
    refine lv_iload_n hx hb dX10_spread_14 rfl (lv_at hl 2 rfl) ?_
    refine lv_iload_n hx hb dX10_spread_15 rfl (lv_at hl 3 rfl) ?_
    obtain ⟨o3, ho3, hg⟩ := Go_b hg
    refine zc_vi (rest := []) ⟨hx, hb, hml, hown, hts⟩ (zc_X5_countWith l D κ (ad t_polygon) t_polygon i1 i2 i3 o3 ho3) (cwV 3 hts gX10_spread_X5_countWith rfl rfl rfl hv_X5_countWith ⟨Nat.le_of_ble_eq_true rfl, Nat.le_of_ble_eq_true rfl⟩) (zpreV hK (hB t_polygon m2) 5 0 rfl rfl) rfl hl.1 rfl (Nat.le_of_ble_eq_true rfl) dX10_spread_16 ⟨Nat.zero_le _, Nat.zero_le _⟩ ?_
    refine lv_goto (tgt := 24) hx hb dX10_spread_19 (by decide) ?_
    exact (Go_s hg) _ _ dX10_spread_24
set_option maxHeartbeats 4000000 in
set_option maxRecDepth 100000 in
theorem zc_X10_spread (l : Launch) (D : va_G) (κ : Nat → ClassId) (t : Nat → Nat) (mk : Nat) (ad : Nat → Nat → Nat) (t_polygon : Nat) (t_bits : Int) (t_mendedNumber : Int) (i1 : Int) (i2 : Int) (i3 : Int) (out : Int) (h : zf_X10_spread mk t_polygon i1 i2 i3 = some out) : Met l yX10_spread wsX10_spread zr_X10_spread (va_Pc [.ref (t 0), .int (zi i1), .int (zi i2), .int (zi i3)] (zRa D κ mk ad ([((t 0), .inr (10, [.ref (t 1), .ref (t 3), .ref (t 5), .ref (t 6), .ref (t 9), .ref (t 11), .ref (t 15), .ref (t 17), .ref (t 27), .ref (t 30), zpg ad t_polygon, .int (zi t_bits), .int (zi t_mendedNumber)]))]))) (vp_Si (fun x => x = zi out)) 0 0 (fun _ => False) := by
  refine Met.ofW (cc := cX10_spread) (maxL := 4) (ret := (some .int)) (by decide +kernel) rfl ?_
  intro p e s m args below meth c s₁ B hml hv
  obtain ⟨rfl, hP, hK, hB⟩ := hv
  have hx := B.exec
  have hb := B.bytes
  have hr := B.returns
  have hts := atoms_spec (ws := wsX10_spread) B.pre
  have hown : s.vm.findClass RX10 = some m.cls := findClass_of_methodNamed B.named
  have hlocks := B.notSynchronized
  have hl := lv_entry ([.ref (t 0), .int (zi i1), .int (zi i2), .int (zi i3)]) (n := 4) (Nat.le_of_ble_eq_true rfl)
  rw [lg_entry_eq]
  generalize (lg_sl ([.ref (t 0), .int (zi i1), .int (zi i2), .int (zi i3)]) ++ List.replicate (4 - (lg_sl ([.ref (t 0), .int (zi i1), .int (zi i2), .int (zi i3)])).length) Slot.unset).toArray = ls at hl ⊢
  have hl : lv_has ls 4 [(0, .ref (t 0)), (1, .int (zi i1)), (2, .int (zi i2)), (3, .int (zi i3))] := hl
  refine zs_X10_spread t mk ad t_polygon t_bits t_mendedNumber i1 i2 i3 hx hb hml hown hts hK hP hB ls hl ⟨out, h, ?_⟩
  exact fun ls pc hd => W.iret hx hb hr (fun t ht hW => ⟨_, rfl, rfl, ht⟩) (fun _ h => by cases h) hd
/-! DiamondRows.period()I -/
abbrev zr_X10_period : Room := { frames := 4, cells := 0, slots := 0, locals := 82 }
noncomputable def zf_X10_period (mk : Nat) (tape_length : Int) (tape_next : Int) (tape_kind : Int) (tape_place : Int) (tape_value : Int) (tape_bytes : Nat) (endless_size : Int) (endless_numbers : Nat) (t_toldRow : Nat)  : Option (Int × Int × Int × Int × Int × Int × Int × Nat × Nat) :=
  Option.bind (zf_X8_readNumbers tape_length tape_next tape_kind tape_place tape_value tape_bytes t_toldRow) (fun o1 =>
  Option.bind (zf_X8_shorten tape_length (0 : Int)) (fun o2 =>
  Option.bind (zf_X2_accepts (o1.2.2.2.2.2) (o1.1)) (fun o3 =>
  if o3 = false then
  some ((-2 : Int), o2, (o1.2.1), (o1.2.2.1), (o1.2.2.2.1), (o1.2.2.2.2.1), endless_size, endless_numbers, (o1.2.2.2.2.2))
  else
  Option.bind (zf_X2_become endless_size endless_numbers (o1.2.2.2.2.2) (o1.1)) (fun o4 =>
  some ((o4.1), o2, (o1.2.1), (o1.2.2.1), (o1.2.2.2.1), (o1.2.2.2.2.1), (o4.2.1), (o4.2.2), (o1.2.2.2.2.2))))))
theorem zi_X10_period_X10 : ∀ w ∈ u_ws RX10 TX10 13, w ∈ wsX10_period := fun w h => (List.mem_cons_of_mem _ (List.mem_append_right _ (List.mem_append_left _ h)))
theorem zl_X10_period_10 : Cond.fieldLink RX10 10 "DiamondRows" "tape" "LDiamondRows$Tape;" ∈ wsX10_period := (List.mem_cons_of_mem _ (List.mem_append_left _ (List.mem_of_getElem? (i := 0) rfl)))
theorem zl_X10_period_54 : Cond.fieldLink RX10 54 "DiamondRows" "endless" "LDiamondRows$Endless;" ∈ wsX10_period := (List.mem_cons_of_mem _ (List.mem_append_left _ (List.mem_of_getElem? (i := 2) rfl)))
theorem zl_X10_period_72 : Cond.fieldLink RX10 72 "DiamondRows" "toldRow" "[I" ∈ wsX10_period := (List.mem_cons_of_mem _ (List.mem_append_left _ (List.mem_of_getElem? (i := 1) rfl)))
def zQ_X10_period (p : Program) (l : Launch) (e : Env) (s : State) (m : MethodId) (args : Array Value) (below : List Frame) (meth : Method) (c : Code) (Q : State → Prop) (D : va_G) (κ : Nat → ClassId) (A : Nat → Prop) (H0 : Heap) (t : Nat → Nat) (mk : Nat) (ad : Nat → Nat → Nat) (t_polygon : Nat) (t_bits : Int) (t_mendedNumber : Int) (tape_bytes : Nat) (o : Int × Int × Int × Int × Int × Int × Int × Nat × Nat) : Prop := ∀ (H : Heap) (locs : List Loc) (ls : Array Slot) (pc : Nat), va_P D vwCl ([((t 0), .inr (10, [.ref (t 1), .ref (t 3), .ref (t 5), .ref (t 6), .ref (t 9), .ref (t 11), .ref (t 15), .ref (t 17), .ref (t 27), .ref (t 30), zpg ad t_polygon, .int (zi t_bits), .int (zi t_mendedNumber)])), ((t 1), .inr (8, [.ref (t 2), .int (zi (o.2.1)), .int (zi (o.2.2.1)), .int (zi (o.2.2.2.1)), .int (zi (o.2.2.2.2.1)), .int (zi (o.2.2.2.2.2.1))])), ((t 2), .inl (κ 0, 300, .inl (zc tape_bytes))), ((t 15), .inr (2, [.ref (t 16), .int (zi (o.2.2.2.2.2.2.1))])), ((t 16), .inl (κ 1, 10, .inl (zc (o.2.2.2.2.2.2.2.1)))), ((t 30), .inl (κ 1, 10, .inl (zc (o.2.2.2.2.2.2.2.2))))]) H → va_D A ([((t 0), .inr (10, [.ref (t 1), .ref (t 3), .ref (t 5), .ref (t 6), .ref (t 9), .ref (t 11), .ref (t 15), .ref (t 17), .ref (t 27), .ref (t 30), zpg ad t_polygon, .int (zi t_bits), .int (zi t_mendedNumber)])), ((t 1), .inr (8, [.ref (t 2), .int (zi (o.2.1)), .int (zi (o.2.2.1)), .int (zi (o.2.2.2.1)), .int (zi (o.2.2.2.2.1)), .int (zi (o.2.2.2.2.2.1))])), ((t 2), .inl (κ 0, 300, .inl (zc tape_bytes))), ((t 15), .inr (2, [.ref (t 16), .int (zi (o.2.2.2.2.2.2.1))])), ((t 16), .inl (κ 1, 10, .inl (zc (o.2.2.2.2.2.2.2.1)))), ((t 30), .inl (κ 1, 10, .inl (zc (o.2.2.2.2.2.2.2.2))))]) → va_S A H0 H locs → decode cX10_period pc = .ok (.ireturn, 1) → W p l e zr_X10_period s m args below meth c H locs 0 0 Q (F0 m pc ls [.int (zi (o.1))])
set_option maxHeartbeats 4000000 in
set_option maxRecDepth 100000 in
theorem zs_X10_period {p : Program} {l : Launch} {e : Env} {s : State} {m : MethodId} {args : Array Value} {below : List Frame} {meth : Method} {c : Code} {Q : State → Prop} {D : va_G} {κ : Nat → ClassId} {A : Nat → Prop} {H0 : Heap} (t : Nat → Nat) (mk : Nat) (ad : Nat → Nat → Nat) (t_polygon : Nat) (t_bits : Int) (t_mendedNumber : Int) (tape_length : Int) (tape_next : Int) (tape_kind : Int) (tape_place : Int) (tape_value : Int) (tape_bytes : Nat) (endless_size : Int) (endless_numbers : Nat) (t_toldRow : Nat)  (hx : p.tables.exec = Jvm.exec) (hb : c.code = cX10_period) (hml : c.maxLocals = 2) (hown : s.vm.findClass RX10 = some m.cls) (hts : ∀ w ∈ wsX10_period, w.before args s = true) (hK : va_K D vwCl (zTY κ) s) (hA : ∀ q : Nat, H0.size ≤ q → A q) (hB : zAmb D κ mk ad H0) (hBA : zApt mk ad A H0.size) (H : Heap) (locs : List Loc) (ls : Array Slot) (hP : va_P D vwCl ([((t 0), .inr (10, [.ref (t 1), .ref (t 3), .ref (t 5), .ref (t 6), .ref (t 9), .ref (t 11), .ref (t 15), .ref (t 17), .ref (t 27), .ref (t 30), zpg ad t_polygon, .int (zi t_bits), .int (zi t_mendedNumber)])), ((t 1), .inr (8, [.ref (t 2), .int (zi tape_length), .int (zi tape_next), .int (zi tape_kind), .int (zi tape_place), .int (zi tape_value)])), ((t 2), .inl (κ 0, 300, .inl (zc tape_bytes))), ((t 15), .inr (2, [.ref (t 16), .int (zi endless_size)])), ((t 16), .inl (κ 1, 10, .inl (zc endless_numbers))), ((t 30), .inl (κ 1, 10, .inl (zc t_toldRow)))]) H) (hD : va_D A ([((t 0), .inr (10, [.ref (t 1), .ref (t 3), .ref (t 5), .ref (t 6), .ref (t 9), .ref (t 11), .ref (t 15), .ref (t 17), .ref (t 27), .ref (t 30), zpg ad t_polygon, .int (zi t_bits), .int (zi t_mendedNumber)])), ((t 1), .inr (8, [.ref (t 2), .int (zi tape_length), .int (zi tape_next), .int (zi tape_kind), .int (zi tape_place), .int (zi tape_value)])), ((t 2), .inl (κ 0, 300, .inl (zc tape_bytes))), ((t 15), .inr (2, [.ref (t 16), .int (zi endless_size)])), ((t 16), .inl (κ 1, 10, .inl (zc endless_numbers))), ((t 30), .inl (κ 1, 10, .inl (zc t_toldRow)))])) (hS : va_S A H0 H locs) (hl : lv_has ls 2 [(0, .ref (t 0))]) (hg : Go (zQ_X10_period p l e s m args below meth c Q D κ A H0 t mk ad t_polygon t_bits t_mendedNumber tape_bytes) (zf_X10_period mk tape_length tape_next tape_kind tape_place tape_value tape_bytes endless_size endless_numbers t_toldRow )) : W p l e zr_X10_period s m args below meth c H locs 0 0 Q (F0 m 0 ls []) := by
  unfold zf_X10_period at hg
  refine lv_aload_n hx hb dX10_period_0 rfl (lv_at hl 0 rfl) ?_
  refine va_get (D := D) (ci := 10) (v := .ref (t 1)) (C := RX10) (T := TX10) (N := 13) hx hb hts zi_X10_period_X10 hown hK hP 0 rfl rfl 0 (by decide) (hts (.fieldLink RX10 10 "DiamondRows" "tape" "LDiamondRows$Tape;") zl_X10_period_10) (fun _ h9 => h9) rfl dX10_period_1 ?_
  refine lv_aload_n hx hb dX10_period_4 rfl (lv_at hl 0 rfl) ?_
  refine va_get (D := D) (ci := 10) (v := .ref (t 30)) (C := RX10) (T := TX10) (N := 13) hx hb hts zi_X10_period_X10 hown hK hP 0 rfl rfl 9 (by decide) (hts (.fieldLink RX10 72 "DiamondRows" "toldRow" "[I") zl_X10_period_72) (fun _ h9 => h9) rfl dX10_period_5 ?_
  obtain ⟨o1, ho1, hg⟩ := Go_b hg
  refine zj_i (wr := [((t 0), .inr (10, [.ref (t 1), .ref (t 3), .ref (t 5), .ref (t 6), .ref (t 9), .ref (t 11), .ref (t 15), .ref (t 17), .ref (t 27), .ref (t 30), zpg ad t_polygon, .int (zi t_bits), .int (zi t_mendedNumber)])), ((t 15), .inr (2, [.ref (t 16), .int (zi endless_size)])), ((t 16), .inl (κ 1, 10, .inl (zc endless_numbers)))]) (ws1 := [((t 0), .inr (10, [.ref (t 1), .ref (t 3), .ref (t 5), .ref (t 6), .ref (t 9), .ref (t 11), .ref (t 15), .ref (t 17), .ref (t 27), .ref (t 30), zpg ad t_polygon, .int (zi t_bits), .int (zi t_mendedNumber)])), ((t 1), .inr (8, [.ref (t 2), .int (zi tape_length), .int (zi (o1.2.1)), .int (zi (o1.2.2.1)), .int (zi (o1.2.2.2.1)), .int (zi (o1.2.2.2.2.1))])), ((t 2), .inl (κ 0, 300, .inl (zc tape_bytes))), ((t 15), .inr (2, [.ref (t 16), .int (zi endless_size)])), ((t 16), .inl (κ 1, 10, .inl (zc endless_numbers))), ((t 30), .inl (κ 1, 10, .inl (zc (o1.2.2.2.2.2))))]) (va_runV (rest := []) ⟨hx, hb, hml, hown, hts⟩ (zc_X8_readNumbers l D κ (fun i => t (i + 1)) (t 30) H.size tape_length tape_next tape_kind tape_place tape_value tape_bytes t_toldRow o1 ho1) (cwV 1 hts gX10_period_X8_readNumbers rfl rfl rfl hv_X8_readNumbers ⟨Nat.le_of_ble_eq_true rfl, Nat.le_of_ble_eq_true rfl⟩) (zpreWV hK (hP.sub [1, 2, 5] rfl) (hD.sub [1, 2, 5] (by decide) rfl) 8 0 rfl rfl) rfl rfl hl.1 rfl (lv_room (Nat.le_of_ble_eq_true rfl)) dX10_period_8 ⟨Nat.zero_le _, Nat.zero_le _⟩) hP hD hS hA [1, 2, 5] [0, 3, 4] [0, 3, 4, 1, 2, 5] rfl rfl (by decide) (by decide) rfl rfl (by decide) (fun H locs hP hD hS => ?_)
  refine lv_istore_n (lv' := [(1, .int (zi (o1.1))), (0, .ref (t 0))]) hx hb dX10_period_11 rfl hl (by decide) rfl (fun ls hl => ?_)
  refine lv_aload_n hx hb dX10_period_12 rfl (lv_at hl 1 rfl) ?_
  refine va_get (D := D) (ci := 10) (v := .ref (t 1)) (C := RX10) (T := TX10) (N := 13) hx hb hts zi_X10_period_X10 hown hK hP 0 rfl rfl 0 (by decide) (hts (.fieldLink RX10 10 "DiamondRows" "tape" "LDiamondRows$Tape;") zl_X10_period_10) (fun _ h9 => h9) rfl dX10_period_13 ?_
  refine zv_iconst hx hb dX10_period_16 ?_
  obtain ⟨o2, ho2, hg⟩ := Go_b hg
  refine zj_v (wr := [((t 0), .inr (10, [.ref (t 1), .ref (t 3), .ref (t 5), .ref (t 6), .ref (t 9), .ref (t 11), .ref (t 15), .ref (t 17), .ref (t 27), .ref (t 30), zpg ad t_polygon, .int (zi t_bits), .int (zi t_mendedNumber)])), ((t 15), .inr (2, [.ref (t 16), .int (zi endless_size)])), ((t 16), .inl (κ 1, 10, .inl (zc endless_numbers))), ((t 30), .inl (κ 1, 10, .inl (zc (o1.2.2.2.2.2))))]) (ws1 := [((t 0), .inr (10, [.ref (t 1), .ref (t 3), .ref (t 5), .ref (t 6), .ref (t 9), .ref (t 11), .ref (t 15), .ref (t 17), .ref (t 27), .ref (t 30), zpg ad t_polygon, .int (zi t_bits), .int (zi t_mendedNumber)])), ((t 1), .inr (8, [.ref (t 2), .int (zi o2), .int (zi (o1.2.1)), .int (zi (o1.2.2.1)), .int (zi (o1.2.2.2.1)), .int (zi (o1.2.2.2.2.1))])), ((t 2), .inl (κ 0, 300, .inl (zc tape_bytes))), ((t 15), .inr (2, [.ref (t 16), .int (zi endless_size)])), ((t 16), .inl (κ 1, 10, .inl (zc endless_numbers))), ((t 30), .inl (κ 1, 10, .inl (zc (o1.2.2.2.2.2))))]) (va_runV (rest := []) ⟨hx, hb, hml, hown, hts⟩ (zc_X8_shorten l D κ (fun i => t (i + 1)) H.size tape_length (o1.2.1) (o1.2.2.1) (o1.2.2.2.1) (o1.2.2.2.2.1) tape_bytes (0 : Int) o2 ho2) (cwV 1 hts gX10_period_X8_shorten rfl rfl rfl hv_X8_shorten ⟨Nat.le_of_ble_eq_true rfl, Nat.le_of_ble_eq_true rfl⟩) (zpreWV hK (hP.sub [1, 2] rfl) (hD.sub [1, 2] (by decide) rfl) 8 0 rfl rfl) rfl rfl hl.1 rfl (lv_room (Nat.le_of_ble_eq_true rfl)) dX10_period_17 ⟨Nat.zero_le _, Nat.zero_le _⟩) hP hD hS hA [1, 2] [0, 3, 4, 5] [0, 4, 5, 1, 2, 3] rfl rfl (by decide) (by decide) rfl rfl (by decide) (fun H locs hP hD hS => ?_)
  refine lv_aload_n hx hb dX10_period_20 rfl (lv_at hl 1 rfl) ?_
  refine va_get (D := D) (ci := 10) (v := .ref (t 15)) (C := RX10) (T := TX10) (N := 13) hx hb hts zi_X10_period_X10 hown hK hP 0 rfl rfl 6 (by decide) (hts (.fieldLink RX10 54 "DiamondRows" "endless" "LDiamondRows$Endless;") zl_X10_period_54) (fun _ h9 => h9) rfl dX10_period_21 ?_
  refine lv_aload_n hx hb dX10_period_24 rfl (lv_at hl 1 rfl) ?_
  refine va_get (D := D) (ci := 10) (v := .ref (t 30)) (C := RX10) (T := TX10) (N := 13) hx hb hts zi_X10_period_X10 hown hK hP 0 rfl rfl 9 (by decide) (hts (.fieldLink RX10 72 "DiamondRows" "toldRow" "[I") zl_X10_period_72) (fun _ h9 => h9) rfl dX10_period_25 ?_
  refine lv_iload_n hx hb dX10_period_28 rfl (lv_at hl 0 rfl) ?_
  obtain ⟨o3, ho3, hg⟩ := Go_b hg
  refine zc_vi (rest := []) ⟨hx, hb, hml, hown, hts⟩ (zc_X2_accepts l D κ (fun i => t (i + 15)) (t 30) endless_size endless_numbers (o1.2.2.2.2.2) (o1.1) o3 ho3) (cwV 2 hts gX10_period_X2_accepts rfl rfl rfl hv_X2_accepts ⟨Nat.le_of_ble_eq_true rfl, Nat.le_of_ble_eq_true rfl⟩) (zpreV hK (hP.sub [3, 4, 5] rfl) 2 0 rfl rfl) rfl hl.1 rfl (Nat.le_of_ble_eq_true rfl) dX10_period_29 ⟨Nat.zero_le _, Nat.zero_le _⟩ ?_
  refine zv_ifb_eq (tgt := 50) hx hb dX10_period_32 (by decide) (fun c5 => ?_) (fun c5 => ?_)
  · have hg := Go_t c5 hg
    refine zv_bipush hx hb dX10_period_50 (by decide) ?_
    exact (Go_s hg) _ _ _ _ hP hD hS dX10_period_52
  · have hg := Go_f c5 hg
    refine lv_aload_n hx hb dX10_period_35 rfl (lv_at hl 1 rfl) ?_
    refine va_get (D := D) (ci := 10) (v := .ref (t 15)) (C := RX10) (T := TX10) (N := 13) hx hb hts zi_X10_period_X10 hown hK hP 0 rfl rfl 6 (by decide) (hts (.fieldLink RX10 54 "DiamondRows" "endless" "LDiamondRows$Endless;") zl_X10_period_54) (fun _ h9 => h9) rfl dX10_period_36 ?_
    refine lv_aload_n hx hb dX10_period_39 rfl (lv_at hl 1 rfl) ?_
    refine va_get (D := D) (ci := 10) (v := .ref (t 30)) (C := RX10) (T := TX10) (N := 13) hx hb hts zi_X10_period_X10 hown hK hP 0 rfl rfl 9 (by decide) (hts (.fieldLink RX10 72 "DiamondRows" "toldRow" "[I") zl_X10_period_72) (fun _ h9 => h9) rfl dX10_period_40 ?_
    refine lv_iload_n hx hb dX10_period_43 rfl (lv_at hl 0 rfl) ?_
    obtain ⟨o4, ho4, hg⟩ := Go_b hg
    refine zj_i (wr := [((t 0), .inr (10, [.ref (t 1), .ref (t 3), .ref (t 5), .ref (t 6), .ref (t 9), .ref (t 11), .ref (t 15), .ref (t 17), .ref (t 27), .ref (t 30), zpg ad t_polygon, .int (zi t_bits), .int (zi t_mendedNumber)])), ((t 1), .inr (8, [.ref (t 2), .int (zi o2), .int (zi (o1.2.1)), .int (zi (o1.2.2.1)), .int (zi (o1.2.2.2.1)), .int (zi (o1.2.2.2.2.1))])), ((t 2), .inl (κ 0, 300, .inl (zc tape_bytes)))]) (ws1 := [((t 0), .inr (10, [.ref (t 1), .ref (t 3), .ref (t 5), .ref (t 6), .ref (t 9), .ref (t 11), .ref (t 15), .ref (t 17), .ref (t 27), .ref (t 30), zpg ad t_polygon, .int (zi t_bits), .int (zi t_mendedNumber)])), ((t 1), .inr (8, [.ref (t 2), .int (zi o2), .int (zi (o1.2.1)), .int (zi (o1.2.2.1)), .int (zi (o1.2.2.2.1)), .int (zi (o1.2.2.2.2.1))])), ((t 2), .inl (κ 0, 300, .inl (zc tape_bytes))), ((t 15), .inr (2, [.ref (t 16), .int (zi (o4.2.1))])), ((t 16), .inl (κ 1, 10, .inl (zc (o4.2.2)))), ((t 30), .inl (κ 1, 10, .inl (zc (o1.2.2.2.2.2))))]) (va_runV (rest := []) ⟨hx, hb, hml, hown, hts⟩ (zc_X2_become l D κ (fun i => t (i + 15)) (t 30) H.size endless_size endless_numbers (o1.2.2.2.2.2) (o1.1) o4 ho4) (cwV 2 hts gX10_period_X2_become rfl rfl rfl hv_X2_become ⟨Nat.le_of_ble_eq_true rfl, Nat.le_of_ble_eq_true rfl⟩) (zpreWV hK (hP.sub [3, 4, 5] rfl) (hD.sub [3, 4, 5] (by decide) rfl) 2 0 rfl rfl) rfl rfl hl.1 rfl (lv_room (Nat.le_of_ble_eq_true rfl)) dX10_period_44 ⟨Nat.zero_le _, Nat.zero_le _⟩) hP hD hS hA [3, 4, 5] [0, 1, 2] [0, 1, 2, 3, 4, 5] rfl rfl (by decide) (by decide) rfl rfl (by decide) (fun H locs hP hD hS => ?_)
    refine lv_goto (tgt := 52) hx hb dX10_period_47 (by decide) ?_
    exact (Go_s hg) _ _ _ _ hP hD hS dX10_period_52
set_option maxHeartbeats 4000000 in
set_option maxRecDepth 100000 in
theorem zc_X10_period (l : Launch) (D : va_G) (κ : Nat → ClassId) (t : Nat → Nat) (mk : Nat) (ad : Nat → Nat → Nat) (sz : Nat) (t_polygon : Nat) (t_bits : Int) (t_mendedNumber : Int) (tape_length : Int) (tape_next : Int) (tape_kind : Int) (tape_place : Int) (tape_value : Int) (tape_bytes : Nat) (endless_size : Int) (endless_numbers : Nat) (t_toldRow : Nat)  (out : Int × Int × Int × Int × Int × Int × Int × Nat × Nat) (h : zf_X10_period mk tape_length tape_next tape_kind tape_place tape_value tape_bytes endless_size endless_numbers t_toldRow  = some out) : Met l yX10_period wsX10_period zr_X10_period (va_Pc [.ref (t 0)] (zWa D κ mk ad ([((t 0), .inr (10, [.ref (t 1), .ref (t 3), .ref (t 5), .ref (t 6), .ref (t 9), .ref (t 11), .ref (t 15), .ref (t 17), .ref (t 27), .ref (t 30), zpg ad t_polygon, .int (zi t_bits), .int (zi t_mendedNumber)])), ((t 1), .inr (8, [.ref (t 2), .int (zi tape_length), .int (zi tape_next), .int (zi tape_kind), .int (zi tape_place), .int (zi tape_value)])), ((t 2), .inl (κ 0, 300, .inl (zc tape_bytes))), ((t 15), .inr (2, [.ref (t 16), .int (zi endless_size)])), ((t 16), .inl (κ 1, 10, .inl (zc endless_numbers))), ((t 30), .inl (κ 1, 10, .inl (zc t_toldRow)))]) sz)) (va_Qi (fun r (_ : Unit) => r = zi (out.1)) (fun _ => zB D κ (va_A ([((t 0), .inr (10, [.ref (t 1), .ref (t 3), .ref (t 5), .ref (t 6), .ref (t 9), .ref (t 11), .ref (t 15), .ref (t 17), .ref (t 27), .ref (t 30), zpg ad t_polygon, .int (zi t_bits), .int (zi t_mendedNumber)])), ((t 1), .inr (8, [.ref (t 2), .int (zi tape_length), .int (zi tape_next), .int (zi tape_kind), .int (zi tape_place), .int (zi tape_value)])), ((t 2), .inl (κ 0, 300, .inl (zc tape_bytes))), ((t 15), .inr (2, [.ref (t 16), .int (zi endless_size)])), ((t 16), .inl (κ 1, 10, .inl (zc endless_numbers))), ((t 30), .inl (κ 1, 10, .inl (zc t_toldRow)))]) sz) ([((t 0), .inr (10, [.ref (t 1), .ref (t 3), .ref (t 5), .ref (t 6), .ref (t 9), .ref (t 11), .ref (t 15), .ref (t 17), .ref (t 27), .ref (t 30), zpg ad t_polygon, .int (zi t_bits), .int (zi t_mendedNumber)])), ((t 1), .inr (8, [.ref (t 2), .int (zi (out.2.1)), .int (zi (out.2.2.1)), .int (zi (out.2.2.2.1)), .int (zi (out.2.2.2.2.1)), .int (zi (out.2.2.2.2.2.1))])), ((t 2), .inl (κ 0, 300, .inl (zc tape_bytes))), ((t 15), .inr (2, [.ref (t 16), .int (zi (out.2.2.2.2.2.2.1))])), ((t 16), .inl (κ 1, 10, .inl (zc (out.2.2.2.2.2.2.2.1)))), ((t 30), .inl (κ 1, 10, .inl (zc (out.2.2.2.2.2.2.2.2))))])) (va_A ([((t 0), .inr (10, [.ref (t 1), .ref (t 3), .ref (t 5), .ref (t 6), .ref (t 9), .ref (t 11), .ref (t 15), .ref (t 17), .ref (t 27), .ref (t 30), zpg ad t_polygon, .int (zi t_bits), .int (zi t_mendedNumber)])), ((t 1), .inr (8, [.ref (t 2), .int (zi tape_length), .int (zi tape_next), .int (zi tape_kind), .int (zi tape_place), .int (zi tape_value)])), ((t 2), .inl (κ 0, 300, .inl (zc tape_bytes))), ((t 15), .inr (2, [.ref (t 16), .int (zi endless_size)])), ((t 16), .inl (κ 1, 10, .inl (zc endless_numbers))), ((t 30), .inl (κ 1, 10, .inl (zc t_toldRow)))]) sz)) 0 0 (va_A ([((t 0), .inr (10, [.ref (t 1), .ref (t 3), .ref (t 5), .ref (t 6), .ref (t 9), .ref (t 11), .ref (t 15), .ref (t 17), .ref (t 27), .ref (t 30), zpg ad t_polygon, .int (zi t_bits), .int (zi t_mendedNumber)])), ((t 1), .inr (8, [.ref (t 2), .int (zi tape_length), .int (zi tape_next), .int (zi tape_kind), .int (zi tape_place), .int (zi tape_value)])), ((t 2), .inl (κ 0, 300, .inl (zc tape_bytes))), ((t 15), .inr (2, [.ref (t 16), .int (zi endless_size)])), ((t 16), .inl (κ 1, 10, .inl (zc endless_numbers))), ((t 30), .inl (κ 1, 10, .inl (zc t_toldRow)))]) sz) := by
  refine Met.ofW (cc := cX10_period) (maxL := 2) (ret := (some .int)) (by decide +kernel) rfl ?_
  intro p e s m args below meth c s₁ B hml hv
  obtain ⟨rfl, hsz, hP, hK, hD0, hB, hBA⟩ := hv
  have hx := B.exec
  have hb := B.bytes
  have hr := B.returns
  have hts := atoms_spec (ws := wsX10_period) B.pre
  have hown : s.vm.findClass RX10 = some m.cls := findClass_of_methodNamed B.named
  have hlocks := B.notSynchronized
  subst hsz
  have hD := hD0.self (sz := s.heap.size)
  generalize hAe : va_A ([((t 0), .inr (10, [.ref (t 1), .ref (t 3), .ref (t 5), .ref (t 6), .ref (t 9), .ref (t 11), .ref (t 15), .ref (t 17), .ref (t 27), .ref (t 30), zpg ad t_polygon, .int (zi t_bits), .int (zi t_mendedNumber)])), ((t 1), .inr (8, [.ref (t 2), .int (zi tape_length), .int (zi tape_next), .int (zi tape_kind), .int (zi tape_place), .int (zi tape_value)])), ((t 2), .inl (κ 0, 300, .inl (zc tape_bytes))), ((t 15), .inr (2, [.ref (t 16), .int (zi endless_size)])), ((t 16), .inl (κ 1, 10, .inl (zc endless_numbers))), ((t 30), .inl (κ 1, 10, .inl (zc t_toldRow)))]) s.heap.size = A at hD hBA ⊢
  have hA : ∀ q : Nat, s.heap.size ≤ q → A q := fun q h => by rw [← hAe]; exact Or.inr h
  have hS : va_S A s.heap s.heap [] := va_S.rf
  have hl := lv_entry ([.ref (t 0)]) (n := 2) (Nat.le_of_ble_eq_true rfl)
  rw [lg_entry_eq]
  generalize (lg_sl ([.ref (t 0)]) ++ List.replicate (2 - (lg_sl ([.ref (t 0)])).length) Slot.unset).toArray = ls at hl ⊢
  have hl : lv_has ls 2 [(0, .ref (t 0))] := hl
  refine zs_X10_period t mk ad t_polygon t_bits t_mendedNumber tape_length tape_next tape_kind tape_place tape_value tape_bytes endless_size endless_numbers t_toldRow  hx hb hml hown hts hK hA hB hBA s.heap [] ls hP hD hS hl ⟨out, h, ?_⟩
  exact fun H locs ls pc hP hD hS hd => W.iret hx hb hr (fun t ht hW => ⟨⟨_, (), rfl, rfl, by rw [ht]; exact hP, va_K.moved hW.alike hK, hD⟩, hS.F ht⟩) hS.2.2 hd
/-! DiamondRows.ofCut()I -/
abbrev zr_X10_ofCut : Room := { frames := 2, cells := 0, slots := 0, locals := 53 }
abbrev zS_X10_ofCut : Type := Nat × Int × Int × Nat × Nat
abbrev zO_X10_ofCut : Type := Int × Int × Nat × Nat
noncomputable def zg_X10_ofCut_0 (mk : Nat) (t_polygon : Nat) (t_bits : Int) (i1 : Int) (endless_size : Int) (endless_numbers : Nat) (t_toldRow : Nat) : Option (zO_X10_ofCut ⊕ zS_X10_ofCut) :=
  some (.inr (2, (0 : Int), endless_size, endless_numbers, t_toldRow))
noncomputable def zg_X10_ofCut_2 (mk : Nat) (t_polygon : Nat) (t_bits : Int) (i1 : Int) (endless_size : Int) (endless_numbers : Nat) (t_toldRow : Nat) : Option (zO_X10_ofCut ⊕ zS_X10_ofCut) :=
  if zno mk t_polygon then none else
  Option.bind (zf_X5_corners t_polygon) (fun o2 =>
  if zout i1 then none else
  if zout o2 then none else
  if o2 ≤ i1 then
  Option.bind (zf_X5_corners t_polygon) (fun o5 =>
  Option.bind (zf_X2_become endless_size endless_numbers t_toldRow o5) (fun o6 =>
  some (.inl ((o6.1), (o6.2.1), (o6.2.2), t_toldRow))))
  else
  Option.bind (zf_X5_trianglesAt t_polygon t_bits i1) (fun o7 =>
  if i1 < 0 ∨ 10 ≤ i1 then none else
  some (.inr (2, (i1 + (1 : Int)), endless_size, endless_numbers, (zset t_toldRow (Int.toNat i1) o7)))))
noncomputable def zg_X10_ofCut (mk : Nat) (t_polygon : Nat) (t_bits : Int) (st : zS_X10_ofCut) : Option (zO_X10_ofCut ⊕ zS_X10_ofCut) := match st with
  | (lab, i1, endless_size, endless_numbers, t_toldRow) => if lab = 0 then zg_X10_ofCut_0 mk t_polygon t_bits i1 endless_size endless_numbers t_toldRow else if lab = 2 then zg_X10_ofCut_2 mk t_polygon t_bits i1 endless_size endless_numbers t_toldRow else none
noncomputable def zf_X10_ofCut (mk : Nat) (t_polygon : Nat) (t_bits : Int) (endless_size : Int) (endless_numbers : Nat) (t_toldRow : Nat)  : Option (Int × Int × Nat × Nat) := jrun (zg_X10_ofCut mk t_polygon t_bits) jfuel (0, 0, endless_size, endless_numbers, t_toldRow)
theorem zi_X10_ofCut_X10 : ∀ w ∈ u_ws RX10 TX10 13, w ∈ wsX10_ofCut := fun w h => (List.mem_cons_of_mem _ (List.mem_append_right _ (List.mem_append_left _ h)))
theorem zl_X10_ofCut_54 : Cond.fieldLink RX10 54 "DiamondRows" "endless" "LDiamondRows$Endless;" ∈ wsX10_ofCut := (List.mem_cons_of_mem _ (List.mem_append_left _ (List.mem_of_getElem? (i := 3) rfl)))
theorem zl_X10_ofCut_72 : Cond.fieldLink RX10 72 "DiamondRows" "toldRow" "[I" ∈ wsX10_ofCut := (List.mem_cons_of_mem _ (List.mem_append_left _ (List.mem_of_getElem? (i := 1) rfl)))
theorem zl_X10_ofCut_84 : Cond.fieldLink RX10 84 "DiamondRows" "polygon" "LDiamondRows$Polygon;" ∈ wsX10_ofCut := (List.mem_cons_of_mem _ (List.mem_append_left _ (List.mem_of_getElem? (i := 0) rfl)))
theorem zl_X10_ofCut_94 : Cond.fieldLink RX10 94 "DiamondRows" "bits" "I" ∈ wsX10_ofCut := (List.mem_cons_of_mem _ (List.mem_append_left _ (List.mem_of_getElem? (i := 2) rfl)))
def zQ_X10_ofCut (p : Program) (l : Launch) (e : Env) (s : State) (m : MethodId) (args : Array Value) (below : List Frame) (meth : Method) (c : Code) (Q : State → Prop) (D : va_G) (κ : Nat → ClassId) (A : Nat → Prop) (H0 : Heap) (t : Nat → Nat) (mk : Nat) (ad : Nat → Nat → Nat) (t_polygon : Nat) (t_bits : Int) (t_mendedNumber : Int) (o : Int × Int × Nat × Nat) : Prop := ∀ (H : Heap) (locs : List Loc) (ls : Array Slot) (pc : Nat), va_P D vwCl ([((t 0), .inr (10, [.ref (t 1), .ref (t 3), .ref (t 5), .ref (t 6), .ref (t 9), .ref (t 11), .ref (t 15), .ref (t 17), .ref (t 27), .ref (t 30), zpg ad t_polygon, .int (zi t_bits), .int (zi t_mendedNumber)])), ((t 15), .inr (2, [.ref (t 16), .int (zi (o.2.1))])), ((t 16), .inl (κ 1, 10, .inl (zc (o.2.2.1)))), ((t 30), .inl (κ 1, 10, .inl (zc (o.2.2.2))))]) H → va_D A ([((t 0), .inr (10, [.ref (t 1), .ref (t 3), .ref (t 5), .ref (t 6), .ref (t 9), .ref (t 11), .ref (t 15), .ref (t 17), .ref (t 27), .ref (t 30), zpg ad t_polygon, .int (zi t_bits), .int (zi t_mendedNumber)])), ((t 15), .inr (2, [.ref (t 16), .int (zi (o.2.1))])), ((t 16), .inl (κ 1, 10, .inl (zc (o.2.2.1)))), ((t 30), .inl (κ 1, 10, .inl (zc (o.2.2.2))))]) → va_S A H0 H locs → decode cX10_ofCut pc = .ok (.ireturn, 1) → W p l e zr_X10_ofCut s m args below meth c H locs 0 0 Q (F0 m pc ls [.int (zi (o.1))])
def zA_X10_ofCut_0 (p : Program) (l : Launch) (e : Env) (s : State) (m : MethodId) (args : Array Value) (below : List Frame) (meth : Method) (c : Code) (Q : State → Prop) (D : va_G) (κ : Nat → ClassId) (A : Nat → Prop) (H0 : Heap) (t : Nat → Nat) (mk : Nat) (ad : Nat → Nat → Nat) (t_polygon : Nat) (t_bits : Int) (t_mendedNumber : Int) (i1 : Int) (endless_size : Int) (endless_numbers : Nat) (t_toldRow : Nat) : Prop := ∀ (H : Heap) (locs : List Loc) (ls : Array Slot), va_P D vwCl ([((t 0), .inr (10, [.ref (t 1), .ref (t 3), .ref (t 5), .ref (t 6), .ref (t 9), .ref (t 11), .ref (t 15), .ref (t 17), .ref (t 27), .ref (t 30), zpg ad t_polygon, .int (zi t_bits), .int (zi t_mendedNumber)])), ((t 15), .inr (2, [.ref (t 16), .int (zi endless_size)])), ((t 16), .inl (κ 1, 10, .inl (zc endless_numbers))), ((t 30), .inl (κ 1, 10, .inl (zc t_toldRow)))]) H → va_D A ([((t 0), .inr (10, [.ref (t 1), .ref (t 3), .ref (t 5), .ref (t 6), .ref (t 9), .ref (t 11), .ref (t 15), .ref (t 17), .ref (t 27), .ref (t 30), zpg ad t_polygon, .int (zi t_bits), .int (zi t_mendedNumber)])), ((t 15), .inr (2, [.ref (t 16), .int (zi endless_size)])), ((t 16), .inl (κ 1, 10, .inl (zc endless_numbers))), ((t 30), .inl (κ 1, 10, .inl (zc t_toldRow)))]) → va_S A H0 H locs → lv_has ls 2 [(0, .ref (t 0))] → W p l e zr_X10_ofCut s m args below meth c H locs 0 0 Q (F0 m 0 ls [])
def zA_X10_ofCut_2 (p : Program) (l : Launch) (e : Env) (s : State) (m : MethodId) (args : Array Value) (below : List Frame) (meth : Method) (c : Code) (Q : State → Prop) (D : va_G) (κ : Nat → ClassId) (A : Nat → Prop) (H0 : Heap) (t : Nat → Nat) (mk : Nat) (ad : Nat → Nat → Nat) (t_polygon : Nat) (t_bits : Int) (t_mendedNumber : Int) (i1 : Int) (endless_size : Int) (endless_numbers : Nat) (t_toldRow : Nat) : Prop := ∀ (H : Heap) (locs : List Loc) (ls : Array Slot), va_P D vwCl ([((t 0), .inr (10, [.ref (t 1), .ref (t 3), .ref (t 5), .ref (t 6), .ref (t 9), .ref (t 11), .ref (t 15), .ref (t 17), .ref (t 27), .ref (t 30), zpg ad t_polygon, .int (zi t_bits), .int (zi t_mendedNumber)])), ((t 15), .inr (2, [.ref (t 16), .int (zi endless_size)])), ((t 16), .inl (κ 1, 10, .inl (zc endless_numbers))), ((t 30), .inl (κ 1, 10, .inl (zc t_toldRow)))]) H → va_D A ([((t 0), .inr (10, [.ref (t 1), .ref (t 3), .ref (t 5), .ref (t 6), .ref (t 9), .ref (t 11), .ref (t 15), .ref (t 17), .ref (t 27), .ref (t 30), zpg ad t_polygon, .int (zi t_bits), .int (zi t_mendedNumber)])), ((t 15), .inr (2, [.ref (t 16), .int (zi endless_size)])), ((t 16), .inl (κ 1, 10, .inl (zc endless_numbers))), ((t 30), .inl (κ 1, 10, .inl (zc t_toldRow)))]) → va_S A H0 H locs → lv_has ls 2 [(0, .ref (t 0)), (1, .int (zi i1))] → W p l e zr_X10_ofCut s m args below meth c H locs 0 0 Q (F0 m 2 ls [])
def zA_X10_ofCut (p : Program) (l : Launch) (e : Env) (s : State) (m : MethodId) (args : Array Value) (below : List Frame) (meth : Method) (c : Code) (Q : State → Prop) (D : va_G) (κ : Nat → ClassId) (A : Nat → Prop) (H0 : Heap) (t : Nat → Nat) (mk : Nat) (ad : Nat → Nat → Nat) (t_polygon : Nat) (t_bits : Int) (t_mendedNumber : Int) (st : zS_X10_ofCut) : Prop := match st with
  | (lab, i1, endless_size, endless_numbers, t_toldRow) => if lab = 0 then zA_X10_ofCut_0 p l e s m args below meth c Q D κ A H0 t mk ad t_polygon t_bits t_mendedNumber i1 endless_size endless_numbers t_toldRow else if lab = 2 then zA_X10_ofCut_2 p l e s m args below meth c Q D κ A H0 t mk ad t_polygon t_bits t_mendedNumber i1 endless_size endless_numbers t_toldRow else True
set_option maxHeartbeats 4000000 in
set_option maxRecDepth 100000 in
theorem zs_X10_ofCut_0 {p : Program} {l : Launch} {e : Env} {s : State} {m : MethodId} {args : Array Value} {below : List Frame} {meth : Method} {c : Code} {Q : State → Prop} {D : va_G} {κ : Nat → ClassId} {A : Nat → Prop} {H0 : Heap} (t : Nat → Nat) (mk : Nat) (ad : Nat → Nat → Nat) (t_polygon : Nat) (t_bits : Int) (t_mendedNumber : Int) (hx : p.tables.exec = Jvm.exec) (hb : c.code = cX10_ofCut) (hml : c.maxLocals = 2) (hown : s.vm.findClass RX10 = some m.cls) (hts : ∀ w ∈ wsX10_ofCut, w.before args s = true) (hK : va_K D vwCl (zTY κ) s) (hA : ∀ q : Nat, H0.size ≤ q → A q) (hB : zAmb D κ mk ad H0) (hBA : zApt mk ad A H0.size) (i1 : Int) (endless_size : Int) (endless_numbers : Nat) (t_toldRow : Nat) (hg : Go (GoE (zA_X10_ofCut p l e s m args below meth c Q D κ A H0 t mk ad t_polygon t_bits t_mendedNumber) (zQ_X10_ofCut p l e s m args below meth c Q D κ A H0 t mk ad t_polygon t_bits t_mendedNumber)) (zg_X10_ofCut_0 mk t_polygon t_bits i1 endless_size endless_numbers t_toldRow)) : zA_X10_ofCut_0 p l e s m args below meth c Q D κ A H0 t mk ad t_polygon t_bits t_mendedNumber i1 endless_size endless_numbers t_toldRow := by
  intro H locs ls hP hD hS hl
  unfold zg_X10_ofCut_0 at hg
  refine zv_iconst hx hb dX10_ofCut_0 ?_
  refine lv_istore_n (lv' := [(1, .int (zi (0 : Int))), (0, .ref (t 0))]) hx hb dX10_ofCut_1 rfl hl (by decide) rfl (fun ls hl => ?_)
  exact (Go_s hg) H locs ls hP hD hS (lv_sub hl [1, 0] rfl)
set_option maxHeartbeats 4000000 in
set_option maxRecDepth 100000 in
theorem zs_X10_ofCut_2 {p : Program} {l : Launch} {e : Env} {s : State} {m : MethodId} {args : Array Value} {below : List Frame} {meth : Method} {c : Code} {Q : State → Prop} {D : va_G} {κ : Nat → ClassId} {A : Nat → Prop} {H0 : Heap} (t : Nat → Nat) (mk : Nat) (ad : Nat → Nat → Nat) (t_polygon : Nat) (t_bits : Int) (t_mendedNumber : Int) (hx : p.tables.exec = Jvm.exec) (hb : c.code = cX10_ofCut) (hml : c.maxLocals = 2) (hown : s.vm.findClass RX10 = some m.cls) (hts : ∀ w ∈ wsX10_ofCut, w.before args s = true) (hK : va_K D vwCl (zTY κ) s) (hA : ∀ q : Nat, H0.size ≤ q → A q) (hB : zAmb D κ mk ad H0) (hBA : zApt mk ad A H0.size) (i1 : Int) (endless_size : Int) (endless_numbers : Nat) (t_toldRow : Nat) (hg : Go (GoE (zA_X10_ofCut p l e s m args below meth c Q D κ A H0 t mk ad t_polygon t_bits t_mendedNumber) (zQ_X10_ofCut p l e s m args below meth c Q D κ A H0 t mk ad t_polygon t_bits t_mendedNumber)) (zg_X10_ofCut_2 mk t_polygon t_bits i1 endless_size endless_numbers t_toldRow)) : zA_X10_ofCut_2 p l e s m args below meth c Q D κ A H0 t mk ad t_polygon t_bits t_mendedNumber i1 endless_size endless_numbers t_toldRow := by
  intro H locs ls hP hD hS hl
  unfold zg_X10_ofCut_2 at hg
  refine lv_iload_n hx hb dX10_ofCut_2 rfl (lv_at hl 1 rfl) ?_
  refine lv_aload_n hx hb dX10_ofCut_3 rfl (lv_at hl 0 rfl) ?_
  obtain ⟨m1, hg⟩ := Go_n hg
  refine va_get (D := D) (ci := 10) (v := .ref (ad t_polygon 0)) (C := RX10) (T := TX10) (N := 13) hx hb hts zi_X10_ofCut_X10 hown hK hP 0 rfl rfl 10 (by decide) (hts (.fieldLink RX10 84 "DiamondRows" "polygon" "LDiamondRows$Polygon;") zl_X10_ofCut_84) (fun _ h9 => h9) (zpg_ok m1) dX10_ofCut_4 ?_
  obtain ⟨o2, ho2, hg⟩ := Go_b hg
  refine zc_vi (rest := [.int (zi i1)]) ⟨hx, hb, hml, hown, hts⟩ (zc_X5_corners l D κ (ad t_polygon) t_polygon  o2 ho2) (cwV 0 hts gX10_ofCut_X5_corners rfl rfl rfl hv_X5_corners ⟨Nat.le_of_ble_eq_true rfl, Nat.le_of_ble_eq_true rfl⟩) (zpreV hK ((zamb hB hBA hS) t_polygon m1) 5 0 rfl rfl) rfl hl.1 rfl (Nat.le_of_ble_eq_true rfl) dX10_ofCut_7 ⟨Nat.zero_le _, Nat.zero_le _⟩ ?_
  obtain ⟨b3, hg⟩ := Go_n hg
  obtain ⟨b4, hg⟩ := Go_n hg
  refine zv_icmp_ge (tgt := 37) hx hb dX10_ofCut_10 (by decide) b3 b4 (fun c9 => ?_) (fun c9 => ?_)
  · have hg := Go_t c9 hg
    refine lv_aload_n hx hb dX10_ofCut_37 rfl (lv_at hl 0 rfl) ?_
    refine va_get (D := D) (ci := 10) (v := .ref (t 15)) (C := RX10) (T := TX10) (N := 13) hx hb hts zi_X10_ofCut_X10 hown hK hP 0 rfl rfl 6 (by decide) (hts (.fieldLink RX10 54 "DiamondRows" "endless" "LDiamondRows$Endless;") zl_X10_ofCut_54) (fun _ h9 => h9) rfl dX10_ofCut_38 ?_
    refine lv_aload_n hx hb dX10_ofCut_41 rfl (lv_at hl 0 rfl) ?_
    refine va_get (D := D) (ci := 10) (v := .ref (t 30)) (C := RX10) (T := TX10) (N := 13) hx hb hts zi_X10_ofCut_X10 hown hK hP 0 rfl rfl 9 (by decide) (hts (.fieldLink RX10 72 "DiamondRows" "toldRow" "[I") zl_X10_ofCut_72) (fun _ h9 => h9) rfl dX10_ofCut_42 ?_
    refine lv_aload_n hx hb dX10_ofCut_45 rfl (lv_at hl 0 rfl) ?_
    refine va_get (D := D) (ci := 10) (v := .ref (ad t_polygon 0)) (C := RX10) (T := TX10) (N := 13) hx hb hts zi_X10_ofCut_X10 hown hK hP 0 rfl rfl 10 (by decide) (hts (.fieldLink RX10 84 "DiamondRows" "polygon" "LDiamondRows$Polygon;") zl_X10_ofCut_84) (fun _ h9 => h9) (zpg_ok m1) dX10_ofCut_46 ?_
    obtain ⟨o5, ho5, hg⟩ := Go_b hg
    refine zc_vi (rest := [.ref (t 30), .ref (t 15)]) ⟨hx, hb, hml, hown, hts⟩ (zc_X5_corners l D κ (ad t_polygon) t_polygon  o5 ho5) (cwV 0 hts gX10_ofCut_X5_corners rfl rfl rfl hv_X5_corners ⟨Nat.le_of_ble_eq_true rfl, Nat.le_of_ble_eq_true rfl⟩) (zpreV hK ((zamb hB hBA hS) t_polygon m1) 5 0 rfl rfl) rfl hl.1 rfl (Nat.le_of_ble_eq_true rfl) dX10_ofCut_49 ⟨Nat.zero_le _, Nat.zero_le _⟩ ?_
    obtain ⟨o6, ho6, hg⟩ := Go_b hg
    refine zj_i (wr := [((t 0), .inr (10, [.ref (t 1), .ref (t 3), .ref (t 5), .ref (t 6), .ref (t 9), .ref (t 11), .ref (t 15), .ref (t 17), .ref (t 27), .ref (t 30), zpg ad t_polygon, .int (zi t_bits), .int (zi t_mendedNumber)]))]) (ws1 := [((t 0), .inr (10, [.ref (t 1), .ref (t 3), .ref (t 5), .ref (t 6), .ref (t 9), .ref (t 11), .ref (t 15), .ref (t 17), .ref (t 27), .ref (t 30), zpg ad t_polygon, .int (zi t_bits), .int (zi t_mendedNumber)])), ((t 15), .inr (2, [.ref (t 16), .int (zi (o6.2.1))])), ((t 16), .inl (κ 1, 10, .inl (zc (o6.2.2)))), ((t 30), .inl (κ 1, 10, .inl (zc t_toldRow)))]) (va_runV (rest := []) ⟨hx, hb, hml, hown, hts⟩ (zc_X2_become l D κ (fun i => t (i + 15)) (t 30) H.size endless_size endless_numbers t_toldRow o5 o6 ho6) (cwV 2 hts gX10_ofCut_X2_become rfl rfl rfl hv_X2_become ⟨Nat.le_of_ble_eq_true rfl, Nat.le_of_ble_eq_true rfl⟩) (zpreWV hK (hP.sub [1, 2, 3] rfl) (hD.sub [1, 2, 3] (by decide) rfl) 2 0 rfl rfl) rfl rfl hl.1 rfl (lv_room (Nat.le_of_ble_eq_true rfl)) dX10_ofCut_52 ⟨Nat.zero_le _, Nat.zero_le _⟩) hP hD hS hA [1, 2, 3] [0] [0, 1, 2, 3] rfl rfl (by decide) (by decide) rfl rfl (by decide) (fun H locs hP hD hS => ?_)
    exact (Go_s hg) _ _ _ _ hP hD hS dX10_ofCut_55
  · have hg := Go_f c9 hg
    refine lv_aload_n hx hb dX10_ofCut_13 rfl (lv_at hl 0 rfl) ?_
    refine va_get (D := D) (ci := 10) (v := .ref (t 30)) (C := RX10) (T := TX10) (N := 13) hx hb hts zi_X10_ofCut_X10 hown hK hP 0 rfl rfl 9 (by decide) (hts (.fieldLink RX10 72 "DiamondRows" "toldRow" "[I") zl_X10_ofCut_72) (fun _ h9 => h9) rfl dX10_ofCut_14 ?_
    refine lv_iload_n hx hb dX10_ofCut_17 rfl (lv_at hl 1 rfl) ?_
    refine lv_aload_n hx hb dX10_ofCut_18 rfl (lv_at hl 0 rfl) ?_
    refine va_get (D := D) (ci := 10) (v := .ref (ad t_polygon 0)) (C := RX10) (T := TX10) (N := 13) hx hb hts zi_X10_ofCut_X10 hown hK hP 0 rfl rfl 10 (by decide) (hts (.fieldLink RX10 84 "DiamondRows" "polygon" "LDiamondRows$Polygon;") zl_X10_ofCut_84) (fun _ h9 => h9) (zpg_ok m1) dX10_ofCut_19 ?_
    refine lv_aload_n hx hb dX10_ofCut_22 rfl (lv_at hl 0 rfl) ?_
    refine va_get (D := D) (ci := 10) (v := .int (zi t_bits)) (C := RX10) (T := TX10) (N := 13) hx hb hts zi_X10_ofCut_X10 hown hK hP 0 rfl rfl 11 (by decide) (hts (.fieldLink RX10 94 "DiamondRows" "bits" "I") zl_X10_ofCut_94) (fun _ h9 => h9) rfl dX10_ofCut_23 ?_
    refine lv_iload_n hx hb dX10_ofCut_26 rfl (lv_at hl 1 rfl) ?_
    obtain ⟨o7, ho7, hg⟩ := Go_b hg
    refine zc_vi (rest := [.int (zi i1), .ref (t 30)]) ⟨hx, hb, hml, hown, hts⟩ (zc_X5_trianglesAt l D κ (ad t_polygon) t_polygon t_bits i1 o7 ho7) (cwV 2 hts gX10_ofCut_X5_trianglesAt rfl rfl rfl hv_X5_trianglesAt ⟨Nat.le_of_ble_eq_true rfl, Nat.le_of_ble_eq_true rfl⟩) (zpreV hK ((zamb hB hBA hS) t_polygon m1) 5 0 rfl rfl) rfl hl.1 rfl (Nat.le_of_ble_eq_true rfl) dX10_ofCut_27 ⟨Nat.zero_le _, Nat.zero_le _⟩ ?_
    obtain ⟨n8, hg⟩ := Go_n hg
    refine zv_iast hx hb hK hP hD hS 3 1 rfl rfl (by decide) n8 dX10_ofCut_30 (fun H locs hP hD hS => ?_)
    have hP : va_P D vwCl ([((t 0), .inr (10, [.ref (t 1), .ref (t 3), .ref (t 5), .ref (t 6), .ref (t 9), .ref (t 11), .ref (t 15), .ref (t 17), .ref (t 27), .ref (t 30), zpg ad t_polygon, .int (zi t_bits), .int (zi t_mendedNumber)])), ((t 15), .inr (2, [.ref (t 16), .int (zi endless_size)])), ((t 16), .inl (κ 1, 10, .inl (zc endless_numbers))), ((t 30), .inl (κ 1, 10, .inl (zc (zset t_toldRow (Int.toNat i1) o7))))]) H := hP
    have hD : va_D A ([((t 0), .inr (10, [.ref (t 1), .ref (t 3), .ref (t 5), .ref (t 6), .ref (t 9), .ref (t 11), .ref (t 15), .ref (t 17), .ref (t 27), .ref (t 30), zpg ad t_polygon, .int (zi t_bits), .int (zi t_mendedNumber)])), ((t 15), .inr (2, [.ref (t 16), .int (zi endless_size)])), ((t 16), .inl (κ 1, 10, .inl (zc endless_numbers))), ((t 30), .inl (κ 1, 10, .inl (zc (zset t_toldRow (Int.toNat i1) o7))))]) := hD
    refine lv_iinc (v := zi (i1 + (1 : Int))) (lv' := [(1, .int (zi (i1 + (1 : Int)))), (0, .ref (t 0))]) hx hb dX10_ofCut_31 hl (k := 1) rfl (zi_add i1 _) (by decide) rfl (fun ls hl => ?_)
    refine lv_goto (tgt := 2) hx hb dX10_ofCut_34 (by decide) ?_
    exact (Go_s hg) H locs ls hP hD hS (lv_sub hl [1, 0] rfl)
set_option maxHeartbeats 4000000 in
set_option maxRecDepth 100000 in
theorem zw_X10_ofCut {p : Program} {l : Launch} {e : Env} {s : State} {m : MethodId} {args : Array Value} {below : List Frame} {meth : Method} {c : Code} {Q : State → Prop} {D : va_G} {κ : Nat → ClassId} {A : Nat → Prop} {H0 : Heap} (t : Nat → Nat) (mk : Nat) (ad : Nat → Nat → Nat) (t_polygon : Nat) (t_bits : Int) (t_mendedNumber : Int) (endless_size : Int) (endless_numbers : Nat) (t_toldRow : Nat)  (hx : p.tables.exec = Jvm.exec) (hb : c.code = cX10_ofCut) (hml : c.maxLocals = 2) (hown : s.vm.findClass RX10 = some m.cls) (hts : ∀ w ∈ wsX10_ofCut, w.before args s = true) (hK : va_K D vwCl (zTY κ) s) (hA : ∀ q : Nat, H0.size ≤ q → A q) (hB : zAmb D κ mk ad H0) (hBA : zApt mk ad A H0.size) (out : Int × Int × Nat × Nat) (h : zf_X10_ofCut mk t_polygon t_bits endless_size endless_numbers t_toldRow  = some out) (hq : zQ_X10_ofCut p l e s m args below meth c Q D κ A H0 t mk ad t_polygon t_bits t_mendedNumber out) : zA_X10_ofCut_0 p l e s m args below meth c Q D κ A H0 t mk ad t_polygon t_bits t_mendedNumber 0 endless_size endless_numbers t_toldRow := by
  have hst : ∀ st : zS_X10_ofCut, Go (GoE (zA_X10_ofCut p l e s m args below meth c Q D κ A H0 t mk ad t_polygon t_bits t_mendedNumber) (zQ_X10_ofCut p l e s m args below meth c Q D κ A H0 t mk ad t_polygon t_bits t_mendedNumber)) (zg_X10_ofCut mk t_polygon t_bits st) → zA_X10_ofCut p l e s m args below meth c Q D κ A H0 t mk ad t_polygon t_bits t_mendedNumber st := by
    intro st hg
    obtain ⟨lab, i1, endless_size, endless_numbers, t_toldRow⟩ := st
    by_cases h0 : lab = 0
    · subst h0
      exact zs_X10_ofCut_0 t mk ad t_polygon t_bits t_mendedNumber hx hb hml hown hts hK hA hB hBA i1 endless_size endless_numbers t_toldRow hg
    by_cases h2 : lab = 2
    · subst h2
      exact zs_X10_ofCut_2 t mk ad t_polygon t_bits t_mendedNumber hx hb hml hown hts hK hA hB hBA i1 endless_size endless_numbers t_toldRow hg
    have hz : zg_X10_ofCut mk t_polygon t_bits (lab, i1, endless_size, endless_numbers, t_toldRow) = none := by simp [zg_X10_ofCut, h0, h2]
    rw [hz] at hg
    obtain ⟨a, h1, -⟩ := hg
    cases h1
  exact jwalk (At := zA_X10_ofCut p l e s m args below meth c Q D κ A H0 t mk ad t_polygon t_bits t_mendedNumber) (Ret := zQ_X10_ofCut p l e s m args below meth c Q D κ A H0 t mk ad t_polygon t_bits t_mendedNumber) hst _ _ _ h hq
set_option maxHeartbeats 4000000 in
set_option maxRecDepth 100000 in
theorem zc_X10_ofCut (l : Launch) (D : va_G) (κ : Nat → ClassId) (t : Nat → Nat) (mk : Nat) (ad : Nat → Nat → Nat) (sz : Nat) (t_polygon : Nat) (t_bits : Int) (t_mendedNumber : Int) (endless_size : Int) (endless_numbers : Nat) (t_toldRow : Nat)  (out : Int × Int × Nat × Nat) (h : zf_X10_ofCut mk t_polygon t_bits endless_size endless_numbers t_toldRow  = some out) : Met l yX10_ofCut wsX10_ofCut zr_X10_ofCut (va_Pc [.ref (t 0)] (zWa D κ mk ad ([((t 0), .inr (10, [.ref (t 1), .ref (t 3), .ref (t 5), .ref (t 6), .ref (t 9), .ref (t 11), .ref (t 15), .ref (t 17), .ref (t 27), .ref (t 30), zpg ad t_polygon, .int (zi t_bits), .int (zi t_mendedNumber)])), ((t 15), .inr (2, [.ref (t 16), .int (zi endless_size)])), ((t 16), .inl (κ 1, 10, .inl (zc endless_numbers))), ((t 30), .inl (κ 1, 10, .inl (zc t_toldRow)))]) sz)) (va_Qi (fun r (_ : Unit) => r = zi (out.1)) (fun _ => zB D κ (va_A ([((t 0), .inr (10, [.ref (t 1), .ref (t 3), .ref (t 5), .ref (t 6), .ref (t 9), .ref (t 11), .ref (t 15), .ref (t 17), .ref (t 27), .ref (t 30), zpg ad t_polygon, .int (zi t_bits), .int (zi t_mendedNumber)])), ((t 15), .inr (2, [.ref (t 16), .int (zi endless_size)])), ((t 16), .inl (κ 1, 10, .inl (zc endless_numbers))), ((t 30), .inl (κ 1, 10, .inl (zc t_toldRow)))]) sz) ([((t 0), .inr (10, [.ref (t 1), .ref (t 3), .ref (t 5), .ref (t 6), .ref (t 9), .ref (t 11), .ref (t 15), .ref (t 17), .ref (t 27), .ref (t 30), zpg ad t_polygon, .int (zi t_bits), .int (zi t_mendedNumber)])), ((t 15), .inr (2, [.ref (t 16), .int (zi (out.2.1))])), ((t 16), .inl (κ 1, 10, .inl (zc (out.2.2.1)))), ((t 30), .inl (κ 1, 10, .inl (zc (out.2.2.2))))])) (va_A ([((t 0), .inr (10, [.ref (t 1), .ref (t 3), .ref (t 5), .ref (t 6), .ref (t 9), .ref (t 11), .ref (t 15), .ref (t 17), .ref (t 27), .ref (t 30), zpg ad t_polygon, .int (zi t_bits), .int (zi t_mendedNumber)])), ((t 15), .inr (2, [.ref (t 16), .int (zi endless_size)])), ((t 16), .inl (κ 1, 10, .inl (zc endless_numbers))), ((t 30), .inl (κ 1, 10, .inl (zc t_toldRow)))]) sz)) 0 0 (va_A ([((t 0), .inr (10, [.ref (t 1), .ref (t 3), .ref (t 5), .ref (t 6), .ref (t 9), .ref (t 11), .ref (t 15), .ref (t 17), .ref (t 27), .ref (t 30), zpg ad t_polygon, .int (zi t_bits), .int (zi t_mendedNumber)])), ((t 15), .inr (2, [.ref (t 16), .int (zi endless_size)])), ((t 16), .inl (κ 1, 10, .inl (zc endless_numbers))), ((t 30), .inl (κ 1, 10, .inl (zc t_toldRow)))]) sz) := by
  refine Met.ofW (cc := cX10_ofCut) (maxL := 2) (ret := (some .int)) (by decide +kernel) rfl ?_
  intro p e s m args below meth c s₁ B hml hv
  obtain ⟨rfl, hsz, hP, hK, hD0, hB, hBA⟩ := hv
  have hx := B.exec
  have hb := B.bytes
  have hr := B.returns
  have hts := atoms_spec (ws := wsX10_ofCut) B.pre
  have hown : s.vm.findClass RX10 = some m.cls := findClass_of_methodNamed B.named
  have hlocks := B.notSynchronized
  subst hsz
  have hD := hD0.self (sz := s.heap.size)
  generalize hAe : va_A ([((t 0), .inr (10, [.ref (t 1), .ref (t 3), .ref (t 5), .ref (t 6), .ref (t 9), .ref (t 11), .ref (t 15), .ref (t 17), .ref (t 27), .ref (t 30), zpg ad t_polygon, .int (zi t_bits), .int (zi t_mendedNumber)])), ((t 15), .inr (2, [.ref (t 16), .int (zi endless_size)])), ((t 16), .inl (κ 1, 10, .inl (zc endless_numbers))), ((t 30), .inl (κ 1, 10, .inl (zc t_toldRow)))]) s.heap.size = A at hD hBA ⊢
  have hA : ∀ q : Nat, s.heap.size ≤ q → A q := fun q h => by rw [← hAe]; exact Or.inr h
  have hS : va_S A s.heap s.heap [] := va_S.rf
  have hl := lv_entry ([.ref (t 0)]) (n := 2) (Nat.le_of_ble_eq_true rfl)
  rw [lg_entry_eq]
  generalize (lg_sl ([.ref (t 0)]) ++ List.replicate (2 - (lg_sl ([.ref (t 0)])).length) Slot.unset).toArray = ls at hl ⊢
  have hl : lv_has ls 2 [(0, .ref (t 0))] := hl
  refine (zw_X10_ofCut t mk ad t_polygon t_bits t_mendedNumber endless_size endless_numbers t_toldRow  hx hb hml hown hts hK hA hB hBA out h ?_) s.heap [] ls hP hD hS (lv_sub hl [0] rfl)
  exact fun H locs ls pc hP hD hS hd => W.iret hx hb hr (fun t ht hW => ⟨⟨_, (), rfl, rfl, by rw [ht]; exact hP, va_K.moved hW.alike hK, hD⟩, hS.F ht⟩) hS.2.2 hd
/-! DiamondRows.of(I)I -/
abbrev zr_X10_of : Room := { frames := 3, cells := 0, slots := 0, locals := 64 }
noncomputable def zf_X10_of (mk : Nat) (endless_size : Int) (endless_numbers : Nat) (i1 : Int) : Option (Int) :=
  Option.bind (zf_X2_hasPlace endless_size i1) (fun o1 =>
  if o1 = false then
  some ((-2 : Int))
  else
  Option.bind (zf_X2_at endless_size endless_numbers i1) (fun o2 =>
  some (o2)))
theorem zi_X10_of_X10 : ∀ w ∈ u_ws RX10 TX10 13, w ∈ wsX10_of := fun w h => (List.mem_cons_of_mem _ (List.mem_append_right _ (List.mem_append_left _ h)))
theorem zl_X10_of_54 : Cond.fieldLink RX10 54 "DiamondRows" "endless" "LDiamondRows$Endless;" ∈ wsX10_of := (List.mem_cons_of_mem _ (List.mem_append_left _ (List.mem_of_getElem? (i := 0) rfl)))
def zQ_X10_of (p : Program) (l : Launch) (e : Env) (s : State) (m : MethodId) (args : Array Value) (below : List Frame) (meth : Method) (c : Code) (Q : State → Prop) (H : Heap) (locs : List Loc)  (o : Int) : Prop := ∀ (ls : Array Slot) (pc : Nat), decode cX10_of pc = .ok (.ireturn, 1) → W p l e zr_X10_of s m args below meth c H locs 0 0 Q (F0 m pc ls [.int (zi o)])
set_option maxHeartbeats 4000000 in
set_option maxRecDepth 100000 in
theorem zs_X10_of {p : Program} {l : Launch} {e : Env} {s : State} {m : MethodId} {args : Array Value} {below : List Frame} {meth : Method} {c : Code} {Q : State → Prop} {D : va_G} {κ : Nat → ClassId} {H : Heap} {locs : List Loc} (t : Nat → Nat) (mk : Nat) (ad : Nat → Nat → Nat) (t_polygon : Nat) (t_bits : Int) (t_mendedNumber : Int) (endless_size : Int) (endless_numbers : Nat) (i1 : Int) (hx : p.tables.exec = Jvm.exec) (hb : c.code = cX10_of) (hml : c.maxLocals = 2) (hown : s.vm.findClass RX10 = some m.cls) (hts : ∀ w ∈ wsX10_of, w.before args s = true) (hK : va_K D vwCl (zTY κ) s) (hP : va_P D vwCl ([((t 0), .inr (10, [.ref (t 1), .ref (t 3), .ref (t 5), .ref (t 6), .ref (t 9), .ref (t 11), .ref (t 15), .ref (t 17), .ref (t 27), .ref (t 30), zpg ad t_polygon, .int (zi t_bits), .int (zi t_mendedNumber)])), ((t 15), .inr (2, [.ref (t 16), .int (zi endless_size)])), ((t 16), .inl (κ 1, 10, .inl (zc endless_numbers)))]) H) (hB : zAmb D κ mk ad H) (ls : Array Slot) (hl : lv_has ls 2 [(0, .ref (t 0)), (1, .int (zi i1))]) (hg : Go (zQ_X10_of p l e s m args below meth c Q H locs) (zf_X10_of mk endless_size endless_numbers i1)) : W p l e zr_X10_of s m args below meth c H locs 0 0 Q (F0 m 0 ls []) := by
  unfold zf_X10_of at hg
  refine lv_aload_n hx hb dX10_of_0 rfl (lv_at hl 0 rfl) ?_
  refine va_get (D := D) (ci := 10) (v := .ref (t 15)) (C := RX10) (T := TX10) (N := 13) hx hb hts zi_X10_of_X10 hown hK hP 0 rfl rfl 6 (by decide) (hts (.fieldLink RX10 54 "DiamondRows" "endless" "LDiamondRows$Endless;") zl_X10_of_54) (fun _ h9 => h9) rfl dX10_of_1 ?_
  refine lv_iload_n hx hb dX10_of_4 rfl (lv_at hl 1 rfl) ?_
  obtain ⟨o1, ho1, hg⟩ := Go_b hg
  refine zc_vi (rest := []) ⟨hx, hb, hml, hown, hts⟩ (zc_X2_hasPlace l D κ (fun i => t (i + 15)) endless_size endless_numbers i1 o1 ho1) (cwV 1 hts gX10_of_X2_hasPlace rfl rfl rfl hv_X2_hasPlace ⟨Nat.le_of_ble_eq_true rfl, Nat.le_of_ble_eq_true rfl⟩) (zpreV hK (hP.sub [1, 2] rfl) 2 0 rfl rfl) rfl hl.1 rfl (Nat.le_of_ble_eq_true rfl) dX10_of_5 ⟨Nat.zero_le _, Nat.zero_le _⟩ ?_
  refine zv_ifb_eq (tgt := 22) hx hb dX10_of_8 (by decide) (fun c3 => ?_) (fun c3 => ?_)
  · have hg := Go_t c3 hg
    refine zv_bipush hx hb dX10_of_22 (by decide) ?_
    exact (Go_s hg) _ _ dX10_of_24
  · have hg := Go_f c3 hg
    refine lv_aload_n hx hb dX10_of_11 rfl (lv_at hl 0 rfl) ?_
    refine va_get (D := D) (ci := 10) (v := .ref (t 15)) (C := RX10) (T := TX10) (N := 13) hx hb hts zi_X10_of_X10 hown hK hP 0 rfl rfl 6 (by decide) (hts (.fieldLink RX10 54 "DiamondRows" "endless" "LDiamondRows$Endless;") zl_X10_of_54) (fun _ h9 => h9) rfl dX10_of_12 ?_
    refine lv_iload_n hx hb dX10_of_15 rfl (lv_at hl 1 rfl) ?_
    obtain ⟨o2, ho2, hg⟩ := Go_b hg
    refine zc_vi (rest := []) ⟨hx, hb, hml, hown, hts⟩ (zc_X2_at l D κ (fun i => t (i + 15)) endless_size endless_numbers i1 o2 ho2) (cwV 1 hts gX10_of_X2_at rfl rfl rfl hv_X2_at ⟨Nat.le_of_ble_eq_true rfl, Nat.le_of_ble_eq_true rfl⟩) (zpreV hK (hP.sub [1, 2] rfl) 2 0 rfl rfl) rfl hl.1 rfl (Nat.le_of_ble_eq_true rfl) dX10_of_16 ⟨Nat.zero_le _, Nat.zero_le _⟩ ?_
    refine lv_goto (tgt := 24) hx hb dX10_of_19 (by decide) ?_
    exact (Go_s hg) _ _ dX10_of_24
set_option maxHeartbeats 4000000 in
set_option maxRecDepth 100000 in
theorem zc_X10_of (l : Launch) (D : va_G) (κ : Nat → ClassId) (t : Nat → Nat) (mk : Nat) (ad : Nat → Nat → Nat) (t_polygon : Nat) (t_bits : Int) (t_mendedNumber : Int) (endless_size : Int) (endless_numbers : Nat) (i1 : Int) (out : Int) (h : zf_X10_of mk endless_size endless_numbers i1 = some out) : Met l yX10_of wsX10_of zr_X10_of (va_Pc [.ref (t 0), .int (zi i1)] (zRa D κ mk ad ([((t 0), .inr (10, [.ref (t 1), .ref (t 3), .ref (t 5), .ref (t 6), .ref (t 9), .ref (t 11), .ref (t 15), .ref (t 17), .ref (t 27), .ref (t 30), zpg ad t_polygon, .int (zi t_bits), .int (zi t_mendedNumber)])), ((t 15), .inr (2, [.ref (t 16), .int (zi endless_size)])), ((t 16), .inl (κ 1, 10, .inl (zc endless_numbers)))]))) (vp_Si (fun x => x = zi out)) 0 0 (fun _ => False) := by
  refine Met.ofW (cc := cX10_of) (maxL := 2) (ret := (some .int)) (by decide +kernel) rfl ?_
  intro p e s m args below meth c s₁ B hml hv
  obtain ⟨rfl, hP, hK, hB⟩ := hv
  have hx := B.exec
  have hb := B.bytes
  have hr := B.returns
  have hts := atoms_spec (ws := wsX10_of) B.pre
  have hown : s.vm.findClass RX10 = some m.cls := findClass_of_methodNamed B.named
  have hlocks := B.notSynchronized
  have hl := lv_entry ([.ref (t 0), .int (zi i1)]) (n := 2) (Nat.le_of_ble_eq_true rfl)
  rw [lg_entry_eq]
  generalize (lg_sl ([.ref (t 0), .int (zi i1)]) ++ List.replicate (2 - (lg_sl ([.ref (t 0), .int (zi i1)])).length) Slot.unset).toArray = ls at hl ⊢
  have hl : lv_has ls 2 [(0, .ref (t 0)), (1, .int (zi i1))] := hl
  refine zs_X10_of t mk ad t_polygon t_bits t_mendedNumber endless_size endless_numbers i1 hx hb hml hown hts hK hP hB ls hl ⟨out, h, ?_⟩
  exact fun ls pc hd => W.iret hx hb hr (fun t ht hW => ⟨_, rfl, rfl, ht⟩) (fun _ h => by cases h) hd
/-! DiamondRows.along(II)J -/
abbrev zr_X10_along : Room := { frames := 4, cells := 0, slots := 0, locals := 93 }
noncomputable def zf_X10_along (mk : Nat) (endless_size : Int) (endless_numbers : Nat) (i1 : Int) (i2 : Int) : Option (Int) :=
  Option.bind (zf_X2_hasPlace endless_size i1) (fun o1 =>
  if o1 = false then
  some ((-9000000000000000000 : Int))
  else
  if zout i2 then none else
  if i2 < 0 then
  some ((-9000000000000000000 : Int))
  else
  if i2 ≤ (12 : Int) then
  Option.bind (zf_X2_entryAt endless_size endless_numbers i1 i2) (fun o3 =>
  some (o3))
  else
  some ((-9000000000000000000 : Int)))
theorem zi_X10_along_X10 : ∀ w ∈ u_ws RX10 TX10 13, w ∈ wsX10_along := fun w h => (List.mem_cons_of_mem _ (List.mem_append_right _ (List.mem_append_left _ h)))
theorem zl_X10_along_54 : Cond.fieldLink RX10 54 "DiamondRows" "endless" "LDiamondRows$Endless;" ∈ wsX10_along := (List.mem_cons_of_mem _ (List.mem_append_left _ (List.mem_of_getElem? (i := 0) rfl)))
def zQ_X10_along (p : Program) (l : Launch) (e : Env) (s : State) (m : MethodId) (args : Array Value) (below : List Frame) (meth : Method) (c : Code) (Q : State → Prop) (H : Heap) (locs : List Loc)  (o : Int) : Prop := ∀ (ls : Array Slot) (pc : Nat), decode cX10_along pc = .ok (.lreturn, 1) → W p l e zr_X10_along s m args below meth c H locs 0 0 Q (F0 m pc ls [.long (zl o)])
set_option maxHeartbeats 4000000 in
set_option maxRecDepth 100000 in
theorem zs_X10_along {p : Program} {l : Launch} {e : Env} {s : State} {m : MethodId} {args : Array Value} {below : List Frame} {meth : Method} {c : Code} {Q : State → Prop} {D : va_G} {κ : Nat → ClassId} {H : Heap} {locs : List Loc} (t : Nat → Nat) (mk : Nat) (ad : Nat → Nat → Nat) (t_polygon : Nat) (t_bits : Int) (t_mendedNumber : Int) (endless_size : Int) (endless_numbers : Nat) (i1 : Int) (i2 : Int) (hx : p.tables.exec = Jvm.exec) (hb : c.code = cX10_along) (hml : c.maxLocals = 3) (hown : s.vm.findClass RX10 = some m.cls) (hts : ∀ w ∈ wsX10_along, w.before args s = true) (hK : va_K D vwCl (zTY κ) s) (hP : va_P D vwCl ([((t 0), .inr (10, [.ref (t 1), .ref (t 3), .ref (t 5), .ref (t 6), .ref (t 9), .ref (t 11), .ref (t 15), .ref (t 17), .ref (t 27), .ref (t 30), zpg ad t_polygon, .int (zi t_bits), .int (zi t_mendedNumber)])), ((t 15), .inr (2, [.ref (t 16), .int (zi endless_size)])), ((t 16), .inl (κ 1, 10, .inl (zc endless_numbers)))]) H) (hB : zAmb D κ mk ad H) (ls : Array Slot) (hl : lv_has ls 3 [(0, .ref (t 0)), (1, .int (zi i1)), (2, .int (zi i2))]) (hg : Go (zQ_X10_along p l e s m args below meth c Q H locs) (zf_X10_along mk endless_size endless_numbers i1 i2)) : W p l e zr_X10_along s m args below meth c H locs 0 0 Q (F0 m 0 ls []) := by
  unfold zf_X10_along at hg
  refine lv_aload_n hx hb dX10_along_0 rfl (lv_at hl 0 rfl) ?_
  refine va_get (D := D) (ci := 10) (v := .ref (t 15)) (C := RX10) (T := TX10) (N := 13) hx hb hts zi_X10_along_X10 hown hK hP 0 rfl rfl 6 (by decide) (hts (.fieldLink RX10 54 "DiamondRows" "endless" "LDiamondRows$Endless;") zl_X10_along_54) (fun _ h9 => h9) rfl dX10_along_1 ?_
  refine lv_iload_n hx hb dX10_along_4 rfl (lv_at hl 1 rfl) ?_
  obtain ⟨o1, ho1, hg⟩ := Go_b hg
  refine zc_vi (rest := []) ⟨hx, hb, hml, hown, hts⟩ (zc_X2_hasPlace l D κ (fun i => t (i + 15)) endless_size endless_numbers i1 o1 ho1) (cwV 1 hts gX10_along_X2_hasPlace rfl rfl rfl hv_X2_hasPlace ⟨Nat.le_of_ble_eq_true rfl, Nat.le_of_ble_eq_true rfl⟩) (zpreV hK (hP.sub [1, 2] rfl) 2 0 rfl rfl) rfl hl.1 rfl (Nat.le_of_ble_eq_true rfl) dX10_along_5 ⟨Nat.zero_le _, Nat.zero_le _⟩ ?_
  refine zv_ifb_eq (tgt := 21) hx hb dX10_along_8 (by decide) (fun c6 => ?_) (fun c6 => ?_)
  · have hg := Go_t c6 hg
    refine lv_ldc2 (v := zl (-9000000000000000000 : Int)) hx hb hown (hts (.constantLong RX10 255 (-9000000000000000000)) (List.mem_cons_of_mem _ (List.mem_append_left _ (List.mem_of_getElem? (i := 1) rfl)))) dX10_along_21 ?_
    exact (Go_s hg) _ _ dX10_along_24
  · have hg := Go_f c6 hg
    refine lv_iload_n hx hb dX10_along_11 rfl (lv_at hl 2 rfl) ?_
    obtain ⟨b2, hg⟩ := Go_n hg
    refine zv_if_lt (tgt := 21) hx hb dX10_along_12 (by decide) b2 (fun c5 => ?_) (fun c5 => ?_)
    · have hg := Go_t c5 hg
      refine lv_ldc2 (v := zl (-9000000000000000000 : Int)) hx hb hown (hts (.constantLong RX10 255 (-9000000000000000000)) (List.mem_cons_of_mem _ (List.mem_append_left _ (List.mem_of_getElem? (i := 1) rfl)))) dX10_along_21 ?_
      exact (Go_s hg) _ _ dX10_along_24
    · have hg := Go_f c5 hg
      refine lv_iload_n hx hb dX10_along_15 rfl (lv_at hl 2 rfl) ?_
      refine zv_bipush hx hb dX10_along_16 (by decide) ?_
      refine zv_icmp_le (tgt := 25) hx hb dX10_along_18 (by decide) b2 (by decide) (fun c4 => ?_) (fun c4 => ?_)
      · have hg := Go_t c4 hg
        refine lv_aload_n hx hb dX10_along_25 rfl (lv_at hl 0 rfl) ?_
        refine va_get (D := D) (ci := 10) (v := .ref (t 15)) (C := RX10) (T := TX10) (N := 13) hx hb hts zi_X10_along_X10 hown hK hP 0 rfl rfl 6 (by decide) (hts (.fieldLink RX10 54 "DiamondRows" "endless" "LDiamondRows$Endless;") zl_X10_along_54) (fun _ h9 => h9) rfl dX10_along_26 ?_
        refine lv_iload_n hx hb dX10_along_29 rfl (lv_at hl 1 rfl) ?_
        refine lv_iload_n hx hb dX10_along_30 rfl (lv_at hl 2 rfl) ?_
        obtain ⟨o3, ho3, hg⟩ := Go_b hg
        refine zc_vl (rest := []) ⟨hx, hb, hml, hown, hts⟩ (zc_X2_entryAt l D κ (fun i => t (i + 15)) endless_size endless_numbers i1 i2 o3 ho3) (cwV 2 hts gX10_along_X2_entryAt rfl rfl rfl hv_X2_entryAt ⟨Nat.le_of_ble_eq_true rfl, Nat.le_of_ble_eq_true rfl⟩) (zpreV hK (hP.sub [1, 2] rfl) 2 0 rfl rfl) rfl hl.1 rfl (Nat.le_of_ble_eq_true rfl) dX10_along_31 ⟨Nat.zero_le _, Nat.zero_le _⟩ ?_
        exact (Go_s hg) _ _ dX10_along_34
      · have hg := Go_f c4 hg
        refine lv_ldc2 (v := zl (-9000000000000000000 : Int)) hx hb hown (hts (.constantLong RX10 255 (-9000000000000000000)) (List.mem_cons_of_mem _ (List.mem_append_left _ (List.mem_of_getElem? (i := 1) rfl)))) dX10_along_21 ?_
        exact (Go_s hg) _ _ dX10_along_24
set_option maxHeartbeats 4000000 in
set_option maxRecDepth 100000 in
theorem zc_X10_along (l : Launch) (D : va_G) (κ : Nat → ClassId) (t : Nat → Nat) (mk : Nat) (ad : Nat → Nat → Nat) (t_polygon : Nat) (t_bits : Int) (t_mendedNumber : Int) (endless_size : Int) (endless_numbers : Nat) (i1 : Int) (i2 : Int) (out : Int) (h : zf_X10_along mk endless_size endless_numbers i1 i2 = some out) : Met l yX10_along wsX10_along zr_X10_along (va_Pc [.ref (t 0), .int (zi i1), .int (zi i2)] (zRa D κ mk ad ([((t 0), .inr (10, [.ref (t 1), .ref (t 3), .ref (t 5), .ref (t 6), .ref (t 9), .ref (t 11), .ref (t 15), .ref (t 17), .ref (t 27), .ref (t 30), zpg ad t_polygon, .int (zi t_bits), .int (zi t_mendedNumber)])), ((t 15), .inr (2, [.ref (t 16), .int (zi endless_size)])), ((t 16), .inl (κ 1, 10, .inl (zc endless_numbers)))]))) (vp_Sl (fun x => x = zl out)) 0 0 (fun _ => False) := by
  refine Met.ofW (cc := cX10_along) (maxL := 3) (ret := (some .long)) (by decide +kernel) rfl ?_
  intro p e s m args below meth c s₁ B hml hv
  obtain ⟨rfl, hP, hK, hB⟩ := hv
  have hx := B.exec
  have hb := B.bytes
  have hr := B.returns
  have hts := atoms_spec (ws := wsX10_along) B.pre
  have hown : s.vm.findClass RX10 = some m.cls := findClass_of_methodNamed B.named
  have hlocks := B.notSynchronized
  have hl := lv_entry ([.ref (t 0), .int (zi i1), .int (zi i2)]) (n := 3) (Nat.le_of_ble_eq_true rfl)
  rw [lg_entry_eq]
  generalize (lg_sl ([.ref (t 0), .int (zi i1), .int (zi i2)]) ++ List.replicate (3 - (lg_sl ([.ref (t 0), .int (zi i1), .int (zi i2)])).length) Slot.unset).toArray = ls at hl ⊢
  have hl : lv_has ls 3 [(0, .ref (t 0)), (1, .int (zi i1)), (2, .int (zi i2))] := hl
  refine zs_X10_along t mk ad t_polygon t_bits t_mendedNumber endless_size endless_numbers i1 i2 hx hb hml hown hts hK hP hB ls hl ⟨out, h, ?_⟩
  exact fun ls pc hd => W.lret hx hb hr (fun t ht hW => ⟨_, rfl, rfl, ht⟩) (fun _ h => by cases h) hd
/-! DiamondRows.breaks(I)I -/
abbrev zr_X10_breaks : Room := { frames := 6, cells := 0, slots := 0, locals := 138 }
noncomputable def zf_X10_breaks (mk : Nat) (endless_size : Int) (endless_numbers : Nat) (i1 : Int) : Option (Int) :=
  Option.bind (zf_X2_breakLength endless_size endless_numbers) (fun o1 =>
  if zout o1 then none else
  if o1 = (-1 : Int) then
  some ((-1 : Int))
  else
  if zout i1 then none else
  if i1 = (0 : Int) then
  some (o1)
  else
  if i1 = (1 : Int) then
  Option.bind (zf_X2_breakPlace endless_size endless_numbers o1) (fun o6 =>
  some (o6))
  else
  if i1 = (2 : Int) then
  Option.bind (zf_X2_comesBack endless_size endless_numbers o1) (fun o8 =>
  if o8 = false then
  some ((0 : Int))
  else
  some ((1 : Int)))
  else
  some ((-1 : Int)))
theorem zi_X10_breaks_X10 : ∀ w ∈ u_ws RX10 TX10 13, w ∈ wsX10_breaks := fun w h => (List.mem_cons_of_mem _ (List.mem_append_right _ (List.mem_append_left _ h)))
theorem zl_X10_breaks_54 : Cond.fieldLink RX10 54 "DiamondRows" "endless" "LDiamondRows$Endless;" ∈ wsX10_breaks := (List.mem_cons_of_mem _ (List.mem_append_left _ (List.mem_of_getElem? (i := 0) rfl)))
def zQ_X10_breaks (p : Program) (l : Launch) (e : Env) (s : State) (m : MethodId) (args : Array Value) (below : List Frame) (meth : Method) (c : Code) (Q : State → Prop) (H : Heap) (locs : List Loc)  (o : Int) : Prop := ∀ (ls : Array Slot) (pc : Nat), decode cX10_breaks pc = .ok (.ireturn, 1) → W p l e zr_X10_breaks s m args below meth c H locs 0 0 Q (F0 m pc ls [.int (zi o)])
set_option maxHeartbeats 4000000 in
set_option maxRecDepth 100000 in
theorem zs_X10_breaks {p : Program} {l : Launch} {e : Env} {s : State} {m : MethodId} {args : Array Value} {below : List Frame} {meth : Method} {c : Code} {Q : State → Prop} {D : va_G} {κ : Nat → ClassId} {H : Heap} {locs : List Loc} (t : Nat → Nat) (mk : Nat) (ad : Nat → Nat → Nat) (t_polygon : Nat) (t_bits : Int) (t_mendedNumber : Int) (endless_size : Int) (endless_numbers : Nat) (i1 : Int) (hx : p.tables.exec = Jvm.exec) (hb : c.code = cX10_breaks) (hml : c.maxLocals = 3) (hown : s.vm.findClass RX10 = some m.cls) (hts : ∀ w ∈ wsX10_breaks, w.before args s = true) (hK : va_K D vwCl (zTY κ) s) (hP : va_P D vwCl ([((t 0), .inr (10, [.ref (t 1), .ref (t 3), .ref (t 5), .ref (t 6), .ref (t 9), .ref (t 11), .ref (t 15), .ref (t 17), .ref (t 27), .ref (t 30), zpg ad t_polygon, .int (zi t_bits), .int (zi t_mendedNumber)])), ((t 15), .inr (2, [.ref (t 16), .int (zi endless_size)])), ((t 16), .inl (κ 1, 10, .inl (zc endless_numbers)))]) H) (hB : zAmb D κ mk ad H) (ls : Array Slot) (hl : lv_has ls 3 [(0, .ref (t 0)), (1, .int (zi i1))]) (hg : Go (zQ_X10_breaks p l e s m args below meth c Q H locs) (zf_X10_breaks mk endless_size endless_numbers i1)) : W p l e zr_X10_breaks s m args below meth c H locs 0 0 Q (F0 m 0 ls []) := by
  unfold zf_X10_breaks at hg
  refine lv_aload_n hx hb dX10_breaks_0 rfl (lv_at hl 0 rfl) ?_
  refine va_get (D := D) (ci := 10) (v := .ref (t 15)) (C := RX10) (T := TX10) (N := 13) hx hb hts zi_X10_breaks_X10 hown hK hP 0 rfl rfl 6 (by decide) (hts (.fieldLink RX10 54 "DiamondRows" "endless" "LDiamondRows$Endless;") zl_X10_breaks_54) (fun _ h9 => h9) rfl dX10_breaks_1 ?_
  obtain ⟨o1, ho1, hg⟩ := Go_b hg
  refine zc_vi (rest := []) ⟨hx, hb, hml, hown, hts⟩ (zc_X2_breakLength l D κ (fun i => t (i + 15)) endless_size endless_numbers o1 ho1) (cwV 0 hts gX10_breaks_X2_breakLength rfl rfl rfl hv_X2_breakLength ⟨Nat.le_of_ble_eq_true rfl, Nat.le_of_ble_eq_true rfl⟩) (zpreV hK (hP.sub [1, 2] rfl) 2 0 rfl rfl) rfl hl.1 rfl (Nat.le_of_ble_eq_true rfl) dX10_breaks_4 ⟨Nat.zero_le _, Nat.zero_le _⟩ ?_
  refine lv_istore_n (lv' := [(2, .int (zi o1)), (0, .ref (t 0)), (1, .int (zi i1))]) hx hb dX10_breaks_7 rfl hl (by decide) rfl (fun ls hl => ?_)
  refine lv_iload_n hx hb dX10_breaks_8 rfl (lv_at hl 0 rfl) ?_
  refine zv_iconst hx hb dX10_breaks_9 ?_
  obtain ⟨b2, hg⟩ := Go_n hg
  refine zv_icmp_ne (tgt := 15) hx hb dX10_breaks_10 (by decide) b2 (by decide) (fun c11 => ?_) (fun c11 => ?_)
  · have hg := Go_f c11 hg
    refine lv_iload_n hx hb dX10_breaks_15 rfl (lv_at hl 2 rfl) ?_
    obtain ⟨b3, hg⟩ := Go_n hg
    by_cases c4 : i1 = (0 : Int)
    · have hg := Go_t c4 hg
      refine lv_tableIn (off := 28) (tgt := 44) hx hb dX10_breaks_16 (by rw [c4]; decide) (by rw [c4]; decide) (by rw [c4]; decide) (by decide) ?_
      refine lv_iload_n hx hb dX10_breaks_44 rfl (lv_at hl 0 rfl) ?_
      exact (Go_s hg) _ _ dX10_breaks_45
    · have hg := Go_f c4 hg
      by_cases c5 : i1 = (1 : Int)
      · have hg := Go_t c5 hg
        refine lv_tableIn (off := 30) (tgt := 46) hx hb dX10_breaks_16 (by rw [c5]; decide) (by rw [c5]; decide) (by rw [c5]; decide) (by decide) ?_
        refine lv_aload_n hx hb dX10_breaks_46 rfl (lv_at hl 1 rfl) ?_
        refine va_get (D := D) (ci := 10) (v := .ref (t 15)) (C := RX10) (T := TX10) (N := 13) hx hb hts zi_X10_breaks_X10 hown hK hP 0 rfl rfl 6 (by decide) (hts (.fieldLink RX10 54 "DiamondRows" "endless" "LDiamondRows$Endless;") zl_X10_breaks_54) (fun _ h9 => h9) rfl dX10_breaks_47 ?_
        refine lv_iload_n hx hb dX10_breaks_50 rfl (lv_at hl 0 rfl) ?_
        obtain ⟨o6, ho6, hg⟩ := Go_b hg
        refine zc_vi (rest := []) ⟨hx, hb, hml, hown, hts⟩ (zc_X2_breakPlace l D κ (fun i => t (i + 15)) endless_size endless_numbers o1 o6 ho6) (cwV 1 hts gX10_breaks_X2_breakPlace rfl rfl rfl hv_X2_breakPlace ⟨Nat.le_of_ble_eq_true rfl, Nat.le_of_ble_eq_true rfl⟩) (zpreV hK (hP.sub [1, 2] rfl) 2 0 rfl rfl) rfl hl.1 rfl (Nat.le_of_ble_eq_true rfl) dX10_breaks_51 ⟨Nat.zero_le _, Nat.zero_le _⟩ ?_
        exact (Go_s hg) _ _ dX10_breaks_54
      · have hg := Go_f c5 hg
        by_cases c7 : i1 = (2 : Int)
        · have hg := Go_t c7 hg
          refine lv_tableIn (off := 39) (tgt := 55) hx hb dX10_breaks_16 (by rw [c7]; decide) (by rw [c7]; decide) (by rw [c7]; decide) (by decide) ?_
          refine lv_aload_n hx hb dX10_breaks_55 rfl (lv_at hl 1 rfl) ?_
          refine va_get (D := D) (ci := 10) (v := .ref (t 15)) (C := RX10) (T := TX10) (N := 13) hx hb hts zi_X10_breaks_X10 hown hK hP 0 rfl rfl 6 (by decide) (hts (.fieldLink RX10 54 "DiamondRows" "endless" "LDiamondRows$Endless;") zl_X10_breaks_54) (fun _ h9 => h9) rfl dX10_breaks_56 ?_
          refine lv_iload_n hx hb dX10_breaks_59 rfl (lv_at hl 0 rfl) ?_
          obtain ⟨o8, ho8, hg⟩ := Go_b hg
          refine zc_vi (rest := []) ⟨hx, hb, hml, hown, hts⟩ (zc_X2_comesBack l D κ (fun i => t (i + 15)) endless_size endless_numbers o1 o8 ho8) (cwV 1 hts gX10_breaks_X2_comesBack rfl rfl rfl hv_X2_comesBack ⟨Nat.le_of_ble_eq_true rfl, Nat.le_of_ble_eq_true rfl⟩) (zpreV hK (hP.sub [1, 2] rfl) 2 0 rfl rfl) rfl hl.1 rfl (Nat.le_of_ble_eq_true rfl) dX10_breaks_60 ⟨Nat.zero_le _, Nat.zero_le _⟩ ?_
          refine zv_ifb_eq (tgt := 70) hx hb dX10_breaks_63 (by decide) (fun c9 => ?_) (fun c9 => ?_)
          · have hg := Go_t c9 hg
            refine zv_iconst hx hb dX10_breaks_70 ?_
            exact (Go_s hg) _ _ dX10_breaks_71
          · have hg := Go_f c9 hg
            refine zv_iconst hx hb dX10_breaks_66 ?_
            refine lv_goto (tgt := 71) hx hb dX10_breaks_67 (by decide) ?_
            exact (Go_s hg) _ _ dX10_breaks_71
        · have hg := Go_f c7 hg
          refine lv_tableOut (tgt := 72) hx hb dX10_breaks_16 (by rw [zi_int b3]; omega) (by decide) ?_
          refine zv_iconst hx hb dX10_breaks_72 ?_
          exact (Go_s hg) _ _ dX10_breaks_73
  · have hg := Go_t c11 hg
    refine zv_iconst hx hb dX10_breaks_13 ?_
    exact (Go_s hg) _ _ dX10_breaks_14
set_option maxHeartbeats 4000000 in
set_option maxRecDepth 100000 in
theorem zc_X10_breaks (l : Launch) (D : va_G) (κ : Nat → ClassId) (t : Nat → Nat) (mk : Nat) (ad : Nat → Nat → Nat) (t_polygon : Nat) (t_bits : Int) (t_mendedNumber : Int) (endless_size : Int) (endless_numbers : Nat) (i1 : Int) (out : Int) (h : zf_X10_breaks mk endless_size endless_numbers i1 = some out) : Met l yX10_breaks wsX10_breaks zr_X10_breaks (va_Pc [.ref (t 0), .int (zi i1)] (zRa D κ mk ad ([((t 0), .inr (10, [.ref (t 1), .ref (t 3), .ref (t 5), .ref (t 6), .ref (t 9), .ref (t 11), .ref (t 15), .ref (t 17), .ref (t 27), .ref (t 30), zpg ad t_polygon, .int (zi t_bits), .int (zi t_mendedNumber)])), ((t 15), .inr (2, [.ref (t 16), .int (zi endless_size)])), ((t 16), .inl (κ 1, 10, .inl (zc endless_numbers)))]))) (vp_Si (fun x => x = zi out)) 0 0 (fun _ => False) := by
  refine Met.ofW (cc := cX10_breaks) (maxL := 3) (ret := (some .int)) (by decide +kernel) rfl ?_
  intro p e s m args below meth c s₁ B hml hv
  obtain ⟨rfl, hP, hK, hB⟩ := hv
  have hx := B.exec
  have hb := B.bytes
  have hr := B.returns
  have hts := atoms_spec (ws := wsX10_breaks) B.pre
  have hown : s.vm.findClass RX10 = some m.cls := findClass_of_methodNamed B.named
  have hlocks := B.notSynchronized
  have hl := lv_entry ([.ref (t 0), .int (zi i1)]) (n := 3) (Nat.le_of_ble_eq_true rfl)
  rw [lg_entry_eq]
  generalize (lg_sl ([.ref (t 0), .int (zi i1)]) ++ List.replicate (3 - (lg_sl ([.ref (t 0), .int (zi i1)])).length) Slot.unset).toArray = ls at hl ⊢
  have hl : lv_has ls 3 [(0, .ref (t 0)), (1, .int (zi i1))] := hl
  refine zs_X10_breaks t mk ad t_polygon t_bits t_mendedNumber endless_size endless_numbers i1 hx hb hml hown hts hK hP hB ls hl ⟨out, h, ?_⟩
  exact fun ls pc hd => W.iret hx hb hr (fun t ht hW => ⟨_, rfl, rfl, ht⟩) (fun _ h => by cases h) hd
/-! DiamondRows.growth()J -/
abbrev zr_X10_growth : Room := { frames := 5, cells := 0, slots := 0, locals := 113 }
noncomputable def zf_X10_growth (mk : Nat) (endless_size : Int) (endless_numbers : Nat)  : Option (Int) :=
  Option.bind (zf_X2_growthOfRound endless_size endless_numbers) (fun o1 =>
  some (o1))
theorem zi_X10_growth_X10 : ∀ w ∈ u_ws RX10 TX10 13, w ∈ wsX10_growth := fun w h => (List.mem_cons_of_mem _ (List.mem_append_right _ (List.mem_append_left _ h)))
theorem zl_X10_growth_54 : Cond.fieldLink RX10 54 "DiamondRows" "endless" "LDiamondRows$Endless;" ∈ wsX10_growth := (List.mem_cons_of_mem _ (List.mem_append_left _ (List.mem_of_getElem? (i := 0) rfl)))
def zQ_X10_growth (p : Program) (l : Launch) (e : Env) (s : State) (m : MethodId) (args : Array Value) (below : List Frame) (meth : Method) (c : Code) (Q : State → Prop) (H : Heap) (locs : List Loc)  (o : Int) : Prop := ∀ (ls : Array Slot) (pc : Nat), decode cX10_growth pc = .ok (.lreturn, 1) → W p l e zr_X10_growth s m args below meth c H locs 0 0 Q (F0 m pc ls [.long (zl o)])
set_option maxHeartbeats 4000000 in
set_option maxRecDepth 100000 in
theorem zs_X10_growth {p : Program} {l : Launch} {e : Env} {s : State} {m : MethodId} {args : Array Value} {below : List Frame} {meth : Method} {c : Code} {Q : State → Prop} {D : va_G} {κ : Nat → ClassId} {H : Heap} {locs : List Loc} (t : Nat → Nat) (mk : Nat) (ad : Nat → Nat → Nat) (t_polygon : Nat) (t_bits : Int) (t_mendedNumber : Int) (endless_size : Int) (endless_numbers : Nat)  (hx : p.tables.exec = Jvm.exec) (hb : c.code = cX10_growth) (hml : c.maxLocals = 1) (hown : s.vm.findClass RX10 = some m.cls) (hts : ∀ w ∈ wsX10_growth, w.before args s = true) (hK : va_K D vwCl (zTY κ) s) (hP : va_P D vwCl ([((t 0), .inr (10, [.ref (t 1), .ref (t 3), .ref (t 5), .ref (t 6), .ref (t 9), .ref (t 11), .ref (t 15), .ref (t 17), .ref (t 27), .ref (t 30), zpg ad t_polygon, .int (zi t_bits), .int (zi t_mendedNumber)])), ((t 15), .inr (2, [.ref (t 16), .int (zi endless_size)])), ((t 16), .inl (κ 1, 10, .inl (zc endless_numbers)))]) H) (hB : zAmb D κ mk ad H) (ls : Array Slot) (hl : lv_has ls 1 [(0, .ref (t 0))]) (hg : Go (zQ_X10_growth p l e s m args below meth c Q H locs) (zf_X10_growth mk endless_size endless_numbers )) : W p l e zr_X10_growth s m args below meth c H locs 0 0 Q (F0 m 0 ls []) := by
  unfold zf_X10_growth at hg
  refine lv_aload_n hx hb dX10_growth_0 rfl (lv_at hl 0 rfl) ?_
  refine va_get (D := D) (ci := 10) (v := .ref (t 15)) (C := RX10) (T := TX10) (N := 13) hx hb hts zi_X10_growth_X10 hown hK hP 0 rfl rfl 6 (by decide) (hts (.fieldLink RX10 54 "DiamondRows" "endless" "LDiamondRows$Endless;") zl_X10_growth_54) (fun _ h9 => h9) rfl dX10_growth_1 ?_
  obtain ⟨o1, ho1, hg⟩ := Go_b hg
  refine zc_vl (rest := []) ⟨hx, hb, hml, hown, hts⟩ (zc_X2_growthOfRound l D κ (fun i => t (i + 15)) endless_size endless_numbers o1 ho1) (cwV 0 hts gX10_growth_X2_growthOfRound rfl rfl rfl hv_X2_growthOfRound ⟨Nat.le_of_ble_eq_true rfl, Nat.le_of_ble_eq_true rfl⟩) (zpreV hK (hP.sub [1, 2] rfl) 2 0 rfl rfl) rfl hl.1 rfl (Nat.le_of_ble_eq_true rfl) dX10_growth_4 ⟨Nat.zero_le _, Nat.zero_le _⟩ ?_
  exact (Go_s hg) _ _ dX10_growth_7
set_option maxHeartbeats 4000000 in
set_option maxRecDepth 100000 in
theorem zc_X10_growth (l : Launch) (D : va_G) (κ : Nat → ClassId) (t : Nat → Nat) (mk : Nat) (ad : Nat → Nat → Nat) (t_polygon : Nat) (t_bits : Int) (t_mendedNumber : Int) (endless_size : Int) (endless_numbers : Nat)  (out : Int) (h : zf_X10_growth mk endless_size endless_numbers  = some out) : Met l yX10_growth wsX10_growth zr_X10_growth (va_Pc [.ref (t 0)] (zRa D κ mk ad ([((t 0), .inr (10, [.ref (t 1), .ref (t 3), .ref (t 5), .ref (t 6), .ref (t 9), .ref (t 11), .ref (t 15), .ref (t 17), .ref (t 27), .ref (t 30), zpg ad t_polygon, .int (zi t_bits), .int (zi t_mendedNumber)])), ((t 15), .inr (2, [.ref (t 16), .int (zi endless_size)])), ((t 16), .inl (κ 1, 10, .inl (zc endless_numbers)))]))) (vp_Sl (fun x => x = zl out)) 0 0 (fun _ => False) := by
  refine Met.ofW (cc := cX10_growth) (maxL := 1) (ret := (some .long)) (by decide +kernel) rfl ?_
  intro p e s m args below meth c s₁ B hml hv
  obtain ⟨rfl, hP, hK, hB⟩ := hv
  have hx := B.exec
  have hb := B.bytes
  have hr := B.returns
  have hts := atoms_spec (ws := wsX10_growth) B.pre
  have hown : s.vm.findClass RX10 = some m.cls := findClass_of_methodNamed B.named
  have hlocks := B.notSynchronized
  have hl := lv_entry ([.ref (t 0)]) (n := 1) (Nat.le_of_ble_eq_true rfl)
  rw [lg_entry_eq]
  generalize (lg_sl ([.ref (t 0)]) ++ List.replicate (1 - (lg_sl ([.ref (t 0)])).length) Slot.unset).toArray = ls at hl ⊢
  have hl : lv_has ls 1 [(0, .ref (t 0))] := hl
  refine zs_X10_growth t mk ad t_polygon t_bits t_mendedNumber endless_size endless_numbers  hx hb hml hown hts hK hP hB ls hl ⟨out, h, ?_⟩
  exact fun ls pc hd => W.lret hx hb hr (fun t ht hW => ⟨_, rfl, rfl, ht⟩) (fun _ h => by cases h) hd
/-! DiamondRows.glue(I)I -/
abbrev zr_X10_glue : Room := { frames := 5, cells := 0, slots := 0, locals := 108 }
noncomputable def zf_X10_glue (mk : Nat) (endless_size : Int) (endless_numbers : Nat) (i1 : Int) : Option (Int × Int × Nat) :=
  Option.bind (zf_X2_hasPlace endless_size i1) (fun o1 =>
  if o1 = false then
  some ((-2 : Int), endless_size, endless_numbers)
  else
  Option.bind (zf_X2_canGlue endless_size endless_numbers i1) (fun o2 =>
  if o2 = false then
  some ((-3 : Int), endless_size, endless_numbers)
  else
  Option.bind (zf_X2_glueBehind endless_size endless_numbers i1) (fun o3 =>
  some ((o3.1), (o3.2.1), (o3.2.2)))))
theorem zi_X10_glue_X10 : ∀ w ∈ u_ws RX10 TX10 13, w ∈ wsX10_glue := fun w h => (List.mem_cons_of_mem _ (List.mem_append_right _ (List.mem_append_left _ h)))
theorem zl_X10_glue_54 : Cond.fieldLink RX10 54 "DiamondRows" "endless" "LDiamondRows$Endless;" ∈ wsX10_glue := (List.mem_cons_of_mem _ (List.mem_append_left _ (List.mem_of_getElem? (i := 0) rfl)))
def zQ_X10_glue (p : Program) (l : Launch) (e : Env) (s : State) (m : MethodId) (args : Array Value) (below : List Frame) (meth : Method) (c : Code) (Q : State → Prop) (D : va_G) (κ : Nat → ClassId) (A : Nat → Prop) (H0 : Heap) (t : Nat → Nat) (mk : Nat) (ad : Nat → Nat → Nat) (t_polygon : Nat) (t_bits : Int) (t_mendedNumber : Int) (o : Int × Int × Nat) : Prop := ∀ (H : Heap) (locs : List Loc) (ls : Array Slot) (pc : Nat), va_P D vwCl ([((t 0), .inr (10, [.ref (t 1), .ref (t 3), .ref (t 5), .ref (t 6), .ref (t 9), .ref (t 11), .ref (t 15), .ref (t 17), .ref (t 27), .ref (t 30), zpg ad t_polygon, .int (zi t_bits), .int (zi t_mendedNumber)])), ((t 15), .inr (2, [.ref (t 16), .int (zi (o.2.1))])), ((t 16), .inl (κ 1, 10, .inl (zc (o.2.2))))]) H → va_D A ([((t 0), .inr (10, [.ref (t 1), .ref (t 3), .ref (t 5), .ref (t 6), .ref (t 9), .ref (t 11), .ref (t 15), .ref (t 17), .ref (t 27), .ref (t 30), zpg ad t_polygon, .int (zi t_bits), .int (zi t_mendedNumber)])), ((t 15), .inr (2, [.ref (t 16), .int (zi (o.2.1))])), ((t 16), .inl (κ 1, 10, .inl (zc (o.2.2))))]) → va_S A H0 H locs → decode cX10_glue pc = .ok (.ireturn, 1) → W p l e zr_X10_glue s m args below meth c H locs 0 0 Q (F0 m pc ls [.int (zi (o.1))])
set_option maxHeartbeats 4000000 in
set_option maxRecDepth 100000 in
theorem zs_X10_glue {p : Program} {l : Launch} {e : Env} {s : State} {m : MethodId} {args : Array Value} {below : List Frame} {meth : Method} {c : Code} {Q : State → Prop} {D : va_G} {κ : Nat → ClassId} {A : Nat → Prop} {H0 : Heap} (t : Nat → Nat) (mk : Nat) (ad : Nat → Nat → Nat) (t_polygon : Nat) (t_bits : Int) (t_mendedNumber : Int) (endless_size : Int) (endless_numbers : Nat) (i1 : Int) (hx : p.tables.exec = Jvm.exec) (hb : c.code = cX10_glue) (hml : c.maxLocals = 2) (hown : s.vm.findClass RX10 = some m.cls) (hts : ∀ w ∈ wsX10_glue, w.before args s = true) (hK : va_K D vwCl (zTY κ) s) (hA : ∀ q : Nat, H0.size ≤ q → A q) (hB : zAmb D κ mk ad H0) (hBA : zApt mk ad A H0.size) (H : Heap) (locs : List Loc) (ls : Array Slot) (hP : va_P D vwCl ([((t 0), .inr (10, [.ref (t 1), .ref (t 3), .ref (t 5), .ref (t 6), .ref (t 9), .ref (t 11), .ref (t 15), .ref (t 17), .ref (t 27), .ref (t 30), zpg ad t_polygon, .int (zi t_bits), .int (zi t_mendedNumber)])), ((t 15), .inr (2, [.ref (t 16), .int (zi endless_size)])), ((t 16), .inl (κ 1, 10, .inl (zc endless_numbers)))]) H) (hD : va_D A ([((t 0), .inr (10, [.ref (t 1), .ref (t 3), .ref (t 5), .ref (t 6), .ref (t 9), .ref (t 11), .ref (t 15), .ref (t 17), .ref (t 27), .ref (t 30), zpg ad t_polygon, .int (zi t_bits), .int (zi t_mendedNumber)])), ((t 15), .inr (2, [.ref (t 16), .int (zi endless_size)])), ((t 16), .inl (κ 1, 10, .inl (zc endless_numbers)))])) (hS : va_S A H0 H locs) (hl : lv_has ls 2 [(0, .ref (t 0)), (1, .int (zi i1))]) (hg : Go (zQ_X10_glue p l e s m args below meth c Q D κ A H0 t mk ad t_polygon t_bits t_mendedNumber) (zf_X10_glue mk endless_size endless_numbers i1)) : W p l e zr_X10_glue s m args below meth c H locs 0 0 Q (F0 m 0 ls []) := by
  unfold zf_X10_glue at hg
  refine lv_aload_n hx hb dX10_glue_0 rfl (lv_at hl 0 rfl) ?_
  refine va_get (D := D) (ci := 10) (v := .ref (t 15)) (C := RX10) (T := TX10) (N := 13) hx hb hts zi_X10_glue_X10 hown hK hP 0 rfl rfl 6 (by decide) (hts (.fieldLink RX10 54 "DiamondRows" "endless" "LDiamondRows$Endless;") zl_X10_glue_54) (fun _ h9 => h9) rfl dX10_glue_1 ?_
  refine lv_iload_n hx hb dX10_glue_4 rfl (lv_at hl 1 rfl) ?_
  obtain ⟨o1, ho1, hg⟩ := Go_b hg
  refine zc_vi (rest := []) ⟨hx, hb, hml, hown, hts⟩ (zc_X2_hasPlace l D κ (fun i => t (i + 15)) endless_size endless_numbers i1 o1 ho1) (cwV 1 hts gX10_glue_X2_hasPlace rfl rfl rfl hv_X2_hasPlace ⟨Nat.le_of_ble_eq_true rfl, Nat.le_of_ble_eq_true rfl⟩) (zpreV hK (hP.sub [1, 2] rfl) 2 0 rfl rfl) rfl hl.1 rfl (Nat.le_of_ble_eq_true rfl) dX10_glue_5 ⟨Nat.zero_le _, Nat.zero_le _⟩ ?_
  refine zv_ifb_ne (tgt := 14) hx hb dX10_glue_8 (by decide) (fun c5 => ?_) (fun c5 => ?_)
  · have hg := Go_f c5 hg
    refine lv_aload_n hx hb dX10_glue_14 rfl (lv_at hl 0 rfl) ?_
    refine va_get (D := D) (ci := 10) (v := .ref (t 15)) (C := RX10) (T := TX10) (N := 13) hx hb hts zi_X10_glue_X10 hown hK hP 0 rfl rfl 6 (by decide) (hts (.fieldLink RX10 54 "DiamondRows" "endless" "LDiamondRows$Endless;") zl_X10_glue_54) (fun _ h9 => h9) rfl dX10_glue_15 ?_
    refine lv_iload_n hx hb dX10_glue_18 rfl (lv_at hl 1 rfl) ?_
    obtain ⟨o2, ho2, hg⟩ := Go_b hg
    refine zc_vi (rest := []) ⟨hx, hb, hml, hown, hts⟩ (zc_X2_canGlue l D κ (fun i => t (i + 15)) endless_size endless_numbers i1 o2 ho2) (cwV 1 hts gX10_glue_X2_canGlue rfl rfl rfl hv_X2_canGlue ⟨Nat.le_of_ble_eq_true rfl, Nat.le_of_ble_eq_true rfl⟩) (zpreV hK (hP.sub [1, 2] rfl) 2 0 rfl rfl) rfl hl.1 rfl (Nat.le_of_ble_eq_true rfl) dX10_glue_19 ⟨Nat.zero_le _, Nat.zero_le _⟩ ?_
    refine zv_ifb_eq (tgt := 36) hx hb dX10_glue_22 (by decide) (fun c4 => ?_) (fun c4 => ?_)
    · have hg := Go_t c4 hg
      refine zv_bipush hx hb dX10_glue_36 (by decide) ?_
      exact (Go_s hg) _ _ _ _ hP hD hS dX10_glue_38
    · have hg := Go_f c4 hg
      refine lv_aload_n hx hb dX10_glue_25 rfl (lv_at hl 0 rfl) ?_
      refine va_get (D := D) (ci := 10) (v := .ref (t 15)) (C := RX10) (T := TX10) (N := 13) hx hb hts zi_X10_glue_X10 hown hK hP 0 rfl rfl 6 (by decide) (hts (.fieldLink RX10 54 "DiamondRows" "endless" "LDiamondRows$Endless;") zl_X10_glue_54) (fun _ h9 => h9) rfl dX10_glue_26 ?_
      refine lv_iload_n hx hb dX10_glue_29 rfl (lv_at hl 1 rfl) ?_
      obtain ⟨o3, ho3, hg⟩ := Go_b hg
      refine zj_i (wr := [((t 0), .inr (10, [.ref (t 1), .ref (t 3), .ref (t 5), .ref (t 6), .ref (t 9), .ref (t 11), .ref (t 15), .ref (t 17), .ref (t 27), .ref (t 30), zpg ad t_polygon, .int (zi t_bits), .int (zi t_mendedNumber)]))]) (ws1 := [((t 0), .inr (10, [.ref (t 1), .ref (t 3), .ref (t 5), .ref (t 6), .ref (t 9), .ref (t 11), .ref (t 15), .ref (t 17), .ref (t 27), .ref (t 30), zpg ad t_polygon, .int (zi t_bits), .int (zi t_mendedNumber)])), ((t 15), .inr (2, [.ref (t 16), .int (zi (o3.2.1))])), ((t 16), .inl (κ 1, 10, .inl (zc (o3.2.2))))]) (va_runV (rest := []) ⟨hx, hb, hml, hown, hts⟩ (zc_X2_glueBehind l D κ (fun i => t (i + 15)) H.size endless_size endless_numbers i1 o3 ho3) (cwV 1 hts gX10_glue_X2_glueBehind rfl rfl rfl hv_X2_glueBehind ⟨Nat.le_of_ble_eq_true rfl, Nat.le_of_ble_eq_true rfl⟩) (zpreWV hK (hP.sub [1, 2] rfl) (hD.sub [1, 2] (by decide) rfl) 2 0 rfl rfl) rfl rfl hl.1 rfl (lv_room (Nat.le_of_ble_eq_true rfl)) dX10_glue_30 ⟨Nat.zero_le _, Nat.zero_le _⟩) hP hD hS hA [1, 2] [0] [0, 1, 2] rfl rfl (by decide) (by decide) rfl rfl (by decide) (fun H locs hP hD hS => ?_)
      refine lv_goto (tgt := 38) hx hb dX10_glue_33 (by decide) ?_
      exact (Go_s hg) _ _ _ _ hP hD hS dX10_glue_38
  · have hg := Go_t c5 hg
    refine zv_bipush hx hb dX10_glue_11 (by decide) ?_
    exact (Go_s hg) _ _ _ _ hP hD hS dX10_glue_13
set_option maxHeartbeats 4000000 in
set_option maxRecDepth 100000 in
theorem zc_X10_glue (l : Launch) (D : va_G) (κ : Nat → ClassId) (t : Nat → Nat) (mk : Nat) (ad : Nat → Nat → Nat) (sz : Nat) (t_polygon : Nat) (t_bits : Int) (t_mendedNumber : Int) (endless_size : Int) (endless_numbers : Nat) (i1 : Int) (out : Int × Int × Nat) (h : zf_X10_glue mk endless_size endless_numbers i1 = some out) : Met l yX10_glue wsX10_glue zr_X10_glue (va_Pc [.ref (t 0), .int (zi i1)] (zWa D κ mk ad ([((t 0), .inr (10, [.ref (t 1), .ref (t 3), .ref (t 5), .ref (t 6), .ref (t 9), .ref (t 11), .ref (t 15), .ref (t 17), .ref (t 27), .ref (t 30), zpg ad t_polygon, .int (zi t_bits), .int (zi t_mendedNumber)])), ((t 15), .inr (2, [.ref (t 16), .int (zi endless_size)])), ((t 16), .inl (κ 1, 10, .inl (zc endless_numbers)))]) sz)) (va_Qi (fun r (_ : Unit) => r = zi (out.1)) (fun _ => zB D κ (va_A ([((t 0), .inr (10, [.ref (t 1), .ref (t 3), .ref (t 5), .ref (t 6), .ref (t 9), .ref (t 11), .ref (t 15), .ref (t 17), .ref (t 27), .ref (t 30), zpg ad t_polygon, .int (zi t_bits), .int (zi t_mendedNumber)])), ((t 15), .inr (2, [.ref (t 16), .int (zi endless_size)])), ((t 16), .inl (κ 1, 10, .inl (zc endless_numbers)))]) sz) ([((t 0), .inr (10, [.ref (t 1), .ref (t 3), .ref (t 5), .ref (t 6), .ref (t 9), .ref (t 11), .ref (t 15), .ref (t 17), .ref (t 27), .ref (t 30), zpg ad t_polygon, .int (zi t_bits), .int (zi t_mendedNumber)])), ((t 15), .inr (2, [.ref (t 16), .int (zi (out.2.1))])), ((t 16), .inl (κ 1, 10, .inl (zc (out.2.2))))])) (va_A ([((t 0), .inr (10, [.ref (t 1), .ref (t 3), .ref (t 5), .ref (t 6), .ref (t 9), .ref (t 11), .ref (t 15), .ref (t 17), .ref (t 27), .ref (t 30), zpg ad t_polygon, .int (zi t_bits), .int (zi t_mendedNumber)])), ((t 15), .inr (2, [.ref (t 16), .int (zi endless_size)])), ((t 16), .inl (κ 1, 10, .inl (zc endless_numbers)))]) sz)) 0 0 (va_A ([((t 0), .inr (10, [.ref (t 1), .ref (t 3), .ref (t 5), .ref (t 6), .ref (t 9), .ref (t 11), .ref (t 15), .ref (t 17), .ref (t 27), .ref (t 30), zpg ad t_polygon, .int (zi t_bits), .int (zi t_mendedNumber)])), ((t 15), .inr (2, [.ref (t 16), .int (zi endless_size)])), ((t 16), .inl (κ 1, 10, .inl (zc endless_numbers)))]) sz) := by
  refine Met.ofW (cc := cX10_glue) (maxL := 2) (ret := (some .int)) (by decide +kernel) rfl ?_
  intro p e s m args below meth c s₁ B hml hv
  obtain ⟨rfl, hsz, hP, hK, hD0, hB, hBA⟩ := hv
  have hx := B.exec
  have hb := B.bytes
  have hr := B.returns
  have hts := atoms_spec (ws := wsX10_glue) B.pre
  have hown : s.vm.findClass RX10 = some m.cls := findClass_of_methodNamed B.named
  have hlocks := B.notSynchronized
  subst hsz
  have hD := hD0.self (sz := s.heap.size)
  generalize hAe : va_A ([((t 0), .inr (10, [.ref (t 1), .ref (t 3), .ref (t 5), .ref (t 6), .ref (t 9), .ref (t 11), .ref (t 15), .ref (t 17), .ref (t 27), .ref (t 30), zpg ad t_polygon, .int (zi t_bits), .int (zi t_mendedNumber)])), ((t 15), .inr (2, [.ref (t 16), .int (zi endless_size)])), ((t 16), .inl (κ 1, 10, .inl (zc endless_numbers)))]) s.heap.size = A at hD hBA ⊢
  have hA : ∀ q : Nat, s.heap.size ≤ q → A q := fun q h => by rw [← hAe]; exact Or.inr h
  have hS : va_S A s.heap s.heap [] := va_S.rf
  have hl := lv_entry ([.ref (t 0), .int (zi i1)]) (n := 2) (Nat.le_of_ble_eq_true rfl)
  rw [lg_entry_eq]
  generalize (lg_sl ([.ref (t 0), .int (zi i1)]) ++ List.replicate (2 - (lg_sl ([.ref (t 0), .int (zi i1)])).length) Slot.unset).toArray = ls at hl ⊢
  have hl : lv_has ls 2 [(0, .ref (t 0)), (1, .int (zi i1))] := hl
  refine zs_X10_glue t mk ad t_polygon t_bits t_mendedNumber endless_size endless_numbers i1 hx hb hml hown hts hK hA hB hBA s.heap [] ls hP hD hS hl ⟨out, h, ?_⟩
  exact fun H locs ls pc hP hD hS hd => W.iret hx hb hr (fun t ht hW => ⟨⟨_, (), rfl, rfl, by rw [ht]; exact hP, va_K.moved hW.alike hK, hD⟩, hS.F ht⟩) hS.2.2 hd
/-! DiamondRows.cutOff(I)I -/
abbrev zr_X10_cutOff : Room := { frames := 5, cells := 0, slots := 0, locals := 107 }
noncomputable def zf_X10_cutOff (mk : Nat) (endless_size : Int) (endless_numbers : Nat) (i1 : Int) : Option (Int × Int × Nat) :=
  Option.bind (zf_X2_hasPlace endless_size i1) (fun o1 =>
  if o1 = false then
  some ((-2 : Int), endless_size, endless_numbers)
  else
  Option.bind (zf_X2_canLose endless_size endless_numbers i1) (fun o2 =>
  if o2 = false then
  some ((-4 : Int), endless_size, endless_numbers)
  else
  Option.bind (zf_X2_lose endless_size endless_numbers i1) (fun o3 =>
  some ((o3.1), (o3.2.1), (o3.2.2)))))
theorem zi_X10_cutOff_X10 : ∀ w ∈ u_ws RX10 TX10 13, w ∈ wsX10_cutOff := fun w h => (List.mem_cons_of_mem _ (List.mem_append_right _ (List.mem_append_left _ h)))
theorem zl_X10_cutOff_54 : Cond.fieldLink RX10 54 "DiamondRows" "endless" "LDiamondRows$Endless;" ∈ wsX10_cutOff := (List.mem_cons_of_mem _ (List.mem_append_left _ (List.mem_of_getElem? (i := 0) rfl)))
def zQ_X10_cutOff (p : Program) (l : Launch) (e : Env) (s : State) (m : MethodId) (args : Array Value) (below : List Frame) (meth : Method) (c : Code) (Q : State → Prop) (D : va_G) (κ : Nat → ClassId) (A : Nat → Prop) (H0 : Heap) (t : Nat → Nat) (mk : Nat) (ad : Nat → Nat → Nat) (t_polygon : Nat) (t_bits : Int) (t_mendedNumber : Int) (o : Int × Int × Nat) : Prop := ∀ (H : Heap) (locs : List Loc) (ls : Array Slot) (pc : Nat), va_P D vwCl ([((t 0), .inr (10, [.ref (t 1), .ref (t 3), .ref (t 5), .ref (t 6), .ref (t 9), .ref (t 11), .ref (t 15), .ref (t 17), .ref (t 27), .ref (t 30), zpg ad t_polygon, .int (zi t_bits), .int (zi t_mendedNumber)])), ((t 15), .inr (2, [.ref (t 16), .int (zi (o.2.1))])), ((t 16), .inl (κ 1, 10, .inl (zc (o.2.2))))]) H → va_D A ([((t 0), .inr (10, [.ref (t 1), .ref (t 3), .ref (t 5), .ref (t 6), .ref (t 9), .ref (t 11), .ref (t 15), .ref (t 17), .ref (t 27), .ref (t 30), zpg ad t_polygon, .int (zi t_bits), .int (zi t_mendedNumber)])), ((t 15), .inr (2, [.ref (t 16), .int (zi (o.2.1))])), ((t 16), .inl (κ 1, 10, .inl (zc (o.2.2))))]) → va_S A H0 H locs → decode cX10_cutOff pc = .ok (.ireturn, 1) → W p l e zr_X10_cutOff s m args below meth c H locs 0 0 Q (F0 m pc ls [.int (zi (o.1))])
set_option maxHeartbeats 4000000 in
set_option maxRecDepth 100000 in
theorem zs_X10_cutOff {p : Program} {l : Launch} {e : Env} {s : State} {m : MethodId} {args : Array Value} {below : List Frame} {meth : Method} {c : Code} {Q : State → Prop} {D : va_G} {κ : Nat → ClassId} {A : Nat → Prop} {H0 : Heap} (t : Nat → Nat) (mk : Nat) (ad : Nat → Nat → Nat) (t_polygon : Nat) (t_bits : Int) (t_mendedNumber : Int) (endless_size : Int) (endless_numbers : Nat) (i1 : Int) (hx : p.tables.exec = Jvm.exec) (hb : c.code = cX10_cutOff) (hml : c.maxLocals = 2) (hown : s.vm.findClass RX10 = some m.cls) (hts : ∀ w ∈ wsX10_cutOff, w.before args s = true) (hK : va_K D vwCl (zTY κ) s) (hA : ∀ q : Nat, H0.size ≤ q → A q) (hB : zAmb D κ mk ad H0) (hBA : zApt mk ad A H0.size) (H : Heap) (locs : List Loc) (ls : Array Slot) (hP : va_P D vwCl ([((t 0), .inr (10, [.ref (t 1), .ref (t 3), .ref (t 5), .ref (t 6), .ref (t 9), .ref (t 11), .ref (t 15), .ref (t 17), .ref (t 27), .ref (t 30), zpg ad t_polygon, .int (zi t_bits), .int (zi t_mendedNumber)])), ((t 15), .inr (2, [.ref (t 16), .int (zi endless_size)])), ((t 16), .inl (κ 1, 10, .inl (zc endless_numbers)))]) H) (hD : va_D A ([((t 0), .inr (10, [.ref (t 1), .ref (t 3), .ref (t 5), .ref (t 6), .ref (t 9), .ref (t 11), .ref (t 15), .ref (t 17), .ref (t 27), .ref (t 30), zpg ad t_polygon, .int (zi t_bits), .int (zi t_mendedNumber)])), ((t 15), .inr (2, [.ref (t 16), .int (zi endless_size)])), ((t 16), .inl (κ 1, 10, .inl (zc endless_numbers)))])) (hS : va_S A H0 H locs) (hl : lv_has ls 2 [(0, .ref (t 0)), (1, .int (zi i1))]) (hg : Go (zQ_X10_cutOff p l e s m args below meth c Q D κ A H0 t mk ad t_polygon t_bits t_mendedNumber) (zf_X10_cutOff mk endless_size endless_numbers i1)) : W p l e zr_X10_cutOff s m args below meth c H locs 0 0 Q (F0 m 0 ls []) := by
  unfold zf_X10_cutOff at hg
  refine lv_aload_n hx hb dX10_cutOff_0 rfl (lv_at hl 0 rfl) ?_
  refine va_get (D := D) (ci := 10) (v := .ref (t 15)) (C := RX10) (T := TX10) (N := 13) hx hb hts zi_X10_cutOff_X10 hown hK hP 0 rfl rfl 6 (by decide) (hts (.fieldLink RX10 54 "DiamondRows" "endless" "LDiamondRows$Endless;") zl_X10_cutOff_54) (fun _ h9 => h9) rfl dX10_cutOff_1 ?_
  refine lv_iload_n hx hb dX10_cutOff_4 rfl (lv_at hl 1 rfl) ?_
  obtain ⟨o1, ho1, hg⟩ := Go_b hg
  refine zc_vi (rest := []) ⟨hx, hb, hml, hown, hts⟩ (zc_X2_hasPlace l D κ (fun i => t (i + 15)) endless_size endless_numbers i1 o1 ho1) (cwV 1 hts gX10_cutOff_X2_hasPlace rfl rfl rfl hv_X2_hasPlace ⟨Nat.le_of_ble_eq_true rfl, Nat.le_of_ble_eq_true rfl⟩) (zpreV hK (hP.sub [1, 2] rfl) 2 0 rfl rfl) rfl hl.1 rfl (Nat.le_of_ble_eq_true rfl) dX10_cutOff_5 ⟨Nat.zero_le _, Nat.zero_le _⟩ ?_
  refine zv_ifb_ne (tgt := 14) hx hb dX10_cutOff_8 (by decide) (fun c5 => ?_) (fun c5 => ?_)
  · have hg := Go_f c5 hg
    refine lv_aload_n hx hb dX10_cutOff_14 rfl (lv_at hl 0 rfl) ?_
    refine va_get (D := D) (ci := 10) (v := .ref (t 15)) (C := RX10) (T := TX10) (N := 13) hx hb hts zi_X10_cutOff_X10 hown hK hP 0 rfl rfl 6 (by decide) (hts (.fieldLink RX10 54 "DiamondRows" "endless" "LDiamondRows$Endless;") zl_X10_cutOff_54) (fun _ h9 => h9) rfl dX10_cutOff_15 ?_
    refine lv_iload_n hx hb dX10_cutOff_18 rfl (lv_at hl 1 rfl) ?_
    obtain ⟨o2, ho2, hg⟩ := Go_b hg
    refine zc_vi (rest := []) ⟨hx, hb, hml, hown, hts⟩ (zc_X2_canLose l D κ (fun i => t (i + 15)) endless_size endless_numbers i1 o2 ho2) (cwV 1 hts gX10_cutOff_X2_canLose rfl rfl rfl hv_X2_canLose ⟨Nat.le_of_ble_eq_true rfl, Nat.le_of_ble_eq_true rfl⟩) (zpreV hK (hP.sub [1, 2] rfl) 2 0 rfl rfl) rfl hl.1 rfl (Nat.le_of_ble_eq_true rfl) dX10_cutOff_19 ⟨Nat.zero_le _, Nat.zero_le _⟩ ?_
    refine zv_ifb_eq (tgt := 36) hx hb dX10_cutOff_22 (by decide) (fun c4 => ?_) (fun c4 => ?_)
    · have hg := Go_t c4 hg
      refine zv_bipush hx hb dX10_cutOff_36 (by decide) ?_
      exact (Go_s hg) _ _ _ _ hP hD hS dX10_cutOff_38
    · have hg := Go_f c4 hg
      refine lv_aload_n hx hb dX10_cutOff_25 rfl (lv_at hl 0 rfl) ?_
      refine va_get (D := D) (ci := 10) (v := .ref (t 15)) (C := RX10) (T := TX10) (N := 13) hx hb hts zi_X10_cutOff_X10 hown hK hP 0 rfl rfl 6 (by decide) (hts (.fieldLink RX10 54 "DiamondRows" "endless" "LDiamondRows$Endless;") zl_X10_cutOff_54) (fun _ h9 => h9) rfl dX10_cutOff_26 ?_
      refine lv_iload_n hx hb dX10_cutOff_29 rfl (lv_at hl 1 rfl) ?_
      obtain ⟨o3, ho3, hg⟩ := Go_b hg
      refine zj_i (wr := [((t 0), .inr (10, [.ref (t 1), .ref (t 3), .ref (t 5), .ref (t 6), .ref (t 9), .ref (t 11), .ref (t 15), .ref (t 17), .ref (t 27), .ref (t 30), zpg ad t_polygon, .int (zi t_bits), .int (zi t_mendedNumber)]))]) (ws1 := [((t 0), .inr (10, [.ref (t 1), .ref (t 3), .ref (t 5), .ref (t 6), .ref (t 9), .ref (t 11), .ref (t 15), .ref (t 17), .ref (t 27), .ref (t 30), zpg ad t_polygon, .int (zi t_bits), .int (zi t_mendedNumber)])), ((t 15), .inr (2, [.ref (t 16), .int (zi (o3.2.1))])), ((t 16), .inl (κ 1, 10, .inl (zc (o3.2.2))))]) (va_runV (rest := []) ⟨hx, hb, hml, hown, hts⟩ (zc_X2_lose l D κ (fun i => t (i + 15)) H.size endless_size endless_numbers i1 o3 ho3) (cwV 1 hts gX10_cutOff_X2_lose rfl rfl rfl hv_X2_lose ⟨Nat.le_of_ble_eq_true rfl, Nat.le_of_ble_eq_true rfl⟩) (zpreWV hK (hP.sub [1, 2] rfl) (hD.sub [1, 2] (by decide) rfl) 2 0 rfl rfl) rfl rfl hl.1 rfl (lv_room (Nat.le_of_ble_eq_true rfl)) dX10_cutOff_30 ⟨Nat.zero_le _, Nat.zero_le _⟩) hP hD hS hA [1, 2] [0] [0, 1, 2] rfl rfl (by decide) (by decide) rfl rfl (by decide) (fun H locs hP hD hS => ?_)
      refine lv_goto (tgt := 38) hx hb dX10_cutOff_33 (by decide) ?_
      exact (Go_s hg) _ _ _ _ hP hD hS dX10_cutOff_38
  · have hg := Go_t c5 hg
    refine zv_bipush hx hb dX10_cutOff_11 (by decide) ?_
    exact (Go_s hg) _ _ _ _ hP hD hS dX10_cutOff_13
set_option maxHeartbeats 4000000 in
set_option maxRecDepth 100000 in
theorem zc_X10_cutOff (l : Launch) (D : va_G) (κ : Nat → ClassId) (t : Nat → Nat) (mk : Nat) (ad : Nat → Nat → Nat) (sz : Nat) (t_polygon : Nat) (t_bits : Int) (t_mendedNumber : Int) (endless_size : Int) (endless_numbers : Nat) (i1 : Int) (out : Int × Int × Nat) (h : zf_X10_cutOff mk endless_size endless_numbers i1 = some out) : Met l yX10_cutOff wsX10_cutOff zr_X10_cutOff (va_Pc [.ref (t 0), .int (zi i1)] (zWa D κ mk ad ([((t 0), .inr (10, [.ref (t 1), .ref (t 3), .ref (t 5), .ref (t 6), .ref (t 9), .ref (t 11), .ref (t 15), .ref (t 17), .ref (t 27), .ref (t 30), zpg ad t_polygon, .int (zi t_bits), .int (zi t_mendedNumber)])), ((t 15), .inr (2, [.ref (t 16), .int (zi endless_size)])), ((t 16), .inl (κ 1, 10, .inl (zc endless_numbers)))]) sz)) (va_Qi (fun r (_ : Unit) => r = zi (out.1)) (fun _ => zB D κ (va_A ([((t 0), .inr (10, [.ref (t 1), .ref (t 3), .ref (t 5), .ref (t 6), .ref (t 9), .ref (t 11), .ref (t 15), .ref (t 17), .ref (t 27), .ref (t 30), zpg ad t_polygon, .int (zi t_bits), .int (zi t_mendedNumber)])), ((t 15), .inr (2, [.ref (t 16), .int (zi endless_size)])), ((t 16), .inl (κ 1, 10, .inl (zc endless_numbers)))]) sz) ([((t 0), .inr (10, [.ref (t 1), .ref (t 3), .ref (t 5), .ref (t 6), .ref (t 9), .ref (t 11), .ref (t 15), .ref (t 17), .ref (t 27), .ref (t 30), zpg ad t_polygon, .int (zi t_bits), .int (zi t_mendedNumber)])), ((t 15), .inr (2, [.ref (t 16), .int (zi (out.2.1))])), ((t 16), .inl (κ 1, 10, .inl (zc (out.2.2))))])) (va_A ([((t 0), .inr (10, [.ref (t 1), .ref (t 3), .ref (t 5), .ref (t 6), .ref (t 9), .ref (t 11), .ref (t 15), .ref (t 17), .ref (t 27), .ref (t 30), zpg ad t_polygon, .int (zi t_bits), .int (zi t_mendedNumber)])), ((t 15), .inr (2, [.ref (t 16), .int (zi endless_size)])), ((t 16), .inl (κ 1, 10, .inl (zc endless_numbers)))]) sz)) 0 0 (va_A ([((t 0), .inr (10, [.ref (t 1), .ref (t 3), .ref (t 5), .ref (t 6), .ref (t 9), .ref (t 11), .ref (t 15), .ref (t 17), .ref (t 27), .ref (t 30), zpg ad t_polygon, .int (zi t_bits), .int (zi t_mendedNumber)])), ((t 15), .inr (2, [.ref (t 16), .int (zi endless_size)])), ((t 16), .inl (κ 1, 10, .inl (zc endless_numbers)))]) sz) := by
  refine Met.ofW (cc := cX10_cutOff) (maxL := 2) (ret := (some .int)) (by decide +kernel) rfl ?_
  intro p e s m args below meth c s₁ B hml hv
  obtain ⟨rfl, hsz, hP, hK, hD0, hB, hBA⟩ := hv
  have hx := B.exec
  have hb := B.bytes
  have hr := B.returns
  have hts := atoms_spec (ws := wsX10_cutOff) B.pre
  have hown : s.vm.findClass RX10 = some m.cls := findClass_of_methodNamed B.named
  have hlocks := B.notSynchronized
  subst hsz
  have hD := hD0.self (sz := s.heap.size)
  generalize hAe : va_A ([((t 0), .inr (10, [.ref (t 1), .ref (t 3), .ref (t 5), .ref (t 6), .ref (t 9), .ref (t 11), .ref (t 15), .ref (t 17), .ref (t 27), .ref (t 30), zpg ad t_polygon, .int (zi t_bits), .int (zi t_mendedNumber)])), ((t 15), .inr (2, [.ref (t 16), .int (zi endless_size)])), ((t 16), .inl (κ 1, 10, .inl (zc endless_numbers)))]) s.heap.size = A at hD hBA ⊢
  have hA : ∀ q : Nat, s.heap.size ≤ q → A q := fun q h => by rw [← hAe]; exact Or.inr h
  have hS : va_S A s.heap s.heap [] := va_S.rf
  have hl := lv_entry ([.ref (t 0), .int (zi i1)]) (n := 2) (Nat.le_of_ble_eq_true rfl)
  rw [lg_entry_eq]
  generalize (lg_sl ([.ref (t 0), .int (zi i1)]) ++ List.replicate (2 - (lg_sl ([.ref (t 0), .int (zi i1)])).length) Slot.unset).toArray = ls at hl ⊢
  have hl : lv_has ls 2 [(0, .ref (t 0)), (1, .int (zi i1))] := hl
  refine zs_X10_cutOff t mk ad t_polygon t_bits t_mendedNumber endless_size endless_numbers i1 hx hb hml hown hts hK hA hB hBA s.heap [] ls hP hD hS hl ⟨out, h, ?_⟩
  exact fun H locs ls pc hP hD hS hd => W.iret hx hb hr (fun t ht hW => ⟨⟨_, (), rfl, rfl, by rw [ht]; exact hP, va_K.moved hW.alike hK, hD⟩, hS.F ht⟩) hS.2.2 hd
/-! DiamondRows.core()I -/
abbrev zr_X10_core : Room := { frames := 6, cells := 0, slots := 0, locals := 130 }
noncomputable def zf_X10_core (mk : Nat) (endless_size : Int) (endless_numbers : Nat)  : Option (Int × Int × Nat) :=
  Option.bind (zf_X2_loseAll endless_size endless_numbers) (fun o1 =>
  some ((o1.1), (o1.2.1), (o1.2.2)))
theorem zi_X10_core_X10 : ∀ w ∈ u_ws RX10 TX10 13, w ∈ wsX10_core := fun w h => (List.mem_cons_of_mem _ (List.mem_append_right _ (List.mem_append_left _ h)))
theorem zl_X10_core_54 : Cond.fieldLink RX10 54 "DiamondRows" "endless" "LDiamondRows$Endless;" ∈ wsX10_core := (List.mem_cons_of_mem _ (List.mem_append_left _ (List.mem_of_getElem? (i := 0) rfl)))
def zQ_X10_core (p : Program) (l : Launch) (e : Env) (s : State) (m : MethodId) (args : Array Value) (below : List Frame) (meth : Method) (c : Code) (Q : State → Prop) (D : va_G) (κ : Nat → ClassId) (A : Nat → Prop) (H0 : Heap) (t : Nat → Nat) (mk : Nat) (ad : Nat → Nat → Nat) (t_polygon : Nat) (t_bits : Int) (t_mendedNumber : Int) (o : Int × Int × Nat) : Prop := ∀ (H : Heap) (locs : List Loc) (ls : Array Slot) (pc : Nat), va_P D vwCl ([((t 0), .inr (10, [.ref (t 1), .ref (t 3), .ref (t 5), .ref (t 6), .ref (t 9), .ref (t 11), .ref (t 15), .ref (t 17), .ref (t 27), .ref (t 30), zpg ad t_polygon, .int (zi t_bits), .int (zi t_mendedNumber)])), ((t 15), .inr (2, [.ref (t 16), .int (zi (o.2.1))])), ((t 16), .inl (κ 1, 10, .inl (zc (o.2.2))))]) H → va_D A ([((t 0), .inr (10, [.ref (t 1), .ref (t 3), .ref (t 5), .ref (t 6), .ref (t 9), .ref (t 11), .ref (t 15), .ref (t 17), .ref (t 27), .ref (t 30), zpg ad t_polygon, .int (zi t_bits), .int (zi t_mendedNumber)])), ((t 15), .inr (2, [.ref (t 16), .int (zi (o.2.1))])), ((t 16), .inl (κ 1, 10, .inl (zc (o.2.2))))]) → va_S A H0 H locs → decode cX10_core pc = .ok (.ireturn, 1) → W p l e zr_X10_core s m args below meth c H locs 0 0 Q (F0 m pc ls [.int (zi (o.1))])
set_option maxHeartbeats 4000000 in
set_option maxRecDepth 100000 in
theorem zs_X10_core {p : Program} {l : Launch} {e : Env} {s : State} {m : MethodId} {args : Array Value} {below : List Frame} {meth : Method} {c : Code} {Q : State → Prop} {D : va_G} {κ : Nat → ClassId} {A : Nat → Prop} {H0 : Heap} (t : Nat → Nat) (mk : Nat) (ad : Nat → Nat → Nat) (t_polygon : Nat) (t_bits : Int) (t_mendedNumber : Int) (endless_size : Int) (endless_numbers : Nat)  (hx : p.tables.exec = Jvm.exec) (hb : c.code = cX10_core) (hml : c.maxLocals = 1) (hown : s.vm.findClass RX10 = some m.cls) (hts : ∀ w ∈ wsX10_core, w.before args s = true) (hK : va_K D vwCl (zTY κ) s) (hA : ∀ q : Nat, H0.size ≤ q → A q) (hB : zAmb D κ mk ad H0) (hBA : zApt mk ad A H0.size) (H : Heap) (locs : List Loc) (ls : Array Slot) (hP : va_P D vwCl ([((t 0), .inr (10, [.ref (t 1), .ref (t 3), .ref (t 5), .ref (t 6), .ref (t 9), .ref (t 11), .ref (t 15), .ref (t 17), .ref (t 27), .ref (t 30), zpg ad t_polygon, .int (zi t_bits), .int (zi t_mendedNumber)])), ((t 15), .inr (2, [.ref (t 16), .int (zi endless_size)])), ((t 16), .inl (κ 1, 10, .inl (zc endless_numbers)))]) H) (hD : va_D A ([((t 0), .inr (10, [.ref (t 1), .ref (t 3), .ref (t 5), .ref (t 6), .ref (t 9), .ref (t 11), .ref (t 15), .ref (t 17), .ref (t 27), .ref (t 30), zpg ad t_polygon, .int (zi t_bits), .int (zi t_mendedNumber)])), ((t 15), .inr (2, [.ref (t 16), .int (zi endless_size)])), ((t 16), .inl (κ 1, 10, .inl (zc endless_numbers)))])) (hS : va_S A H0 H locs) (hl : lv_has ls 1 [(0, .ref (t 0))]) (hg : Go (zQ_X10_core p l e s m args below meth c Q D κ A H0 t mk ad t_polygon t_bits t_mendedNumber) (zf_X10_core mk endless_size endless_numbers )) : W p l e zr_X10_core s m args below meth c H locs 0 0 Q (F0 m 0 ls []) := by
  unfold zf_X10_core at hg
  refine lv_aload_n hx hb dX10_core_0 rfl (lv_at hl 0 rfl) ?_
  refine va_get (D := D) (ci := 10) (v := .ref (t 15)) (C := RX10) (T := TX10) (N := 13) hx hb hts zi_X10_core_X10 hown hK hP 0 rfl rfl 6 (by decide) (hts (.fieldLink RX10 54 "DiamondRows" "endless" "LDiamondRows$Endless;") zl_X10_core_54) (fun _ h9 => h9) rfl dX10_core_1 ?_
  obtain ⟨o1, ho1, hg⟩ := Go_b hg
  refine zj_i (wr := [((t 0), .inr (10, [.ref (t 1), .ref (t 3), .ref (t 5), .ref (t 6), .ref (t 9), .ref (t 11), .ref (t 15), .ref (t 17), .ref (t 27), .ref (t 30), zpg ad t_polygon, .int (zi t_bits), .int (zi t_mendedNumber)]))]) (ws1 := [((t 0), .inr (10, [.ref (t 1), .ref (t 3), .ref (t 5), .ref (t 6), .ref (t 9), .ref (t 11), .ref (t 15), .ref (t 17), .ref (t 27), .ref (t 30), zpg ad t_polygon, .int (zi t_bits), .int (zi t_mendedNumber)])), ((t 15), .inr (2, [.ref (t 16), .int (zi (o1.2.1))])), ((t 16), .inl (κ 1, 10, .inl (zc (o1.2.2))))]) (va_runV (rest := []) ⟨hx, hb, hml, hown, hts⟩ (zc_X2_loseAll l D κ (fun i => t (i + 15)) H.size endless_size endless_numbers o1 ho1) (cwV 0 hts gX10_core_X2_loseAll rfl rfl rfl hv_X2_loseAll ⟨Nat.le_of_ble_eq_true rfl, Nat.le_of_ble_eq_true rfl⟩) (zpreWV hK (hP.sub [1, 2] rfl) (hD.sub [1, 2] (by decide) rfl) 2 0 rfl rfl) rfl rfl hl.1 rfl (lv_room (Nat.le_of_ble_eq_true rfl)) dX10_core_4 ⟨Nat.zero_le _, Nat.zero_le _⟩) hP hD hS hA [1, 2] [0] [0, 1, 2] rfl rfl (by decide) (by decide) rfl rfl (by decide) (fun H locs hP hD hS => ?_)
  exact (Go_s hg) _ _ _ _ hP hD hS dX10_core_7
set_option maxHeartbeats 4000000 in
set_option maxRecDepth 100000 in
theorem zc_X10_core (l : Launch) (D : va_G) (κ : Nat → ClassId) (t : Nat → Nat) (mk : Nat) (ad : Nat → Nat → Nat) (sz : Nat) (t_polygon : Nat) (t_bits : Int) (t_mendedNumber : Int) (endless_size : Int) (endless_numbers : Nat)  (out : Int × Int × Nat) (h : zf_X10_core mk endless_size endless_numbers  = some out) : Met l yX10_core wsX10_core zr_X10_core (va_Pc [.ref (t 0)] (zWa D κ mk ad ([((t 0), .inr (10, [.ref (t 1), .ref (t 3), .ref (t 5), .ref (t 6), .ref (t 9), .ref (t 11), .ref (t 15), .ref (t 17), .ref (t 27), .ref (t 30), zpg ad t_polygon, .int (zi t_bits), .int (zi t_mendedNumber)])), ((t 15), .inr (2, [.ref (t 16), .int (zi endless_size)])), ((t 16), .inl (κ 1, 10, .inl (zc endless_numbers)))]) sz)) (va_Qi (fun r (_ : Unit) => r = zi (out.1)) (fun _ => zB D κ (va_A ([((t 0), .inr (10, [.ref (t 1), .ref (t 3), .ref (t 5), .ref (t 6), .ref (t 9), .ref (t 11), .ref (t 15), .ref (t 17), .ref (t 27), .ref (t 30), zpg ad t_polygon, .int (zi t_bits), .int (zi t_mendedNumber)])), ((t 15), .inr (2, [.ref (t 16), .int (zi endless_size)])), ((t 16), .inl (κ 1, 10, .inl (zc endless_numbers)))]) sz) ([((t 0), .inr (10, [.ref (t 1), .ref (t 3), .ref (t 5), .ref (t 6), .ref (t 9), .ref (t 11), .ref (t 15), .ref (t 17), .ref (t 27), .ref (t 30), zpg ad t_polygon, .int (zi t_bits), .int (zi t_mendedNumber)])), ((t 15), .inr (2, [.ref (t 16), .int (zi (out.2.1))])), ((t 16), .inl (κ 1, 10, .inl (zc (out.2.2))))])) (va_A ([((t 0), .inr (10, [.ref (t 1), .ref (t 3), .ref (t 5), .ref (t 6), .ref (t 9), .ref (t 11), .ref (t 15), .ref (t 17), .ref (t 27), .ref (t 30), zpg ad t_polygon, .int (zi t_bits), .int (zi t_mendedNumber)])), ((t 15), .inr (2, [.ref (t 16), .int (zi endless_size)])), ((t 16), .inl (κ 1, 10, .inl (zc endless_numbers)))]) sz)) 0 0 (va_A ([((t 0), .inr (10, [.ref (t 1), .ref (t 3), .ref (t 5), .ref (t 6), .ref (t 9), .ref (t 11), .ref (t 15), .ref (t 17), .ref (t 27), .ref (t 30), zpg ad t_polygon, .int (zi t_bits), .int (zi t_mendedNumber)])), ((t 15), .inr (2, [.ref (t 16), .int (zi endless_size)])), ((t 16), .inl (κ 1, 10, .inl (zc endless_numbers)))]) sz) := by
  refine Met.ofW (cc := cX10_core) (maxL := 1) (ret := (some .int)) (by decide +kernel) rfl ?_
  intro p e s m args below meth c s₁ B hml hv
  obtain ⟨rfl, hsz, hP, hK, hD0, hB, hBA⟩ := hv
  have hx := B.exec
  have hb := B.bytes
  have hr := B.returns
  have hts := atoms_spec (ws := wsX10_core) B.pre
  have hown : s.vm.findClass RX10 = some m.cls := findClass_of_methodNamed B.named
  have hlocks := B.notSynchronized
  subst hsz
  have hD := hD0.self (sz := s.heap.size)
  generalize hAe : va_A ([((t 0), .inr (10, [.ref (t 1), .ref (t 3), .ref (t 5), .ref (t 6), .ref (t 9), .ref (t 11), .ref (t 15), .ref (t 17), .ref (t 27), .ref (t 30), zpg ad t_polygon, .int (zi t_bits), .int (zi t_mendedNumber)])), ((t 15), .inr (2, [.ref (t 16), .int (zi endless_size)])), ((t 16), .inl (κ 1, 10, .inl (zc endless_numbers)))]) s.heap.size = A at hD hBA ⊢
  have hA : ∀ q : Nat, s.heap.size ≤ q → A q := fun q h => by rw [← hAe]; exact Or.inr h
  have hS : va_S A s.heap s.heap [] := va_S.rf
  have hl := lv_entry ([.ref (t 0)]) (n := 1) (Nat.le_of_ble_eq_true rfl)
  rw [lg_entry_eq]
  generalize (lg_sl ([.ref (t 0)]) ++ List.replicate (1 - (lg_sl ([.ref (t 0)])).length) Slot.unset).toArray = ls at hl ⊢
  have hl : lv_has ls 1 [(0, .ref (t 0))] := hl
  refine zs_X10_core t mk ad t_polygon t_bits t_mendedNumber endless_size endless_numbers  hx hb hml hown hts hK hA hB hBA s.heap [] ls hP hD hS hl ⟨out, h, ?_⟩
  exact fun H locs ls pc hP hD hS hd => W.iret hx hb hr (fun t ht hW => ⟨⟨_, (), rfl, rfl, by rw [ht]; exact hP, va_K.moved hW.alike hK, hD⟩, hS.F ht⟩) hS.2.2 hd
/-! DiamondRows.isValue(I)Z -/
abbrev zr_X10_isValue : Room := { frames := 0, cells := 0, slots := 0, locals := 0 }
noncomputable def zf_X10_isValue   (i0 : Int) : Option (Bool) :=
  if zout i0 then none else
  if i0 < 0 then
  some (false)
  else
  if (9999 : Int) < i0 then
  some (false)
  else
  some (true)
def zQ_X10_isValue (p : Program) (l : Launch) (e : Env) (s : State) (m : MethodId) (args : Array Value) (below : List Frame) (meth : Method) (c : Code) (Q : State → Prop) (H : Heap) (locs : List Loc)  (o : Bool) : Prop := ∀ (ls : Array Slot) (pc : Nat), decode cX10_isValue pc = .ok (.ireturn, 1) → W p l e zr_X10_isValue s m args below meth c H locs 0 0 Q (F0 m pc ls [.int (zi (bI o))])
set_option maxHeartbeats 4000000 in
set_option maxRecDepth 100000 in
theorem zs_X10_isValue {p : Program} {l : Launch} {e : Env} {s : State} {m : MethodId} {args : Array Value} {below : List Frame} {meth : Method} {c : Code} {Q : State → Prop} {D : va_G} {κ : Nat → ClassId} {H : Heap} {locs : List Loc}   (i0 : Int) (hx : p.tables.exec = Jvm.exec) (hb : c.code = cX10_isValue) (hml : c.maxLocals = 1) (hown : s.vm.findClass RX10 = some m.cls) (hts : ∀ w ∈ wsX10_isValue, w.before args s = true) (hK : va_K D vwCl (zTY κ) s) (hP : va_P D vwCl ([]) H) (ls : Array Slot) (hl : lv_has ls 1 [(0, .int (zi i0))]) (hg : Go (zQ_X10_isValue p l e s m args below meth c Q H locs) (zf_X10_isValue  i0)) : W p l e zr_X10_isValue s m args below meth c H locs 0 0 Q (F0 m 0 ls []) := by
  unfold zf_X10_isValue at hg
  refine lv_iload_n hx hb dX10_isValue_0 rfl (lv_at hl 0 rfl) ?_
  obtain ⟨b1, hg⟩ := Go_n hg
  refine zv_if_lt (tgt := 15) hx hb dX10_isValue_1 (by decide) b1 (fun c3 => ?_) (fun c3 => ?_)
  · have hg := Go_t c3 hg
    refine zv_iconst hx hb dX10_isValue_15 ?_
    exact (Go_s hg) _ _ dX10_isValue_16
  · have hg := Go_f c3 hg
    refine lv_iload_n hx hb dX10_isValue_4 rfl (lv_at hl 0 rfl) ?_
    refine zv_sipush hx hb dX10_isValue_5 (by decide) ?_
    refine zv_icmp_gt (tgt := 15) hx hb dX10_isValue_8 (by decide) b1 (by decide) (fun c2 => ?_) (fun c2 => ?_)
    · have hg := Go_t c2 hg
      refine zv_iconst hx hb dX10_isValue_15 ?_
      exact (Go_s hg) _ _ dX10_isValue_16
    · have hg := Go_f c2 hg
      refine zv_iconst hx hb dX10_isValue_11 ?_
      refine lv_goto (tgt := 16) hx hb dX10_isValue_12 (by decide) ?_
      exact (Go_s hg) _ _ dX10_isValue_16
set_option maxHeartbeats 4000000 in
set_option maxRecDepth 100000 in
theorem zc_X10_isValue (l : Launch) (D : va_G) (κ : Nat → ClassId)   (i0 : Int) (out : Bool) (h : zf_X10_isValue  i0 = some out) : Met l yX10_isValue wsX10_isValue zr_X10_isValue (va_Pc [.int (zi i0)] (zR D κ ([]))) (vp_Si (fun x => x = zi (bI out))) 0 0 (fun _ => False) := by
  refine Met.ofW (cc := cX10_isValue) (maxL := 1) (ret := (some .boolean)) (by decide +kernel) rfl ?_
  intro p e s m args below meth c s₁ B hml hv
  obtain ⟨rfl, hP, hK⟩ := hv
  have hx := B.exec
  have hb := B.bytes
  have hr := B.returns
  have hts := atoms_spec (ws := wsX10_isValue) B.pre
  have hown : s.vm.findClass RX10 = some m.cls := findClass_of_methodNamed B.named
  have hlocks := B.notSynchronized
  have hl := lv_entry ([.int (zi i0)]) (n := 1) (Nat.le_of_ble_eq_true rfl)
  rw [lg_entry_eq]
  generalize (lg_sl ([.int (zi i0)]) ++ List.replicate (1 - (lg_sl ([.int (zi i0)])).length) Slot.unset).toArray = ls at hl ⊢
  have hl : lv_has ls 1 [(0, .int (zi i0))] := hl
  refine zs_X10_isValue   i0 hx hb hml hown hts hK hP ls hl ⟨out, h, ?_⟩
  exact fun ls pc hd => W.zret hx hb hr (bI_nar _) (fun t ht hW => ⟨_, rfl, rfl, ht⟩) (fun _ h => by cases h) hd
/-! DiamondRows.see(IIII)I -/
abbrev zr_X10_see : Room := { frames := 2, cells := 0, slots := 0, locals := 43 }
noncomputable def zf_X10_see (mk : Nat) (t_polygon : Nat) (sightings_size : Int) (sightings_latest : Int) (sightings_seenStep : Nat) (sightings_seenFrom : Nat) (sightings_seenTo : Nat) (sightings_seenValue : Nat) (sightings_timesRight : Nat) (i1 : Int) (i2 : Int) (i3 : Int) (i4 : Int) : Option (Int × Int × Int × Nat × Nat × Nat × Nat × Nat) :=
  Option.bind (zf_X7_canTell sightings_latest i1) (fun o1 =>
  if o1 = false then
  some ((-2 : Int), sightings_size, sightings_latest, sightings_seenStep, sightings_seenFrom, sightings_seenTo, sightings_seenValue, sightings_timesRight)
  else
  Option.bind (zf_X10_areCorners mk t_polygon i2 i3) (fun o2 =>
  if o2 = false then
  some ((-2 : Int), sightings_size, sightings_latest, sightings_seenStep, sightings_seenFrom, sightings_seenTo, sightings_seenValue, sightings_timesRight)
  else
  if zout i2 then none else
  if zout i3 then none else
  if i2 = i3 then
  some ((-2 : Int), sightings_size, sightings_latest, sightings_seenStep, sightings_seenFrom, sightings_seenTo, sightings_seenValue, sightings_timesRight)
  else
  Option.bind (zf_X10_isValue i4) (fun o5 =>
  if o5 = false then
  some ((-2 : Int), sightings_size, sightings_latest, sightings_seenStep, sightings_seenFrom, sightings_seenTo, sightings_seenValue, sightings_timesRight)
  else
  Option.bind (zf_X7_add sightings_size sightings_latest sightings_seenStep sightings_seenFrom sightings_seenTo sightings_seenValue sightings_timesRight i1 i2 i3 i4) (fun o6 =>
  some ((o6.1), (o6.2.1), (o6.2.2.1), (o6.2.2.2.1), (o6.2.2.2.2.1), (o6.2.2.2.2.2.1), (o6.2.2.2.2.2.2.1), (o6.2.2.2.2.2.2.2))))))
theorem zi_X10_see_X10 : ∀ w ∈ u_ws RX10 TX10 13, w ∈ wsX10_see := fun w h => (List.mem_cons_of_mem _ (List.mem_append_right _ (List.mem_append_left _ h)))
theorem zl_X10_see_61 : Cond.fieldLink RX10 61 "DiamondRows" "sightings" "LDiamondRows$Sightings;" ∈ wsX10_see := (List.mem_cons_of_mem _ (List.mem_append_left _ (List.mem_of_getElem? (i := 0) rfl)))
def zQ_X10_see (p : Program) (l : Launch) (e : Env) (s : State) (m : MethodId) (args : Array Value) (below : List Frame) (meth : Method) (c : Code) (Q : State → Prop) (D : va_G) (κ : Nat → ClassId) (A : Nat → Prop) (H0 : Heap) (t : Nat → Nat) (mk : Nat) (ad : Nat → Nat → Nat) (t_polygon : Nat) (t_bits : Int) (t_mendedNumber : Int) (sightings_rights : Int) (sightings_rightStep : Nat) (sightings_rightOf : Nat) (sightings_rightValue : Nat) (sightings_knownValue : Nat) (o : Int × Int × Int × Nat × Nat × Nat × Nat × Nat) : Prop := ∀ (H : Heap) (locs : List Loc) (ls : Array Slot) (pc : Nat), va_P D vwCl ([((t 0), .inr (10, [.ref (t 1), .ref (t 3), .ref (t 5), .ref (t 6), .ref (t 9), .ref (t 11), .ref (t 15), .ref (t 17), .ref (t 27), .ref (t 30), zpg ad t_polygon, .int (zi t_bits), .int (zi t_mendedNumber)])), ((t 17), .inr (7, [.ref (t 18), .ref (t 19), .ref (t 20), .ref (t 21), .ref (t 22), .ref (t 23), .ref (t 24), .ref (t 25), .ref (t 26), .int (zi (o.2.1)), .int (zi sightings_rights), .int (zi (o.2.2.1))])), ((t 18), .inl (κ 1, 20, .inl (zc (o.2.2.2.1)))), ((t 19), .inl (κ 1, 20, .inl (zc (o.2.2.2.2.1)))), ((t 20), .inl (κ 1, 20, .inl (zc (o.2.2.2.2.2.1)))), ((t 21), .inl (κ 1, 20, .inl (zc (o.2.2.2.2.2.2.1)))), ((t 22), .inl (κ 1, 20, .inl (zc (o.2.2.2.2.2.2.2)))), ((t 23), .inl (κ 1, 20, .inl (zc sightings_rightStep))), ((t 24), .inl (κ 1, 20, .inl (zc sightings_rightOf))), ((t 25), .inl (κ 1, 20, .inl (zc sightings_rightValue))), ((t 26), .inl (κ 1, 20, .inl (zc sightings_knownValue)))]) H → va_D A ([((t 0), .inr (10, [.ref (t 1), .ref (t 3), .ref (t 5), .ref (t 6), .ref (t 9), .ref (t 11), .ref (t 15), .ref (t 17), .ref (t 27), .ref (t 30), zpg ad t_polygon, .int (zi t_bits), .int (zi t_mendedNumber)])), ((t 17), .inr (7, [.ref (t 18), .ref (t 19), .ref (t 20), .ref (t 21), .ref (t 22), .ref (t 23), .ref (t 24), .ref (t 25), .ref (t 26), .int (zi (o.2.1)), .int (zi sightings_rights), .int (zi (o.2.2.1))])), ((t 18), .inl (κ 1, 20, .inl (zc (o.2.2.2.1)))), ((t 19), .inl (κ 1, 20, .inl (zc (o.2.2.2.2.1)))), ((t 20), .inl (κ 1, 20, .inl (zc (o.2.2.2.2.2.1)))), ((t 21), .inl (κ 1, 20, .inl (zc (o.2.2.2.2.2.2.1)))), ((t 22), .inl (κ 1, 20, .inl (zc (o.2.2.2.2.2.2.2)))), ((t 23), .inl (κ 1, 20, .inl (zc sightings_rightStep))), ((t 24), .inl (κ 1, 20, .inl (zc sightings_rightOf))), ((t 25), .inl (κ 1, 20, .inl (zc sightings_rightValue))), ((t 26), .inl (κ 1, 20, .inl (zc sightings_knownValue)))]) → va_S A H0 H locs → decode cX10_see pc = .ok (.ireturn, 1) → W p l e zr_X10_see s m args below meth c H locs 0 0 Q (F0 m pc ls [.int (zi (o.1))])
set_option maxHeartbeats 4000000 in
set_option maxRecDepth 100000 in
theorem zs_X10_see {p : Program} {l : Launch} {e : Env} {s : State} {m : MethodId} {args : Array Value} {below : List Frame} {meth : Method} {c : Code} {Q : State → Prop} {D : va_G} {κ : Nat → ClassId} {A : Nat → Prop} {H0 : Heap} (t : Nat → Nat) (mk : Nat) (ad : Nat → Nat → Nat) (t_polygon : Nat) (t_bits : Int) (t_mendedNumber : Int) (sightings_size : Int) (sightings_rights : Int) (sightings_latest : Int) (sightings_seenStep : Nat) (sightings_seenFrom : Nat) (sightings_seenTo : Nat) (sightings_seenValue : Nat) (sightings_timesRight : Nat) (sightings_rightStep : Nat) (sightings_rightOf : Nat) (sightings_rightValue : Nat) (sightings_knownValue : Nat) (i1 : Int) (i2 : Int) (i3 : Int) (i4 : Int) (hx : p.tables.exec = Jvm.exec) (hb : c.code = cX10_see) (hml : c.maxLocals = 5) (hown : s.vm.findClass RX10 = some m.cls) (hts : ∀ w ∈ wsX10_see, w.before args s = true) (hK : va_K D vwCl (zTY κ) s) (hA : ∀ q : Nat, H0.size ≤ q → A q) (hB : zAmb D κ mk ad H0) (hBA : zApt mk ad A H0.size) (H : Heap) (locs : List Loc) (ls : Array Slot) (hP : va_P D vwCl ([((t 0), .inr (10, [.ref (t 1), .ref (t 3), .ref (t 5), .ref (t 6), .ref (t 9), .ref (t 11), .ref (t 15), .ref (t 17), .ref (t 27), .ref (t 30), zpg ad t_polygon, .int (zi t_bits), .int (zi t_mendedNumber)])), ((t 17), .inr (7, [.ref (t 18), .ref (t 19), .ref (t 20), .ref (t 21), .ref (t 22), .ref (t 23), .ref (t 24), .ref (t 25), .ref (t 26), .int (zi sightings_size), .int (zi sightings_rights), .int (zi sightings_latest)])), ((t 18), .inl (κ 1, 20, .inl (zc sightings_seenStep))), ((t 19), .inl (κ 1, 20, .inl (zc sightings_seenFrom))), ((t 20), .inl (κ 1, 20, .inl (zc sightings_seenTo))), ((t 21), .inl (κ 1, 20, .inl (zc sightings_seenValue))), ((t 22), .inl (κ 1, 20, .inl (zc sightings_timesRight))), ((t 23), .inl (κ 1, 20, .inl (zc sightings_rightStep))), ((t 24), .inl (κ 1, 20, .inl (zc sightings_rightOf))), ((t 25), .inl (κ 1, 20, .inl (zc sightings_rightValue))), ((t 26), .inl (κ 1, 20, .inl (zc sightings_knownValue)))]) H) (hD : va_D A ([((t 0), .inr (10, [.ref (t 1), .ref (t 3), .ref (t 5), .ref (t 6), .ref (t 9), .ref (t 11), .ref (t 15), .ref (t 17), .ref (t 27), .ref (t 30), zpg ad t_polygon, .int (zi t_bits), .int (zi t_mendedNumber)])), ((t 17), .inr (7, [.ref (t 18), .ref (t 19), .ref (t 20), .ref (t 21), .ref (t 22), .ref (t 23), .ref (t 24), .ref (t 25), .ref (t 26), .int (zi sightings_size), .int (zi sightings_rights), .int (zi sightings_latest)])), ((t 18), .inl (κ 1, 20, .inl (zc sightings_seenStep))), ((t 19), .inl (κ 1, 20, .inl (zc sightings_seenFrom))), ((t 20), .inl (κ 1, 20, .inl (zc sightings_seenTo))), ((t 21), .inl (κ 1, 20, .inl (zc sightings_seenValue))), ((t 22), .inl (κ 1, 20, .inl (zc sightings_timesRight))), ((t 23), .inl (κ 1, 20, .inl (zc sightings_rightStep))), ((t 24), .inl (κ 1, 20, .inl (zc sightings_rightOf))), ((t 25), .inl (κ 1, 20, .inl (zc sightings_rightValue))), ((t 26), .inl (κ 1, 20, .inl (zc sightings_knownValue)))])) (hS : va_S A H0 H locs) (hl : lv_has ls 5 [(0, .ref (t 0)), (1, .int (zi i1)), (2, .int (zi i2)), (3, .int (zi i3)), (4, .int (zi i4))]) (hg : Go (zQ_X10_see p l e s m args below meth c Q D κ A H0 t mk ad t_polygon t_bits t_mendedNumber sightings_rights sightings_rightStep sightings_rightOf sightings_rightValue sightings_knownValue) (zf_X10_see mk t_polygon sightings_size sightings_latest sightings_seenStep sightings_seenFrom sightings_seenTo sightings_seenValue sightings_timesRight i1 i2 i3 i4)) : W p l e zr_X10_see s m args below meth c H locs 0 0 Q (F0 m 0 ls []) := by
  unfold zf_X10_see at hg
  refine lv_aload_n hx hb dX10_see_0 rfl (lv_at hl 0 rfl) ?_
  refine va_get (D := D) (ci := 10) (v := .ref (t 17)) (C := RX10) (T := TX10) (N := 13) hx hb hts zi_X10_see_X10 hown hK hP 0 rfl rfl 7 (by decide) (hts (.fieldLink RX10 61 "DiamondRows" "sightings" "LDiamondRows$Sightings;") zl_X10_see_61) (fun _ h9 => h9) rfl dX10_see_1 ?_
  refine lv_iload_n hx hb dX10_see_4 rfl (lv_at hl 1 rfl) ?_
  obtain ⟨o1, ho1, hg⟩ := Go_b hg
  refine zc_vi (rest := []) ⟨hx, hb, hml, hown, hts⟩ (zc_X7_canTell l D κ (fun i => t (i + 17)) sightings_size sightings_rights sightings_latest sightings_seenStep sightings_seenFrom sightings_seenTo sightings_seenValue sightings_timesRight sightings_rightStep sightings_rightOf sightings_rightValue sightings_knownValue i1 o1 ho1) (cwV 1 hts gX10_see_X7_canTell rfl rfl rfl hv_X7_canTell ⟨Nat.le_of_ble_eq_true rfl, Nat.le_of_ble_eq_true rfl⟩) (zpreV hK (hP.sub [1, 2, 3, 4, 5, 6, 7, 8, 9, 10] rfl) 7 0 rfl rfl) rfl hl.1 rfl (Nat.le_of_ble_eq_true rfl) dX10_see_5 ⟨Nat.zero_le _, Nat.zero_le _⟩ ?_
  refine zv_ifb_eq (tgt := 33) hx hb dX10_see_8 (by decide) (fun c10 => ?_) (fun c10 => ?_)
  · have hg := Go_t c10 hg
    refine zv_bipush hx hb dX10_see_33 (by decide) ?_
    exact (Go_s hg) _ _ _ _ hP hD hS dX10_see_35
  · have hg := Go_f c10 hg
    refine lv_aload_n hx hb dX10_see_11 rfl (lv_at hl 0 rfl) ?_
    refine lv_iload_n hx hb dX10_see_12 rfl (lv_at hl 2 rfl) ?_
    refine lv_iload_n hx hb dX10_see_13 rfl (lv_at hl 3 rfl) ?_
    obtain ⟨o2, ho2, hg⟩ := Go_b hg
    refine zc_vi (rest := []) ⟨hx, hb, hml, hown, hts⟩ (zc_X10_areCorners l D κ t mk ad t_polygon t_bits t_mendedNumber i2 i3 o2 ho2) (cwV 2 hts gX10_see_X10_areCorners rfl rfl rfl hv_X10_areCorners ⟨Nat.le_of_ble_eq_true rfl, Nat.le_of_ble_eq_true rfl⟩) (zpreVa hK (hP.sub [0] rfl) (zamb hB hBA hS) 10 0 rfl rfl) rfl hl.1 rfl (Nat.le_of_ble_eq_true rfl) dX10_see_14 ⟨Nat.zero_le _, Nat.zero_le _⟩ ?_
    refine zv_ifb_eq (tgt := 33) hx hb dX10_see_17 (by decide) (fun c9 => ?_) (fun c9 => ?_)
    · have hg := Go_t c9 hg
      refine zv_bipush hx hb dX10_see_33 (by decide) ?_
      exact (Go_s hg) _ _ _ _ hP hD hS dX10_see_35
    · have hg := Go_f c9 hg
      refine lv_iload_n hx hb dX10_see_20 rfl (lv_at hl 2 rfl) ?_
      refine lv_iload_n hx hb dX10_see_21 rfl (lv_at hl 3 rfl) ?_
      obtain ⟨b3, hg⟩ := Go_n hg
      obtain ⟨b4, hg⟩ := Go_n hg
      refine zv_icmp_eq (tgt := 33) hx hb dX10_see_22 (by decide) b3 b4 (fun c8 => ?_) (fun c8 => ?_)
      · have hg := Go_t c8 hg
        refine zv_bipush hx hb dX10_see_33 (by decide) ?_
        exact (Go_s hg) _ _ _ _ hP hD hS dX10_see_35
      · have hg := Go_f c8 hg
        refine lv_iload hx hb dX10_see_25 (lv_at hl 4 rfl) ?_
        obtain ⟨o5, ho5, hg⟩ := Go_b hg
        refine zc_si (rest := []) ⟨hx, hb, hml, hown, hts⟩ (zc_X10_isValue l D κ i4 o5 ho5) (va_cwS 1 hts gX10_see_X10_isValue rfl rfl rfl hs_X10_isValue ⟨Nat.le_of_ble_eq_true rfl, Nat.le_of_ble_eq_true rfl⟩) (zpreS hK (hP.sub [] rfl)) rfl hl.1 rfl (Nat.le_of_ble_eq_true rfl) dX10_see_27 ⟨Nat.zero_le _, Nat.zero_le _⟩ ?_
        refine zv_ifb_ne (tgt := 36) hx hb dX10_see_30 (by decide) (fun c7 => ?_) (fun c7 => ?_)
        · have hg := Go_f c7 hg
          refine lv_aload_n hx hb dX10_see_36 rfl (lv_at hl 0 rfl) ?_
          refine va_get (D := D) (ci := 10) (v := .ref (t 17)) (C := RX10) (T := TX10) (N := 13) hx hb hts zi_X10_see_X10 hown hK hP 0 rfl rfl 7 (by decide) (hts (.fieldLink RX10 61 "DiamondRows" "sightings" "LDiamondRows$Sightings;") zl_X10_see_61) (fun _ h9 => h9) rfl dX10_see_37 ?_
          refine lv_iload_n hx hb dX10_see_40 rfl (lv_at hl 1 rfl) ?_
          refine lv_iload_n hx hb dX10_see_41 rfl (lv_at hl 2 rfl) ?_
          refine lv_iload_n hx hb dX10_see_42 rfl (lv_at hl 3 rfl) ?_
          refine lv_iload hx hb dX10_see_43 (lv_at hl 4 rfl) ?_
          obtain ⟨o6, ho6, hg⟩ := Go_b hg
          refine zj_i (wr := [((t 0), .inr (10, [.ref (t 1), .ref (t 3), .ref (t 5), .ref (t 6), .ref (t 9), .ref (t 11), .ref (t 15), .ref (t 17), .ref (t 27), .ref (t 30), zpg ad t_polygon, .int (zi t_bits), .int (zi t_mendedNumber)]))]) (ws1 := [((t 0), .inr (10, [.ref (t 1), .ref (t 3), .ref (t 5), .ref (t 6), .ref (t 9), .ref (t 11), .ref (t 15), .ref (t 17), .ref (t 27), .ref (t 30), zpg ad t_polygon, .int (zi t_bits), .int (zi t_mendedNumber)])), ((t 17), .inr (7, [.ref (t 18), .ref (t 19), .ref (t 20), .ref (t 21), .ref (t 22), .ref (t 23), .ref (t 24), .ref (t 25), .ref (t 26), .int (zi (o6.2.1)), .int (zi sightings_rights), .int (zi (o6.2.2.1))])), ((t 18), .inl (κ 1, 20, .inl (zc (o6.2.2.2.1)))), ((t 19), .inl (κ 1, 20, .inl (zc (o6.2.2.2.2.1)))), ((t 20), .inl (κ 1, 20, .inl (zc (o6.2.2.2.2.2.1)))), ((t 21), .inl (κ 1, 20, .inl (zc (o6.2.2.2.2.2.2.1)))), ((t 22), .inl (κ 1, 20, .inl (zc (o6.2.2.2.2.2.2.2)))), ((t 23), .inl (κ 1, 20, .inl (zc sightings_rightStep))), ((t 24), .inl (κ 1, 20, .inl (zc sightings_rightOf))), ((t 25), .inl (κ 1, 20, .inl (zc sightings_rightValue))), ((t 26), .inl (κ 1, 20, .inl (zc sightings_knownValue)))]) (va_runV (rest := []) ⟨hx, hb, hml, hown, hts⟩ (zc_X7_add l D κ (fun i => t (i + 17)) H.size sightings_size sightings_rights sightings_latest sightings_seenStep sightings_seenFrom sightings_seenTo sightings_seenValue sightings_timesRight sightings_rightStep sightings_rightOf sightings_rightValue sightings_knownValue i1 i2 i3 i4 o6 ho6) (cwV 4 hts gX10_see_X7_add rfl rfl rfl hv_X7_add ⟨Nat.le_of_ble_eq_true rfl, Nat.le_of_ble_eq_true rfl⟩) (zpreWV hK (hP.sub [1, 2, 3, 4, 5, 6, 7, 8, 9, 10] rfl) (hD.sub [1, 2, 3, 4, 5, 6, 7, 8, 9, 10] (by decide) rfl) 7 0 rfl rfl) rfl rfl hl.1 rfl (lv_room (Nat.le_of_ble_eq_true rfl)) dX10_see_45 ⟨Nat.zero_le _, Nat.zero_le _⟩) hP hD hS hA [1, 2, 3, 4, 5, 6, 7, 8, 9, 10] [0] [0, 1, 2, 3, 4, 5, 6, 7, 8, 9, 10] rfl rfl (by decide) (by decide) rfl rfl (by decide) (fun H locs hP hD hS => ?_)
          exact (Go_s hg) _ _ _ _ hP hD hS dX10_see_48
        · have hg := Go_t c7 hg
          refine zv_bipush hx hb dX10_see_33 (by decide) ?_
          exact (Go_s hg) _ _ _ _ hP hD hS dX10_see_35
set_option maxHeartbeats 4000000 in
set_option maxRecDepth 100000 in
theorem zc_X10_see (l : Launch) (D : va_G) (κ : Nat → ClassId) (t : Nat → Nat) (mk : Nat) (ad : Nat → Nat → Nat) (sz : Nat) (t_polygon : Nat) (t_bits : Int) (t_mendedNumber : Int) (sightings_size : Int) (sightings_rights : Int) (sightings_latest : Int) (sightings_seenStep : Nat) (sightings_seenFrom : Nat) (sightings_seenTo : Nat) (sightings_seenValue : Nat) (sightings_timesRight : Nat) (sightings_rightStep : Nat) (sightings_rightOf : Nat) (sightings_rightValue : Nat) (sightings_knownValue : Nat) (i1 : Int) (i2 : Int) (i3 : Int) (i4 : Int) (out : Int × Int × Int × Nat × Nat × Nat × Nat × Nat) (h : zf_X10_see mk t_polygon sightings_size sightings_latest sightings_seenStep sightings_seenFrom sightings_seenTo sightings_seenValue sightings_timesRight i1 i2 i3 i4 = some out) : Met l yX10_see wsX10_see zr_X10_see (va_Pc [.ref (t 0), .int (zi i1), .int (zi i2), .int (zi i3), .int (zi i4)] (zWa D κ mk ad ([((t 0), .inr (10, [.ref (t 1), .ref (t 3), .ref (t 5), .ref (t 6), .ref (t 9), .ref (t 11), .ref (t 15), .ref (t 17), .ref (t 27), .ref (t 30), zpg ad t_polygon, .int (zi t_bits), .int (zi t_mendedNumber)])), ((t 17), .inr (7, [.ref (t 18), .ref (t 19), .ref (t 20), .ref (t 21), .ref (t 22), .ref (t 23), .ref (t 24), .ref (t 25), .ref (t 26), .int (zi sightings_size), .int (zi sightings_rights), .int (zi sightings_latest)])), ((t 18), .inl (κ 1, 20, .inl (zc sightings_seenStep))), ((t 19), .inl (κ 1, 20, .inl (zc sightings_seenFrom))), ((t 20), .inl (κ 1, 20, .inl (zc sightings_seenTo))), ((t 21), .inl (κ 1, 20, .inl (zc sightings_seenValue))), ((t 22), .inl (κ 1, 20, .inl (zc sightings_timesRight))), ((t 23), .inl (κ 1, 20, .inl (zc sightings_rightStep))), ((t 24), .inl (κ 1, 20, .inl (zc sightings_rightOf))), ((t 25), .inl (κ 1, 20, .inl (zc sightings_rightValue))), ((t 26), .inl (κ 1, 20, .inl (zc sightings_knownValue)))]) sz)) (va_Qi (fun r (_ : Unit) => r = zi (out.1)) (fun _ => zB D κ (va_A ([((t 0), .inr (10, [.ref (t 1), .ref (t 3), .ref (t 5), .ref (t 6), .ref (t 9), .ref (t 11), .ref (t 15), .ref (t 17), .ref (t 27), .ref (t 30), zpg ad t_polygon, .int (zi t_bits), .int (zi t_mendedNumber)])), ((t 17), .inr (7, [.ref (t 18), .ref (t 19), .ref (t 20), .ref (t 21), .ref (t 22), .ref (t 23), .ref (t 24), .ref (t 25), .ref (t 26), .int (zi sightings_size), .int (zi sightings_rights), .int (zi sightings_latest)])), ((t 18), .inl (κ 1, 20, .inl (zc sightings_seenStep))), ((t 19), .inl (κ 1, 20, .inl (zc sightings_seenFrom))), ((t 20), .inl (κ 1, 20, .inl (zc sightings_seenTo))), ((t 21), .inl (κ 1, 20, .inl (zc sightings_seenValue))), ((t 22), .inl (κ 1, 20, .inl (zc sightings_timesRight))), ((t 23), .inl (κ 1, 20, .inl (zc sightings_rightStep))), ((t 24), .inl (κ 1, 20, .inl (zc sightings_rightOf))), ((t 25), .inl (κ 1, 20, .inl (zc sightings_rightValue))), ((t 26), .inl (κ 1, 20, .inl (zc sightings_knownValue)))]) sz) ([((t 0), .inr (10, [.ref (t 1), .ref (t 3), .ref (t 5), .ref (t 6), .ref (t 9), .ref (t 11), .ref (t 15), .ref (t 17), .ref (t 27), .ref (t 30), zpg ad t_polygon, .int (zi t_bits), .int (zi t_mendedNumber)])), ((t 17), .inr (7, [.ref (t 18), .ref (t 19), .ref (t 20), .ref (t 21), .ref (t 22), .ref (t 23), .ref (t 24), .ref (t 25), .ref (t 26), .int (zi (out.2.1)), .int (zi sightings_rights), .int (zi (out.2.2.1))])), ((t 18), .inl (κ 1, 20, .inl (zc (out.2.2.2.1)))), ((t 19), .inl (κ 1, 20, .inl (zc (out.2.2.2.2.1)))), ((t 20), .inl (κ 1, 20, .inl (zc (out.2.2.2.2.2.1)))), ((t 21), .inl (κ 1, 20, .inl (zc (out.2.2.2.2.2.2.1)))), ((t 22), .inl (κ 1, 20, .inl (zc (out.2.2.2.2.2.2.2)))), ((t 23), .inl (κ 1, 20, .inl (zc sightings_rightStep))), ((t 24), .inl (κ 1, 20, .inl (zc sightings_rightOf))), ((t 25), .inl (κ 1, 20, .inl (zc sightings_rightValue))), ((t 26), .inl (κ 1, 20, .inl (zc sightings_knownValue)))])) (va_A ([((t 0), .inr (10, [.ref (t 1), .ref (t 3), .ref (t 5), .ref (t 6), .ref (t 9), .ref (t 11), .ref (t 15), .ref (t 17), .ref (t 27), .ref (t 30), zpg ad t_polygon, .int (zi t_bits), .int (zi t_mendedNumber)])), ((t 17), .inr (7, [.ref (t 18), .ref (t 19), .ref (t 20), .ref (t 21), .ref (t 22), .ref (t 23), .ref (t 24), .ref (t 25), .ref (t 26), .int (zi sightings_size), .int (zi sightings_rights), .int (zi sightings_latest)])), ((t 18), .inl (κ 1, 20, .inl (zc sightings_seenStep))), ((t 19), .inl (κ 1, 20, .inl (zc sightings_seenFrom))), ((t 20), .inl (κ 1, 20, .inl (zc sightings_seenTo))), ((t 21), .inl (κ 1, 20, .inl (zc sightings_seenValue))), ((t 22), .inl (κ 1, 20, .inl (zc sightings_timesRight))), ((t 23), .inl (κ 1, 20, .inl (zc sightings_rightStep))), ((t 24), .inl (κ 1, 20, .inl (zc sightings_rightOf))), ((t 25), .inl (κ 1, 20, .inl (zc sightings_rightValue))), ((t 26), .inl (κ 1, 20, .inl (zc sightings_knownValue)))]) sz)) 0 0 (va_A ([((t 0), .inr (10, [.ref (t 1), .ref (t 3), .ref (t 5), .ref (t 6), .ref (t 9), .ref (t 11), .ref (t 15), .ref (t 17), .ref (t 27), .ref (t 30), zpg ad t_polygon, .int (zi t_bits), .int (zi t_mendedNumber)])), ((t 17), .inr (7, [.ref (t 18), .ref (t 19), .ref (t 20), .ref (t 21), .ref (t 22), .ref (t 23), .ref (t 24), .ref (t 25), .ref (t 26), .int (zi sightings_size), .int (zi sightings_rights), .int (zi sightings_latest)])), ((t 18), .inl (κ 1, 20, .inl (zc sightings_seenStep))), ((t 19), .inl (κ 1, 20, .inl (zc sightings_seenFrom))), ((t 20), .inl (κ 1, 20, .inl (zc sightings_seenTo))), ((t 21), .inl (κ 1, 20, .inl (zc sightings_seenValue))), ((t 22), .inl (κ 1, 20, .inl (zc sightings_timesRight))), ((t 23), .inl (κ 1, 20, .inl (zc sightings_rightStep))), ((t 24), .inl (κ 1, 20, .inl (zc sightings_rightOf))), ((t 25), .inl (κ 1, 20, .inl (zc sightings_rightValue))), ((t 26), .inl (κ 1, 20, .inl (zc sightings_knownValue)))]) sz) := by
  refine Met.ofW (cc := cX10_see) (maxL := 5) (ret := (some .int)) (by decide +kernel) rfl ?_
  intro p e s m args below meth c s₁ B hml hv
  obtain ⟨rfl, hsz, hP, hK, hD0, hB, hBA⟩ := hv
  have hx := B.exec
  have hb := B.bytes
  have hr := B.returns
  have hts := atoms_spec (ws := wsX10_see) B.pre
  have hown : s.vm.findClass RX10 = some m.cls := findClass_of_methodNamed B.named
  have hlocks := B.notSynchronized
  subst hsz
  have hD := hD0.self (sz := s.heap.size)
  generalize hAe : va_A ([((t 0), .inr (10, [.ref (t 1), .ref (t 3), .ref (t 5), .ref (t 6), .ref (t 9), .ref (t 11), .ref (t 15), .ref (t 17), .ref (t 27), .ref (t 30), zpg ad t_polygon, .int (zi t_bits), .int (zi t_mendedNumber)])), ((t 17), .inr (7, [.ref (t 18), .ref (t 19), .ref (t 20), .ref (t 21), .ref (t 22), .ref (t 23), .ref (t 24), .ref (t 25), .ref (t 26), .int (zi sightings_size), .int (zi sightings_rights), .int (zi sightings_latest)])), ((t 18), .inl (κ 1, 20, .inl (zc sightings_seenStep))), ((t 19), .inl (κ 1, 20, .inl (zc sightings_seenFrom))), ((t 20), .inl (κ 1, 20, .inl (zc sightings_seenTo))), ((t 21), .inl (κ 1, 20, .inl (zc sightings_seenValue))), ((t 22), .inl (κ 1, 20, .inl (zc sightings_timesRight))), ((t 23), .inl (κ 1, 20, .inl (zc sightings_rightStep))), ((t 24), .inl (κ 1, 20, .inl (zc sightings_rightOf))), ((t 25), .inl (κ 1, 20, .inl (zc sightings_rightValue))), ((t 26), .inl (κ 1, 20, .inl (zc sightings_knownValue)))]) s.heap.size = A at hD hBA ⊢
  have hA : ∀ q : Nat, s.heap.size ≤ q → A q := fun q h => by rw [← hAe]; exact Or.inr h
  have hS : va_S A s.heap s.heap [] := va_S.rf
  have hl := lv_entry ([.ref (t 0), .int (zi i1), .int (zi i2), .int (zi i3), .int (zi i4)]) (n := 5) (Nat.le_of_ble_eq_true rfl)
  rw [lg_entry_eq]
  generalize (lg_sl ([.ref (t 0), .int (zi i1), .int (zi i2), .int (zi i3), .int (zi i4)]) ++ List.replicate (5 - (lg_sl ([.ref (t 0), .int (zi i1), .int (zi i2), .int (zi i3), .int (zi i4)])).length) Slot.unset).toArray = ls at hl ⊢
  have hl : lv_has ls 5 [(0, .ref (t 0)), (1, .int (zi i1)), (2, .int (zi i2)), (3, .int (zi i3)), (4, .int (zi i4))] := hl
  refine zs_X10_see t mk ad t_polygon t_bits t_mendedNumber sightings_size sightings_rights sightings_latest sightings_seenStep sightings_seenFrom sightings_seenTo sightings_seenValue sightings_timesRight sightings_rightStep sightings_rightOf sightings_rightValue sightings_knownValue i1 i2 i3 i4 hx hb hml hown hts hK hA hB hBA s.heap [] ls hP hD hS hl ⟨out, h, ?_⟩
  exact fun H locs ls pc hP hD hS hd => W.iret hx hb hr (fun t ht hW => ⟨⟨_, (), rfl, rfl, by rw [ht]; exact hP, va_K.moved hW.alike hK, hD⟩, hS.F ht⟩) hS.2.2 hd
/-! DiamondRows.right(III)I -/
abbrev zr_X10_right : Room := { frames := 2, cells := 0, slots := 0, locals := 44 }
noncomputable def zf_X10_right (mk : Nat) (sightings_size : Int) (sightings_rights : Int) (sightings_latest : Int) (sightings_seenStep : Nat) (sightings_timesRight : Nat) (sightings_rightStep : Nat) (sightings_rightOf : Nat) (sightings_rightValue : Nat) (i1 : Int) (i2 : Int) (i3 : Int) : Option (Int × Int × Int × Nat × Nat × Nat × Nat) :=
  Option.bind (zf_X7_canTell sightings_latest i1) (fun o1 =>
  if o1 = false then
  some ((-2 : Int), sightings_rights, sightings_latest, sightings_timesRight, sightings_rightStep, sightings_rightOf, sightings_rightValue)
  else
  Option.bind (zf_X7_wasSeenBefore sightings_size sightings_seenStep i1 i2) (fun o2 =>
  if o2 = false then
  some ((-2 : Int), sightings_rights, sightings_latest, sightings_timesRight, sightings_rightStep, sightings_rightOf, sightings_rightValue)
  else
  Option.bind (zf_X10_isValue i3) (fun o3 =>
  if o3 = false then
  some ((-2 : Int), sightings_rights, sightings_latest, sightings_timesRight, sightings_rightStep, sightings_rightOf, sightings_rightValue)
  else
  Option.bind (zf_X7_putRight sightings_size sightings_rights sightings_latest sightings_timesRight sightings_rightStep sightings_rightOf sightings_rightValue i1 i2 i3) (fun o4 =>
  some ((o4.1), (o4.2.1), (o4.2.2.1), (o4.2.2.2.1), (o4.2.2.2.2.1), (o4.2.2.2.2.2.1), (o4.2.2.2.2.2.2))))))
theorem zi_X10_right_X10 : ∀ w ∈ u_ws RX10 TX10 13, w ∈ wsX10_right := fun w h => (List.mem_cons_of_mem _ (List.mem_append_right _ (List.mem_append_left _ h)))
theorem zl_X10_right_61 : Cond.fieldLink RX10 61 "DiamondRows" "sightings" "LDiamondRows$Sightings;" ∈ wsX10_right := (List.mem_cons_of_mem _ (List.mem_append_left _ (List.mem_of_getElem? (i := 0) rfl)))
def zQ_X10_right (p : Program) (l : Launch) (e : Env) (s : State) (m : MethodId) (args : Array Value) (below : List Frame) (meth : Method) (c : Code) (Q : State → Prop) (D : va_G) (κ : Nat → ClassId) (A : Nat → Prop) (H0 : Heap) (t : Nat → Nat) (mk : Nat) (ad : Nat → Nat → Nat) (t_polygon : Nat) (t_bits : Int) (t_mendedNumber : Int) (sightings_size : Int) (sightings_seenStep : Nat) (sightings_seenFrom : Nat) (sightings_seenTo : Nat) (sightings_seenValue : Nat) (sightings_knownValue : Nat) (o : Int × Int × Int × Nat × Nat × Nat × Nat) : Prop := ∀ (H : Heap) (locs : List Loc) (ls : Array Slot) (pc : Nat), va_P D vwCl ([((t 0), .inr (10, [.ref (t 1), .ref (t 3), .ref (t 5), .ref (t 6), .ref (t 9), .ref (t 11), .ref (t 15), .ref (t 17), .ref (t 27), .ref (t 30), zpg ad t_polygon, .int (zi t_bits), .int (zi t_mendedNumber)])), ((t 17), .inr (7, [.ref (t 18), .ref (t 19), .ref (t 20), .ref (t 21), .ref (t 22), .ref (t 23), .ref (t 24), .ref (t 25), .ref (t 26), .int (zi sightings_size), .int (zi (o.2.1)), .int (zi (o.2.2.1))])), ((t 18), .inl (κ 1, 20, .inl (zc sightings_seenStep))), ((t 19), .inl (κ 1, 20, .inl (zc sightings_seenFrom))), ((t 20), .inl (κ 1, 20, .inl (zc sightings_seenTo))), ((t 21), .inl (κ 1, 20, .inl (zc sightings_seenValue))), ((t 22), .inl (κ 1, 20, .inl (zc (o.2.2.2.1)))), ((t 23), .inl (κ 1, 20, .inl (zc (o.2.2.2.2.1)))), ((t 24), .inl (κ 1, 20, .inl (zc (o.2.2.2.2.2.1)))), ((t 25), .inl (κ 1, 20, .inl (zc (o.2.2.2.2.2.2)))), ((t 26), .inl (κ 1, 20, .inl (zc sightings_knownValue)))]) H → va_D A ([((t 0), .inr (10, [.ref (t 1), .ref (t 3), .ref (t 5), .ref (t 6), .ref (t 9), .ref (t 11), .ref (t 15), .ref (t 17), .ref (t 27), .ref (t 30), zpg ad t_polygon, .int (zi t_bits), .int (zi t_mendedNumber)])), ((t 17), .inr (7, [.ref (t 18), .ref (t 19), .ref (t 20), .ref (t 21), .ref (t 22), .ref (t 23), .ref (t 24), .ref (t 25), .ref (t 26), .int (zi sightings_size), .int (zi (o.2.1)), .int (zi (o.2.2.1))])), ((t 18), .inl (κ 1, 20, .inl (zc sightings_seenStep))), ((t 19), .inl (κ 1, 20, .inl (zc sightings_seenFrom))), ((t 20), .inl (κ 1, 20, .inl (zc sightings_seenTo))), ((t 21), .inl (κ 1, 20, .inl (zc sightings_seenValue))), ((t 22), .inl (κ 1, 20, .inl (zc (o.2.2.2.1)))), ((t 23), .inl (κ 1, 20, .inl (zc (o.2.2.2.2.1)))), ((t 24), .inl (κ 1, 20, .inl (zc (o.2.2.2.2.2.1)))), ((t 25), .inl (κ 1, 20, .inl (zc (o.2.2.2.2.2.2)))), ((t 26), .inl (κ 1, 20, .inl (zc sightings_knownValue)))]) → va_S A H0 H locs → decode cX10_right pc = .ok (.ireturn, 1) → W p l e zr_X10_right s m args below meth c H locs 0 0 Q (F0 m pc ls [.int (zi (o.1))])
set_option maxHeartbeats 4000000 in
set_option maxRecDepth 100000 in
theorem zs_X10_right {p : Program} {l : Launch} {e : Env} {s : State} {m : MethodId} {args : Array Value} {below : List Frame} {meth : Method} {c : Code} {Q : State → Prop} {D : va_G} {κ : Nat → ClassId} {A : Nat → Prop} {H0 : Heap} (t : Nat → Nat) (mk : Nat) (ad : Nat → Nat → Nat) (t_polygon : Nat) (t_bits : Int) (t_mendedNumber : Int) (sightings_size : Int) (sightings_rights : Int) (sightings_latest : Int) (sightings_seenStep : Nat) (sightings_seenFrom : Nat) (sightings_seenTo : Nat) (sightings_seenValue : Nat) (sightings_timesRight : Nat) (sightings_rightStep : Nat) (sightings_rightOf : Nat) (sightings_rightValue : Nat) (sightings_knownValue : Nat) (i1 : Int) (i2 : Int) (i3 : Int) (hx : p.tables.exec = Jvm.exec) (hb : c.code = cX10_right) (hml : c.maxLocals = 4) (hown : s.vm.findClass RX10 = some m.cls) (hts : ∀ w ∈ wsX10_right, w.before args s = true) (hK : va_K D vwCl (zTY κ) s) (hA : ∀ q : Nat, H0.size ≤ q → A q) (hB : zAmb D κ mk ad H0) (hBA : zApt mk ad A H0.size) (H : Heap) (locs : List Loc) (ls : Array Slot) (hP : va_P D vwCl ([((t 0), .inr (10, [.ref (t 1), .ref (t 3), .ref (t 5), .ref (t 6), .ref (t 9), .ref (t 11), .ref (t 15), .ref (t 17), .ref (t 27), .ref (t 30), zpg ad t_polygon, .int (zi t_bits), .int (zi t_mendedNumber)])), ((t 17), .inr (7, [.ref (t 18), .ref (t 19), .ref (t 20), .ref (t 21), .ref (t 22), .ref (t 23), .ref (t 24), .ref (t 25), .ref (t 26), .int (zi sightings_size), .int (zi sightings_rights), .int (zi sightings_latest)])), ((t 18), .inl (κ 1, 20, .inl (zc sightings_seenStep))), ((t 19), .inl (κ 1, 20, .inl (zc sightings_seenFrom))), ((t 20), .inl (κ 1, 20, .inl (zc sightings_seenTo))), ((t 21), .inl (κ 1, 20, .inl (zc sightings_seenValue))), ((t 22), .inl (κ 1, 20, .inl (zc sightings_timesRight))), ((t 23), .inl (κ 1, 20, .inl (zc sightings_rightStep))), ((t 24), .inl (κ 1, 20, .inl (zc sightings_rightOf))), ((t 25), .inl (κ 1, 20, .inl (zc sightings_rightValue))), ((t 26), .inl (κ 1, 20, .inl (zc sightings_knownValue)))]) H) (hD : va_D A ([((t 0), .inr (10, [.ref (t 1), .ref (t 3), .ref (t 5), .ref (t 6), .ref (t 9), .ref (t 11), .ref (t 15), .ref (t 17), .ref (t 27), .ref (t 30), zpg ad t_polygon, .int (zi t_bits), .int (zi t_mendedNumber)])), ((t 17), .inr (7, [.ref (t 18), .ref (t 19), .ref (t 20), .ref (t 21), .ref (t 22), .ref (t 23), .ref (t 24), .ref (t 25), .ref (t 26), .int (zi sightings_size), .int (zi sightings_rights), .int (zi sightings_latest)])), ((t 18), .inl (κ 1, 20, .inl (zc sightings_seenStep))), ((t 19), .inl (κ 1, 20, .inl (zc sightings_seenFrom))), ((t 20), .inl (κ 1, 20, .inl (zc sightings_seenTo))), ((t 21), .inl (κ 1, 20, .inl (zc sightings_seenValue))), ((t 22), .inl (κ 1, 20, .inl (zc sightings_timesRight))), ((t 23), .inl (κ 1, 20, .inl (zc sightings_rightStep))), ((t 24), .inl (κ 1, 20, .inl (zc sightings_rightOf))), ((t 25), .inl (κ 1, 20, .inl (zc sightings_rightValue))), ((t 26), .inl (κ 1, 20, .inl (zc sightings_knownValue)))])) (hS : va_S A H0 H locs) (hl : lv_has ls 4 [(0, .ref (t 0)), (1, .int (zi i1)), (2, .int (zi i2)), (3, .int (zi i3))]) (hg : Go (zQ_X10_right p l e s m args below meth c Q D κ A H0 t mk ad t_polygon t_bits t_mendedNumber sightings_size sightings_seenStep sightings_seenFrom sightings_seenTo sightings_seenValue sightings_knownValue) (zf_X10_right mk sightings_size sightings_rights sightings_latest sightings_seenStep sightings_timesRight sightings_rightStep sightings_rightOf sightings_rightValue i1 i2 i3)) : W p l e zr_X10_right s m args below meth c H locs 0 0 Q (F0 m 0 ls []) := by
  unfold zf_X10_right at hg
  refine lv_aload_n hx hb dX10_right_0 rfl (lv_at hl 0 rfl) ?_
  refine va_get (D := D) (ci := 10) (v := .ref (t 17)) (C := RX10) (T := TX10) (N := 13) hx hb hts zi_X10_right_X10 hown hK hP 0 rfl rfl 7 (by decide) (hts (.fieldLink RX10 61 "DiamondRows" "sightings" "LDiamondRows$Sightings;") zl_X10_right_61) (fun _ h9 => h9) rfl dX10_right_1 ?_
  refine lv_iload_n hx hb dX10_right_4 rfl (lv_at hl 1 rfl) ?_
  obtain ⟨o1, ho1, hg⟩ := Go_b hg
  refine zc_vi (rest := []) ⟨hx, hb, hml, hown, hts⟩ (zc_X7_canTell l D κ (fun i => t (i + 17)) sightings_size sightings_rights sightings_latest sightings_seenStep sightings_seenFrom sightings_seenTo sightings_seenValue sightings_timesRight sightings_rightStep sightings_rightOf sightings_rightValue sightings_knownValue i1 o1 ho1) (cwV 1 hts gX10_right_X7_canTell rfl rfl rfl hv_X7_canTell ⟨Nat.le_of_ble_eq_true rfl, Nat.le_of_ble_eq_true rfl⟩) (zpreV hK (hP.sub [1, 2, 3, 4, 5, 6, 7, 8, 9, 10] rfl) 7 0 rfl rfl) rfl hl.1 rfl (Nat.le_of_ble_eq_true rfl) dX10_right_5 ⟨Nat.zero_le _, Nat.zero_le _⟩ ?_
  refine zv_ifb_eq (tgt := 30) hx hb dX10_right_8 (by decide) (fun c7 => ?_) (fun c7 => ?_)
  · have hg := Go_t c7 hg
    refine zv_bipush hx hb dX10_right_30 (by decide) ?_
    exact (Go_s hg) _ _ _ _ hP hD hS dX10_right_32
  · have hg := Go_f c7 hg
    refine lv_aload_n hx hb dX10_right_11 rfl (lv_at hl 0 rfl) ?_
    refine va_get (D := D) (ci := 10) (v := .ref (t 17)) (C := RX10) (T := TX10) (N := 13) hx hb hts zi_X10_right_X10 hown hK hP 0 rfl rfl 7 (by decide) (hts (.fieldLink RX10 61 "DiamondRows" "sightings" "LDiamondRows$Sightings;") zl_X10_right_61) (fun _ h9 => h9) rfl dX10_right_12 ?_
    refine lv_iload_n hx hb dX10_right_15 rfl (lv_at hl 1 rfl) ?_
    refine lv_iload_n hx hb dX10_right_16 rfl (lv_at hl 2 rfl) ?_
    obtain ⟨o2, ho2, hg⟩ := Go_b hg
    refine zc_vi (rest := []) ⟨hx, hb, hml, hown, hts⟩ (zc_X7_wasSeenBefore l D κ (fun i => t (i + 17)) sightings_size sightings_rights sightings_latest sightings_seenStep sightings_seenFrom sightings_seenTo sightings_seenValue sightings_timesRight sightings_rightStep sightings_rightOf sightings_rightValue sightings_knownValue i1 i2 o2 ho2) (cwV 2 hts gX10_right_X7_wasSeenBefore rfl rfl rfl hv_X7_wasSeenBefore ⟨Nat.le_of_ble_eq_true rfl, Nat.le_of_ble_eq_true rfl⟩) (zpreV hK (hP.sub [1, 2, 3, 4, 5, 6, 7, 8, 9, 10] rfl) 7 0 rfl rfl) rfl hl.1 rfl (Nat.le_of_ble_eq_true rfl) dX10_right_17 ⟨Nat.zero_le _, Nat.zero_le _⟩ ?_
    refine zv_ifb_eq (tgt := 30) hx hb dX10_right_20 (by decide) (fun c6 => ?_) (fun c6 => ?_)
    · have hg := Go_t c6 hg
      refine zv_bipush hx hb dX10_right_30 (by decide) ?_
      exact (Go_s hg) _ _ _ _ hP hD hS dX10_right_32
    · have hg := Go_f c6 hg
      refine lv_iload_n hx hb dX10_right_23 rfl (lv_at hl 3 rfl) ?_
      obtain ⟨o3, ho3, hg⟩ := Go_b hg
      refine zc_si (rest := []) ⟨hx, hb, hml, hown, hts⟩ (zc_X10_isValue l D κ i3 o3 ho3) (va_cwS 1 hts gX10_right_X10_isValue rfl rfl rfl hs_X10_isValue ⟨Nat.le_of_ble_eq_true rfl, Nat.le_of_ble_eq_true rfl⟩) (zpreS hK (hP.sub [] rfl)) rfl hl.1 rfl (Nat.le_of_ble_eq_true rfl) dX10_right_24 ⟨Nat.zero_le _, Nat.zero_le _⟩ ?_
      refine zv_ifb_ne (tgt := 33) hx hb dX10_right_27 (by decide) (fun c5 => ?_) (fun c5 => ?_)
      · have hg := Go_f c5 hg
        refine lv_aload_n hx hb dX10_right_33 rfl (lv_at hl 0 rfl) ?_
        refine va_get (D := D) (ci := 10) (v := .ref (t 17)) (C := RX10) (T := TX10) (N := 13) hx hb hts zi_X10_right_X10 hown hK hP 0 rfl rfl 7 (by decide) (hts (.fieldLink RX10 61 "DiamondRows" "sightings" "LDiamondRows$Sightings;") zl_X10_right_61) (fun _ h9 => h9) rfl dX10_right_34 ?_
        refine lv_iload_n hx hb dX10_right_37 rfl (lv_at hl 1 rfl) ?_
        refine lv_iload_n hx hb dX10_right_38 rfl (lv_at hl 2 rfl) ?_
        refine lv_iload_n hx hb dX10_right_39 rfl (lv_at hl 3 rfl) ?_
        obtain ⟨o4, ho4, hg⟩ := Go_b hg
        refine zj_i (wr := [((t 0), .inr (10, [.ref (t 1), .ref (t 3), .ref (t 5), .ref (t 6), .ref (t 9), .ref (t 11), .ref (t 15), .ref (t 17), .ref (t 27), .ref (t 30), zpg ad t_polygon, .int (zi t_bits), .int (zi t_mendedNumber)]))]) (ws1 := [((t 0), .inr (10, [.ref (t 1), .ref (t 3), .ref (t 5), .ref (t 6), .ref (t 9), .ref (t 11), .ref (t 15), .ref (t 17), .ref (t 27), .ref (t 30), zpg ad t_polygon, .int (zi t_bits), .int (zi t_mendedNumber)])), ((t 17), .inr (7, [.ref (t 18), .ref (t 19), .ref (t 20), .ref (t 21), .ref (t 22), .ref (t 23), .ref (t 24), .ref (t 25), .ref (t 26), .int (zi sightings_size), .int (zi (o4.2.1)), .int (zi (o4.2.2.1))])), ((t 18), .inl (κ 1, 20, .inl (zc sightings_seenStep))), ((t 19), .inl (κ 1, 20, .inl (zc sightings_seenFrom))), ((t 20), .inl (κ 1, 20, .inl (zc sightings_seenTo))), ((t 21), .inl (κ 1, 20, .inl (zc sightings_seenValue))), ((t 22), .inl (κ 1, 20, .inl (zc (o4.2.2.2.1)))), ((t 23), .inl (κ 1, 20, .inl (zc (o4.2.2.2.2.1)))), ((t 24), .inl (κ 1, 20, .inl (zc (o4.2.2.2.2.2.1)))), ((t 25), .inl (κ 1, 20, .inl (zc (o4.2.2.2.2.2.2)))), ((t 26), .inl (κ 1, 20, .inl (zc sightings_knownValue)))]) (va_runV (rest := []) ⟨hx, hb, hml, hown, hts⟩ (zc_X7_putRight l D κ (fun i => t (i + 17)) H.size sightings_size sightings_rights sightings_latest sightings_seenStep sightings_seenFrom sightings_seenTo sightings_seenValue sightings_timesRight sightings_rightStep sightings_rightOf sightings_rightValue sightings_knownValue i1 i2 i3 o4 ho4) (cwV 3 hts gX10_right_X7_putRight rfl rfl rfl hv_X7_putRight ⟨Nat.le_of_ble_eq_true rfl, Nat.le_of_ble_eq_true rfl⟩) (zpreWV hK (hP.sub [1, 2, 3, 4, 5, 6, 7, 8, 9, 10] rfl) (hD.sub [1, 2, 3, 4, 5, 6, 7, 8, 9, 10] (by decide) rfl) 7 0 rfl rfl) rfl rfl hl.1 rfl (lv_room (Nat.le_of_ble_eq_true rfl)) dX10_right_40 ⟨Nat.zero_le _, Nat.zero_le _⟩) hP hD hS hA [1, 2, 3, 4, 5, 6, 7, 8, 9, 10] [0] [0, 1, 2, 3, 4, 5, 6, 7, 8, 9, 10] rfl rfl (by decide) (by decide) rfl rfl (by decide) (fun H locs hP hD hS => ?_)
        exact (Go_s hg) _ _ _ _ hP hD hS dX10_right_43
      · have hg := Go_t c5 hg
        refine zv_bipush hx hb dX10_right_30 (by decide) ?_
        exact (Go_s hg) _ _ _ _ hP hD hS dX10_right_32
set_option maxHeartbeats 4000000 in
set_option maxRecDepth 100000 in
theorem zc_X10_right (l : Launch) (D : va_G) (κ : Nat → ClassId) (t : Nat → Nat) (mk : Nat) (ad : Nat → Nat → Nat) (sz : Nat) (t_polygon : Nat) (t_bits : Int) (t_mendedNumber : Int) (sightings_size : Int) (sightings_rights : Int) (sightings_latest : Int) (sightings_seenStep : Nat) (sightings_seenFrom : Nat) (sightings_seenTo : Nat) (sightings_seenValue : Nat) (sightings_timesRight : Nat) (sightings_rightStep : Nat) (sightings_rightOf : Nat) (sightings_rightValue : Nat) (sightings_knownValue : Nat) (i1 : Int) (i2 : Int) (i3 : Int) (out : Int × Int × Int × Nat × Nat × Nat × Nat) (h : zf_X10_right mk sightings_size sightings_rights sightings_latest sightings_seenStep sightings_timesRight sightings_rightStep sightings_rightOf sightings_rightValue i1 i2 i3 = some out) : Met l yX10_right wsX10_right zr_X10_right (va_Pc [.ref (t 0), .int (zi i1), .int (zi i2), .int (zi i3)] (zWa D κ mk ad ([((t 0), .inr (10, [.ref (t 1), .ref (t 3), .ref (t 5), .ref (t 6), .ref (t 9), .ref (t 11), .ref (t 15), .ref (t 17), .ref (t 27), .ref (t 30), zpg ad t_polygon, .int (zi t_bits), .int (zi t_mendedNumber)])), ((t 17), .inr (7, [.ref (t 18), .ref (t 19), .ref (t 20), .ref (t 21), .ref (t 22), .ref (t 23), .ref (t 24), .ref (t 25), .ref (t 26), .int (zi sightings_size), .int (zi sightings_rights), .int (zi sightings_latest)])), ((t 18), .inl (κ 1, 20, .inl (zc sightings_seenStep))), ((t 19), .inl (κ 1, 20, .inl (zc sightings_seenFrom))), ((t 20), .inl (κ 1, 20, .inl (zc sightings_seenTo))), ((t 21), .inl (κ 1, 20, .inl (zc sightings_seenValue))), ((t 22), .inl (κ 1, 20, .inl (zc sightings_timesRight))), ((t 23), .inl (κ 1, 20, .inl (zc sightings_rightStep))), ((t 24), .inl (κ 1, 20, .inl (zc sightings_rightOf))), ((t 25), .inl (κ 1, 20, .inl (zc sightings_rightValue))), ((t 26), .inl (κ 1, 20, .inl (zc sightings_knownValue)))]) sz)) (va_Qi (fun r (_ : Unit) => r = zi (out.1)) (fun _ => zB D κ (va_A ([((t 0), .inr (10, [.ref (t 1), .ref (t 3), .ref (t 5), .ref (t 6), .ref (t 9), .ref (t 11), .ref (t 15), .ref (t 17), .ref (t 27), .ref (t 30), zpg ad t_polygon, .int (zi t_bits), .int (zi t_mendedNumber)])), ((t 17), .inr (7, [.ref (t 18), .ref (t 19), .ref (t 20), .ref (t 21), .ref (t 22), .ref (t 23), .ref (t 24), .ref (t 25), .ref (t 26), .int (zi sightings_size), .int (zi sightings_rights), .int (zi sightings_latest)])), ((t 18), .inl (κ 1, 20, .inl (zc sightings_seenStep))), ((t 19), .inl (κ 1, 20, .inl (zc sightings_seenFrom))), ((t 20), .inl (κ 1, 20, .inl (zc sightings_seenTo))), ((t 21), .inl (κ 1, 20, .inl (zc sightings_seenValue))), ((t 22), .inl (κ 1, 20, .inl (zc sightings_timesRight))), ((t 23), .inl (κ 1, 20, .inl (zc sightings_rightStep))), ((t 24), .inl (κ 1, 20, .inl (zc sightings_rightOf))), ((t 25), .inl (κ 1, 20, .inl (zc sightings_rightValue))), ((t 26), .inl (κ 1, 20, .inl (zc sightings_knownValue)))]) sz) ([((t 0), .inr (10, [.ref (t 1), .ref (t 3), .ref (t 5), .ref (t 6), .ref (t 9), .ref (t 11), .ref (t 15), .ref (t 17), .ref (t 27), .ref (t 30), zpg ad t_polygon, .int (zi t_bits), .int (zi t_mendedNumber)])), ((t 17), .inr (7, [.ref (t 18), .ref (t 19), .ref (t 20), .ref (t 21), .ref (t 22), .ref (t 23), .ref (t 24), .ref (t 25), .ref (t 26), .int (zi sightings_size), .int (zi (out.2.1)), .int (zi (out.2.2.1))])), ((t 18), .inl (κ 1, 20, .inl (zc sightings_seenStep))), ((t 19), .inl (κ 1, 20, .inl (zc sightings_seenFrom))), ((t 20), .inl (κ 1, 20, .inl (zc sightings_seenTo))), ((t 21), .inl (κ 1, 20, .inl (zc sightings_seenValue))), ((t 22), .inl (κ 1, 20, .inl (zc (out.2.2.2.1)))), ((t 23), .inl (κ 1, 20, .inl (zc (out.2.2.2.2.1)))), ((t 24), .inl (κ 1, 20, .inl (zc (out.2.2.2.2.2.1)))), ((t 25), .inl (κ 1, 20, .inl (zc (out.2.2.2.2.2.2)))), ((t 26), .inl (κ 1, 20, .inl (zc sightings_knownValue)))])) (va_A ([((t 0), .inr (10, [.ref (t 1), .ref (t 3), .ref (t 5), .ref (t 6), .ref (t 9), .ref (t 11), .ref (t 15), .ref (t 17), .ref (t 27), .ref (t 30), zpg ad t_polygon, .int (zi t_bits), .int (zi t_mendedNumber)])), ((t 17), .inr (7, [.ref (t 18), .ref (t 19), .ref (t 20), .ref (t 21), .ref (t 22), .ref (t 23), .ref (t 24), .ref (t 25), .ref (t 26), .int (zi sightings_size), .int (zi sightings_rights), .int (zi sightings_latest)])), ((t 18), .inl (κ 1, 20, .inl (zc sightings_seenStep))), ((t 19), .inl (κ 1, 20, .inl (zc sightings_seenFrom))), ((t 20), .inl (κ 1, 20, .inl (zc sightings_seenTo))), ((t 21), .inl (κ 1, 20, .inl (zc sightings_seenValue))), ((t 22), .inl (κ 1, 20, .inl (zc sightings_timesRight))), ((t 23), .inl (κ 1, 20, .inl (zc sightings_rightStep))), ((t 24), .inl (κ 1, 20, .inl (zc sightings_rightOf))), ((t 25), .inl (κ 1, 20, .inl (zc sightings_rightValue))), ((t 26), .inl (κ 1, 20, .inl (zc sightings_knownValue)))]) sz)) 0 0 (va_A ([((t 0), .inr (10, [.ref (t 1), .ref (t 3), .ref (t 5), .ref (t 6), .ref (t 9), .ref (t 11), .ref (t 15), .ref (t 17), .ref (t 27), .ref (t 30), zpg ad t_polygon, .int (zi t_bits), .int (zi t_mendedNumber)])), ((t 17), .inr (7, [.ref (t 18), .ref (t 19), .ref (t 20), .ref (t 21), .ref (t 22), .ref (t 23), .ref (t 24), .ref (t 25), .ref (t 26), .int (zi sightings_size), .int (zi sightings_rights), .int (zi sightings_latest)])), ((t 18), .inl (κ 1, 20, .inl (zc sightings_seenStep))), ((t 19), .inl (κ 1, 20, .inl (zc sightings_seenFrom))), ((t 20), .inl (κ 1, 20, .inl (zc sightings_seenTo))), ((t 21), .inl (κ 1, 20, .inl (zc sightings_seenValue))), ((t 22), .inl (κ 1, 20, .inl (zc sightings_timesRight))), ((t 23), .inl (κ 1, 20, .inl (zc sightings_rightStep))), ((t 24), .inl (κ 1, 20, .inl (zc sightings_rightOf))), ((t 25), .inl (κ 1, 20, .inl (zc sightings_rightValue))), ((t 26), .inl (κ 1, 20, .inl (zc sightings_knownValue)))]) sz) := by
  refine Met.ofW (cc := cX10_right) (maxL := 4) (ret := (some .int)) (by decide +kernel) rfl ?_
  intro p e s m args below meth c s₁ B hml hv
  obtain ⟨rfl, hsz, hP, hK, hD0, hB, hBA⟩ := hv
  have hx := B.exec
  have hb := B.bytes
  have hr := B.returns
  have hts := atoms_spec (ws := wsX10_right) B.pre
  have hown : s.vm.findClass RX10 = some m.cls := findClass_of_methodNamed B.named
  have hlocks := B.notSynchronized
  subst hsz
  have hD := hD0.self (sz := s.heap.size)
  generalize hAe : va_A ([((t 0), .inr (10, [.ref (t 1), .ref (t 3), .ref (t 5), .ref (t 6), .ref (t 9), .ref (t 11), .ref (t 15), .ref (t 17), .ref (t 27), .ref (t 30), zpg ad t_polygon, .int (zi t_bits), .int (zi t_mendedNumber)])), ((t 17), .inr (7, [.ref (t 18), .ref (t 19), .ref (t 20), .ref (t 21), .ref (t 22), .ref (t 23), .ref (t 24), .ref (t 25), .ref (t 26), .int (zi sightings_size), .int (zi sightings_rights), .int (zi sightings_latest)])), ((t 18), .inl (κ 1, 20, .inl (zc sightings_seenStep))), ((t 19), .inl (κ 1, 20, .inl (zc sightings_seenFrom))), ((t 20), .inl (κ 1, 20, .inl (zc sightings_seenTo))), ((t 21), .inl (κ 1, 20, .inl (zc sightings_seenValue))), ((t 22), .inl (κ 1, 20, .inl (zc sightings_timesRight))), ((t 23), .inl (κ 1, 20, .inl (zc sightings_rightStep))), ((t 24), .inl (κ 1, 20, .inl (zc sightings_rightOf))), ((t 25), .inl (κ 1, 20, .inl (zc sightings_rightValue))), ((t 26), .inl (κ 1, 20, .inl (zc sightings_knownValue)))]) s.heap.size = A at hD hBA ⊢
  have hA : ∀ q : Nat, s.heap.size ≤ q → A q := fun q h => by rw [← hAe]; exact Or.inr h
  have hS : va_S A s.heap s.heap [] := va_S.rf
  have hl := lv_entry ([.ref (t 0), .int (zi i1), .int (zi i2), .int (zi i3)]) (n := 4) (Nat.le_of_ble_eq_true rfl)
  rw [lg_entry_eq]
  generalize (lg_sl ([.ref (t 0), .int (zi i1), .int (zi i2), .int (zi i3)]) ++ List.replicate (4 - (lg_sl ([.ref (t 0), .int (zi i1), .int (zi i2), .int (zi i3)])).length) Slot.unset).toArray = ls at hl ⊢
  have hl : lv_has ls 4 [(0, .ref (t 0)), (1, .int (zi i1)), (2, .int (zi i2)), (3, .int (zi i3))] := hl
  refine zs_X10_right t mk ad t_polygon t_bits t_mendedNumber sightings_size sightings_rights sightings_latest sightings_seenStep sightings_seenFrom sightings_seenTo sightings_seenValue sightings_timesRight sightings_rightStep sightings_rightOf sightings_rightValue sightings_knownValue i1 i2 i3 hx hb hml hown hts hK hA hB hBA s.heap [] ls hP hD hS hl ⟨out, h, ?_⟩
  exact fun H locs ls pc hP hD hS hd => W.iret hx hb hr (fun t ht hW => ⟨⟨_, (), rfl, rfl, by rw [ht]; exact hP, va_K.moved hW.alike hK, hD⟩, hS.F ht⟩) hS.2.2 hd
