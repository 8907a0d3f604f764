section
/-! DiamondRows$Triangles.gatherOn(LDiamondRows$Polygon;III)V -/
abbrev zr_X9_gatherOn : Room := { frames := 3, cells := 0, slots := 0, locals := 76 }
abbrev zS_X9_gatherOn : Type := Nat × Int × Int × Int × Int × Int × Nat
abbrev zO_X9_gatherOn : Type := Int × Nat
noncomputable def zg_X9_gatherOn_0 (mk : Nat) (n1 : Nat) (i2 : Int) (i3 : Int) (i4 : Int) (i5 : Int) (t_count : Int) (t_cornersOf : Nat) : Option (zO_X9_gatherOn ⊕ zS_X9_gatherOn) :=
  some (.inr (6, i2, i3, i4, (i4 + (1 : Int)), t_count, t_cornersOf))
noncomputable def zg_X9_gatherOn_6 (mk : Nat) (n1 : Nat) (i2 : Int) (i3 : Int) (i4 : Int) (i5 : Int) (t_count : Int) (t_cornersOf : Nat) : Option (zO_X9_gatherOn ⊕ zS_X9_gatherOn) :=
  if zno mk n1 then none else
  Option.bind (zf_X5_corners n1) (fun o2 =>
  if zout i5 then none else
  if zout o2 then none else
  if o2 ≤ i5 then
  some (.inl (t_count, t_cornersOf))
  else
  Option.bind (zf_X5_areJoined n1 i2 i3 i5) (fun o5 =>
  if o5 = false then
  some (.inr (42, i2, i3, i4, i5, t_count, t_cornersOf))
  else
  Option.bind (zf_X5_areJoined n1 i2 i4 i5) (fun o6 =>
  if o6 = false then
  some (.inr (42, i2, i3, i4, i5, t_count, t_cornersOf))
  else
  if (1 : Int) = 0 then
  some (.inr (6, i2, i3, i4, (i5 + (1 : Int)), t_count, t_cornersOf))
  else
  if zout t_count then none else
  if (7 : Int) ≤ t_count then
  some (.inr (6, i2, i3, i4, (i5 + (1 : Int)), t_count, t_cornersOf))
  else
  if ((3 : Int) * t_count) < 0 ∨ 21 ≤ ((3 : Int) * t_count) then none else
  if (((3 : Int) * t_count) + (1 : Int)) < 0 ∨ 21 ≤ (((3 : Int) * t_count) + (1 : Int)) then none else
  if (((3 : Int) * t_count) + (2 : Int)) < 0 ∨ 21 ≤ (((3 : Int) * t_count) + (2 : Int)) then none else
  some (.inr (6, i2, i3, i4, (i5 + (1 : Int)), (t_count + (1 : Int)), (zset (zset (zset t_cornersOf (Int.toNat ((3 : Int) * t_count)) i3) (Int.toNat (((3 : Int) * t_count) + (1 : Int))) i4) (Int.toNat (((3 : Int) * t_count) + (2 : Int))) i5))))))
noncomputable def zg_X9_gatherOn_42 (mk : Nat) (n1 : Nat) (i2 : Int) (i3 : Int) (i4 : Int) (i5 : Int) (t_count : Int) (t_cornersOf : Nat) : Option (zO_X9_gatherOn ⊕ zS_X9_gatherOn) :=
  if (0 : Int) = 0 then
  some (.inr (6, i2, i3, i4, (i5 + (1 : Int)), t_count, t_cornersOf))
  else
  if zout t_count then none else
  if (7 : Int) ≤ t_count then
  some (.inr (6, i2, i3, i4, (i5 + (1 : Int)), t_count, t_cornersOf))
  else
  if ((3 : Int) * t_count) < 0 ∨ 21 ≤ ((3 : Int) * t_count) then none else
  if (((3 : Int) * t_count) + (1 : Int)) < 0 ∨ 21 ≤ (((3 : Int) * t_count) + (1 : Int)) then none else
  if (((3 : Int) * t_count) + (2 : Int)) < 0 ∨ 21 ≤ (((3 : Int) * t_count) + (2 : Int)) then none else
  some (.inr (6, i2, i3, i4, (i5 + (1 : Int)), (t_count + (1 : Int)), (zset (zset (zset t_cornersOf (Int.toNat ((3 : Int) * t_count)) i3) (Int.toNat (((3 : Int) * t_count) + (1 : Int))) i4) (Int.toNat (((3 : Int) * t_count) + (2 : Int))) i5)))
noncomputable def zg_X9_gatherOn (mk : Nat) (n1 : Nat) (st : zS_X9_gatherOn) : Option (zO_X9_gatherOn ⊕ zS_X9_gatherOn) := match st with
  | (lab, i2, i3, i4, i5, t_count, t_cornersOf) => if lab = 0 then zg_X9_gatherOn_0 mk n1 i2 i3 i4 i5 t_count t_cornersOf else if lab = 6 then zg_X9_gatherOn_6 mk n1 i2 i3 i4 i5 t_count t_cornersOf else if lab = 42 then zg_X9_gatherOn_42 mk n1 i2 i3 i4 i5 t_count t_cornersOf else none
noncomputable def zf_X9_gatherOn (mk : Nat) (t_count : Int) (t_cornersOf : Nat) (n1 : Nat) (i2 : Int) (i3 : Int) (i4 : Int) : Option (Int × Nat) := jrun (zg_X9_gatherOn mk n1) jfuel (0, i2, i3, i4, 0, t_count, t_cornersOf)
theorem zi_X9_gatherOn_X9 : ∀ w ∈ u_ws RX9 TX9 7, w ∈ wsX9_gatherOn := fun w h => (List.mem_cons_of_mem _ (List.mem_append_right _ (List.mem_append_left _ h)))
theorem zl_X9_gatherOn_11 : Cond.fieldLink RX9 11 "DiamondRows$Triangles" "cornersOf" "[I" ∈ wsX9_gatherOn := (List.mem_cons_of_mem _ (List.mem_append_left _ (List.mem_of_getElem? (i := 1) rfl)))
theorem zl_X9_gatherOn_18 : Cond.fieldLink RX9 18 "DiamondRows$Triangles" "count" "I" ∈ wsX9_gatherOn := (List.mem_cons_of_mem _ (List.mem_append_left _ (List.mem_of_getElem? (i := 0) rfl)))
def zQ_X9_gatherOn (p : Program) (l : Launch) (e : Env) (s : State) (m : MethodId) (args : Array Value) (below : List Frame) (meth : Method) (c : Code) (Q : State → Prop) (D : va_G) (κ : Nat → ClassId) (A : Nat → Prop) (H0 : Heap) (t : Nat → Nat) (mk : Nat) (ad : Nat → Nat → Nat) (t_polygon : Nat) (t_from : Int) (t_length : Int) (t_waysAhead : Int) (t_chosen : Nat) (n1 : Nat) (o : Int × Nat) : Prop := ∀ (H : Heap) (locs : List Loc) (ls : Array Slot) (pc : Nat), va_P D vwCl ([((t 0), .inr (9, [.ref (t 1), .ref (t 2), .int (zi (o.1)), zpg ad t_polygon, .int (zi t_from), .int (zi t_length), .int (zi t_waysAhead)])), ((t 1), .inl (κ 1, 21, .inl (zc (o.2)))), ((t 2), .inl (κ 1, 7, .inl (zc t_chosen)))]) H → va_D A ([((t 0), .inr (9, [.ref (t 1), .ref (t 2), .int (zi (o.1)), zpg ad t_polygon, .int (zi t_from), .int (zi t_length), .int (zi t_waysAhead)])), ((t 1), .inl (κ 1, 21, .inl (zc (o.2)))), ((t 2), .inl (κ 1, 7, .inl (zc t_chosen)))]) → va_S A H0 H locs → decode cX9_gatherOn pc = .ok (.return_, 1) → W p l e zr_X9_gatherOn s m args below meth c H locs 0 0 Q (F0 m pc ls [])
def zA_X9_gatherOn_0 (p : Program) (l : Launch) (e : Env) (s : State) (m : MethodId) (args : Array Value) (below : List Frame) (meth : Method) (c : Code) (Q : State → Prop) (D : va_G) (κ : Nat → ClassId) (A : Nat → Prop) (H0 : Heap) (t : Nat → Nat) (mk : Nat) (ad : Nat → Nat → Nat) (t_polygon : Nat) (t_from : Int) (t_length : Int) (t_waysAhead : Int) (t_chosen : Nat) (n1 : Nat) (i2 : Int) (i3 : Int) (i4 : Int) (i5 : Int) (t_count : Int) (t_cornersOf : Nat) : Prop := ∀ (H : Heap) (locs : List Loc) (ls : Array Slot), va_P D vwCl ([((t 0), .inr (9, [.ref (t 1), .ref (t 2), .int (zi t_count), zpg ad t_polygon, .int (zi t_from), .int (zi t_length), .int (zi t_waysAhead)])), ((t 1), .inl (κ 1, 21, .inl (zc t_cornersOf))), ((t 2), .inl (κ 1, 7, .inl (zc t_chosen)))]) H → va_D A ([((t 0), .inr (9, [.ref (t 1), .ref (t 2), .int (zi t_count), zpg ad t_polygon, .int (zi t_from), .int (zi t_length), .int (zi t_waysAhead)])), ((t 1), .inl (κ 1, 21, .inl (zc t_cornersOf))), ((t 2), .inl (κ 1, 7, .inl (zc t_chosen)))]) → va_S A H0 H locs → lv_has ls 7 [(0, .ref (t 0)), (1, .ref (ad n1 0)), (2, .int (zi i2)), (3, .int (zi i3)), (4, .int (zi i4))] → W p l e zr_X9_gatherOn s m args below meth c H locs 0 0 Q (F0 m 0 ls [])
def zA_X9_gatherOn_6 (p : Program) (l : Launch) (e : Env) (s : State) (m : MethodId) (args : Array Value) (below : List Frame) (meth : Method) (c : Code) (Q : State → Prop) (D : va_G) (κ : Nat → ClassId) (A : Nat → Prop) (H0 : Heap) (t : Nat → Nat) (mk : Nat) (ad : Nat → Nat → Nat) (t_polygon : Nat) (t_from : Int) (t_length : Int) (t_waysAhead : Int) (t_chosen : Nat) (n1 : Nat) (i2 : Int) (i3 : Int) (i4 : Int) (i5 : Int) (t_count : Int) (t_cornersOf : Nat) : Prop := ∀ (H : Heap) (locs : List Loc) (ls : Array Slot), va_P D vwCl ([((t 0), .inr (9, [.ref (t 1), .ref (t 2), .int (zi t_count), zpg ad t_polygon, .int (zi t_from), .int (zi t_length), .int (zi t_waysAhead)])), ((t 1), .inl (κ 1, 21, .inl (zc t_cornersOf))), ((t 2), .inl (κ 1, 7, .inl (zc t_chosen)))]) H → va_D A ([((t 0), .inr (9, [.ref (t 1), .ref (t 2), .int (zi t_count), zpg ad t_polygon, .int (zi t_from), .int (zi t_length), .int (zi t_waysAhead)])), ((t 1), .inl (κ 1, 21, .inl (zc t_cornersOf))), ((t 2), .inl (κ 1, 7, .inl (zc t_chosen)))]) → va_S A H0 H locs → lv_has ls 7 [(0, .ref (t 0)), (1, .ref (ad n1 0)), (2, .int (zi i2)), (3, .int (zi i3)), (4, .int (zi i4)), (5, .int (zi i5))] → W p l e zr_X9_gatherOn s m args below meth c H locs 0 0 Q (F0 m 6 ls [])
def zA_X9_gatherOn_42 (p : Program) (l : Launch) (e : Env) (s : State) (m : MethodId) (args : Array Value) (below : List Frame) (meth : Method) (c : Code) (Q : State → Prop) (D : va_G) (κ : Nat → ClassId) (A : Nat → Prop) (H0 : Heap) (t : Nat → Nat) (mk : Nat) (ad : Nat → Nat → Nat) (t_polygon : Nat) (t_from : Int) (t_length : Int) (t_waysAhead : Int) (t_chosen : Nat) (n1 : Nat) (i2 : Int) (i3 : Int) (i4 : Int) (i5 : Int) (t_count : Int) (t_cornersOf : Nat) : Prop := ∀ (H : Heap) (locs : List Loc) (ls : Array Slot), va_P D vwCl ([((t 0), .inr (9, [.ref (t 1), .ref (t 2), .int (zi t_count), zpg ad t_polygon, .int (zi t_from), .int (zi t_length), .int (zi t_waysAhead)])), ((t 1), .inl (κ 1, 21, .inl (zc t_cornersOf))), ((t 2), .inl (κ 1, 7, .inl (zc t_chosen)))]) H → va_D A ([((t 0), .inr (9, [.ref (t 1), .ref (t 2), .int (zi t_count), zpg ad t_polygon, .int (zi t_from), .int (zi t_length), .int (zi t_waysAhead)])), ((t 1), .inl (κ 1, 21, .inl (zc t_cornersOf))), ((t 2), .inl (κ 1, 7, .inl (zc t_chosen)))]) → va_S A H0 H locs → lv_has ls 7 [(0, .ref (t 0)), (1, .ref (ad n1 0)), (2, .int (zi i2)), (3, .int (zi i3)), (4, .int (zi i4)), (5, .int (zi i5))] → W p l e zr_X9_gatherOn s m args below meth c H locs 0 0 Q (F0 m 42 ls [])
def zA_X9_gatherOn (p : Program) (l : Launch) (e : Env) (s : State) (m : MethodId) (args : Array Value) (below : List Frame) (meth : Method) (c : Code) (Q : State → Prop) (D : va_G) (κ : Nat → ClassId) (A : Nat → Prop) (H0 : Heap) (t : Nat → Nat) (mk : Nat) (ad : Nat → Nat → Nat) (t_polygon : Nat) (t_from : Int) (t_length : Int) (t_waysAhead : Int) (t_chosen : Nat) (n1 : Nat) (st : zS_X9_gatherOn) : Prop := match st with
  | (lab, i2, i3, i4, i5, t_count, t_cornersOf) => if lab = 0 then zA_X9_gatherOn_0 p l e s m args below meth c Q D κ A H0 t mk ad t_polygon t_from t_length t_waysAhead t_chosen n1 i2 i3 i4 i5 t_count t_cornersOf else if lab = 6 then zA_X9_gatherOn_6 p l e s m args below meth c Q D κ A H0 t mk ad t_polygon t_from t_length t_waysAhead t_chosen n1 i2 i3 i4 i5 t_count t_cornersOf else if lab = 42 then zA_X9_gatherOn_42 p l e s m args below meth c Q D κ A H0 t mk ad t_polygon t_from t_length t_waysAhead t_chosen n1 i2 i3 i4 i5 t_count t_cornersOf else True
set_option maxHeartbeats 4000000 in
set_option maxRecDepth 100000 in
theorem zs_X9_gatherOn_0 {p : Program} {l : Launch} {e : Env} {s : State} {m : MethodId} {args : Array Value} {below : List Frame} {meth : Method} {c : Code} {Q : State → Prop} {D : va_G} {κ : Nat → ClassId} {A : Nat → Prop} {H0 : Heap} (t : Nat → Nat) (mk : Nat) (ad : Nat → Nat → Nat) (t_polygon : Nat) (t_from : Int) (t_length : Int) (t_waysAhead : Int) (t_chosen : Nat) (n1 : Nat) (hx : p.tables.exec = Jvm.exec) (hb : c.code = cX9_gatherOn) (hml : c.maxLocals = 7) (hown : s.vm.findClass RX9 = some m.cls) (hts : ∀ w ∈ wsX9_gatherOn, w.before args s = true) (hK : va_K D vwCl (zTY κ) s) (hA : ∀ q : Nat, H0.size ≤ q → A q) (hB : zAmb D κ mk ad H0) (hBA : zApt mk ad A H0.size) (i2 : Int) (i3 : Int) (i4 : Int) (i5 : Int) (t_count : Int) (t_cornersOf : Nat) (hg : Go (GoE (zA_X9_gatherOn p l e s m args below meth c Q D κ A H0 t mk ad t_polygon t_from t_length t_waysAhead t_chosen n1) (zQ_X9_gatherOn p l e s m args below meth c Q D κ A H0 t mk ad t_polygon t_from t_length t_waysAhead t_chosen n1)) (zg_X9_gatherOn_0 mk n1 i2 i3 i4 i5 t_count t_cornersOf)) : zA_X9_gatherOn_0 p l e s m args below meth c Q D κ A H0 t mk ad t_polygon t_from t_length t_waysAhead t_chosen n1 i2 i3 i4 i5 t_count t_cornersOf := by
  intro H locs ls hP hD hS hl
  unfold zg_X9_gatherOn_0 at hg
  refine lv_iload hx hb dX9_gatherOn_0 (lv_at hl 4 rfl) ?_
  refine zv_iconst hx hb dX9_gatherOn_2 ?_
  refine zv_iadd hx hb dX9_gatherOn_3 ?_
  refine lv_istore (lv' := [(5, .int (zi (i4 + (1 : Int)))), (0, .ref (t 0)), (1, .ref (ad n1 0)), (2, .int (zi i2)), (3, .int (zi i3)), (4, .int (zi i4))]) hx hb dX9_gatherOn_4 hl (by decide) rfl (fun ls hl => ?_)
  exact (Go_s hg) H locs ls hP hD hS (lv_sub hl [1, 2, 3, 4, 5, 0] rfl)
set_option maxHeartbeats 4000000 in
set_option maxRecDepth 100000 in
theorem zs_X9_gatherOn_6 {p : Program} {l : Launch} {e : Env} {s : State} {m : MethodId} {args : Array Value} {below : List Frame} {meth : Method} {c : Code} {Q : State → Prop} {D : va_G} {κ : Nat → ClassId} {A : Nat → Prop} {H0 : Heap} (t : Nat → Nat) (mk : Nat) (ad : Nat → Nat → Nat) (t_polygon : Nat) (t_from : Int) (t_length : Int) (t_waysAhead : Int) (t_chosen : Nat) (n1 : Nat) (hx : p.tables.exec = Jvm.exec) (hb : c.code = cX9_gatherOn) (hml : c.maxLocals = 7) (hown : s.vm.findClass RX9 = some m.cls) (hts : ∀ w ∈ wsX9_gatherOn, w.before args s = true) (hK : va_K D vwCl (zTY κ) s) (hA : ∀ q : Nat, H0.size ≤ q → A q) (hB : zAmb D κ mk ad H0) (hBA : zApt mk ad A H0.size) (i2 : Int) (i3 : Int) (i4 : Int) (i5 : Int) (t_count : Int) (t_cornersOf : Nat) (hg : Go (GoE (zA_X9_gatherOn p l e s m args below meth c Q D κ A H0 t mk ad t_polygon t_from t_length t_waysAhead t_chosen n1) (zQ_X9_gatherOn p l e s m args below meth c Q D κ A H0 t mk ad t_polygon t_from t_length t_waysAhead t_chosen n1)) (zg_X9_gatherOn_6 mk n1 i2 i3 i4 i5 t_count t_cornersOf)) : zA_X9_gatherOn_6 p l e s m args below meth c Q D κ A H0 t mk ad t_polygon t_from t_length t_waysAhead t_chosen n1 i2 i3 i4 i5 t_count t_cornersOf := by
  intro H locs ls hP hD hS hl
  unfold zg_X9_gatherOn_6 at hg
  refine lv_iload hx hb dX9_gatherOn_6 (lv_at hl 5 rfl) ?_
  refine lv_aload_n hx hb dX9_gatherOn_8 rfl (lv_at hl 1 rfl) ?_
  obtain ⟨m1, hg⟩ := Go_n hg
  obtain ⟨o2, ho2, hg⟩ := Go_b hg
  refine zc_vi (rest := [.int (zi i5)]) ⟨hx, hb, hml, hown, hts⟩ (zc_X5_corners l D κ (ad n1) n1  o2 ho2) (cwV 0 hts gX9_gatherOn_X5_corners rfl rfl rfl hv_X5_corners ⟨Nat.le_of_ble_eq_true rfl, Nat.le_of_ble_eq_true rfl⟩) (zpreV hK ((zamb hB hBA hS) n1 m1) 5 0 rfl rfl) rfl hl.1 rfl (Nat.le_of_ble_eq_true rfl) dX9_gatherOn_9 ⟨Nat.zero_le _, Nat.zero_le _⟩ ?_
  obtain ⟨b3, hg⟩ := Go_n hg
  obtain ⟨b4, hg⟩ := Go_n hg
  refine zv_icmp_ge (tgt := 117) hx hb dX9_gatherOn_12 (by decide) b3 b4 (fun c15 => ?_) (fun c15 => ?_)
  · have hg := Go_t c15 hg
    exact (Go_s hg) _ _ _ _ hP hD hS dX9_gatherOn_117
  · have hg := Go_f c15 hg
    refine lv_aload_n hx hb dX9_gatherOn_15 rfl (lv_at hl 1 rfl) ?_
    refine lv_iload_n hx hb dX9_gatherOn_16 rfl (lv_at hl 2 rfl) ?_
    refine lv_iload_n hx hb dX9_gatherOn_17 rfl (lv_at hl 3 rfl) ?_
    refine lv_iload hx hb dX9_gatherOn_18 (lv_at hl 5 rfl) ?_
    obtain ⟨o5, ho5, hg⟩ := Go_b hg
    refine zc_vi (rest := []) ⟨hx, hb, hml, hown, hts⟩ (zc_X5_areJoined l D κ (ad n1) n1 i2 i3 i5 o5 ho5) (cwV 3 hts gX9_gatherOn_X5_areJoined rfl rfl rfl hv_X5_areJoined ⟨Nat.le_of_ble_eq_true rfl, Nat.le_of_ble_eq_true rfl⟩) (zpreV hK ((zamb hB hBA hS) n1 m1) 5 0 rfl rfl) rfl hl.1 rfl (Nat.le_of_ble_eq_true rfl) dX9_gatherOn_20 ⟨Nat.zero_le _, Nat.zero_le _⟩ ?_
    refine zv_ifb_eq (tgt := 42) hx hb dX9_gatherOn_23 (by decide) (fun c14 => ?_) (fun c14 => ?_)
    · have hg := Go_t c14 hg
      exact (Go_s hg) H locs ls hP hD hS (lv_sub hl [0, 1, 2, 3, 4, 5] rfl)
    · have hg := Go_f c14 hg
      refine lv_aload_n hx hb dX9_gatherOn_26 rfl (lv_at hl 1 rfl) ?_
      refine lv_iload_n hx hb dX9_gatherOn_27 rfl (lv_at hl 2 rfl) ?_
      refine lv_iload hx hb dX9_gatherOn_28 (lv_at hl 4 rfl) ?_
      refine lv_iload hx hb dX9_gatherOn_30 (lv_at hl 5 rfl) ?_
      obtain ⟨o6, ho6, hg⟩ := Go_b hg
      refine zc_vi (rest := []) ⟨hx, hb, hml, hown, hts⟩ (zc_X5_areJoined l D κ (ad n1) n1 i2 i4 i5 o6 ho6) (cwV 3 hts gX9_gatherOn_X5_areJoined rfl rfl rfl hv_X5_areJoined ⟨Nat.le_of_ble_eq_true rfl, Nat.le_of_ble_eq_true rfl⟩) (zpreV hK ((zamb hB hBA hS) n1 m1) 5 0 rfl rfl) rfl hl.1 rfl (Nat.le_of_ble_eq_true rfl) dX9_gatherOn_32 ⟨Nat.zero_le _, Nat.zero_le _⟩ ?_
      refine zv_ifb_eq (tgt := 42) hx hb dX9_gatherOn_35 (by decide) (fun c13 => ?_) (fun c13 => ?_)
      · have hg := Go_t c13 hg
        exact (Go_s hg) H locs ls hP hD hS (lv_sub hl [0, 1, 2, 3, 4, 5] rfl)
      · have hg := Go_f c13 hg
        refine zv_iconst hx hb dX9_gatherOn_38 ?_
        refine lv_goto (tgt := 43) hx hb dX9_gatherOn_39 (by decide) ?_
        refine lv_istore (lv' := [(6, .int (zi (1 : Int))), (0, .ref (t 0)), (1, .ref (ad n1 0)), (2, .int (zi i2)), (3, .int (zi i3)), (4, .int (zi i4)), (5, .int (zi i5))]) hx hb dX9_gatherOn_43 hl (by decide) rfl (fun ls hl => ?_)
        refine lv_iload hx hb dX9_gatherOn_45 (lv_at hl 0 rfl) ?_
        refine zv_if_eq (tgt := 111) hx hb dX9_gatherOn_47 (by decide) (by decide) (fun c12 => ?_) (fun c12 => ?_)
        · have hg := Go_t c12 hg
          refine lv_iinc (v := zi (i5 + (1 : Int))) (lv' := [(5, .int (zi (i5 + (1 : Int)))), (6, .int (zi (1 : Int))), (0, .ref (t 0)), (1, .ref (ad n1 0)), (2, .int (zi i2)), (3, .int (zi i3)), (4, .int (zi i4))]) hx hb dX9_gatherOn_111 hl (k := 6) rfl (zi_add i5 _) (by decide) rfl (fun ls hl => ?_)
          refine lv_goto (tgt := 6) hx hb dX9_gatherOn_114 (by decide) ?_
          exact (Go_s hg) H locs ls hP hD hS (lv_sub hl [2, 3, 4, 5, 6, 0] rfl)
        · have hg := Go_f c12 hg
          refine lv_aload_n hx hb dX9_gatherOn_50 rfl (lv_at hl 1 rfl) ?_
          refine va_get (D := D) (ci := 9) (v := .int (zi t_count)) (C := RX9) (T := TX9) (N := 7) hx hb hts zi_X9_gatherOn_X9 hown hK hP 0 rfl rfl 2 (by decide) (hts (.fieldLink RX9 18 "DiamondRows$Triangles" "count" "I") zl_X9_gatherOn_18) (fun _ h9 => h9) rfl dX9_gatherOn_51 ?_
          refine zv_bipush hx hb dX9_gatherOn_54 (by decide) ?_
          obtain ⟨b7, hg⟩ := Go_n hg
          refine zv_icmp_ge (tgt := 111) hx hb dX9_gatherOn_56 (by decide) b7 (by decide) (fun c11 => ?_) (fun c11 => ?_)
          · have hg := Go_t c11 hg
            refine lv_iinc (v := zi (i5 + (1 : Int))) (lv' := [(5, .int (zi (i5 + (1 : Int)))), (6, .int (zi (1 : Int))), (0, .ref (t 0)), (1, .ref (ad n1 0)), (2, .int (zi i2)), (3, .int (zi i3)), (4, .int (zi i4))]) hx hb dX9_gatherOn_111 hl (k := 6) rfl (zi_add i5 _) (by decide) rfl (fun ls hl => ?_)
            refine lv_goto (tgt := 6) hx hb dX9_gatherOn_114 (by decide) ?_
            exact (Go_s hg) H locs ls hP hD hS (lv_sub hl [2, 3, 4, 5, 6, 0] rfl)
          · have hg := Go_f c11 hg
            refine lv_aload_n hx hb dX9_gatherOn_59 rfl (lv_at hl 1 rfl) ?_
            refine va_get (D := D) (ci := 9) (v := .ref (t 1)) (C := RX9) (T := TX9) (N := 7) hx hb hts zi_X9_gatherOn_X9 hown hK hP 0 rfl rfl 0 (by decide) (hts (.fieldLink RX9 11 "DiamondRows$Triangles" "cornersOf" "[I") zl_X9_gatherOn_11) (fun _ h9 => h9) rfl dX9_gatherOn_60 ?_
            refine zv_iconst hx hb dX9_gatherOn_63 ?_
            refine lv_aload_n hx hb dX9_gatherOn_64 rfl (lv_at hl 1 rfl) ?_
            refine va_get (D := D) (ci := 9) (v := .int (zi t_count)) (C := RX9) (T := TX9) (N := 7) hx hb hts zi_X9_gatherOn_X9 hown hK hP 0 rfl rfl 2 (by decide) (hts (.fieldLink RX9 18 "DiamondRows$Triangles" "count" "I") zl_X9_gatherOn_18) (fun _ h9 => h9) rfl dX9_gatherOn_65 ?_
            refine zv_imul hx hb dX9_gatherOn_68 ?_
            refine lv_iload_n hx hb dX9_gatherOn_69 rfl (lv_at hl 4 rfl) ?_
            obtain ⟨n8, hg⟩ := Go_n hg
            refine zv_iast hx hb hK hP hD hS 1 1 rfl rfl (by decide) n8 dX9_gatherOn_70 (fun H locs hP hD hS => ?_)
            have hP : va_P D vwCl ([((t 0), .inr (9, [.ref (t 1), .ref (t 2), .int (zi t_count), zpg ad t_polygon, .int (zi t_from), .int (zi t_length), .int (zi t_waysAhead)])), ((t 1), .inl (κ 1, 21, .inl (zc (zset t_cornersOf (Int.toNat ((3 : Int) * t_count)) i3)))), ((t 2), .inl (κ 1, 7, .inl (zc t_chosen)))]) H := hP
            have hD : va_D A ([((t 0), .inr (9, [.ref (t 1), .ref (t 2), .int (zi t_count), zpg ad t_polygon, .int (zi t_from), .int (zi t_length), .int (zi t_waysAhead)])), ((t 1), .inl (κ 1, 21, .inl (zc (zset t_cornersOf (Int.toNat ((3 : Int) * t_count)) i3)))), ((t 2), .inl (κ 1, 7, .inl (zc t_chosen)))]) := hD
            refine lv_aload_n hx hb dX9_gatherOn_71 rfl (lv_at hl 1 rfl) ?_
            refine va_get (D := D) (ci := 9) (v := .ref (t 1)) (C := RX9) (T := TX9) (N := 7) hx hb hts zi_X9_gatherOn_X9 hown hK hP 0 rfl rfl 0 (by decide) (hts (.fieldLink RX9 11 "DiamondRows$Triangles" "cornersOf" "[I") zl_X9_gatherOn_11) (fun _ h9 => h9) rfl dX9_gatherOn_72 ?_
            refine zv_iconst hx hb dX9_gatherOn_75 ?_
            refine lv_aload_n hx hb dX9_gatherOn_76 rfl (lv_at hl 1 rfl) ?_
            refine va_get (D := D) (ci := 9) (v := .int (zi t_count)) (C := RX9) (T := TX9) (N := 7) hx hb hts zi_X9_gatherOn_X9 hown hK hP 0 rfl rfl 2 (by decide) (hts (.fieldLink RX9 18 "DiamondRows$Triangles" "count" "I") zl_X9_gatherOn_18) (fun _ h9 => h9) rfl dX9_gatherOn_77 ?_
            refine zv_imul hx hb dX9_gatherOn_80 ?_
            refine zv_iconst hx hb dX9_gatherOn_81 ?_
            refine zv_iadd hx hb dX9_gatherOn_82 ?_
            refine lv_iload hx hb dX9_gatherOn_83 (lv_at hl 5 rfl) ?_
            obtain ⟨n9, hg⟩ := Go_n hg
            refine zv_iast hx hb hK hP hD hS 1 1 rfl rfl (by decide) n9 dX9_gatherOn_85 (fun H locs hP hD hS => ?_)
            have hP : va_P D vwCl ([((t 0), .inr (9, [.ref (t 1), .ref (t 2), .int (zi t_count), zpg ad t_polygon, .int (zi t_from), .int (zi t_length), .int (zi t_waysAhead)])), ((t 1), .inl (κ 1, 21, .inl (zc (zset (zset t_cornersOf (Int.toNat ((3 : Int) * t_count)) i3) (Int.toNat (((3 : Int) * t_count) + (1 : Int))) i4)))), ((t 2), .inl (κ 1, 7, .inl (zc t_chosen)))]) H := hP
            have hD : va_D A ([((t 0), .inr (9, [.ref (t 1), .ref (t 2), .int (zi t_count), zpg ad t_polygon, .int (zi t_from), .int (zi t_length), .int (zi t_waysAhead)])), ((t 1), .inl (κ 1, 21, .inl (zc (zset (zset t_cornersOf (Int.toNat ((3 : Int) * t_count)) i3) (Int.toNat (((3 : Int) * t_count) + (1 : Int))) i4)))), ((t 2), .inl (κ 1, 7, .inl (zc t_chosen)))]) := hD
            refine lv_aload_n hx hb dX9_gatherOn_86 rfl (lv_at hl 1 rfl) ?_
            refine va_get (D := D) (ci := 9) (v := .ref (t 1)) (C := RX9) (T := TX9) (N := 7) hx hb hts zi_X9_gatherOn_X9 hown hK hP 0 rfl rfl 0 (by decide) (hts (.fieldLink RX9 11 "DiamondRows$Triangles" "cornersOf" "[I") zl_X9_gatherOn_11) (fun _ h9 => h9) rfl dX9_gatherOn_87 ?_
            refine zv_iconst hx hb dX9_gatherOn_90 ?_
            refine lv_aload_n hx hb dX9_gatherOn_91 rfl (lv_at hl 1 rfl) ?_
            refine va_get (D := D) (ci := 9) (v := .int (zi t_count)) (C := RX9) (T := TX9) (N := 7) hx hb hts zi_X9_gatherOn_X9 hown hK hP 0 rfl rfl 2 (by decide) (hts (.fieldLink RX9 18 "DiamondRows$Triangles" "count" "I") zl_X9_gatherOn_18) (fun _ h9 => h9) rfl dX9_gatherOn_92 ?_
            refine zv_imul hx hb dX9_gatherOn_95 ?_
            refine zv_iconst hx hb dX9_gatherOn_96 ?_
            refine zv_iadd hx hb dX9_gatherOn_97 ?_
            refine lv_iload hx hb dX9_gatherOn_98 (lv_at hl 6 rfl) ?_
            obtain ⟨n10, hg⟩ := Go_n hg
            refine zv_iast hx hb hK hP hD hS 1 1 rfl rfl (by decide) n10 dX9_gatherOn_100 (fun H locs hP hD hS => ?_)
            have hP : va_P D vwCl ([((t 0), .inr (9, [.ref (t 1), .ref (t 2), .int (zi t_count), zpg ad t_polygon, .int (zi t_from), .int (zi t_length), .int (zi t_waysAhead)])), ((t 1), .inl (κ 1, 21, .inl (zc (zset (zset (zset t_cornersOf (Int.toNat ((3 : Int) * t_count)) i3) (Int.toNat (((3 : Int) * t_count) + (1 : Int))) i4) (Int.toNat (((3 : Int) * t_count) + (2 : Int))) i5)))), ((t 2), .inl (κ 1, 7, .inl (zc t_chosen)))]) H := hP
            have hD : va_D A ([((t 0), .inr (9, [.ref (t 1), .ref (t 2), .int (zi t_count), zpg ad t_polygon, .int (zi t_from), .int (zi t_length), .int (zi t_waysAhead)])), ((t 1), .inl (κ 1, 21, .inl (zc (zset (zset (zset t_cornersOf (Int.toNat ((3 : Int) * t_count)) i3) (Int.toNat (((3 : Int) * t_count) + (1 : Int))) i4) (Int.toNat (((3 : Int) * t_count) + (2 : Int))) i5)))), ((t 2), .inl (κ 1, 7, .inl (zc t_chosen)))]) := hD
            refine lv_aload_n hx hb dX9_gatherOn_101 rfl (lv_at hl 1 rfl) ?_
            refine lv_dup hx hb dX9_gatherOn_102 rfl ?_
            refine va_get (D := D) (ci := 9) (v := .int (zi t_count)) (C := RX9) (T := TX9) (N := 7) hx hb hts zi_X9_gatherOn_X9 hown hK hP 0 rfl rfl 2 (by decide) (hts (.fieldLink RX9 18 "DiamondRows$Triangles" "count" "I") zl_X9_gatherOn_18) (fun _ h9 => h9) rfl dX9_gatherOn_103 ?_
            refine zv_iconst hx hb dX9_gatherOn_106 ?_
            refine zv_iadd hx hb dX9_gatherOn_107 ?_
            refine va_put (D := D) (ci := 9) (v := .int (zi (t_count + (1 : Int)))) (ty := .int) (C := RX9) (T := TX9) (N := 7) hx hb hts zi_X9_gatherOn_X9 tyX9 tyX9_ok nmX9 hown hK hP hD hS 0 rfl rfl 2 (by decide) (hts (.fieldLink RX9 18 "DiamondRows$Triangles" "count" "I") zl_X9_gatherOn_18) (fun _ h9 => h9) rfl (by decide +kernel) rfl rfl (Nat.le_of_ble_eq_true rfl) dX9_gatherOn_108 (fun H locs hP hD hS => ?_)
            have hP : va_P D vwCl ([((t 0), .inr (9, [.ref (t 1), .ref (t 2), .int (zi (t_count + (1 : Int))), zpg ad t_polygon, .int (zi t_from), .int (zi t_length), .int (zi t_waysAhead)])), ((t 1), .inl (κ 1, 21, .inl (zc (zset (zset (zset t_cornersOf (Int.toNat ((3 : Int) * t_count)) i3) (Int.toNat (((3 : Int) * t_count) + (1 : Int))) i4) (Int.toNat (((3 : Int) * t_count) + (2 : Int))) i5)))), ((t 2), .inl (κ 1, 7, .inl (zc t_chosen)))]) H := hP
            have hD : va_D A ([((t 0), .inr (9, [.ref (t 1), .ref (t 2), .int (zi (t_count + (1 : Int))), zpg ad t_polygon, .int (zi t_from), .int (zi t_length), .int (zi t_waysAhead)])), ((t 1), .inl (κ 1, 21, .inl (zc (zset (zset (zset t_cornersOf (Int.toNat ((3 : Int) * t_count)) i3) (Int.toNat (((3 : Int) * t_count) + (1 : Int))) i4) (Int.toNat (((3 : Int) * t_count) + (2 : Int))) i5)))), ((t 2), .inl (κ 1, 7, .inl (zc t_chosen)))]) := hD
            refine lv_iinc (v := zi (i5 + (1 : Int))) (lv' := [(5, .int (zi (i5 + (1 : Int)))), (6, .int (zi (1 : Int))), (0, .ref (t 0)), (1, .ref (ad n1 0)), (2, .int (zi i2)), (3, .int (zi i3)), (4, .int (zi i4))]) hx hb dX9_gatherOn_111 hl (k := 6) rfl (zi_add i5 _) (by decide) rfl (fun ls hl => ?_)
            refine lv_goto (tgt := 6) hx hb dX9_gatherOn_114 (by decide) ?_
            exact (Go_s hg) H locs ls hP hD hS (lv_sub hl [2, 3, 4, 5, 6, 0] rfl)
set_option maxHeartbeats 4000000 in
set_option maxRecDepth 100000 in
theorem zs_X9_gatherOn_42 {p : Program} {l : Launch} {e : Env} {s : State} {m : MethodId} {args : Array Value} {below : List Frame} {meth : Method} {c : Code} {Q : State → Prop} {D : va_G} {κ : Nat → ClassId} {A : Nat → Prop} {H0 : Heap} (t : Nat → Nat) (mk : Nat) (ad : Nat → Nat → Nat) (t_polygon : Nat) (t_from : Int) (t_length : Int) (t_waysAhead : Int) (t_chosen : Nat) (n1 : Nat) (hx : p.tables.exec = Jvm.exec) (hb : c.code = cX9_gatherOn) (hml : c.maxLocals = 7) (hown : s.vm.findClass RX9 = some m.cls) (hts : ∀ w ∈ wsX9_gatherOn, w.before args s = true) (hK : va_K D vwCl (zTY κ) s) (hA : ∀ q : Nat, H0.size ≤ q → A q) (hB : zAmb D κ mk ad H0) (hBA : zApt mk ad A H0.size) (i2 : Int) (i3 : Int) (i4 : Int) (i5 : Int) (t_count : Int) (t_cornersOf : Nat) (hg : Go (GoE (zA_X9_gatherOn p l e s m args below meth c Q D κ A H0 t mk ad t_polygon t_from t_length t_waysAhead t_chosen n1) (zQ_X9_gatherOn p l e s m args below meth c Q D κ A H0 t mk ad t_polygon t_from t_length t_waysAhead t_chosen n1)) (zg_X9_gatherOn_42 mk n1 i2 i3 i4 i5 t_count t_cornersOf)) : zA_X9_gatherOn_42 p l e s m args below meth c Q D κ A H0 t mk ad t_polygon t_from t_length t_waysAhead t_chosen n1 i2 i3 i4 i5 t_count t_cornersOf := by
  intro H locs ls hP hD hS hl
  unfold zg_X9_gatherOn_42 at hg
  refine zv_iconst hx hb dX9_gatherOn_42 ?_
  refine lv_istore (lv' := [(6, .int (zi (0 : Int))), (0, .ref (t 0)), (1, .ref (ad n1 0)), (2, .int (zi i2)), (3, .int (zi i3)), (4, .int (zi i4)), (5, .int (zi i5))]) hx hb dX9_gatherOn_43 hl (by decide) rfl (fun ls hl => ?_)
  refine lv_iload hx hb dX9_gatherOn_45 (lv_at hl 0 rfl) ?_
  refine zv_if_eq (tgt := 111) hx hb dX9_gatherOn_47 (by decide) (by decide) (fun c21 => ?_) (fun c21 => ?_)
  · have hg := Go_t c21 hg
    refine lv_iinc (v := zi (i5 + (1 : Int))) (lv' := [(5, .int (zi (i5 + (1 : Int)))), (6, .int (zi (0 : Int))), (0, .ref (t 0)), (1, .ref (ad n1 0)), (2, .int (zi i2)), (3, .int (zi i3)), (4, .int (zi i4))]) hx hb dX9_gatherOn_111 hl (k := 6) rfl (zi_add i5 _) (by decide) rfl (fun ls hl => ?_)
    refine lv_goto (tgt := 6) hx hb dX9_gatherOn_114 (by decide) ?_
    exact (Go_s hg) H locs ls hP hD hS (lv_sub hl [2, 3, 4, 5, 6, 0] rfl)
  · have hg := Go_f c21 hg
    refine lv_aload_n hx hb dX9_gatherOn_50 rfl (lv_at hl 1 rfl) ?_
    refine va_get (D := D) (ci := 9) (v := .int (zi t_count)) (C := RX9) (T := TX9) (N := 7) hx hb hts zi_X9_gatherOn_X9 hown hK hP 0 rfl rfl 2 (by decide) (hts (.fieldLink RX9 18 "DiamondRows$Triangles" "count" "I") zl_X9_gatherOn_18) (fun _ h9 => h9) rfl dX9_gatherOn_51 ?_
    refine zv_bipush hx hb dX9_gatherOn_54 (by decide) ?_
    obtain ⟨b16, hg⟩ := Go_n hg
    refine zv_icmp_ge (tgt := 111) hx hb dX9_gatherOn_56 (by decide) b16 (by decide) (fun c20 => ?_) (fun c20 => ?_)
    · have hg := Go_t c20 hg
      refine lv_iinc (v := zi (i5 + (1 : Int))) (lv' := [(5, .int (zi (i5 + (1 : Int)))), (6, .int (zi (0 : Int))), (0, .ref (t 0)), (1, .ref (ad n1 0)), (2, .int (zi i2)), (3, .int (zi i3)), (4, .int (zi i4))]) hx hb dX9_gatherOn_111 hl (k := 6) rfl (zi_add i5 _) (by decide) rfl (fun ls hl => ?_)
      refine lv_goto (tgt := 6) hx hb dX9_gatherOn_114 (by decide) ?_
      exact (Go_s hg) H locs ls hP hD hS (lv_sub hl [2, 3, 4, 5, 6, 0] rfl)
    · have hg := Go_f c20 hg
      refine lv_aload_n hx hb dX9_gatherOn_59 rfl (lv_at hl 1 rfl) ?_
      refine va_get (D := D) (ci := 9) (v := .ref (t 1)) (C := RX9) (T := TX9) (N := 7) hx hb hts zi_X9_gatherOn_X9 hown hK hP 0 rfl rfl 0 (by decide) (hts (.fieldLink RX9 11 "DiamondRows$Triangles" "cornersOf" "[I") zl_X9_gatherOn_11) (fun _ h9 => h9) rfl dX9_gatherOn_60 ?_
      refine zv_iconst hx hb dX9_gatherOn_63 ?_
      refine lv_aload_n hx hb dX9_gatherOn_64 rfl (lv_at hl 1 rfl) ?_
      refine va_get (D := D) (ci := 9) (v := .int (zi t_count)) (C := RX9) (T := TX9) (N := 7) hx hb hts zi_X9_gatherOn_X9 hown hK hP 0 rfl rfl 2 (by decide) (hts (.fieldLink RX9 18 "DiamondRows$Triangles" "count" "I") zl_X9_gatherOn_18) (fun _ h9 => h9) rfl dX9_gatherOn_65 ?_
      refine zv_imul hx hb dX9_gatherOn_68 ?_
      refine lv_iload_n hx hb dX9_gatherOn_69 rfl (lv_at hl 4 rfl) ?_
      obtain ⟨n17, hg⟩ := Go_n hg
      refine zv_iast hx hb hK hP hD hS 1 1 rfl rfl (by decide) n17 dX9_gatherOn_70 (fun H locs hP hD hS => ?_)
      have hP : va_P D vwCl ([((t 0), .inr (9, [.ref (t 1), .ref (t 2), .int (zi t_count), zpg ad t_polygon, .int (zi t_from), .int (zi t_length), .int (zi t_waysAhead)])), ((t 1), .inl (κ 1, 21, .inl (zc (zset t_cornersOf (Int.toNat ((3 : Int) * t_count)) i3)))), ((t 2), .inl (κ 1, 7, .inl (zc t_chosen)))]) H := hP
      have hD : va_D A ([((t 0), .inr (9, [.ref (t 1), .ref (t 2), .int (zi t_count), zpg ad t_polygon, .int (zi t_from), .int (zi t_length), .int (zi t_waysAhead)])), ((t 1), .inl (κ 1, 21, .inl (zc (zset t_cornersOf (Int.toNat ((3 : Int) * t_count)) i3)))), ((t 2), .inl (κ 1, 7, .inl (zc t_chosen)))]) := hD
      refine lv_aload_n hx hb dX9_gatherOn_71 rfl (lv_at hl 1 rfl) ?_
      refine va_get (D := D) (ci := 9) (v := .ref (t 1)) (C := RX9) (T := TX9) (N := 7) hx hb hts zi_X9_gatherOn_X9 hown hK hP 0 rfl rfl 0 (by decide) (hts (.fieldLink RX9 11 "DiamondRows$Triangles" "cornersOf" "[I") zl_X9_gatherOn_11) (fun _ h9 => h9) rfl dX9_gatherOn_72 ?_
      refine zv_iconst hx hb dX9_gatherOn_75 ?_
      refine lv_aload_n hx hb dX9_gatherOn_76 rfl (lv_at hl 1 rfl) ?_
      refine va_get (D := D) (ci := 9) (v := .int (zi t_count)) (C := RX9) (T := TX9) (N := 7) hx hb hts zi_X9_gatherOn_X9 hown hK hP 0 rfl rfl 2 (by decide) (hts (.fieldLink RX9 18 "DiamondRows$Triangles" "count" "I") zl_X9_gatherOn_18) (fun _ h9 => h9) rfl dX9_gatherOn_77 ?_
      refine zv_imul hx hb dX9_gatherOn_80 ?_
      refine zv_iconst hx hb dX9_gatherOn_81 ?_
      refine zv_iadd hx hb dX9_gatherOn_82 ?_
      refine lv_iload hx hb dX9_gatherOn_83 (lv_at hl 5 rfl) ?_
      obtain ⟨n18, hg⟩ := Go_n hg
      refine zv_iast hx hb hK hP hD hS 1 1 rfl rfl (by decide) n18 dX9_gatherOn_85 (fun H locs hP hD hS => ?_)
      have hP : va_P D vwCl ([((t 0), .inr (9, [.ref (t 1), .ref (t 2), .int (zi t_count), zpg ad t_polygon, .int (zi t_from), .int (zi t_length), .int (zi t_waysAhead)])), ((t 1), .inl (κ 1, 21, .inl (zc (zset (zset t_cornersOf (Int.toNat ((3 : Int) * t_count)) i3) (Int.toNat (((3 : Int) * t_count) + (1 : Int))) i4)))), ((t 2), .inl (κ 1, 7, .inl (zc t_chosen)))]) H := hP
      have hD : va_D A ([((t 0), .inr (9, [.ref (t 1), .ref (t 2), .int (zi t_count), zpg ad t_polygon, .int (zi t_from), .int (zi t_length), .int (zi t_waysAhead)])), ((t 1), .inl (κ 1, 21, .inl (zc (zset (zset t_cornersOf (Int.toNat ((3 : Int) * t_count)) i3) (Int.toNat (((3 : Int) * t_count) + (1 : Int))) i4)))), ((t 2), .inl (κ 1, 7, .inl (zc t_chosen)))]) := hD
      refine lv_aload_n hx hb dX9_gatherOn_86 rfl (lv_at hl 1 rfl) ?_
      refine va_get (D := D) (ci := 9) (v := .ref (t 1)) (C := RX9) (T := TX9) (N := 7) hx hb hts zi_X9_gatherOn_X9 hown hK hP 0 rfl rfl 0 (by decide) (hts (.fieldLink RX9 11 "DiamondRows$Triangles" "cornersOf" "[I") zl_X9_gatherOn_11) (fun _ h9 => h9) rfl dX9_gatherOn_87 ?_
      refine zv_iconst hx hb dX9_gatherOn_90 ?_
      refine lv_aload_n hx hb dX9_gatherOn_91 rfl (lv_at hl 1 rfl) ?_
      refine va_get (D := D) (ci := 9) (v := .int (zi t_count)) (C := RX9) (T := TX9) (N := 7) hx hb hts zi_X9_gatherOn_X9 hown hK hP 0 rfl rfl 2 (by decide) (hts (.fieldLink RX9 18 "DiamondRows$Triangles" "count" "I") zl_X9_gatherOn_18) (fun _ h9 => h9) rfl dX9_gatherOn_92 ?_
      refine zv_imul hx hb dX9_gatherOn_95 ?_
      refine zv_iconst hx hb dX9_gatherOn_96 ?_
      refine zv_iadd hx hb dX9_gatherOn_97 ?_
      refine lv_iload hx hb dX9_gatherOn_98 (lv_at hl 6 rfl) ?_
      obtain ⟨n19, hg⟩ := Go_n hg
      refine zv_iast hx hb hK hP hD hS 1 1 rfl rfl (by decide) n19 dX9_gatherOn_100 (fun H locs hP hD hS => ?_)
      have hP : va_P D vwCl ([((t 0), .inr (9, [.ref (t 1), .ref (t 2), .int (zi t_count), zpg ad t_polygon, .int (zi t_from), .int (zi t_length), .int (zi t_waysAhead)])), ((t 1), .inl (κ 1, 21, .inl (zc (zset (zset (zset t_cornersOf (Int.toNat ((3 : Int) * t_count)) i3) (Int.toNat (((3 : Int) * t_count) + (1 : Int))) i4) (Int.toNat (((3 : Int) * t_count) + (2 : Int))) i5)))), ((t 2), .inl (κ 1, 7, .inl (zc t_chosen)))]) H := hP
      have hD : va_D A ([((t 0), .inr (9, [.ref (t 1), .ref (t 2), .int (zi t_count), zpg ad t_polygon, .int (zi t_from), .int (zi t_length), .int (zi t_waysAhead)])), ((t 1), .inl (κ 1, 21, .inl (zc (zset (zset (zset t_cornersOf (Int.toNat ((3 : Int) * t_count)) i3) (Int.toNat (((3 : Int) * t_count) + (1 : Int))) i4) (Int.toNat (((3 : Int) * t_count) + (2 : Int))) i5)))), ((t 2), .inl (κ 1, 7, .inl (zc t_chosen)))]) := hD
      refine lv_aload_n hx hb dX9_gatherOn_101 rfl (lv_at hl 1 rfl) ?_
      refine lv_dup hx hb dX9_gatherOn_102 rfl ?_
      refine va_get (D := D) (ci := 9) (v := .int (zi t_count)) (C := RX9) (T := TX9) (N := 7) hx hb hts zi_X9_gatherOn_X9 hown hK hP 0 rfl rfl 2 (by decide) (hts (.fieldLink RX9 18 "DiamondRows$Triangles" "count" "I") zl_X9_gatherOn_18) (fun _ h9 => h9) rfl dX9_gatherOn_103 ?_
      refine zv_iconst hx hb dX9_gatherOn_106 ?_
      refine zv_iadd hx hb dX9_gatherOn_107 ?_
      refine va_put (D := D) (ci := 9) (v := .int (zi (t_count + (1 : Int)))) (ty := .int) (C := RX9) (T := TX9) (N := 7) hx hb hts zi_X9_gatherOn_X9 tyX9 tyX9_ok nmX9 hown hK hP hD hS 0 rfl rfl 2 (by decide) (hts (.fieldLink RX9 18 "DiamondRows$Triangles" "count" "I") zl_X9_gatherOn_18) (fun _ h9 => h9) rfl (by decide +kernel) rfl rfl (Nat.le_of_ble_eq_true rfl) dX9_gatherOn_108 (fun H locs hP hD hS => ?_)
      have hP : va_P D vwCl ([((t 0), .inr (9, [.ref (t 1), .ref (t 2), .int (zi (t_count + (1 : Int))), zpg ad t_polygon, .int (zi t_from), .int (zi t_length), .int (zi t_waysAhead)])), ((t 1), .inl (κ 1, 21, .inl (zc (zset (zset (zset t_cornersOf (Int.toNat ((3 : Int) * t_count)) i3) (Int.toNat (((3 : Int) * t_count) + (1 : Int))) i4) (Int.toNat (((3 : Int) * t_count) + (2 : Int))) i5)))), ((t 2), .inl (κ 1, 7, .inl (zc t_chosen)))]) H := hP
      have hD : va_D A ([((t 0), .inr (9, [.ref (t 1), .ref (t 2), .int (zi (t_count + (1 : Int))), zpg ad t_polygon, .int (zi t_from), .int (zi t_length), .int (zi t_waysAhead)])), ((t 1), .inl (κ 1, 21, .inl (zc (zset (zset (zset t_cornersOf (Int.toNat ((3 : Int) * t_count)) i3) (Int.toNat (((3 : Int) * t_count) + (1 : Int))) i4) (Int.toNat (((3 : Int) * t_count) + (2 : Int))) i5)))), ((t 2), .inl (κ 1, 7, .inl (zc t_chosen)))]) := hD
      refine lv_iinc (v := zi (i5 + (1 : Int))) (lv' := [(5, .int (zi (i5 + (1 : Int)))), (6, .int (zi (0 : Int))), (0, .ref (t 0)), (1, .ref (ad n1 0)), (2, .int (zi i2)), (3, .int (zi i3)), (4, .int (zi i4))]) hx hb dX9_gatherOn_111 hl (k := 6) rfl (zi_add i5 _) (by decide) rfl (fun ls hl => ?_)
      refine lv_goto (tgt := 6) hx hb dX9_gatherOn_114 (by decide) ?_
      exact (Go_s hg) H locs ls hP hD hS (lv_sub hl [2, 3, 4, 5, 6, 0] rfl)
set_option maxHeartbeats 4000000 in
set_option maxRecDepth 100000 in
theorem zw_X9_gatherOn {p : Program} {l : Launch} {e : Env} {s : State} {m : MethodId} {args : Array Value} {below : List Frame} {meth : Method} {c : Code} {Q : State → Prop} {D : va_G} {κ : Nat → ClassId} {A : Nat → Prop} {H0 : Heap} (t : Nat → Nat) (mk : Nat) (ad : Nat → Nat → Nat) (t_polygon : Nat) (t_from : Int) (t_length : Int) (t_waysAhead : Int) (t_chosen : Nat) (n1 : Nat) (t_count : Int) (t_cornersOf : Nat) (i2 : Int) (i3 : Int) (i4 : Int) (hx : p.tables.exec = Jvm.exec) (hb : c.code = cX9_gatherOn) (hml : c.maxLocals = 7) (hown : s.vm.findClass RX9 = some m.cls) (hts : ∀ w ∈ wsX9_gatherOn, w.before args s = true) (hK : va_K D vwCl (zTY κ) s) (hA : ∀ q : Nat, H0.size ≤ q → A q) (hB : zAmb D κ mk ad H0) (hBA : zApt mk ad A H0.size) (out : Int × Nat) (h : zf_X9_gatherOn mk t_count t_cornersOf n1 i2 i3 i4 = some out) (hq : zQ_X9_gatherOn p l e s m args below meth c Q D κ A H0 t mk ad t_polygon t_from t_length t_waysAhead t_chosen n1 out) : zA_X9_gatherOn_0 p l e s m args below meth c Q D κ A H0 t mk ad t_polygon t_from t_length t_waysAhead t_chosen n1 i2 i3 i4 0 t_count t_cornersOf := by
  have hst : ∀ st : zS_X9_gatherOn, Go (GoE (zA_X9_gatherOn p l e s m args below meth c Q D κ A H0 t mk ad t_polygon t_from t_length t_waysAhead t_chosen n1) (zQ_X9_gatherOn p l e s m args below meth c Q D κ A H0 t mk ad t_polygon t_from t_length t_waysAhead t_chosen n1)) (zg_X9_gatherOn mk n1 st) → zA_X9_gatherOn p l e s m args below meth c Q D κ A H0 t mk ad t_polygon t_from t_length t_waysAhead t_chosen n1 st := by
    intro st hg
    obtain ⟨lab, i2, i3, i4, i5, t_count, t_cornersOf⟩ := st
    by_cases h0 : lab = 0
    · subst h0
      exact zs_X9_gatherOn_0 t mk ad t_polygon t_from t_length t_waysAhead t_chosen n1 hx hb hml hown hts hK hA hB hBA i2 i3 i4 i5 t_count t_cornersOf hg
    by_cases h6 : lab = 6
    · subst h6
      exact zs_X9_gatherOn_6 t mk ad t_polygon t_from t_length t_waysAhead t_chosen n1 hx hb hml hown hts hK hA hB hBA i2 i3 i4 i5 t_count t_cornersOf hg
    by_cases h42 : lab = 42
    · subst h42
      exact zs_X9_gatherOn_42 t mk ad t_polygon t_from t_length t_waysAhead t_chosen n1 hx hb hml hown hts hK hA hB hBA i2 i3 i4 i5 t_count t_cornersOf hg
    have hz : zg_X9_gatherOn mk n1 (lab, i2, i3, i4, i5, t_count, t_cornersOf) = none := by simp [zg_X9_gatherOn, h0, h6, h42]
    rw [hz] at hg
    obtain ⟨a, h1, -⟩ := hg
    cases h1
  exact jwalk (At := zA_X9_gatherOn p l e s m args below meth c Q D κ A H0 t mk ad t_polygon t_from t_length t_waysAhead t_chosen n1) (Ret := zQ_X9_gatherOn p l e s m args below meth c Q D κ A H0 t mk ad t_polygon t_from t_length t_waysAhead t_chosen n1) hst _ _ _ h hq
set_option maxHeartbeats 4000000 in
set_option maxRecDepth 100000 in
theorem zc_X9_gatherOn (l : Launch) (D : va_G) (κ : Nat → ClassId) (t : Nat → Nat) (mk : Nat) (ad : Nat → Nat → Nat) (sz : Nat) (t_count : Int) (t_polygon : Nat) (t_from : Int) (t_length : Int) (t_waysAhead : Int) (t_cornersOf : Nat) (t_chosen : Nat) (n1 : Nat) (i2 : Int) (i3 : Int) (i4 : Int) (out : Int × Nat) (h : zf_X9_gatherOn mk t_count t_cornersOf n1 i2 i3 i4 = some out) : Met l yX9_gatherOn wsX9_gatherOn zr_X9_gatherOn (va_Pc [.ref (t 0), .ref (ad n1 0), .int (zi i2), .int (zi i3), .int (zi i4)] (zWa D κ mk ad ([((t 0), .inr (9, [.ref (t 1), .ref (t 2), .int (zi t_count), zpg ad t_polygon, .int (zi t_from), .int (zi t_length), .int (zi t_waysAhead)])), ((t 1), .inl (κ 1, 21, .inl (zc t_cornersOf))), ((t 2), .inl (κ 1, 7, .inl (zc t_chosen)))]) sz)) (va_Qv (fun (_ : Unit) => True) (fun _ => zB D κ (va_A ([((t 0), .inr (9, [.ref (t 1), .ref (t 2), .int (zi t_count), zpg ad t_polygon, .int (zi t_from), .int (zi t_length), .int (zi t_waysAhead)])), ((t 1), .inl (κ 1, 21, .inl (zc t_cornersOf))), ((t 2), .inl (κ 1, 7, .inl (zc t_chosen)))]) sz) ([((t 0), .inr (9, [.ref (t 1), .ref (t 2), .int (zi (out.1)), zpg ad t_polygon, .int (zi t_from), .int (zi t_length), .int (zi t_waysAhead)])), ((t 1), .inl (κ 1, 21, .inl (zc (out.2)))), ((t 2), .inl (κ 1, 7, .inl (zc t_chosen)))])) (va_A ([((t 0), .inr (9, [.ref (t 1), .ref (t 2), .int (zi t_count), zpg ad t_polygon, .int (zi t_from), .int (zi t_length), .int (zi t_waysAhead)])), ((t 1), .inl (κ 1, 21, .inl (zc t_cornersOf))), ((t 2), .inl (κ 1, 7, .inl (zc t_chosen)))]) sz)) 0 0 (va_A ([((t 0), .inr (9, [.ref (t 1), .ref (t 2), .int (zi t_count), zpg ad t_polygon, .int (zi t_from), .int (zi t_length), .int (zi t_waysAhead)])), ((t 1), .inl (κ 1, 21, .inl (zc t_cornersOf))), ((t 2), .inl (κ 1, 7, .inl (zc t_chosen)))]) sz) := by
  refine Met.ofW (cc := cX9_gatherOn) (maxL := 7) (ret := none) (by decide +kernel) rfl ?_
  intro p e s m args below meth c s₁ B hml hv
  obtain ⟨rfl, hsz, hP, hK, hD0, hB, hBA⟩ := hv
  have hx := B.exec
  have hb := B.bytes
  have hr := B.returns
  have hts := atoms_spec (ws := wsX9_gatherOn) B.pre
  have hown : s.vm.findClass RX9 = some m.cls := findClass_of_methodNamed B.named
  have hlocks := B.notSynchronized
  subst hsz
  have hD := hD0.self (sz := s.heap.size)
  generalize hAe : va_A ([((t 0), .inr (9, [.ref (t 1), .ref (t 2), .int (zi t_count), zpg ad t_polygon, .int (zi t_from), .int (zi t_length), .int (zi t_waysAhead)])), ((t 1), .inl (κ 1, 21, .inl (zc t_cornersOf))), ((t 2), .inl (κ 1, 7, .inl (zc t_chosen)))]) s.heap.size = A at hD hBA ⊢
  have hA : ∀ q : Nat, s.heap.size ≤ q → A q := fun q h => by rw [← hAe]; exact Or.inr h
  have hS : va_S A s.heap s.heap [] := va_S.rf
  have hl := lv_entry ([.ref (t 0), .ref (ad n1 0), .int (zi i2), .int (zi i3), .int (zi i4)]) (n := 7) (Nat.le_of_ble_eq_true rfl)
  rw [lg_entry_eq]
  generalize (lg_sl ([.ref (t 0), .ref (ad n1 0), .int (zi i2), .int (zi i3), .int (zi i4)]) ++ List.replicate (7 - (lg_sl ([.ref (t 0), .ref (ad n1 0), .int (zi i2), .int (zi i3), .int (zi i4)])).length) Slot.unset).toArray = ls at hl ⊢
  have hl : lv_has ls 7 [(0, .ref (t 0)), (1, .ref (ad n1 0)), (2, .int (zi i2)), (3, .int (zi i3)), (4, .int (zi i4))] := hl
  refine (zw_X9_gatherOn t mk ad t_polygon t_from t_length t_waysAhead t_chosen n1 t_count t_cornersOf i2 i3 i4 hx hb hml hown hts hK hA hB hBA out h ?_) s.heap [] ls hP hD hS (lv_sub hl [0, 1, 2, 3, 4] rfl)
  exact fun H locs ls pc hP hD hS hd => W.vret hx hb hr (fun t ht hW => ⟨⟨(), rfl, trivial, by rw [ht]; exact hP, va_K.moved hW.alike hK, hD⟩, hS.F ht⟩) hS.2.2 hd
/-! DiamondRows$Triangles.gather(LDiamondRows$Polygon;I)V -/
abbrev zr_X9_gather : Room := { frames := 4, cells := 0, slots := 0, locals := 102 }
abbrev zS_X9_gather : Type := Nat × Int × Int × Int × Int × Nat
abbrev zO_X9_gather : Type := Int × Nat
noncomputable def zg_X9_gather_0 (mk : Nat) (n1 : Nat) (i2 : Int) (i3 : Int) (i4 : Int) (t_count : Int) (t_cornersOf : Nat) : Option (zO_X9_gather ⊕ zS_X9_gather) :=
  some (.inr (7, i2, (0 : Int), 0, (0 : Int), t_cornersOf))
noncomputable def zg_X9_gather_7 (mk : Nat) (n1 : Nat) (i2 : Int) (i3 : Int) (i4 : Int) (t_count : Int) (t_cornersOf : Nat) : Option (zO_X9_gather ⊕ zS_X9_gather) :=
  if zno mk n1 then none else
  Option.bind (zf_X5_corners n1) (fun o2 =>
  if zout i3 then none else
  if zout o2 then none else
  if o2 ≤ i3 then
  some (.inl (t_count, t_cornersOf))
  else
  some (.inr (20, i2, i3, (i3 + (1 : Int)), t_count, t_cornersOf)))
noncomputable def zg_X9_gather_20 (mk : Nat) (n1 : Nat) (i2 : Int) (i3 : Int) (i4 : Int) (t_count : Int) (t_cornersOf : Nat) : Option (zO_X9_gather ⊕ zS_X9_gather) :=
  if zno mk n1 then none else
  Option.bind (zf_X5_corners n1) (fun o7 =>
  if zout i4 then none else
  if zout o7 then none else
  if o7 ≤ i4 then
  some (.inr (7, i2, (i3 + (1 : Int)), i4, t_count, t_cornersOf))
  else
  Option.bind (zf_X5_areJoined n1 i2 i3 i4) (fun o10 =>
  if o10 = false then
  some (.inr (20, i2, i3, (i4 + (1 : Int)), t_count, t_cornersOf))
  else
  Option.bind (zf_X9_gatherOn mk t_count t_cornersOf n1 i2 i3 i4) (fun o11 =>
  some (.inr (20, i2, i3, (i4 + (1 : Int)), (o11.1), (o11.2))))))
noncomputable def zg_X9_gather (mk : Nat) (n1 : Nat) (st : zS_X9_gather) : Option (zO_X9_gather ⊕ zS_X9_gather) := match st with
  | (lab, i2, i3, i4, t_count, t_cornersOf) => if lab = 0 then zg_X9_gather_0 mk n1 i2 i3 i4 t_count t_cornersOf else if lab = 7 then zg_X9_gather_7 mk n1 i2 i3 i4 t_count t_cornersOf else if lab = 20 then zg_X9_gather_20 mk n1 i2 i3 i4 t_count t_cornersOf else none
noncomputable def zf_X9_gather (mk : Nat) (t_count : Int) (t_cornersOf : Nat) (n1 : Nat) (i2 : Int) : Option (Int × Nat) := jrun (zg_X9_gather mk n1) jfuel (0, i2, 0, 0, t_count, t_cornersOf)
theorem zi_X9_gather_X9 : ∀ w ∈ u_ws RX9 TX9 7, w ∈ wsX9_gather := fun w h => (List.mem_cons_of_mem _ (List.mem_append_right _ (List.mem_append_left _ h)))
theorem zl_X9_gather_18 : Cond.fieldLink RX9 18 "DiamondRows$Triangles" "count" "I" ∈ wsX9_gather := (List.mem_cons_of_mem _ (List.mem_append_left _ (List.mem_of_getElem? (i := 0) rfl)))
def zQ_X9_gather (p : Program) (l : Launch) (e : Env) (s : State) (m : MethodId) (args : Array Value) (below : List Frame) (meth : Method) (c : Code) (Q : State → Prop) (D : va_G) (κ : Nat → ClassId) (A : Nat → Prop) (H0 : Heap) (t : Nat → Nat) (mk : Nat) (ad : Nat → Nat → Nat) (t_polygon : Nat) (t_from : Int) (t_length : Int) (t_waysAhead : Int) (t_chosen : Nat) (n1 : Nat) (o : Int × Nat) : Prop := ∀ (H : Heap) (locs : List Loc) (ls : Array Slot) (pc : Nat), va_P D vwCl ([((t 0), .inr (9, [.ref (t 1), .ref (t 2), .int (zi (o.1)), zpg ad t_polygon, .int (zi t_from), .int (zi t_length), .int (zi t_waysAhead)])), ((t 1), .inl (κ 1, 21, .inl (zc (o.2)))), ((t 2), .inl (κ 1, 7, .inl (zc t_chosen)))]) H → va_D A ([((t 0), .inr (9, [.ref (t 1), .ref (t 2), .int (zi (o.1)), zpg ad t_polygon, .int (zi t_from), .int (zi t_length), .int (zi t_waysAhead)])), ((t 1), .inl (κ 1, 21, .inl (zc (o.2)))), ((t 2), .inl (κ 1, 7, .inl (zc t_chosen)))]) → va_S A H0 H locs → decode cX9_gather pc = .ok (.return_, 1) → W p l e zr_X9_gather s m args below meth c H locs 0 0 Q (F0 m pc ls [])
def zA_X9_gather_0 (p : Program) (l : Launch) (e : Env) (s : State) (m : MethodId) (args : Array Value) (below : List Frame) (meth : Method) (c : Code) (Q : State → Prop) (D : va_G) (κ : Nat → ClassId) (A : Nat → Prop) (H0 : Heap) (t : Nat → Nat) (mk : Nat) (ad : Nat → Nat → Nat) (t_polygon : Nat) (t_from : Int) (t_length : Int) (t_waysAhead : Int) (t_chosen : Nat) (n1 : Nat) (i2 : Int) (i3 : Int) (i4 : Int) (t_count : Int) (t_cornersOf : Nat) : Prop := ∀ (H : Heap) (locs : List Loc) (ls : Array Slot), va_P D vwCl ([((t 0), .inr (9, [.ref (t 1), .ref (t 2), .int (zi t_count), zpg ad t_polygon, .int (zi t_from), .int (zi t_length), .int (zi t_waysAhead)])), ((t 1), .inl (κ 1, 21, .inl (zc t_cornersOf))), ((t 2), .inl (κ 1, 7, .inl (zc t_chosen)))]) H → va_D A ([((t 0), .inr (9, [.ref (t 1), .ref (t 2), .int (zi t_count), zpg ad t_polygon, .int (zi t_from), .int (zi t_length), .int (zi t_waysAhead)])), ((t 1), .inl (κ 1, 21, .inl (zc t_cornersOf))), ((t 2), .inl (κ 1, 7, .inl (zc t_chosen)))]) → va_S A H0 H locs → lv_has ls 5 [(0, .ref (t 0)), (1, .ref (ad n1 0)), (2, .int (zi i2))] → W p l e zr_X9_gather s m args below meth c H locs 0 0 Q (F0 m 0 ls [])
def zA_X9_gather_7 (p : Program) (l : Launch) (e : Env) (s : State) (m : MethodId) (args : Array Value) (below : List Frame) (meth : Method) (c : Code) (Q : State → Prop) (D : va_G) (κ : Nat → ClassId) (A : Nat → Prop) (H0 : Heap) (t : Nat → Nat) (mk : Nat) (ad : Nat → Nat → Nat) (t_polygon : Nat) (t_from : Int) (t_length : Int) (t_waysAhead : Int) (t_chosen : Nat) (n1 : Nat) (i2 : Int) (i3 : Int) (i4 : Int) (t_count : Int) (t_cornersOf : Nat) : Prop := ∀ (H : Heap) (locs : List Loc) (ls : Array Slot), va_P D vwCl ([((t 0), .inr (9, [.ref (t 1), .ref (t 2), .int (zi t_count), zpg ad t_polygon, .int (zi t_from), .int (zi t_length), .int (zi t_waysAhead)])), ((t 1), .inl (κ 1, 21, .inl (zc t_cornersOf))), ((t 2), .inl (κ 1, 7, .inl (zc t_chosen)))]) H → va_D A ([((t 0), .inr (9, [.ref (t 1), .ref (t 2), .int (zi t_count), zpg ad t_polygon, .int (zi t_from), .int (zi t_length), .int (zi t_waysAhead)])), ((t 1), .inl (κ 1, 21, .inl (zc t_cornersOf))), ((t 2), .inl (κ 1, 7, .inl (zc t_chosen)))]) → va_S A H0 H locs → lv_has ls 5 [(0, .ref (t 0)), (1, .ref (ad n1 0)), (2, .int (zi i2)), (3, .int (zi i3))] → W p l e zr_X9_gather s m args below meth c H locs 0 0 Q (F0 m 7 ls [])
def zA_X9_gather_20 (p : Program) (l : Launch) (e : Env) (s : State) (m : MethodId) (args : Array Value) (below : List Frame) (meth : Method) (c : Code) (Q : State → Prop) (D : va_G) (κ : Nat → ClassId) (A : Nat → Prop) (H0 : Heap) (t : Nat → Nat) (mk : Nat) (ad : Nat → Nat → Nat) (t_polygon : Nat) (t_from : Int) (t_length : Int) (t_waysAhead : Int) (t_chosen : Nat) (n1 : Nat) (i2 : Int) (i3 : Int) (i4 : Int) (t_count : Int) (t_cornersOf : Nat) : Prop := ∀ (H : Heap) (locs : List Loc) (ls : Array Slot), va_P D vwCl ([((t 0), .inr (9, [.ref (t 1), .ref (t 2), .int (zi t_count), zpg ad t_polygon, .int (zi t_from), .int (zi t_length), .int (zi t_waysAhead)])), ((t 1), .inl (κ 1, 21, .inl (zc t_cornersOf))), ((t 2), .inl (κ 1, 7, .inl (zc t_chosen)))]) H → va_D A ([((t 0), .inr (9, [.ref (t 1), .ref (t 2), .int (zi t_count), zpg ad t_polygon, .int (zi t_from), .int (zi t_length), .int (zi t_waysAhead)])), ((t 1), .inl (κ 1, 21, .inl (zc t_cornersOf))), ((t 2), .inl (κ 1, 7, .inl (zc t_chosen)))]) → va_S A H0 H locs → lv_has ls 5 [(0, .ref (t 0)), (1, .ref (ad n1 0)), (2, .int (zi i2)), (3, .int (zi i3)), (4, .int (zi i4))] → W p l e zr_X9_gather s m args below meth c H locs 0 0 Q (F0 m 20 ls [])
def zA_X9_gather (p : Program) (l : Launch) (e : Env) (s : State) (m : MethodId) (args : Array Value) (below : List Frame) (meth : Method) (c : Code) (Q : State → Prop) (D : va_G) (κ : Nat → ClassId) (A : Nat → Prop) (H0 : Heap) (t : Nat → Nat) (mk : Nat) (ad : Nat → Nat → Nat) (t_polygon : Nat) (t_from : Int) (t_length : Int) (t_waysAhead : Int) (t_chosen : Nat) (n1 : Nat) (st : zS_X9_gather) : Prop := match st with
  | (lab, i2, i3, i4, t_count, t_cornersOf) => if lab = 0 then zA_X9_gather_0 p l e s m args below meth c Q D κ A H0 t mk ad t_polygon t_from t_length t_waysAhead t_chosen n1 i2 i3 i4 t_count t_cornersOf else if lab = 7 then zA_X9_gather_7 p l e s m args below meth c Q D κ A H0 t mk ad t_polygon t_from t_length t_waysAhead t_chosen n1 i2 i3 i4 t_count t_cornersOf else if lab = 20 then zA_X9_gather_20 p l e s m args below meth c Q D κ A H0 t mk ad t_polygon t_from t_length t_waysAhead t_chosen n1 i2 i3 i4 t_count t_cornersOf else True
set_option maxHeartbeats 4000000 in
set_option maxRecDepth 100000 in
theorem zs_X9_gather_0 {p : Program} {l : Launch} {e : Env} {s : State} {m : MethodId} {args : Array Value} {below : List Frame} {meth : Method} {c : Code} {Q : State → Prop} {D : va_G} {κ : Nat → ClassId} {A : Nat → Prop} {H0 : Heap} (t : Nat → Nat) (mk : Nat) (ad : Nat → Nat → Nat) (t_polygon : Nat) (t_from : Int) (t_length : Int) (t_waysAhead : Int) (t_chosen : Nat) (n1 : Nat) (hx : p.tables.exec = Jvm.exec) (hb : c.code = cX9_gather) (hml : c.maxLocals = 5) (hown : s.vm.findClass RX9 = some m.cls) (hts : ∀ w ∈ wsX9_gather, w.before args s = true) (hK : va_K D vwCl (zTY κ) s) (hA : ∀ q : Nat, H0.size ≤ q → A q) (hB : zAmb D κ mk ad H0) (hBA : zApt mk ad A H0.size) (i2 : Int) (i3 : Int) (i4 : Int) (t_count : Int) (t_cornersOf : Nat) (hg : Go (GoE (zA_X9_gather p l e s m args below meth c Q D κ A H0 t mk ad t_polygon t_from t_length t_waysAhead t_chosen n1) (zQ_X9_gather p l e s m args below meth c Q D κ A H0 t mk ad t_polygon t_from t_length t_waysAhead t_chosen n1)) (zg_X9_gather_0 mk n1 i2 i3 i4 t_count t_cornersOf)) : zA_X9_gather_0 p l e s m args below meth c Q D κ A H0 t mk ad t_polygon t_from t_length t_waysAhead t_chosen n1 i2 i3 i4 t_count t_cornersOf := by
  intro H locs ls hP hD hS hl
  unfold zg_X9_gather_0 at hg
  refine lv_aload_n hx hb dX9_gather_0 rfl (lv_at hl 0 rfl) ?_
  refine zv_iconst hx hb dX9_gather_1 ?_
  refine va_put (D := D) (ci := 9) (v := .int (zi (0 : Int))) (ty := .int) (C := RX9) (T := TX9) (N := 7) hx hb hts zi_X9_gather_X9 tyX9 tyX9_ok nmX9 hown hK hP hD hS 0 rfl rfl 2 (by decide) (hts (.fieldLink RX9 18 "DiamondRows$Triangles" "count" "I") zl_X9_gather_18) (fun _ h9 => h9) rfl (by decide +kernel) rfl rfl (Nat.le_of_ble_eq_true rfl) dX9_gather_2 (fun H locs hP hD hS => ?_)
  have hP : va_P D vwCl ([((t 0), .inr (9, [.ref (t 1), .ref (t 2), .int (zi (0 : Int)), zpg ad t_polygon, .int (zi t_from), .int (zi t_length), .int (zi t_waysAhead)])), ((t 1), .inl (κ 1, 21, .inl (zc t_cornersOf))), ((t 2), .inl (κ 1, 7, .inl (zc t_chosen)))]) H := hP
  have hD : va_D A ([((t 0), .inr (9, [.ref (t 1), .ref (t 2), .int (zi (0 : Int)), zpg ad t_polygon, .int (zi t_from), .int (zi t_length), .int (zi t_waysAhead)])), ((t 1), .inl (κ 1, 21, .inl (zc t_cornersOf))), ((t 2), .inl (κ 1, 7, .inl (zc t_chosen)))]) := hD
  refine zv_iconst hx hb dX9_gather_5 ?_
  refine lv_istore_n (lv' := [(3, .int (zi (0 : Int))), (0, .ref (t 0)), (1, .ref (ad n1 0)), (2, .int (zi i2))]) hx hb dX9_gather_6 rfl hl (by decide) rfl (fun ls hl => ?_)
  exact (Go_s hg) H locs ls hP hD hS (lv_sub hl [1, 2, 3, 0] rfl)
set_option maxHeartbeats 4000000 in
set_option maxRecDepth 100000 in
theorem zs_X9_gather_7 {p : Program} {l : Launch} {e : Env} {s : State} {m : MethodId} {args : Array Value} {below : List Frame} {meth : Method} {c : Code} {Q : State → Prop} {D : va_G} {κ : Nat → ClassId} {A : Nat → Prop} {H0 : Heap} (t : Nat → Nat) (mk : Nat) (ad : Nat → Nat → Nat) (t_polygon : Nat) (t_from : Int) (t_length : Int) (t_waysAhead : Int) (t_chosen : Nat) (n1 : Nat) (hx : p.tables.exec = Jvm.exec) (hb : c.code = cX9_gather) (hml : c.maxLocals = 5) (hown : s.vm.findClass RX9 = some m.cls) (hts : ∀ w ∈ wsX9_gather, w.before args s = true) (hK : va_K D vwCl (zTY κ) s) (hA : ∀ q : Nat, H0.size ≤ q → A q) (hB : zAmb D κ mk ad H0) (hBA : zApt mk ad A H0.size) (i2 : Int) (i3 : Int) (i4 : Int) (t_count : Int) (t_cornersOf : Nat) (hg : Go (GoE (zA_X9_gather p l e s m args below meth c Q D κ A H0 t mk ad t_polygon t_from t_length t_waysAhead t_chosen n1) (zQ_X9_gather p l e s m args below meth c Q D κ A H0 t mk ad t_polygon t_from t_length t_waysAhead t_chosen n1)) (zg_X9_gather_7 mk n1 i2 i3 i4 t_count t_cornersOf)) : zA_X9_gather_7 p l e s m args below meth c Q D κ A H0 t mk ad t_polygon t_from t_length t_waysAhead t_chosen n1 i2 i3 i4 t_count t_cornersOf := by
  intro H locs ls hP hD hS hl
  unfold zg_X9_gather_7 at hg
  refine lv_iload_n hx hb dX9_gather_7 rfl (lv_at hl 3 rfl) ?_
  refine lv_aload_n hx hb dX9_gather_8 rfl (lv_at hl 1 rfl) ?_
  obtain ⟨m1, hg⟩ := Go_n hg
  obtain ⟨o2, ho2, hg⟩ := Go_b hg
  refine zc_vi (rest := [.int (zi i3)]) ⟨hx, hb, hml, hown, hts⟩ (zc_X5_corners l D κ (ad n1) n1  o2 ho2) (cwV 0 hts gX9_gather_X5_corners rfl rfl rfl hv_X5_corners ⟨Nat.le_of_ble_eq_true rfl, Nat.le_of_ble_eq_true rfl⟩) (zpreV hK ((zamb hB hBA hS) n1 m1) 5 0 rfl rfl) rfl hl.1 rfl (Nat.le_of_ble_eq_true rfl) dX9_gather_9 ⟨Nat.zero_le _, Nat.zero_le _⟩ ?_
  obtain ⟨b3, hg⟩ := Go_n hg
  obtain ⟨b4, hg⟩ := Go_n hg
  refine zv_icmp_ge (tgt := 61) hx hb dX9_gather_12 (by decide) b3 b4 (fun c5 => ?_) (fun c5 => ?_)
  · have hg := Go_t c5 hg
    exact (Go_s hg) _ _ _ _ hP hD hS dX9_gather_61
  · have hg := Go_f c5 hg
    refine lv_iload_n hx hb dX9_gather_15 rfl (lv_at hl 3 rfl) ?_
    refine zv_iconst hx hb dX9_gather_16 ?_
    refine zv_iadd hx hb dX9_gather_17 ?_
    refine lv_istore (lv' := [(4, .int (zi (i3 + (1 : Int)))), (0, .ref (t 0)), (1, .ref (ad n1 0)), (2, .int (zi i2)), (3, .int (zi i3))]) hx hb dX9_gather_18 hl (by decide) rfl (fun ls hl => ?_)
    exact (Go_s hg) H locs ls hP hD hS (lv_sub hl [1, 2, 3, 4, 0] rfl)
set_option maxHeartbeats 4000000 in
set_option maxRecDepth 100000 in
theorem zs_X9_gather_20 {p : Program} {l : Launch} {e : Env} {s : State} {m : MethodId} {args : Array Value} {below : List Frame} {meth : Method} {c : Code} {Q : State → Prop} {D : va_G} {κ : Nat → ClassId} {A : Nat → Prop} {H0 : Heap} (t : Nat → Nat) (mk : Nat) (ad : Nat → Nat → Nat) (t_polygon : Nat) (t_from : Int) (t_length : Int) (t_waysAhead : Int) (t_chosen : Nat) (n1 : Nat) (hx : p.tables.exec = Jvm.exec) (hb : c.code = cX9_gather) (hml : c.maxLocals = 5) (hown : s.vm.findClass RX9 = some m.cls) (hts : ∀ w ∈ wsX9_gather, w.before args s = true) (hK : va_K D vwCl (zTY κ) s) (hA : ∀ q : Nat, H0.size ≤ q → A q) (hB : zAmb D κ mk ad H0) (hBA : zApt mk ad A H0.size) (i2 : Int) (i3 : Int) (i4 : Int) (t_count : Int) (t_cornersOf : Nat) (hg : Go (GoE (zA_X9_gather p l e s m args below meth c Q D κ A H0 t mk ad t_polygon t_from t_length t_waysAhead t_chosen n1) (zQ_X9_gather p l e s m args below meth c Q D κ A H0 t mk ad t_polygon t_from t_length t_waysAhead t_chosen n1)) (zg_X9_gather_20 mk n1 i2 i3 i4 t_count t_cornersOf)) : zA_X9_gather_20 p l e s m args below meth c Q D κ A H0 t mk ad t_polygon t_from t_length t_waysAhead t_chosen n1 i2 i3 i4 t_count t_cornersOf := by
  intro H locs ls hP hD hS hl
  unfold zg_X9_gather_20 at hg
  refine lv_iload hx hb dX9_gather_20 (lv_at hl 4 rfl) ?_
  refine lv_aload_n hx hb dX9_gather_22 rfl (lv_at hl 1 rfl) ?_
  obtain ⟨m6, hg⟩ := Go_n hg
  obtain ⟨o7, ho7, hg⟩ := Go_b hg
  refine zc_vi (rest := [.int (zi i4)]) ⟨hx, hb, hml, hown, hts⟩ (zc_X5_corners l D κ (ad n1) n1  o7 ho7) (cwV 0 hts gX9_gather_X5_corners rfl rfl rfl hv_X5_corners ⟨Nat.le_of_ble_eq_true rfl, Nat.le_of_ble_eq_true rfl⟩) (zpreV hK ((zamb hB hBA hS) n1 m6) 5 0 rfl rfl) rfl hl.1 rfl (Nat.le_of_ble_eq_true rfl) dX9_gather_23 ⟨Nat.zero_le _, Nat.zero_le _⟩ ?_
  obtain ⟨b8, hg⟩ := Go_n hg
  obtain ⟨b9, hg⟩ := Go_n hg
  refine zv_icmp_ge (tgt := 55) hx hb dX9_gather_26 (by decide) b8 b9 (fun c13 => ?_) (fun c13 => ?_)
  · have hg := Go_t c13 hg
    refine lv_iinc (v := zi (i3 + (1 : Int))) (lv' := [(3, .int (zi (i3 + (1 : Int)))), (0, .ref (t 0)), (1, .ref (ad n1 0)), (2, .int (zi i2)), (4, .int (zi i4))]) hx hb dX9_gather_55 hl (k := 3) rfl (zi_add i3 _) (by decide) rfl (fun ls hl => ?_)
    refine lv_goto (tgt := 7) hx hb dX9_gather_58 (by decide) ?_
    exact (Go_s hg) H locs ls hP hD hS (lv_sub hl [1, 2, 3, 0] rfl)
  · have hg := Go_f c13 hg
    refine lv_aload_n hx hb dX9_gather_29 rfl (lv_at hl 1 rfl) ?_
    refine lv_iload_n hx hb dX9_gather_30 rfl (lv_at hl 2 rfl) ?_
    refine lv_iload_n hx hb dX9_gather_31 rfl (lv_at hl 3 rfl) ?_
    refine lv_iload hx hb dX9_gather_32 (lv_at hl 4 rfl) ?_
    obtain ⟨o10, ho10, hg⟩ := Go_b hg
    refine zc_vi (rest := []) ⟨hx, hb, hml, hown, hts⟩ (zc_X5_areJoined l D κ (ad n1) n1 i2 i3 i4 o10 ho10) (cwV 3 hts gX9_gather_X5_areJoined rfl rfl rfl hv_X5_areJoined ⟨Nat.le_of_ble_eq_true rfl, Nat.le_of_ble_eq_true rfl⟩) (zpreV hK ((zamb hB hBA hS) n1 m6) 5 0 rfl rfl) rfl hl.1 rfl (Nat.le_of_ble_eq_true rfl) dX9_gather_34 ⟨Nat.zero_le _, Nat.zero_le _⟩ ?_
    refine zv_ifb_eq (tgt := 49) hx hb dX9_gather_37 (by decide) (fun c12 => ?_) (fun c12 => ?_)
    · have hg := Go_t c12 hg
      refine lv_iinc (v := zi (i4 + (1 : Int))) (lv' := [(4, .int (zi (i4 + (1 : Int)))), (0, .ref (t 0)), (1, .ref (ad n1 0)), (2, .int (zi i2)), (3, .int (zi i3))]) hx hb dX9_gather_49 hl (k := 4) rfl (zi_add i4 _) (by decide) rfl (fun ls hl => ?_)
      refine lv_goto (tgt := 20) hx hb dX9_gather_52 (by decide) ?_
      exact (Go_s hg) H locs ls hP hD hS (lv_sub hl [1, 2, 3, 4, 0] rfl)
    · have hg := Go_f c12 hg
      refine lv_aload_n hx hb dX9_gather_40 rfl (lv_at hl 0 rfl) ?_
      refine lv_aload_n hx hb dX9_gather_41 rfl (lv_at hl 1 rfl) ?_
      refine lv_iload_n hx hb dX9_gather_42 rfl (lv_at hl 2 rfl) ?_
      refine lv_iload_n hx hb dX9_gather_43 rfl (lv_at hl 3 rfl) ?_
      refine lv_iload hx hb dX9_gather_44 (lv_at hl 4 rfl) ?_
      obtain ⟨o11, ho11, hg⟩ := Go_b hg
      refine zj_v (wr := []) (ws1 := [((t 0), .inr (9, [.ref (t 1), .ref (t 2), .int (zi (o11.1)), zpg ad t_polygon, .int (zi t_from), .int (zi t_length), .int (zi t_waysAhead)])), ((t 1), .inl (κ 1, 21, .inl (zc (o11.2)))), ((t 2), .inl (κ 1, 7, .inl (zc t_chosen)))]) (va_runV (rest := []) ⟨hx, hb, hml, hown, hts⟩ (zc_X9_gatherOn l D κ t mk ad H.size t_count t_polygon t_from t_length t_waysAhead t_cornersOf t_chosen n1 i2 i3 i4 o11 ho11) (cwV 4 hts gX9_gather_X9_gatherOn rfl rfl rfl hv_X9_gatherOn ⟨Nat.le_of_ble_eq_true rfl, Nat.le_of_ble_eq_true rfl⟩) (zpreWVa hK (hP.sub [0, 1, 2] rfl) (hD.sub [0, 1, 2] (by decide) rfl) (zamb hB hBA hS) (zapt hBA hS (va_free hD hS hA [0, 1, 2] rfl)) 9 0 rfl rfl) rfl rfl hl.1 rfl (lv_room (Nat.le_of_ble_eq_true rfl)) dX9_gather_46 ⟨Nat.zero_le _, Nat.zero_le _⟩) hP hD hS hA [0, 1, 2] [] [0, 1, 2] rfl rfl (by decide) (by decide) rfl rfl (by decide) (fun H locs hP hD hS => ?_)
      refine lv_iinc (v := zi (i4 + (1 : Int))) (lv' := [(4, .int (zi (i4 + (1 : Int)))), (0, .ref (t 0)), (1, .ref (ad n1 0)), (2, .int (zi i2)), (3, .int (zi i3))]) hx hb dX9_gather_49 hl (k := 4) rfl (zi_add i4 _) (by decide) rfl (fun ls hl => ?_)
      refine lv_goto (tgt := 20) hx hb dX9_gather_52 (by decide) ?_
      exact (Go_s hg) H locs ls hP hD hS (lv_sub hl [1, 2, 3, 4, 0] rfl)
set_option maxHeartbeats 4000000 in
set_option maxRecDepth 100000 in
theorem zw_X9_gather {p : Program} {l : Launch} {e : Env} {s : State} {m : MethodId} {args : Array Value} {below : List Frame} {meth : Method} {c : Code} {Q : State → Prop} {D : va_G} {κ : Nat → ClassId} {A : Nat → Prop} {H0 : Heap} (t : Nat → Nat) (mk : Nat) (ad : Nat → Nat → Nat) (t_polygon : Nat) (t_from : Int) (t_length : Int) (t_waysAhead : Int) (t_chosen : Nat) (n1 : Nat) (t_count : Int) (t_cornersOf : Nat) (i2 : Int) (hx : p.tables.exec = Jvm.exec) (hb : c.code = cX9_gather) (hml : c.maxLocals = 5) (hown : s.vm.findClass RX9 = some m.cls) (hts : ∀ w ∈ wsX9_gather, w.before args s = true) (hK : va_K D vwCl (zTY κ) s) (hA : ∀ q : Nat, H0.size ≤ q → A q) (hB : zAmb D κ mk ad H0) (hBA : zApt mk ad A H0.size) (out : Int × Nat) (h : zf_X9_gather mk t_count t_cornersOf n1 i2 = some out) (hq : zQ_X9_gather p l e s m args below meth c Q D κ A H0 t mk ad t_polygon t_from t_length t_waysAhead t_chosen n1 out) : zA_X9_gather_0 p l e s m args below meth c Q D κ A H0 t mk ad t_polygon t_from t_length t_waysAhead t_chosen n1 i2 0 0 t_count t_cornersOf := by
  have hst : ∀ st : zS_X9_gather, Go (GoE (zA_X9_gather p l e s m args below meth c Q D κ A H0 t mk ad t_polygon t_from t_length t_waysAhead t_chosen n1) (zQ_X9_gather p l e s m args below meth c Q D κ A H0 t mk ad t_polygon t_from t_length t_waysAhead t_chosen n1)) (zg_X9_gather mk n1 st) → zA_X9_gather p l e s m args below meth c Q D κ A H0 t mk ad t_polygon t_from t_length t_waysAhead t_chosen n1 st := by
    intro st hg
    obtain ⟨lab, i2, i3, i4, t_count, t_cornersOf⟩ := st
    by_cases h0 : lab = 0
    · subst h0
      exact zs_X9_gather_0 t mk ad t_polygon t_from t_length t_waysAhead t_chosen n1 hx hb hml hown hts hK hA hB hBA i2 i3 i4 t_count t_cornersOf hg
    by_cases h7 : lab = 7
    · subst h7
      exact zs_X9_gather_7 t mk ad t_polygon t_from t_length t_waysAhead t_chosen n1 hx hb hml hown hts hK hA hB hBA i2 i3 i4 t_count t_cornersOf hg
    by_cases h20 : lab = 20
    · subst h20
      exact zs_X9_gather_20 t mk ad t_polygon t_from t_length t_waysAhead t_chosen n1 hx hb hml hown hts hK hA hB hBA i2 i3 i4 t_count t_cornersOf hg
    have hz : zg_X9_gather mk n1 (lab, i2, i3, i4, t_count, t_cornersOf) = none := by simp [zg_X9_gather, h0, h7, h20]
    rw [hz] at hg
    obtain ⟨a, h1, -⟩ := hg
    cases h1
  exact jwalk (At := zA_X9_gather p l e s m args below meth c Q D κ A H0 t mk ad t_polygon t_from t_length t_waysAhead t_chosen n1) (Ret := zQ_X9_gather p l e s m args below meth c Q D κ A H0 t mk ad t_polygon t_from t_length t_waysAhead t_chosen n1) hst _ _ _ h hq
set_option maxHeartbeats 4000000 in
set_option maxRecDepth 100000 in
theorem zc_X9_gather (l : Launch) (D : va_G) (κ : Nat → ClassId) (t : Nat → Nat) (mk : Nat) (ad : Nat → Nat → Nat) (sz : Nat) (t_count : Int) (t_polygon : Nat) (t_from : Int) (t_length : Int) (t_waysAhead : Int) (t_cornersOf : Nat) (t_chosen : Nat) (n1 : Nat) (i2 : Int) (out : Int × Nat) (h : zf_X9_gather mk t_count t_cornersOf n1 i2 = some out) : Met l yX9_gather wsX9_gather zr_X9_gather (va_Pc [.ref (t 0), .ref (ad n1 0), .int (zi i2)] (zWa D κ mk ad ([((t 0), .inr (9, [.ref (t 1), .ref (t 2), .int (zi t_count), zpg ad t_polygon, .int (zi t_from), .int (zi t_length), .int (zi t_waysAhead)])), ((t 1), .inl (κ 1, 21, .inl (zc t_cornersOf))), ((t 2), .inl (κ 1, 7, .inl (zc t_chosen)))]) sz)) (va_Qv (fun (_ : Unit) => True) (fun _ => zB D κ (va_A ([((t 0), .inr (9, [.ref (t 1), .ref (t 2), .int (zi t_count), zpg ad t_polygon, .int (zi t_from), .int (zi t_length), .int (zi t_waysAhead)])), ((t 1), .inl (κ 1, 21, .inl (zc t_cornersOf))), ((t 2), .inl (κ 1, 7, .inl (zc t_chosen)))]) sz) ([((t 0), .inr (9, [.ref (t 1), .ref (t 2), .int (zi (out.1)), zpg ad t_polygon, .int (zi t_from), .int (zi t_length), .int (zi t_waysAhead)])), ((t 1), .inl (κ 1, 21, .inl (zc (out.2)))), ((t 2), .inl (κ 1, 7, .inl (zc t_chosen)))])) (va_A ([((t 0), .inr (9, [.ref (t 1), .ref (t 2), .int (zi t_count), zpg ad t_polygon, .int (zi t_from), .int (zi t_length), .int (zi t_waysAhead)])), ((t 1), .inl (κ 1, 21, .inl (zc t_cornersOf))), ((t 2), .inl (κ 1, 7, .inl (zc t_chosen)))]) sz)) 0 0 (va_A ([((t 0), .inr (9, [.ref (t 1), .ref (t 2), .int (zi t_count), zpg ad t_polygon, .int (zi t_from), .int (zi t_length), .int (zi t_waysAhead)])), ((t 1), .inl (κ 1, 21, .inl (zc t_cornersOf))), ((t 2), .inl (κ 1, 7, .inl (zc t_chosen)))]) sz) := by
  refine Met.ofW (cc := cX9_gather) (maxL := 5) (ret := none) (by decide +kernel) rfl ?_
  intro p e s m args below meth c s₁ B hml hv
  obtain ⟨rfl, hsz, hP, hK, hD0, hB, hBA⟩ := hv
  have hx := B.exec
  have hb := B.bytes
  have hr := B.returns
  have hts := atoms_spec (ws := wsX9_gather) B.pre
  have hown : s.vm.findClass RX9 = some m.cls := findClass_of_methodNamed B.named
  have hlocks := B.notSynchronized
  subst hsz
  have hD := hD0.self (sz := s.heap.size)
  generalize hAe : va_A ([((t 0), .inr (9, [.ref (t 1), .ref (t 2), .int (zi t_count), zpg ad t_polygon, .int (zi t_from), .int (zi t_length), .int (zi t_waysAhead)])), ((t 1), .inl (κ 1, 21, .inl (zc t_cornersOf))), ((t 2), .inl (κ 1, 7, .inl (zc t_chosen)))]) s.heap.size = A at hD hBA ⊢
  have hA : ∀ q : Nat, s.heap.size ≤ q → A q := fun q h => by rw [← hAe]; exact Or.inr h
  have hS : va_S A s.heap s.heap [] := va_S.rf
  have hl := lv_entry ([.ref (t 0), .ref (ad n1 0), .int (zi i2)]) (n := 5) (Nat.le_of_ble_eq_true rfl)
  rw [lg_entry_eq]
  generalize (lg_sl ([.ref (t 0), .ref (ad n1 0), .int (zi i2)]) ++ List.replicate (5 - (lg_sl ([.ref (t 0), .ref (ad n1 0), .int (zi i2)])).length) Slot.unset).toArray = ls at hl ⊢
  have hl : lv_has ls 5 [(0, .ref (t 0)), (1, .ref (ad n1 0)), (2, .int (zi i2))] := hl
  refine (zw_X9_gather t mk ad t_polygon t_from t_length t_waysAhead t_chosen n1 t_count t_cornersOf i2 hx hb hml hown hts hK hA hB hBA out h ?_) s.heap [] ls hP hD hS (lv_sub hl [0, 1, 2] rfl)
  exact fun H locs ls pc hP hD hS hd => W.vret hx hb hr (fun t ht hW => ⟨⟨(), rfl, trivial, by rw [ht]; exact hP, va_K.moved hW.alike hK, hD⟩, hS.F ht⟩) hS.2.2 hd
/-! DiamondRows$Triangles.cornerOf(II)I -/
abbrev zr_X9_cornerOf : Room := { frames := 0, cells := 0, slots := 0, locals := 0 }
noncomputable def zf_X9_cornerOf (mk : Nat) (t_count : Int) (t_cornersOf : Nat) (i1 : Int) (i2 : Int) : Option (Int) :=
  if zout i1 then none else
  if i1 < 0 then
  some ((-1 : Int))
  else
  if zout t_count then none else
  if t_count ≤ i1 then
  some ((-1 : Int))
  else
  if zout i2 then none else
  if i2 < 0 then
  some ((-1 : Int))
  else
  if i2 ≤ (2 : Int) then
  if (((3 : Int) * i1) + i2) < 0 ∨ 21 ≤ (((3 : Int) * i1) + i2) then none else
  some ((zget t_cornersOf (Int.toNat (((3 : Int) * i1) + i2))))
  else
  some ((-1 : Int))
theorem zi_X9_cornerOf_X9 : ∀ w ∈ u_ws RX9 TX9 7, w ∈ wsX9_cornerOf := fun w h => (List.mem_cons_of_mem _ (List.mem_append_right _ h))
theorem zl_X9_cornerOf_11 : Cond.fieldLink RX9 11 "DiamondRows$Triangles" "cornersOf" "[I" ∈ wsX9_cornerOf := (List.mem_cons_of_mem _ (List.mem_append_left _ (List.mem_of_getElem? (i := 1) rfl)))
theorem zl_X9_cornerOf_18 : Cond.fieldLink RX9 18 "DiamondRows$Triangles" "count" "I" ∈ wsX9_cornerOf := (List.mem_cons_of_mem _ (List.mem_append_left _ (List.mem_of_getElem? (i := 0) rfl)))
def zQ_X9_cornerOf (p : Program) (l : Launch) (e : Env) (s : State) (m : MethodId) (args : Array Value) (below : List Frame) (meth : Method) (c : Code) (Q : State → Prop) (H : Heap) (locs : List Loc)  (o : Int) : Prop := ∀ (ls : Array Slot) (pc : Nat), decode cX9_cornerOf pc = .ok (.ireturn, 1) → W p l e zr_X9_cornerOf s m args below meth c H locs 0 0 Q (F0 m pc ls [.int (zi o)])
set_option maxHeartbeats 4000000 in
set_option maxRecDepth 100000 in
theorem zs_X9_cornerOf {p : Program} {l : Launch} {e : Env} {s : State} {m : MethodId} {args : Array Value} {below : List Frame} {meth : Method} {c : Code} {Q : State → Prop} {D : va_G} {κ : Nat → ClassId} {H : Heap} {locs : List Loc} (t : Nat → Nat) (mk : Nat) (ad : Nat → Nat → Nat) (t_count : Int) (t_polygon : Nat) (t_from : Int) (t_length : Int) (t_waysAhead : Int) (t_cornersOf : Nat) (t_chosen : Nat) (i1 : Int) (i2 : Int) (hx : p.tables.exec = Jvm.exec) (hb : c.code = cX9_cornerOf) (hml : c.maxLocals = 3) (hown : s.vm.findClass RX9 = some m.cls) (hts : ∀ w ∈ wsX9_cornerOf, w.before args s = true) (hK : va_K D vwCl (zTY κ) s) (hP : va_P D vwCl ([((t 0), .inr (9, [.ref (t 1), .ref (t 2), .int (zi t_count), zpg ad t_polygon, .int (zi t_from), .int (zi t_length), .int (zi t_waysAhead)])), ((t 1), .inl (κ 1, 21, .inl (zc t_cornersOf))), ((t 2), .inl (κ 1, 7, .inl (zc t_chosen)))]) H) (hB : zAmb D κ mk ad H) (ls : Array Slot) (hl : lv_has ls 3 [(0, .ref (t 0)), (1, .int (zi i1)), (2, .int (zi i2))]) (hg : Go (zQ_X9_cornerOf p l e s m args below meth c Q H locs) (zf_X9_cornerOf mk t_count t_cornersOf i1 i2)) : W p l e zr_X9_cornerOf s m args below meth c H locs 0 0 Q (F0 m 0 ls []) := by
  unfold zf_X9_cornerOf at hg
  refine lv_iload_n hx hb dX9_cornerOf_0 rfl (lv_at hl 1 rfl) ?_
  obtain ⟨b1, hg⟩ := Go_n hg
  refine zv_if_lt (tgt := 21) hx hb dX9_cornerOf_1 (by decide) b1 (fun c8 => ?_) (fun c8 => ?_)
  · have hg := Go_t c8 hg
    refine zv_iconst hx hb dX9_cornerOf_21 ?_
    exact (Go_s hg) _ _ dX9_cornerOf_22
  · have hg := Go_f c8 hg
    refine lv_iload_n hx hb dX9_cornerOf_4 rfl (lv_at hl 1 rfl) ?_
    refine lv_aload_n hx hb dX9_cornerOf_5 rfl (lv_at hl 0 rfl) ?_
    refine va_get (D := D) (ci := 9) (v := .int (zi t_count)) (C := RX9) (T := TX9) (N := 7) hx hb hts zi_X9_cornerOf_X9 hown hK hP 0 rfl rfl 2 (by decide) (hts (.fieldLink RX9 18 "DiamondRows$Triangles" "count" "I") zl_X9_cornerOf_18) (fun _ h9 => h9) rfl dX9_cornerOf_6 ?_
    obtain ⟨b2, hg⟩ := Go_n hg
    refine zv_icmp_ge (tgt := 21) hx hb dX9_cornerOf_9 (by decide) b1 b2 (fun c7 => ?_) (fun c7 => ?_)
    · have hg := Go_t c7 hg
      refine zv_iconst hx hb dX9_cornerOf_21 ?_
      exact (Go_s hg) _ _ dX9_cornerOf_22
    · have hg := Go_f c7 hg
      refine lv_iload_n hx hb dX9_cornerOf_12 rfl (lv_at hl 2 rfl) ?_
      obtain ⟨b3, hg⟩ := Go_n hg
      refine zv_if_lt (tgt := 21) hx hb dX9_cornerOf_13 (by decide) b3 (fun c6 => ?_) (fun c6 => ?_)
      · have hg := Go_t c6 hg
        refine zv_iconst hx hb dX9_cornerOf_21 ?_
        exact (Go_s hg) _ _ dX9_cornerOf_22
      · have hg := Go_f c6 hg
        refine lv_iload_n hx hb dX9_cornerOf_16 rfl (lv_at hl 2 rfl) ?_
        refine zv_iconst hx hb dX9_cornerOf_17 ?_
        refine zv_icmp_le (tgt := 23) hx hb dX9_cornerOf_18 (by decide) b3 (by decide) (fun c5 => ?_) (fun c5 => ?_)
        · have hg := Go_t c5 hg
          refine lv_aload_n hx hb dX9_cornerOf_23 rfl (lv_at hl 0 rfl) ?_
          refine va_get (D := D) (ci := 9) (v := .ref (t 1)) (C := RX9) (T := TX9) (N := 7) hx hb hts zi_X9_cornerOf_X9 hown hK hP 0 rfl rfl 0 (by decide) (hts (.fieldLink RX9 11 "DiamondRows$Triangles" "cornersOf" "[I") zl_X9_cornerOf_11) (fun _ h9 => h9) rfl dX9_cornerOf_24 ?_
          refine zv_iconst hx hb dX9_cornerOf_27 ?_
          refine lv_iload_n hx hb dX9_cornerOf_28 rfl (lv_at hl 1 rfl) ?_
          refine zv_imul hx hb dX9_cornerOf_29 ?_
          refine lv_iload_n hx hb dX9_cornerOf_30 rfl (lv_at hl 2 rfl) ?_
          refine zv_iadd hx hb dX9_cornerOf_31 ?_
          obtain ⟨n4, hg⟩ := Go_n hg
          refine zv_iald hx hb hK hP 1 1 rfl rfl (by decide) n4 dX9_cornerOf_32 ?_
          exact (Go_s hg) _ _ dX9_cornerOf_33
        · have hg := Go_f c5 hg
          refine zv_iconst hx hb dX9_cornerOf_21 ?_
          exact (Go_s hg) _ _ dX9_cornerOf_22
set_option maxHeartbeats 4000000 in
set_option maxRecDepth 100000 in
theorem zc_X9_cornerOf (l : Launch) (D : va_G) (κ : Nat → ClassId) (t : Nat → Nat) (mk : Nat) (ad : Nat → Nat → Nat) (t_count : Int) (t_polygon : Nat) (t_from : Int) (t_length : Int) (t_waysAhead : Int) (t_cornersOf : Nat) (t_chosen : Nat) (i1 : Int) (i2 : Int) (out : Int) (h : zf_X9_cornerOf mk t_count t_cornersOf i1 i2 = some out) : Met l yX9_cornerOf wsX9_cornerOf zr_X9_cornerOf (va_Pc [.ref (t 0), .int (zi i1), .int (zi i2)] (zRa D κ mk ad ([((t 0), .inr (9, [.ref (t 1), .ref (t 2), .int (zi t_count), zpg ad t_polygon, .int (zi t_from), .int (zi t_length), .int (zi t_waysAhead)])), ((t 1), .inl (κ 1, 21, .inl (zc t_cornersOf))), ((t 2), .inl (κ 1, 7, .inl (zc t_chosen)))]))) (vp_Si (fun x => x = zi out)) 0 0 (fun _ => False) := by
  refine Met.ofW (cc := cX9_cornerOf) (maxL := 3) (ret := (some .int)) (by decide +kernel) rfl ?_
  intro p e s m args below meth c s₁ B hml hv
  obtain ⟨rfl, hP, hK, hB⟩ := hv
  have hx := B.exec
  have hb := B.bytes
  have hr := B.returns
  have hts := atoms_spec (ws := wsX9_cornerOf) B.pre
  have hown : s.vm.findClass RX9 = some m.cls := findClass_of_methodNamed B.named
  have hlocks := B.notSynchronized
  have hl := lv_entry ([.ref (t 0), .int (zi i1), .int (zi i2)]) (n := 3) (Nat.le_of_ble_eq_true rfl)
  rw [lg_entry_eq]
  generalize (lg_sl ([.ref (t 0), .int (zi i1), .int (zi i2)]) ++ List.replicate (3 - (lg_sl ([.ref (t 0), .int (zi i1), .int (zi i2)])).length) Slot.unset).toArray = ls at hl ⊢
  have hl : lv_has ls 3 [(0, .ref (t 0)), (1, .int (zi i1)), (2, .int (zi i2))] := hl
  refine zs_X9_cornerOf t mk ad t_count t_polygon t_from t_length t_waysAhead t_cornersOf t_chosen i1 i2 hx hb hml hown hts hK hP hB ls hl ⟨out, h, ?_⟩
  exact fun ls pc hd => W.iret hx hb hr (fun t ht hW => ⟨_, rfl, rfl, ht⟩) (fun _ h => by cases h) hd
/-! DiamondRows$Triangles.touches(II)Z -/
abbrev zr_X9_touches : Room := { frames := 1, cells := 0, slots := 0, locals := 22 }
noncomputable def zf_X9_touches (mk : Nat) (t_count : Int) (t_cornersOf : Nat) (i1 : Int) (i2 : Int) : Option (Bool) :=
  Option.bind (zf_X9_cornerOf mk t_count t_cornersOf i1 (0 : Int)) (fun o1 =>
  if zout o1 then none else
  if zout i2 then none else
  if o1 = i2 then
  some (true)
  else
  Option.bind (zf_X9_cornerOf mk t_count t_cornersOf i1 (1 : Int)) (fun o4 =>
  if zout o4 then none else
  if o4 = i2 then
  some (true)
  else
  Option.bind (zf_X9_cornerOf mk t_count t_cornersOf i1 (2 : Int)) (fun o6 =>
  if zout o6 then none else
  if o6 = i2 then
  some (true)
  else
  some (false))))
def zQ_X9_touches (p : Program) (l : Launch) (e : Env) (s : State) (m : MethodId) (args : Array Value) (below : List Frame) (meth : Method) (c : Code) (Q : State → Prop) (H : Heap) (locs : List Loc)  (o : Bool) : Prop := ∀ (ls : Array Slot) (pc : Nat), decode cX9_touches pc = .ok (.ireturn, 1) → W p l e zr_X9_touches s m args below meth c H locs 0 0 Q (F0 m pc ls [.int (zi (bI o))])
set_option maxHeartbeats 4000000 in
set_option maxRecDepth 100000 in
theorem zs_X9_touches {p : Program} {l : Launch} {e : Env} {s : State} {m : MethodId} {args : Array Value} {below : List Frame} {meth : Method} {c : Code} {Q : State → Prop} {D : va_G} {κ : Nat → ClassId} {H : Heap} {locs : List Loc} (t : Nat → Nat) (mk : Nat) (ad : Nat → Nat → Nat) (t_count : Int) (t_polygon : Nat) (t_from : Int) (t_length : Int) (t_waysAhead : Int) (t_cornersOf : Nat) (t_chosen : Nat) (i1 : Int) (i2 : Int) (hx : p.tables.exec = Jvm.exec) (hb : c.code = cX9_touches) (hml : c.maxLocals = 3) (hown : s.vm.findClass RX9 = some m.cls) (hts : ∀ w ∈ wsX9_touches, w.before args s = true) (hK : va_K D vwCl (zTY κ) s) (hP : va_P D vwCl ([((t 0), .inr (9, [.ref (t 1), .ref (t 2), .int (zi t_count), zpg ad t_polygon, .int (zi t_from), .int (zi t_length), .int (zi t_waysAhead)])), ((t 1), .inl (κ 1, 21, .inl (zc t_cornersOf))), ((t 2), .inl (κ 1, 7, .inl (zc t_chosen)))]) H) (hB : zAmb D κ mk ad H) (ls : Array Slot) (hl : lv_has ls 3 [(0, .ref (t 0)), (1, .int (zi i1)), (2, .int (zi i2))]) (hg : Go (zQ_X9_touches p l e s m args below meth c Q H locs) (zf_X9_touches mk t_count t_cornersOf i1 i2)) : W p l e zr_X9_touches s m args below meth c H locs 0 0 Q (F0 m 0 ls []) := by
  unfold zf_X9_touches at hg
  refine lv_aload_n hx hb dX9_touches_0 rfl (lv_at hl 0 rfl) ?_
  refine lv_iload_n hx hb dX9_touches_1 rfl (lv_at hl 1 rfl) ?_
  refine zv_iconst hx hb dX9_touches_2 ?_
  obtain ⟨o1, ho1, hg⟩ := Go_b hg
  refine zc_vi (rest := []) ⟨hx, hb, hml, hown, hts⟩ (zc_X9_cornerOf l D κ t mk ad t_count t_polygon t_from t_length t_waysAhead t_cornersOf t_chosen i1 (0 : Int) o1 ho1) (cwV 2 hts gX9_touches_X9_cornerOf rfl rfl rfl hv_X9_cornerOf ⟨Nat.le_of_ble_eq_true rfl, Nat.le_of_ble_eq_true rfl⟩) (zpreVa hK (hP.sub [0, 1, 2] rfl) hB 9 0 rfl rfl) rfl hl.1 rfl (Nat.le_of_ble_eq_true rfl) dX9_touches_3 ⟨Nat.zero_le _, Nat.zero_le _⟩ ?_
  refine lv_iload_n hx hb dX9_touches_6 rfl (lv_at hl 2 rfl) ?_
  obtain ⟨b2, hg⟩ := Go_n hg
  obtain ⟨b3, hg⟩ := Go_n hg
  refine zv_icmp_eq (tgt := 30) hx hb dX9_touches_7 (by decide) b2 b3 (fun c10 => ?_) (fun c10 => ?_)
  · have hg := Go_t c10 hg
    refine zv_iconst hx hb dX9_touches_30 ?_
    refine lv_goto (tgt := 35) hx hb dX9_touches_31 (by decide) ?_
    exact (Go_s hg) _ _ dX9_touches_35
  · have hg := Go_f c10 hg
    refine lv_aload_n hx hb dX9_touches_10 rfl (lv_at hl 0 rfl) ?_
    refine lv_iload_n hx hb dX9_touches_11 rfl (lv_at hl 1 rfl) ?_
    refine zv_iconst hx hb dX9_touches_12 ?_
    obtain ⟨o4, ho4, hg⟩ := Go_b hg
    refine zc_vi (rest := []) ⟨hx, hb, hml, hown, hts⟩ (zc_X9_cornerOf l D κ t mk ad t_count t_polygon t_from t_length t_waysAhead t_cornersOf t_chosen i1 (1 : Int) o4 ho4) (cwV 2 hts gX9_touches_X9_cornerOf rfl rfl rfl hv_X9_cornerOf ⟨Nat.le_of_ble_eq_true rfl, Nat.le_of_ble_eq_true rfl⟩) (zpreVa hK (hP.sub [0, 1, 2] rfl) hB 9 0 rfl rfl) rfl hl.1 rfl (Nat.le_of_ble_eq_true rfl) dX9_touches_13 ⟨Nat.zero_le _, Nat.zero_le _⟩ ?_
    refine lv_iload_n hx hb dX9_touches_16 rfl (lv_at hl 2 rfl) ?_
    obtain ⟨b5, hg⟩ := Go_n hg
    refine zv_icmp_eq (tgt := 30) hx hb dX9_touches_17 (by decide) b5 b3 (fun c9 => ?_) (fun c9 => ?_)
    · have hg := Go_t c9 hg
      refine zv_iconst hx hb dX9_touches_30 ?_
      refine lv_goto (tgt := 35) hx hb dX9_touches_31 (by decide) ?_
      exact (Go_s hg) _ _ dX9_touches_35
    · have hg := Go_f c9 hg
      refine lv_aload_n hx hb dX9_touches_20 rfl (lv_at hl 0 rfl) ?_
      refine lv_iload_n hx hb dX9_touches_21 rfl (lv_at hl 1 rfl) ?_
      refine zv_iconst hx hb dX9_touches_22 ?_
      obtain ⟨o6, ho6, hg⟩ := Go_b hg
      refine zc_vi (rest := []) ⟨hx, hb, hml, hown, hts⟩ (zc_X9_cornerOf l D κ t mk ad t_count t_polygon t_from t_length t_waysAhead t_cornersOf t_chosen i1 (2 : Int) o6 ho6) (cwV 2 hts gX9_touches_X9_cornerOf rfl rfl rfl hv_X9_cornerOf ⟨Nat.le_of_ble_eq_true rfl, Nat.le_of_ble_eq_true rfl⟩) (zpreVa hK (hP.sub [0, 1, 2] rfl) hB 9 0 rfl rfl) rfl hl.1 rfl (Nat.le_of_ble_eq_true rfl) dX9_touches_23 ⟨Nat.zero_le _, Nat.zero_le _⟩ ?_
      refine lv_iload_n hx hb dX9_touches_26 rfl (lv_at hl 2 rfl) ?_
      obtain ⟨b7, hg⟩ := Go_n hg
      refine zv_icmp_ne (tgt := 34) hx hb dX9_touches_27 (by decide) b7 b3 (fun c8 => ?_) (fun c8 => ?_)
      · have hg := Go_f c8 hg
        refine zv_iconst hx hb dX9_touches_34 ?_
        exact (Go_s hg) _ _ dX9_touches_35
      · have hg := Go_t c8 hg
        refine zv_iconst hx hb dX9_touches_30 ?_
        refine lv_goto (tgt := 35) hx hb dX9_touches_31 (by decide) ?_
        exact (Go_s hg) _ _ dX9_touches_35
set_option maxHeartbeats 4000000 in
set_option maxRecDepth 100000 in
theorem zc_X9_touches (l : Launch) (D : va_G) (κ : Nat → ClassId) (t : Nat → Nat) (mk : Nat) (ad : Nat → Nat → Nat) (t_count : Int) (t_polygon : Nat) (t_from : Int) (t_length : Int) (t_waysAhead : Int) (t_cornersOf : Nat) (t_chosen : Nat) (i1 : Int) (i2 : Int) (out : Bool) (h : zf_X9_touches mk t_count t_cornersOf i1 i2 = some out) : Met l yX9_touches wsX9_touches zr_X9_touches (va_Pc [.ref (t 0), .int (zi i1), .int (zi i2)] (zRa D κ mk ad ([((t 0), .inr (9, [.ref (t 1), .ref (t 2), .int (zi t_count), zpg ad t_polygon, .int (zi t_from), .int (zi t_length), .int (zi t_waysAhead)])), ((t 1), .inl (κ 1, 21, .inl (zc t_cornersOf))), ((t 2), .inl (κ 1, 7, .inl (zc t_chosen)))]))) (vp_Si (fun x => x = zi (bI out))) 0 0 (fun _ => False) := by
  refine Met.ofW (cc := cX9_touches) (maxL := 3) (ret := (some .boolean)) (by decide +kernel) rfl ?_
  intro p e s m args below meth c s₁ B hml hv
  obtain ⟨rfl, hP, hK, hB⟩ := hv
  have hx := B.exec
  have hb := B.bytes
  have hr := B.returns
  have hts := atoms_spec (ws := wsX9_touches) B.pre
  have hown : s.vm.findClass RX9 = some m.cls := findClass_of_methodNamed B.named
  have hlocks := B.notSynchronized
  have hl := lv_entry ([.ref (t 0), .int (zi i1), .int (zi i2)]) (n := 3) (Nat.le_of_ble_eq_true rfl)
  rw [lg_entry_eq]
  generalize (lg_sl ([.ref (t 0), .int (zi i1), .int (zi i2)]) ++ List.replicate (3 - (lg_sl ([.ref (t 0), .int (zi i1), .int (zi i2)])).length) Slot.unset).toArray = ls at hl ⊢
  have hl : lv_has ls 3 [(0, .ref (t 0)), (1, .int (zi i1)), (2, .int (zi i2))] := hl
  refine zs_X9_touches t mk ad t_count t_polygon t_from t_length t_waysAhead t_cornersOf t_chosen i1 i2 hx hb hml hown hts hK hP hB ls hl ⟨out, h, ?_⟩
  exact fun ls pc hd => W.zret hx hb hr (bI_nar _) (fun t ht hW => ⟨_, rfl, rfl, ht⟩) (fun _ h => by cases h) hd
/-! DiamondRows$Triangles.choose(II)Z -/
abbrev zr_X9_choose (d : Nat) : Room := { frames := 2 + d, cells := 0, slots := 0, locals := 44 + d * 24 }
abbrev zS_X9_choose : Type := Nat × Int × Int × Int × Int × Int × Nat
abbrev zO_X9_choose : Type := Bool × Int × Nat
noncomputable def zg_X9_choose_0 (rec : Nat → Int → Nat → Int → Int → Int → Nat → Nat → Int → Int → Option (Bool × Int × Nat)) (mk : Nat) (t_count : Int) (t_polygon : Nat) (t_from : Int) (t_length : Int) (t_cornersOf : Nat) (i1 : Int) (i2 : Int) (i3 : Int) (i4 : Int) (t_waysAhead : Int) (t_chosen : Nat) : Option (zO_X9_choose ⊕ zS_X9_choose) :=
  if zout i1 then none else
  if zout t_length then none else
  if t_length ≤ i1 then
  if zout (t_waysAhead - (1 : Int)) then none else
  if 0 ≤ (t_waysAhead - (1 : Int)) then
  some (.inl (false, (t_waysAhead - (1 : Int)), t_chosen))
  else
  some (.inl (true, (t_waysAhead - (1 : Int)), t_chosen))
  else
  if i1 < (7 : Int) then
  if zno mk t_polygon then none else
  Option.bind (zf_X5_corners t_polygon) (fun o6 =>
  if zout ((t_from + (1 : Int)) + i1) then none else
  if zout o6 then none else
  if ((t_from + (1 : Int)) + i1) < o6 then
  some (.inr (70, i1, i2, ((t_from + (1 : Int)) + i1), (0 : Int), t_waysAhead, t_chosen))
  else
  Option.bind (zf_X5_corners t_polygon) (fun o9 =>
  some (.inr (70, i1, i2, (((t_from + (1 : Int)) + i1) - o9), (0 : Int), t_waysAhead, t_chosen))))
  else
  if zout (t_waysAhead - (1 : Int)) then none else
  if 0 ≤ (t_waysAhead - (1 : Int)) then
  some (.inl (false, (t_waysAhead - (1 : Int)), t_chosen))
  else
  some (.inl (true, (t_waysAhead - (1 : Int)), t_chosen))
noncomputable def zg_X9_choose_70 (rec : Nat → Int → Nat → Int → Int → Int → Nat → Nat → Int → Int → Option (Bool × Int × Nat)) (mk : Nat) (t_count : Int) (t_polygon : Nat) (t_from : Int) (t_length : Int) (t_cornersOf : Nat) (i1 : Int) (i2 : Int) (i3 : Int) (i4 : Int) (t_waysAhead : Int) (t_chosen : Nat) : Option (zO_X9_choose ⊕ zS_X9_choose) :=
  if zout i4 then none else
  if zout t_count then none else
  if t_count ≤ i4 then
  some (.inl (false, t_waysAhead, t_chosen))
  else
  if (zand (zshr i2 i4) (1 : Int)) = 0 then
  Option.bind (zf_X9_touches mk t_count t_cornersOf i4 i3) (fun o17 =>
  if o17 = false then
  some (.inr (70, i1, i2, i3, (i4 + (1 : Int)), t_waysAhead, t_chosen))
  else
  if i1 < 0 ∨ 7 ≤ i1 then none else
  Option.bind (rec mk t_count t_polygon t_from t_length t_waysAhead t_cornersOf (zset t_chosen (Int.toNat i1) i4) (i1 + (1 : Int)) (zor i2 (zshl (1 : Int) i4))) (fun o19 =>
  if (o19.1) = false then
  some (.inr (70, i1, i2, i3, (i4 + (1 : Int)), (o19.2.1), (o19.2.2)))
  else
  some (.inl (true, (o19.2.1), (o19.2.2)))))
  else
  some (.inr (70, i1, i2, i3, (i4 + (1 : Int)), t_waysAhead, t_chosen))
noncomputable def zg_X9_choose (rec : Nat → Int → Nat → Int → Int → Int → Nat → Nat → Int → Int → Option (Bool × Int × Nat)) (mk : Nat) (t_count : Int) (t_polygon : Nat) (t_from : Int) (t_length : Int) (t_cornersOf : Nat) (st : zS_X9_choose) : Option (zO_X9_choose ⊕ zS_X9_choose) := match st with
  | (lab, i1, i2, i3, i4, t_waysAhead, t_chosen) => if lab = 0 then zg_X9_choose_0 rec mk t_count t_polygon t_from t_length t_cornersOf i1 i2 i3 i4 t_waysAhead t_chosen else if lab = 70 then zg_X9_choose_70 rec mk t_count t_polygon t_from t_length t_cornersOf i1 i2 i3 i4 t_waysAhead t_chosen else none
noncomputable def zf_X9_choose (d : Nat) : Nat → Int → Nat → Int → Int → Int → Nat → Nat → Int → Int → Option (Bool × Int × Nat) := Nat.rec (fun _ _ _ _ _ _ _ _ _ _ => none) (fun _ rec mk t_count t_polygon t_from t_length t_waysAhead t_cornersOf t_chosen i1 i2 => jrun (zg_X9_choose rec mk t_count t_polygon t_from t_length t_cornersOf) jfuel (0, i1, i2, 0, 0, t_waysAhead, t_chosen)) d
theorem zi_X9_choose_X9 : ∀ w ∈ u_ws RX9 TX9 7, w ∈ wsX9_choose := fun w h => (List.mem_cons_of_mem _ (List.mem_append_right _ (List.mem_append_left _ h)))
theorem zl_X9_choose_15 : Cond.fieldLink RX9 15 "DiamondRows$Triangles" "chosen" "[I" ∈ wsX9_choose := (List.mem_cons_of_mem _ (List.mem_append_left _ (List.mem_of_getElem? (i := 5) rfl)))
theorem zl_X9_choose_18 : Cond.fieldLink RX9 18 "DiamondRows$Triangles" "count" "I" ∈ wsX9_choose := (List.mem_cons_of_mem _ (List.mem_append_left _ (List.mem_of_getElem? (i := 4) rfl)))
theorem zl_X9_choose_40 : Cond.fieldLink RX9 40 "DiamondRows$Triangles" "polygon" "LDiamondRows$Polygon;" ∈ wsX9_choose := (List.mem_cons_of_mem _ (List.mem_append_left _ (List.mem_of_getElem? (i := 3) rfl)))
theorem zl_X9_choose_44 : Cond.fieldLink RX9 44 "DiamondRows$Triangles" "from" "I" ∈ wsX9_choose := (List.mem_cons_of_mem _ (List.mem_append_left _ (List.mem_of_getElem? (i := 2) rfl)))
theorem zl_X9_choose_50 : Cond.fieldLink RX9 50 "DiamondRows$Triangles" "length" "I" ∈ wsX9_choose := (List.mem_cons_of_mem _ (List.mem_append_left _ (List.mem_of_getElem? (i := 0) rfl)))
theorem zl_X9_choose_53 : Cond.fieldLink RX9 53 "DiamondRows$Triangles" "waysAhead" "I" ∈ wsX9_choose := (List.mem_cons_of_mem _ (List.mem_append_left _ (List.mem_of_getElem? (i := 1) rfl)))
def zQ_X9_choose (d : Nat) (p : Program) (l : Launch) (e : Env) (s : State) (m : MethodId) (args : Array Value) (below : List Frame) (meth : Method) (c : Code) (Q : State → Prop) (D : va_G) (κ : Nat → ClassId) (A : Nat → Prop) (H0 : Heap) (t : Nat → Nat) (mk : Nat) (ad : Nat → Nat → Nat) (t_count : Int) (t_polygon : Nat) (t_from : Int) (t_length : Int) (t_cornersOf : Nat) (o : Bool × Int × Nat) : Prop := ∀ (H : Heap) (locs : List Loc) (ls : Array Slot) (pc : Nat), va_P D vwCl ([((t 0), .inr (9, [.ref (t 1), .ref (t 2), .int (zi t_count), zpg ad t_polygon, .int (zi t_from), .int (zi t_length), .int (zi (o.2.1))])), ((t 1), .inl (κ 1, 21, .inl (zc t_cornersOf))), ((t 2), .inl (κ 1, 7, .inl (zc (o.2.2))))]) H → va_D A ([((t 0), .inr (9, [.ref (t 1), .ref (t 2), .int (zi t_count), zpg ad t_polygon, .int (zi t_from), .int (zi t_length), .int (zi (o.2.1))])), ((t 1), .inl (κ 1, 21, .inl (zc t_cornersOf))), ((t 2), .inl (κ 1, 7, .inl (zc (o.2.2))))]) → va_S A H0 H locs → decode cX9_choose pc = .ok (.ireturn, 1) → W p l e (zr_X9_choose (d + 1)) s m args below meth c H locs 0 0 Q (F0 m pc ls [.int (zi (bI (o.1)))])
def zA_X9_choose_0 (d : Nat) (p : Program) (l : Launch) (e : Env) (s : State) (m : MethodId) (args : Array Value) (below : List Frame) (meth : Method) (c : Code) (Q : State → Prop) (D : va_G) (κ : Nat → ClassId) (A : Nat → Prop) (H0 : Heap) (t : Nat → Nat) (mk : Nat) (ad : Nat → Nat → Nat) (t_count : Int) (t_polygon : Nat) (t_from : Int) (t_length : Int) (t_cornersOf : Nat) (i1 : Int) (i2 : Int) (i3 : Int) (i4 : Int) (t_waysAhead : Int) (t_chosen : Nat) : Prop := ∀ (H : Heap) (locs : List Loc) (ls : Array Slot), va_P D vwCl ([((t 0), .inr (9, [.ref (t 1), .ref (t 2), .int (zi t_count), zpg ad t_polygon, .int (zi t_from), .int (zi t_length), .int (zi t_waysAhead)])), ((t 1), .inl (κ 1, 21, .inl (zc t_cornersOf))), ((t 2), .inl (κ 1, 7, .inl (zc t_chosen)))]) H → va_D A ([((t 0), .inr (9, [.ref (t 1), .ref (t 2), .int (zi t_count), zpg ad t_polygon, .int (zi t_from), .int (zi t_length), .int (zi t_waysAhead)])), ((t 1), .inl (κ 1, 21, .inl (zc t_cornersOf))), ((t 2), .inl (κ 1, 7, .inl (zc t_chosen)))]) → va_S A H0 H locs → lv_has ls 5 [(0, .ref (t 0)), (1, .int (zi i1)), (2, .int (zi i2))] → W p l e (zr_X9_choose (d + 1)) s m args below meth c H locs 0 0 Q (F0 m 0 ls [])
def zA_X9_choose_70 (d : Nat) (p : Program) (l : Launch) (e : Env) (s : State) (m : MethodId) (args : Array Value) (below : List Frame) (meth : Method) (c : Code) (Q : State → Prop) (D : va_G) (κ : Nat → ClassId) (A : Nat → Prop) (H0 : Heap) (t : Nat → Nat) (mk : Nat) (ad : Nat → Nat → Nat) (t_count : Int) (t_polygon : Nat) (t_from : Int) (t_length : Int) (t_cornersOf : Nat) (i1 : Int) (i2 : Int) (i3 : Int) (i4 : Int) (t_waysAhead : Int) (t_chosen : Nat) : Prop := ∀ (H : Heap) (locs : List Loc) (ls : Array Slot), va_P D vwCl ([((t 0), .inr (9, [.ref (t 1), .ref (t 2), .int (zi t_count), zpg ad t_polygon, .int (zi t_from), .int (zi t_length), .int (zi t_waysAhead)])), ((t 1), .inl (κ 1, 21, .inl (zc t_cornersOf))), ((t 2), .inl (κ 1, 7, .inl (zc t_chosen)))]) H → va_D A ([((t 0), .inr (9, [.ref (t 1), .ref (t 2), .int (zi t_count), zpg ad t_polygon, .int (zi t_from), .int (zi t_length), .int (zi t_waysAhead)])), ((t 1), .inl (κ 1, 21, .inl (zc t_cornersOf))), ((t 2), .inl (κ 1, 7, .inl (zc t_chosen)))]) → va_S A H0 H locs → lv_has ls 5 [(0, .ref (t 0)), (1, .int (zi i1)), (2, .int (zi i2)), (3, .int (zi i3)), (4, .int (zi i4))] → W p l e (zr_X9_choose (d + 1)) s m args below meth c H locs 0 0 Q (F0 m 70 ls [])
def zA_X9_choose (d : Nat) (p : Program) (l : Launch) (e : Env) (s : State) (m : MethodId) (args : Array Value) (below : List Frame) (meth : Method) (c : Code) (Q : State → Prop) (D : va_G) (κ : Nat → ClassId) (A : Nat → Prop) (H0 : Heap) (t : Nat → Nat) (mk : Nat) (ad : Nat → Nat → Nat) (t_count : Int) (t_polygon : Nat) (t_from : Int) (t_length : Int) (t_cornersOf : Nat) (st : zS_X9_choose) : Prop := match st with
  | (lab, i1, i2, i3, i4, t_waysAhead, t_chosen) => if lab = 0 then zA_X9_choose_0 d p l e s m args below meth c Q D κ A H0 t mk ad t_count t_polygon t_from t_length t_cornersOf i1 i2 i3 i4 t_waysAhead t_chosen else if lab = 70 then zA_X9_choose_70 d p l e s m args below meth c Q D κ A H0 t mk ad t_count t_polygon t_from t_length t_cornersOf i1 i2 i3 i4 t_waysAhead t_chosen else True
set_option maxHeartbeats 4000000 in
set_option maxRecDepth 100000 in
theorem zs_X9_choose_0 {d : Nat} {p : Program} {l : Launch} {e : Env} {s : State} {m : MethodId} {args : Array Value} {below : List Frame} {meth : Method} {c : Code} {Q : State → Prop} {D : va_G} {κ : Nat → ClassId} {A : Nat → Prop} {H0 : Heap} (t : Nat → Nat) (mk : Nat) (ad : Nat → Nat → Nat) (t_count : Int) (t_polygon : Nat) (t_from : Int) (t_length : Int) (t_cornersOf : Nat) (rec : Nat → Int → Nat → Int → Int → Int → Nat → Nat → Int → Int → Option (Bool × Int × Nat)) (hrec : ∀ (sz : Nat) (t_count : Int) (t_polygon : Nat) (t_from : Int) (t_length : Int) (t_waysAhead : Int) (t_cornersOf : Nat) (t_chosen : Nat) (i1 : Int) (i2 : Int) (out : Bool × Int × Nat), rec mk t_count t_polygon t_from t_length t_waysAhead t_cornersOf t_chosen i1 i2 = some out → Met l yX9_choose wsX9_choose (zr_X9_choose d) (va_Pc [.ref (t 0), .int (zi i1), .int (zi i2)] (zWa D κ mk ad ([((t 0), .inr (9, [.ref (t 1), .ref (t 2), .int (zi t_count), zpg ad t_polygon, .int (zi t_from), .int (zi t_length), .int (zi t_waysAhead)])), ((t 1), .inl (κ 1, 21, .inl (zc t_cornersOf))), ((t 2), .inl (κ 1, 7, .inl (zc t_chosen)))]) sz)) (va_Qi (fun r (_ : Unit) => r = zi (bI (out.1))) (fun _ => zB D κ (va_A ([((t 0), .inr (9, [.ref (t 1), .ref (t 2), .int (zi t_count), zpg ad t_polygon, .int (zi t_from), .int (zi t_length), .int (zi t_waysAhead)])), ((t 1), .inl (κ 1, 21, .inl (zc t_cornersOf))), ((t 2), .inl (κ 1, 7, .inl (zc t_chosen)))]) sz) ([((t 0), .inr (9, [.ref (t 1), .ref (t 2), .int (zi t_count), zpg ad t_polygon, .int (zi t_from), .int (zi t_length), .int (zi (out.2.1))])), ((t 1), .inl (κ 1, 21, .inl (zc t_cornersOf))), ((t 2), .inl (κ 1, 7, .inl (zc (out.2.2))))])) (va_A ([((t 0), .inr (9, [.ref (t 1), .ref (t 2), .int (zi t_count), zpg ad t_polygon, .int (zi t_from), .int (zi t_length), .int (zi t_waysAhead)])), ((t 1), .inl (κ 1, 21, .inl (zc t_cornersOf))), ((t 2), .inl (κ 1, 7, .inl (zc t_chosen)))]) sz)) 0 0 (va_A ([((t 0), .inr (9, [.ref (t 1), .ref (t 2), .int (zi t_count), zpg ad t_polygon, .int (zi t_from), .int (zi t_length), .int (zi t_waysAhead)])), ((t 1), .inl (κ 1, 21, .inl (zc t_cornersOf))), ((t 2), .inl (κ 1, 7, .inl (zc t_chosen)))]) sz)) (hx : p.tables.exec = Jvm.exec) (hb : c.code = cX9_choose) (hml : c.maxLocals = 5) (hown : s.vm.findClass RX9 = some m.cls) (hts : ∀ w ∈ wsX9_choose, w.before args s = true) (hK : va_K D vwCl (zTY κ) s) (hA : ∀ q : Nat, H0.size ≤ q → A q) (hB : zAmb D κ mk ad H0) (hBA : zApt mk ad A H0.size) (i1 : Int) (i2 : Int) (i3 : Int) (i4 : Int) (t_waysAhead : Int) (t_chosen : Nat) (hg : Go (GoE (zA_X9_choose d p l e s m args below meth c Q D κ A H0 t mk ad t_count t_polygon t_from t_length t_cornersOf) (zQ_X9_choose d p l e s m args below meth c Q D κ A H0 t mk ad t_count t_polygon t_from t_length t_cornersOf)) (zg_X9_choose_0 rec mk t_count t_polygon t_from t_length t_cornersOf i1 i2 i3 i4 t_waysAhead t_chosen)) : zA_X9_choose_0 d p l e s m args below meth c Q D κ A H0 t mk ad t_count t_polygon t_from t_length t_cornersOf i1 i2 i3 i4 t_waysAhead t_chosen := by
  intro H locs ls hP hD hS hl
  unfold zg_X9_choose_0 at hg
  refine lv_iload_n hx hb dX9_choose_0 rfl (lv_at hl 1 rfl) ?_
  refine lv_aload_n hx hb dX9_choose_1 rfl (lv_at hl 0 rfl) ?_
  refine va_get (D := D) (ci := 9) (v := .int (zi t_length)) (C := RX9) (T := TX9) (N := 7) hx hb hts zi_X9_choose_X9 hown hK hP 0 rfl rfl 5 (by decide) (hts (.fieldLink RX9 50 "DiamondRows$Triangles" "length" "I") zl_X9_choose_50) (fun _ h9 => h9) rfl dX9_choose_2 ?_
  obtain ⟨b1, hg⟩ := Go_n hg
  obtain ⟨b2, hg⟩ := Go_n hg
  refine zv_icmp_ge (tgt := 14) hx hb dX9_choose_5 (by decide) b1 b2 (fun c14 => ?_) (fun c14 => ?_)
  · have hg := Go_t c14 hg
    refine lv_aload_n hx hb dX9_choose_14 rfl (lv_at hl 0 rfl) ?_
    refine lv_dup hx hb dX9_choose_15 rfl ?_
    refine va_get (D := D) (ci := 9) (v := .int (zi t_waysAhead)) (C := RX9) (T := TX9) (N := 7) hx hb hts zi_X9_choose_X9 hown hK hP 0 rfl rfl 6 (by decide) (hts (.fieldLink RX9 53 "DiamondRows$Triangles" "waysAhead" "I") zl_X9_choose_53) (fun _ h9 => h9) rfl dX9_choose_16 ?_
    refine zv_iconst hx hb dX9_choose_19 ?_
    refine zv_isub hx hb dX9_choose_20 ?_
    refine va_put (D := D) (ci := 9) (v := .int (zi (t_waysAhead - (1 : Int)))) (ty := .int) (C := RX9) (T := TX9) (N := 7) hx hb hts zi_X9_choose_X9 tyX9 tyX9_ok nmX9 hown hK hP hD hS 0 rfl rfl 6 (by decide) (hts (.fieldLink RX9 53 "DiamondRows$Triangles" "waysAhead" "I") zl_X9_choose_53) (fun _ h9 => h9) rfl (by decide +kernel) rfl rfl (Nat.le_of_ble_eq_true rfl) dX9_choose_21 (fun H locs hP hD hS => ?_)
    have hP : va_P D vwCl ([((t 0), .inr (9, [.ref (t 1), .ref (t 2), .int (zi t_count), zpg ad t_polygon, .int (zi t_from), .int (zi t_length), .int (zi (t_waysAhead - (1 : Int)))])), ((t 1), .inl (κ 1, 21, .inl (zc t_cornersOf))), ((t 2), .inl (κ 1, 7, .inl (zc t_chosen)))]) H := hP
    have hD : va_D A ([((t 0), .inr (9, [.ref (t 1), .ref (t 2), .int (zi t_count), zpg ad t_polygon, .int (zi t_from), .int (zi t_length), .int (zi (t_waysAhead - (1 : Int)))])), ((t 1), .inl (κ 1, 21, .inl (zc t_cornersOf))), ((t 2), .inl (κ 1, 7, .inl (zc t_chosen)))]) := hD
    refine lv_aload_n hx hb dX9_choose_24 rfl (lv_at hl 0 rfl) ?_
    refine va_get (D := D) (ci := 9) (v := .int (zi (t_waysAhead - (1 : Int)))) (C := RX9) (T := TX9) (N := 7) hx hb hts zi_X9_choose_X9 hown hK hP 0 rfl rfl 6 (by decide) (hts (.fieldLink RX9 53 "DiamondRows$Triangles" "waysAhead" "I") zl_X9_choose_53) (fun _ h9 => h9) rfl dX9_choose_25 ?_
    obtain ⟨b3, hg⟩ := Go_n hg
    refine zv_if_ge (tgt := 35) hx hb dX9_choose_28 (by decide) b3 (fun c4 => ?_) (fun c4 => ?_)
    · have hg := Go_t c4 hg
      refine zv_iconst hx hb dX9_choose_35 ?_
      exact (Go_s hg) _ _ _ _ hP hD hS dX9_choose_36
    · have hg := Go_f c4 hg
      refine zv_iconst hx hb dX9_choose_31 ?_
      refine lv_goto (tgt := 36) hx hb dX9_choose_32 (by decide) ?_
      exact (Go_s hg) _ _ _ _ hP hD hS dX9_choose_36
  · have hg := Go_f c14 hg
    refine lv_iload_n hx hb dX9_choose_8 rfl (lv_at hl 1 rfl) ?_
    refine zv_bipush hx hb dX9_choose_9 (by decide) ?_
    refine zv_icmp_lt (tgt := 37) hx hb dX9_choose_11 (by decide) b1 (by decide) (fun c13 => ?_) (fun c13 => ?_)
    · have hg := Go_t c13 hg
      refine lv_aload_n hx hb dX9_choose_37 rfl (lv_at hl 0 rfl) ?_
      refine va_get (D := D) (ci := 9) (v := .int (zi t_from)) (C := RX9) (T := TX9) (N := 7) hx hb hts zi_X9_choose_X9 hown hK hP 0 rfl rfl 4 (by decide) (hts (.fieldLink RX9 44 "DiamondRows$Triangles" "from" "I") zl_X9_choose_44) (fun _ h9 => h9) rfl dX9_choose_38 ?_
      refine zv_iconst hx hb dX9_choose_41 ?_
      refine zv_iadd hx hb dX9_choose_42 ?_
      refine lv_iload_n hx hb dX9_choose_43 rfl (lv_at hl 1 rfl) ?_
      refine zv_iadd hx hb dX9_choose_44 ?_
      refine lv_istore_n (lv' := [(3, .int (zi ((t_from + (1 : Int)) + i1))), (0, .ref (t 0)), (1, .int (zi i1)), (2, .int (zi i2))]) hx hb dX9_choose_45 rfl hl (by decide) rfl (fun ls hl => ?_)
      refine lv_iload_n hx hb dX9_choose_46 rfl (lv_at hl 0 rfl) ?_
      refine lv_aload_n hx hb dX9_choose_47 rfl (lv_at hl 1 rfl) ?_
      obtain ⟨m5, hg⟩ := Go_n hg
      refine va_get (D := D) (ci := 9) (v := .ref (ad t_polygon 0)) (C := RX9) (T := TX9) (N := 7) hx hb hts zi_X9_choose_X9 hown hK hP 0 rfl rfl 3 (by decide) (hts (.fieldLink RX9 40 "DiamondRows$Triangles" "polygon" "LDiamondRows$Polygon;") zl_X9_choose_40) (fun _ h9 => h9) (zpg_ok m5) dX9_choose_48 ?_
      obtain ⟨o6, ho6, hg⟩ := Go_b hg
      refine zc_vi (rest := [.int (zi ((t_from + (1 : Int)) + i1))]) ⟨hx, hb, hml, hown, hts⟩ (zc_X5_corners l D κ (ad t_polygon) t_polygon  o6 ho6) (cwV 0 hts gX9_choose_X5_corners rfl rfl rfl hv_X5_corners ⟨(by show 0 + 1 ≤ 2 + (d + 1); omega), (by show 8 + (1 + 11) + 0 ≤ 44 + (d + 1) * 24; omega)⟩) (zpreV hK ((zamb hB hBA hS) t_polygon m5) 5 0 rfl rfl) rfl hl.1 rfl (Nat.le_of_ble_eq_true rfl) dX9_choose_51 ⟨Nat.zero_le _, Nat.zero_le _⟩ ?_
      obtain ⟨b7, hg⟩ := Go_n hg
      obtain ⟨b8, hg⟩ := Go_n hg
      refine zv_icmp_lt (tgt := 67) hx hb dX9_choose_54 (by decide) b7 b8 (fun c10 => ?_) (fun c10 => ?_)
      · have hg := Go_t c10 hg
        refine zv_iconst hx hb dX9_choose_67 ?_
        refine lv_istore (lv' := [(4, .int (zi (0 : Int))), (3, .int (zi ((t_from + (1 : Int)) + i1))), (0, .ref (t 0)), (1, .int (zi i1)), (2, .int (zi i2))]) hx hb dX9_choose_68 hl (by decide) rfl (fun ls hl => ?_)
        exact (Go_s hg) H locs ls hP hD hS (lv_sub hl [2, 3, 4, 1, 0] rfl)
      · have hg := Go_f c10 hg
        refine lv_iload_n hx hb dX9_choose_57 rfl (lv_at hl 0 rfl) ?_
        refine lv_aload_n hx hb dX9_choose_58 rfl (lv_at hl 1 rfl) ?_
        refine va_get (D := D) (ci := 9) (v := .ref (ad t_polygon 0)) (C := RX9) (T := TX9) (N := 7) hx hb hts zi_X9_choose_X9 hown hK hP 0 rfl rfl 3 (by decide) (hts (.fieldLink RX9 40 "DiamondRows$Triangles" "polygon" "LDiamondRows$Polygon;") zl_X9_choose_40) (fun _ h9 => h9) (zpg_ok m5) dX9_choose_59 ?_
        obtain ⟨o9, ho9, hg⟩ := Go_b hg
        refine zc_vi (rest := [.int (zi ((t_from + (1 : Int)) + i1))]) ⟨hx, hb, hml, hown, hts⟩ (zc_X5_corners l D κ (ad t_polygon) t_polygon  o9 ho9) (cwV 0 hts gX9_choose_X5_corners rfl rfl rfl hv_X5_corners ⟨(by show 0 + 1 ≤ 2 + (d + 1); omega), (by show 8 + (1 + 11) + 0 ≤ 44 + (d + 1) * 24; omega)⟩) (zpreV hK ((zamb hB hBA hS) t_polygon m5) 5 0 rfl rfl) rfl hl.1 rfl (Nat.le_of_ble_eq_true rfl) dX9_choose_62 ⟨Nat.zero_le _, Nat.zero_le _⟩ ?_
        refine zv_isub hx hb dX9_choose_65 ?_
        refine lv_istore_n (lv' := [(3, .int (zi (((t_from + (1 : Int)) + i1) - o9))), (0, .ref (t 0)), (1, .int (zi i1)), (2, .int (zi i2))]) hx hb dX9_choose_66 rfl hl (by decide) rfl (fun ls hl => ?_)
        refine zv_iconst hx hb dX9_choose_67 ?_
        refine lv_istore (lv' := [(4, .int (zi (0 : Int))), (3, .int (zi (((t_from + (1 : Int)) + i1) - o9))), (0, .ref (t 0)), (1, .int (zi i1)), (2, .int (zi i2))]) hx hb dX9_choose_68 hl (by decide) rfl (fun ls hl => ?_)
        exact (Go_s hg) H locs ls hP hD hS (lv_sub hl [2, 3, 4, 1, 0] rfl)
    · have hg := Go_f c13 hg
      refine lv_aload_n hx hb dX9_choose_14 rfl (lv_at hl 0 rfl) ?_
      refine lv_dup hx hb dX9_choose_15 rfl ?_
      refine va_get (D := D) (ci := 9) (v := .int (zi t_waysAhead)) (C := RX9) (T := TX9) (N := 7) hx hb hts zi_X9_choose_X9 hown hK hP 0 rfl rfl 6 (by decide) (hts (.fieldLink RX9 53 "DiamondRows$Triangles" "waysAhead" "I") zl_X9_choose_53) (fun _ h9 => h9) rfl dX9_choose_16 ?_
      refine zv_iconst hx hb dX9_choose_19 ?_
      refine zv_isub hx hb dX9_choose_20 ?_
      refine va_put (D := D) (ci := 9) (v := .int (zi (t_waysAhead - (1 : Int)))) (ty := .int) (C := RX9) (T := TX9) (N := 7) hx hb hts zi_X9_choose_X9 tyX9 tyX9_ok nmX9 hown hK hP hD hS 0 rfl rfl 6 (by decide) (hts (.fieldLink RX9 53 "DiamondRows$Triangles" "waysAhead" "I") zl_X9_choose_53) (fun _ h9 => h9) rfl (by decide +kernel) rfl rfl (Nat.le_of_ble_eq_true rfl) dX9_choose_21 (fun H locs hP hD hS => ?_)
      have hP : va_P D vwCl ([((t 0), .inr (9, [.ref (t 1), .ref (t 2), .int (zi t_count), zpg ad t_polygon, .int (zi t_from), .int (zi t_length), .int (zi (t_waysAhead - (1 : Int)))])), ((t 1), .inl (κ 1, 21, .inl (zc t_cornersOf))), ((t 2), .inl (κ 1, 7, .inl (zc t_chosen)))]) H := hP
      have hD : va_D A ([((t 0), .inr (9, [.ref (t 1), .ref (t 2), .int (zi t_count), zpg ad t_polygon, .int (zi t_from), .int (zi t_length), .int (zi (t_waysAhead - (1 : Int)))])), ((t 1), .inl (κ 1, 21, .inl (zc t_cornersOf))), ((t 2), .inl (κ 1, 7, .inl (zc t_chosen)))]) := hD
      refine lv_aload_n hx hb dX9_choose_24 rfl (lv_at hl 0 rfl) ?_
      refine va_get (D := D) (ci := 9) (v := .int (zi (t_waysAhead - (1 : Int)))) (C := RX9) (T := TX9) (N := 7) hx hb hts zi_X9_choose_X9 hown hK hP 0 rfl rfl 6 (by decide) (hts (.fieldLink RX9 53 "DiamondRows$Triangles" "waysAhead" "I") zl_X9_choose_53) (fun _ h9 => h9) rfl dX9_choose_25 ?_
      obtain ⟨b11, hg⟩ := Go_n hg
      refine zv_if_ge (tgt := 35) hx hb dX9_choose_28 (by decide) b11 (fun c12 => ?_) (fun c12 => ?_)
      · have hg := Go_t c12 hg
        refine zv_iconst hx hb dX9_choose_35 ?_
        exact (Go_s hg) _ _ _ _ hP hD hS dX9_choose_36
      · have hg := Go_f c12 hg
        refine zv_iconst hx hb dX9_choose_31 ?_
        refine lv_goto (tgt := 36) hx hb dX9_choose_32 (by decide) ?_
        exact (Go_s hg) _ _ _ _ hP hD hS dX9_choose_36
set_option maxHeartbeats 4000000 in
set_option maxRecDepth 100000 in
theorem zs_X9_choose_70 {d : Nat} {p : Program} {l : Launch} {e : Env} {s : State} {m : MethodId} {args : Array Value} {below : List Frame} {meth : Method} {c : Code} {Q : State → Prop} {D : va_G} {κ : Nat → ClassId} {A : Nat → Prop} {H0 : Heap} (t : Nat → Nat) (mk : Nat) (ad : Nat → Nat → Nat) (t_count : Int) (t_polygon : Nat) (t_from : Int) (t_length : Int) (t_cornersOf : Nat) (rec : Nat → Int → Nat → Int → Int → Int → Nat → Nat → Int → Int → Option (Bool × Int × Nat)) (hrec : ∀ (sz : Nat) (t_count : Int) (t_polygon : Nat) (t_from : Int) (t_length : Int) (t_waysAhead : Int) (t_cornersOf : Nat) (t_chosen : Nat) (i1 : Int) (i2 : Int) (out : Bool × Int × Nat), rec mk t_count t_polygon t_from t_length t_waysAhead t_cornersOf t_chosen i1 i2 = some out → Met l yX9_choose wsX9_choose (zr_X9_choose d) (va_Pc [.ref (t 0), .int (zi i1), .int (zi i2)] (zWa D κ mk ad ([((t 0), .inr (9, [.ref (t 1), .ref (t 2), .int (zi t_count), zpg ad t_polygon, .int (zi t_from), .int (zi t_length), .int (zi t_waysAhead)])), ((t 1), .inl (κ 1, 21, .inl (zc t_cornersOf))), ((t 2), .inl (κ 1, 7, .inl (zc t_chosen)))]) sz)) (va_Qi (fun r (_ : Unit) => r = zi (bI (out.1))) (fun _ => zB D κ (va_A ([((t 0), .inr (9, [.ref (t 1), .ref (t 2), .int (zi t_count), zpg ad t_polygon, .int (zi t_from), .int (zi t_length), .int (zi t_waysAhead)])), ((t 1), .inl (κ 1, 21, .inl (zc t_cornersOf))), ((t 2), .inl (κ 1, 7, .inl (zc t_chosen)))]) sz) ([((t 0), .inr (9, [.ref (t 1), .ref (t 2), .int (zi t_count), zpg ad t_polygon, .int (zi t_from), .int (zi t_length), .int (zi (out.2.1))])), ((t 1), .inl (κ 1, 21, .inl (zc t_cornersOf))), ((t 2), .inl (κ 1, 7, .inl (zc (out.2.2))))])) (va_A ([((t 0), .inr (9, [.ref (t 1), .ref (t 2), .int (zi t_count), zpg ad t_polygon, .int (zi t_from), .int (zi t_length), .int (zi t_waysAhead)])), ((t 1), .inl (κ 1, 21, .inl (zc t_cornersOf))), ((t 2), .inl (κ 1, 7, .inl (zc t_chosen)))]) sz)) 0 0 (va_A ([((t 0), .inr (9, [.ref (t 1), .ref (t 2), .int (zi t_count), zpg ad t_polygon, .int (zi t_from), .int (zi t_length), .int (zi t_waysAhead)])), ((t 1), .inl (κ 1, 21, .inl (zc t_cornersOf))), ((t 2), .inl (κ 1, 7, .inl (zc t_chosen)))]) sz)) (hx : p.tables.exec = Jvm.exec) (hb : c.code = cX9_choose) (hml : c.maxLocals = 5) (hown : s.vm.findClass RX9 = some m.cls) (hts : ∀ w ∈ wsX9_choose, w.before args s = true) (hK : va_K D vwCl (zTY κ) s) (hA : ∀ q : Nat, H0.size ≤ q → A q) (hB : zAmb D κ mk ad H0) (hBA : zApt mk ad A H0.size) (i1 : Int) (i2 : Int) (i3 : Int) (i4 : Int) (t_waysAhead : Int) (t_chosen : Nat) (hg : Go (GoE (zA_X9_choose d p l e s m args below meth c Q D κ A H0 t mk ad t_count t_polygon t_from t_length t_cornersOf) (zQ_X9_choose d p l e s m args below meth c Q D κ A H0 t mk ad t_count t_polygon t_from t_length t_cornersOf)) (zg_X9_choose_70 rec mk t_count t_polygon t_from t_length t_cornersOf i1 i2 i3 i4 t_waysAhead t_chosen)) : zA_X9_choose_70 d p l e s m args below meth c Q D κ A H0 t mk ad t_count t_polygon t_from t_length t_cornersOf i1 i2 i3 i4 t_waysAhead t_chosen := by
  intro H locs ls hP hD hS hl
  unfold zg_X9_choose_70 at hg
  refine lv_iload hx hb dX9_choose_70 (lv_at hl 4 rfl) ?_
  refine lv_aload_n hx hb dX9_choose_72 rfl (lv_at hl 0 rfl) ?_
  refine va_get (D := D) (ci := 9) (v := .int (zi t_count)) (C := RX9) (T := TX9) (N := 7) hx hb hts zi_X9_choose_X9 hown hK hP 0 rfl rfl 2 (by decide) (hts (.fieldLink RX9 18 "DiamondRows$Triangles" "count" "I") zl_X9_choose_18) (fun _ h9 => h9) rfl dX9_choose_73 ?_
  obtain ⟨b15, hg⟩ := Go_n hg
  obtain ⟨b16, hg⟩ := Go_n hg
  refine zv_icmp_ge (tgt := 130) hx hb dX9_choose_76 (by decide) b15 b16 (fun c23 => ?_) (fun c23 => ?_)
  · have hg := Go_t c23 hg
    refine zv_iconst hx hb dX9_choose_130 ?_
    exact (Go_s hg) _ _ _ _ hP hD hS dX9_choose_131
  · have hg := Go_f c23 hg
    refine lv_iload_n hx hb dX9_choose_79 rfl (lv_at hl 2 rfl) ?_
    refine lv_iload hx hb dX9_choose_80 (lv_at hl 4 rfl) ?_
    refine zv_ishr hx hb dX9_choose_82 ?_
    refine zv_iconst hx hb dX9_choose_83 ?_
    refine zv_iand hx hb dX9_choose_84 ?_
    refine zv_if_ne (tgt := 124) hx hb dX9_choose_85 (by decide) (zand_in _ _) (fun c22 => ?_) (fun c22 => ?_)
    · have hg := Go_f c22 hg
      refine lv_iinc (v := zi (i4 + (1 : Int))) (lv' := [(4, .int (zi (i4 + (1 : Int)))), (0, .ref (t 0)), (1, .int (zi i1)), (2, .int (zi i2)), (3, .int (zi i3))]) hx hb dX9_choose_124 hl (k := 4) rfl (zi_add i4 _) (by decide) rfl (fun ls hl => ?_)
      refine lv_goto (tgt := 70) hx hb dX9_choose_127 (by decide) ?_
      exact (Go_s hg) H locs ls hP hD hS (lv_sub hl [1, 2, 3, 4, 0] rfl)
    · have hg := Go_t c22 hg
      refine lv_aload_n hx hb dX9_choose_88 rfl (lv_at hl 0 rfl) ?_
      refine lv_iload hx hb dX9_choose_89 (lv_at hl 4 rfl) ?_
      refine lv_iload_n hx hb dX9_choose_91 rfl (lv_at hl 3 rfl) ?_
      obtain ⟨o17, ho17, hg⟩ := Go_b hg
      refine zc_vi (rest := []) ⟨hx, hb, hml, hown, hts⟩ (zc_X9_touches l D κ t mk ad t_count t_polygon t_from t_length t_waysAhead t_cornersOf t_chosen i4 i3 o17 ho17) (cwV 2 hts gX9_choose_X9_touches rfl rfl rfl hv_X9_touches ⟨(by show 1 + 1 ≤ 2 + (d + 1); omega), (by show 8 + (3 + 11) + 22 ≤ 44 + (d + 1) * 24; omega)⟩) (zpreVa hK (hP.sub [0, 1, 2] rfl) (zamb hB hBA hS) 9 0 rfl rfl) rfl hl.1 rfl (Nat.le_of_ble_eq_true rfl) dX9_choose_92 ⟨Nat.zero_le _, Nat.zero_le _⟩ ?_
      refine zv_ifb_eq (tgt := 124) hx hb dX9_choose_95 (by decide) (fun c21 => ?_) (fun c21 => ?_)
      · have hg := Go_t c21 hg
        refine lv_iinc (v := zi (i4 + (1 : Int))) (lv' := [(4, .int (zi (i4 + (1 : Int)))), (0, .ref (t 0)), (1, .int (zi i1)), (2, .int (zi i2)), (3, .int (zi i3))]) hx hb dX9_choose_124 hl (k := 4) rfl (zi_add i4 _) (by decide) rfl (fun ls hl => ?_)
        refine lv_goto (tgt := 70) hx hb dX9_choose_127 (by decide) ?_
        exact (Go_s hg) H locs ls hP hD hS (lv_sub hl [1, 2, 3, 4, 0] rfl)
      · have hg := Go_f c21 hg
        refine lv_aload_n hx hb dX9_choose_98 rfl (lv_at hl 0 rfl) ?_
        refine va_get (D := D) (ci := 9) (v := .ref (t 2)) (C := RX9) (T := TX9) (N := 7) hx hb hts zi_X9_choose_X9 hown hK hP 0 rfl rfl 1 (by decide) (hts (.fieldLink RX9 15 "DiamondRows$Triangles" "chosen" "[I") zl_X9_choose_15) (fun _ h9 => h9) rfl dX9_choose_99 ?_
        refine lv_iload_n hx hb dX9_choose_102 rfl (lv_at hl 1 rfl) ?_
        refine lv_iload hx hb dX9_choose_103 (lv_at hl 4 rfl) ?_
        obtain ⟨n18, hg⟩ := Go_n hg
        refine zv_iast hx hb hK hP hD hS 2 1 rfl rfl (by decide) n18 dX9_choose_105 (fun H locs hP hD hS => ?_)
        have hP : va_P D vwCl ([((t 0), .inr (9, [.ref (t 1), .ref (t 2), .int (zi t_count), zpg ad t_polygon, .int (zi t_from), .int (zi t_length), .int (zi t_waysAhead)])), ((t 1), .inl (κ 1, 21, .inl (zc t_cornersOf))), ((t 2), .inl (κ 1, 7, .inl (zc (zset t_chosen (Int.toNat i1) i4))))]) H := hP
        have hD : va_D A ([((t 0), .inr (9, [.ref (t 1), .ref (t 2), .int (zi t_count), zpg ad t_polygon, .int (zi t_from), .int (zi t_length), .int (zi t_waysAhead)])), ((t 1), .inl (κ 1, 21, .inl (zc t_cornersOf))), ((t 2), .inl (κ 1, 7, .inl (zc (zset t_chosen (Int.toNat i1) i4))))]) := hD
        refine lv_aload_n hx hb dX9_choose_106 rfl (lv_at hl 0 rfl) ?_
        refine lv_iload_n hx hb dX9_choose_107 rfl (lv_at hl 1 rfl) ?_
        refine zv_iconst hx hb dX9_choose_108 ?_
        refine zv_iadd hx hb dX9_choose_109 ?_
        refine lv_iload_n hx hb dX9_choose_110 rfl (lv_at hl 2 rfl) ?_
        refine zv_iconst hx hb dX9_choose_111 ?_
        refine lv_iload hx hb dX9_choose_112 (lv_at hl 4 rfl) ?_
        refine zv_ishl hx hb dX9_choose_114 ?_
        refine zv_ior hx hb dX9_choose_115 ?_
        obtain ⟨o19, ho19, hg⟩ := Go_b hg
        refine zj_i (wr := []) (ws1 := [((t 0), .inr (9, [.ref (t 1), .ref (t 2), .int (zi t_count), zpg ad t_polygon, .int (zi t_from), .int (zi t_length), .int (zi (o19.2.1))])), ((t 1), .inl (κ 1, 21, .inl (zc t_cornersOf))), ((t 2), .inl (κ 1, 7, .inl (zc (o19.2.2))))]) (va_runV (rest := []) ⟨hx, hb, hml, hown, hts⟩ (hrec H.size t_count t_polygon t_from t_length t_waysAhead t_cornersOf (zset t_chosen (Int.toNat i1) i4) (i1 + (1 : Int)) (zor i2 (zshl (1 : Int) i4)) o19 ho19) (cwV 2 hts gX9_choose_X9_choose rfl rfl rfl hv_X9_choose ⟨(by show 2 + d + 1 ≤ 2 + (d + 1); omega), (by show 8 + (5 + 11) + (44 + d * 24) ≤ 44 + (d + 1) * 24; omega)⟩) (zpreWVa hK (hP.sub [0, 1, 2] rfl) (hD.sub [0, 1, 2] (by decide) rfl) (zamb hB hBA hS) (zapt hBA hS (va_free hD hS hA [0, 1, 2] rfl)) 9 0 rfl rfl) rfl rfl hl.1 rfl (lv_room (Nat.le_of_ble_eq_true rfl)) dX9_choose_116 ⟨Nat.zero_le _, Nat.zero_le _⟩) hP hD hS hA [0, 1, 2] [] [0, 1, 2] rfl rfl (by decide) (by decide) rfl rfl (by decide) (fun H locs hP hD hS => ?_)
        refine zv_ifb_eq (tgt := 124) hx hb dX9_choose_119 (by decide) (fun c20 => ?_) (fun c20 => ?_)
        · have hg := Go_t c20 hg
          refine lv_iinc (v := zi (i4 + (1 : Int))) (lv' := [(4, .int (zi (i4 + (1 : Int)))), (0, .ref (t 0)), (1, .int (zi i1)), (2, .int (zi i2)), (3, .int (zi i3))]) hx hb dX9_choose_124 hl (k := 4) rfl (zi_add i4 _) (by decide) rfl (fun ls hl => ?_)
          refine lv_goto (tgt := 70) hx hb dX9_choose_127 (by decide) ?_
          exact (Go_s hg) H locs ls hP hD hS (lv_sub hl [1, 2, 3, 4, 0] rfl)
        · have hg := Go_f c20 hg
          refine zv_iconst hx hb dX9_choose_122 ?_
          exact (Go_s hg) _ _ _ _ hP hD hS dX9_choose_123
set_option maxHeartbeats 4000000 in
set_option maxRecDepth 100000 in
theorem zw_X9_choose {d : Nat} {p : Program} {l : Launch} {e : Env} {s : State} {m : MethodId} {args : Array Value} {below : List Frame} {meth : Method} {c : Code} {Q : State → Prop} {D : va_G} {κ : Nat → ClassId} {A : Nat → Prop} {H0 : Heap} (t : Nat → Nat) (mk : Nat) (ad : Nat → Nat → Nat) (t_count : Int) (t_polygon : Nat) (t_from : Int) (t_length : Int) (t_cornersOf : Nat) (t_waysAhead : Int) (t_chosen : Nat) (i1 : Int) (i2 : Int) (rec : Nat → Int → Nat → Int → Int → Int → Nat → Nat → Int → Int → Option (Bool × Int × Nat)) (hrec : ∀ (sz : Nat) (t_count : Int) (t_polygon : Nat) (t_from : Int) (t_length : Int) (t_waysAhead : Int) (t_cornersOf : Nat) (t_chosen : Nat) (i1 : Int) (i2 : Int) (out : Bool × Int × Nat), rec mk t_count t_polygon t_from t_length t_waysAhead t_cornersOf t_chosen i1 i2 = some out → Met l yX9_choose wsX9_choose (zr_X9_choose d) (va_Pc [.ref (t 0), .int (zi i1), .int (zi i2)] (zWa D κ mk ad ([((t 0), .inr (9, [.ref (t 1), .ref (t 2), .int (zi t_count), zpg ad t_polygon, .int (zi t_from), .int (zi t_length), .int (zi t_waysAhead)])), ((t 1), .inl (κ 1, 21, .inl (zc t_cornersOf))), ((t 2), .inl (κ 1, 7, .inl (zc t_chosen)))]) sz)) (va_Qi (fun r (_ : Unit) => r = zi (bI (out.1))) (fun _ => zB D κ (va_A ([((t 0), .inr (9, [.ref (t 1), .ref (t 2), .int (zi t_count), zpg ad t_polygon, .int (zi t_from), .int (zi t_length), .int (zi t_waysAhead)])), ((t 1), .inl (κ 1, 21, .inl (zc t_cornersOf))), ((t 2), .inl (κ 1, 7, .inl (zc t_chosen)))]) sz) ([((t 0), .inr (9, [.ref (t 1), .ref (t 2), .int (zi t_count), zpg ad t_polygon, .int (zi t_from), .int (zi t_length), .int (zi (out.2.1))])), ((t 1), .inl (κ 1, 21, .inl (zc t_cornersOf))), ((t 2), .inl (κ 1, 7, .inl (zc (out.2.2))))])) (va_A ([((t 0), .inr (9, [.ref (t 1), .ref (t 2), .int (zi t_count), zpg ad t_polygon, .int (zi t_from), .int (zi t_length), .int (zi t_waysAhead)])), ((t 1), .inl (κ 1, 21, .inl (zc t_cornersOf))), ((t 2), .inl (κ 1, 7, .inl (zc t_chosen)))]) sz)) 0 0 (va_A ([((t 0), .inr (9, [.ref (t 1), .ref (t 2), .int (zi t_count), zpg ad t_polygon, .int (zi t_from), .int (zi t_length), .int (zi t_waysAhead)])), ((t 1), .inl (κ 1, 21, .inl (zc t_cornersOf))), ((t 2), .inl (κ 1, 7, .inl (zc t_chosen)))]) sz)) (hx : p.tables.exec = Jvm.exec) (hb : c.code = cX9_choose) (hml : c.maxLocals = 5) (hown : s.vm.findClass RX9 = some m.cls) (hts : ∀ w ∈ wsX9_choose, w.before args s = true) (hK : va_K D vwCl (zTY κ) s) (hA : ∀ q : Nat, H0.size ≤ q → A q) (hB : zAmb D κ mk ad H0) (hBA : zApt mk ad A H0.size) (out : Bool × Int × Nat) (h : jrun (zg_X9_choose rec mk t_count t_polygon t_from t_length t_cornersOf) jfuel (0, i1, i2, 0, 0, t_waysAhead, t_chosen) = some out) (hq : zQ_X9_choose d p l e s m args below meth c Q D κ A H0 t mk ad t_count t_polygon t_from t_length t_cornersOf out) : zA_X9_choose_0 d p l e s m args below meth c Q D κ A H0 t mk ad t_count t_polygon t_from t_length t_cornersOf i1 i2 0 0 t_waysAhead t_chosen := by
  have hst : ∀ st : zS_X9_choose, Go (GoE (zA_X9_choose d p l e s m args below meth c Q D κ A H0 t mk ad t_count t_polygon t_from t_length t_cornersOf) (zQ_X9_choose d p l e s m args below meth c Q D κ A H0 t mk ad t_count t_polygon t_from t_length t_cornersOf)) (zg_X9_choose rec mk t_count t_polygon t_from t_length t_cornersOf st) → zA_X9_choose d p l e s m args below meth c Q D κ A H0 t mk ad t_count t_polygon t_from t_length t_cornersOf st := by
    intro st hg
    obtain ⟨lab, i1, i2, i3, i4, t_waysAhead, t_chosen⟩ := st
    by_cases h0 : lab = 0
    · subst h0
      exact zs_X9_choose_0 t mk ad t_count t_polygon t_from t_length t_cornersOf rec hrec hx hb hml hown hts hK hA hB hBA i1 i2 i3 i4 t_waysAhead t_chosen hg
    by_cases h70 : lab = 70
    · subst h70
      exact zs_X9_choose_70 t mk ad t_count t_polygon t_from t_length t_cornersOf rec hrec hx hb hml hown hts hK hA hB hBA i1 i2 i3 i4 t_waysAhead t_chosen hg
    have hz : zg_X9_choose rec mk t_count t_polygon t_from t_length t_cornersOf (lab, i1, i2, i3, i4, t_waysAhead, t_chosen) = none := by simp [zg_X9_choose, h0, h70]
    rw [hz] at hg
    obtain ⟨a, h1, -⟩ := hg
    cases h1
  exact jwalk (At := zA_X9_choose d p l e s m args below meth c Q D κ A H0 t mk ad t_count t_polygon t_from t_length t_cornersOf) (Ret := zQ_X9_choose d p l e s m args below meth c Q D κ A H0 t mk ad t_count t_polygon t_from t_length t_cornersOf) hst _ _ _ h hq
set_option maxHeartbeats 4000000 in
set_option maxRecDepth 100000 in
theorem zc_X9_choose (l : Launch) (D : va_G) (κ : Nat → ClassId) (t : Nat → Nat) (mk : Nat) (ad : Nat → Nat → Nat) (d : Nat) : ∀ (sz : Nat) (t_count : Int) (t_polygon : Nat) (t_from : Int) (t_length : Int) (t_waysAhead : Int) (t_cornersOf : Nat) (t_chosen : Nat) (i1 : Int) (i2 : Int) (out : Bool × Int × Nat), zf_X9_choose d mk t_count t_polygon t_from t_length t_waysAhead t_cornersOf t_chosen i1 i2 = some out → Met l yX9_choose wsX9_choose (zr_X9_choose d) (va_Pc [.ref (t 0), .int (zi i1), .int (zi i2)] (zWa D κ mk ad ([((t 0), .inr (9, [.ref (t 1), .ref (t 2), .int (zi t_count), zpg ad t_polygon, .int (zi t_from), .int (zi t_length), .int (zi t_waysAhead)])), ((t 1), .inl (κ 1, 21, .inl (zc t_cornersOf))), ((t 2), .inl (κ 1, 7, .inl (zc t_chosen)))]) sz)) (va_Qi (fun r (_ : Unit) => r = zi (bI (out.1))) (fun _ => zB D κ (va_A ([((t 0), .inr (9, [.ref (t 1), .ref (t 2), .int (zi t_count), zpg ad t_polygon, .int (zi t_from), .int (zi t_length), .int (zi t_waysAhead)])), ((t 1), .inl (κ 1, 21, .inl (zc t_cornersOf))), ((t 2), .inl (κ 1, 7, .inl (zc t_chosen)))]) sz) ([((t 0), .inr (9, [.ref (t 1), .ref (t 2), .int (zi t_count), zpg ad t_polygon, .int (zi t_from), .int (zi t_length), .int (zi (out.2.1))])), ((t 1), .inl (κ 1, 21, .inl (zc t_cornersOf))), ((t 2), .inl (κ 1, 7, .inl (zc (out.2.2))))])) (va_A ([((t 0), .inr (9, [.ref (t 1), .ref (t 2), .int (zi t_count), zpg ad t_polygon, .int (zi t_from), .int (zi t_length), .int (zi t_waysAhead)])), ((t 1), .inl (κ 1, 21, .inl (zc t_cornersOf))), ((t 2), .inl (κ 1, 7, .inl (zc t_chosen)))]) sz)) 0 0 (va_A ([((t 0), .inr (9, [.ref (t 1), .ref (t 2), .int (zi t_count), zpg ad t_polygon, .int (zi t_from), .int (zi t_length), .int (zi t_waysAhead)])), ((t 1), .inl (κ 1, 21, .inl (zc t_cornersOf))), ((t 2), .inl (κ 1, 7, .inl (zc t_chosen)))]) sz) := by
  induction d with
  | zero => intro sz t_count t_polygon t_from t_length t_waysAhead t_cornersOf t_chosen i1 i2 out h; cases h
  | succ d ih =>
    intro sz t_count t_polygon t_from t_length t_waysAhead t_cornersOf t_chosen i1 i2 out h
    have h : jrun (zg_X9_choose (zf_X9_choose d) mk t_count t_polygon t_from t_length t_cornersOf) jfuel (0, i1, i2, 0, 0, t_waysAhead, t_chosen) = some out := h
    refine Met.ofW (cc := cX9_choose) (maxL := 5) (ret := (some .boolean)) (by decide +kernel) rfl ?_
    intro p e s m args below meth c s₁ B hml hv
    obtain ⟨rfl, hsz, hP, hK, hD0, hB, hBA⟩ := hv
    have hx := B.exec
    have hb := B.bytes
    have hr := B.returns
    have hts := atoms_spec (ws := wsX9_choose) B.pre
    have hown : s.vm.findClass RX9 = some m.cls := findClass_of_methodNamed B.named
    have hlocks := B.notSynchronized
    subst hsz
    have hD := hD0.self (sz := s.heap.size)
    generalize hAe : va_A ([((t 0), .inr (9, [.ref (t 1), .ref (t 2), .int (zi t_count), zpg ad t_polygon, .int (zi t_from), .int (zi t_length), .int (zi t_waysAhead)])), ((t 1), .inl (κ 1, 21, .inl (zc t_cornersOf))), ((t 2), .inl (κ 1, 7, .inl (zc t_chosen)))]) s.heap.size = A at hD hBA ⊢
    have hA : ∀ q : Nat, s.heap.size ≤ q → A q := fun q h => by rw [← hAe]; exact Or.inr h
    have hS : va_S A s.heap s.heap [] := va_S.rf
    have hl := lv_entry ([.ref (t 0), .int (zi i1), .int (zi i2)]) (n := 5) (Nat.le_of_ble_eq_true rfl)
    rw [lg_entry_eq]
    generalize (lg_sl ([.ref (t 0), .int (zi i1), .int (zi i2)]) ++ List.replicate (5 - (lg_sl ([.ref (t 0), .int (zi i1), .int (zi i2)])).length) Slot.unset).toArray = ls at hl ⊢
    have hl : lv_has ls 5 [(0, .ref (t 0)), (1, .int (zi i1)), (2, .int (zi i2))] := hl
    refine (zw_X9_choose t mk ad t_count t_polygon t_from t_length t_cornersOf t_waysAhead t_chosen i1 i2 (zf_X9_choose d) ih hx hb hml hown hts hK hA hB hBA out h ?_) s.heap [] ls hP hD hS (lv_sub hl [0, 1, 2] rfl)
    exact fun H locs ls pc hP hD hS hd => W.zret hx hb hr (bI_nar _) (fun t ht hW => ⟨⟨_, (), rfl, rfl, by rw [ht]; exact hP, va_K.moved hW.alike hK, hD⟩, hS.F ht⟩) hS.2.2 hd
/-! DiamondRows$Triangles.onWay(LDiamondRows$Polygon;IIII)I -/
abbrev zr_X9_onWay : Room := { frames := 13, cells := 0, slots := 0, locals := 308 }
noncomputable def zf_X9_onWay (mk : Nat) (t_count : Int) (t_polygon : Nat) (t_from : Int) (t_length : Int) (t_waysAhead : Int) (t_cornersOf : Nat) (t_chosen : Nat) (n1 : Nat) (i2 : Int) (i3 : Int) (i4 : Int) (i5 : Int) : Option (Int × Nat × Int × Int × Int × Nat) :=
  if zno mk n1 then none else
  Option.bind (zf_X5_ahead n1 i2 i3) (fun o2 =>
  if zout (o2 - (1 : Int)) then none else
  if (7 : Int) < (o2 - (1 : Int)) then
  some ((-1 : Int), n1, i2, (o2 - (1 : Int)), i4, t_chosen)
  else
  if zout i5 then none else
  if i5 < 0 then
  some ((-1 : Int), n1, i2, (o2 - (1 : Int)), i4, t_chosen)
  else
  if i5 < (o2 - (1 : Int)) then
  Option.bind (zf_X9_choose 10 mk t_count n1 i2 (o2 - (1 : Int)) i4 t_cornersOf t_chosen (0 : Int) (0 : Int)) (fun o5 =>
  if (o5.1) = false then
  some ((-2 : Int), n1, i2, (o2 - (1 : Int)), (o5.2.1), (o5.2.2))
  else
  if i5 < 0 ∨ 7 ≤ i5 then none else
  some ((zget (o5.2.2) (Int.toNat i5)), n1, i2, (o2 - (1 : Int)), (o5.2.1), (o5.2.2)))
  else
  some ((-1 : Int), n1, i2, (o2 - (1 : Int)), i4, t_chosen))
theorem zi_X9_onWay_X9 : ∀ w ∈ u_ws RX9 TX9 7, w ∈ wsX9_onWay := fun w h => (List.mem_cons_of_mem _ (List.mem_append_right _ (List.mem_append_left _ h)))
theorem zl_X9_onWay_15 : Cond.fieldLink RX9 15 "DiamondRows$Triangles" "chosen" "[I" ∈ wsX9_onWay := (List.mem_cons_of_mem _ (List.mem_append_left _ (List.mem_of_getElem? (i := 4) rfl)))
theorem zl_X9_onWay_40 : Cond.fieldLink RX9 40 "DiamondRows$Triangles" "polygon" "LDiamondRows$Polygon;" ∈ wsX9_onWay := (List.mem_cons_of_mem _ (List.mem_append_left _ (List.mem_of_getElem? (i := 0) rfl)))
theorem zl_X9_onWay_44 : Cond.fieldLink RX9 44 "DiamondRows$Triangles" "from" "I" ∈ wsX9_onWay := (List.mem_cons_of_mem _ (List.mem_append_left _ (List.mem_of_getElem? (i := 1) rfl)))
theorem zl_X9_onWay_50 : Cond.fieldLink RX9 50 "DiamondRows$Triangles" "length" "I" ∈ wsX9_onWay := (List.mem_cons_of_mem _ (List.mem_append_left _ (List.mem_of_getElem? (i := 2) rfl)))
theorem zl_X9_onWay_53 : Cond.fieldLink RX9 53 "DiamondRows$Triangles" "waysAhead" "I" ∈ wsX9_onWay := (List.mem_cons_of_mem _ (List.mem_append_left _ (List.mem_of_getElem? (i := 3) rfl)))
def zQ_X9_onWay (p : Program) (l : Launch) (e : Env) (s : State) (m : MethodId) (args : Array Value) (below : List Frame) (meth : Method) (c : Code) (Q : State → Prop) (D : va_G) (κ : Nat → ClassId) (A : Nat → Prop) (H0 : Heap) (t : Nat → Nat) (mk : Nat) (ad : Nat → Nat → Nat) (t_count : Int) (t_cornersOf : Nat) (n1 : Nat) (o : Int × Nat × Int × Int × Int × Nat) : Prop := ∀ (H : Heap) (locs : List Loc) (ls : Array Slot) (pc : Nat), va_P D vwCl ([((t 0), .inr (9, [.ref (t 1), .ref (t 2), .int (zi t_count), zpg ad (o.2.1), .int (zi (o.2.2.1)), .int (zi (o.2.2.2.1)), .int (zi (o.2.2.2.2.1))])), ((t 1), .inl (κ 1, 21, .inl (zc t_cornersOf))), ((t 2), .inl (κ 1, 7, .inl (zc (o.2.2.2.2.2))))]) H → va_D A ([((t 0), .inr (9, [.ref (t 1), .ref (t 2), .int (zi t_count), zpg ad (o.2.1), .int (zi (o.2.2.1)), .int (zi (o.2.2.2.1)), .int (zi (o.2.2.2.2.1))])), ((t 1), .inl (κ 1, 21, .inl (zc t_cornersOf))), ((t 2), .inl (κ 1, 7, .inl (zc (o.2.2.2.2.2))))]) → va_S A H0 H locs → decode cX9_onWay pc = .ok (.ireturn, 1) → W p l e zr_X9_onWay s m args below meth c H locs 0 0 Q (F0 m pc ls [.int (zi (o.1))])
set_option maxHeartbeats 4000000 in
set_option maxRecDepth 100000 in
theorem zs_X9_onWay {p : Program} {l : Launch} {e : Env} {s : State} {m : MethodId} {args : Array Value} {below : List Frame} {meth : Method} {c : Code} {Q : State → Prop} {D : va_G} {κ : Nat → ClassId} {A : Nat → Prop} {H0 : Heap} (t : Nat → Nat) (mk : Nat) (ad : Nat → Nat → Nat) (t_count : Int) (t_polygon : Nat) (t_from : Int) (t_length : Int) (t_waysAhead : Int) (t_cornersOf : Nat) (t_chosen : Nat) (n1 : Nat) (i2 : Int) (i3 : Int) (i4 : Int) (i5 : Int) (hx : p.tables.exec = Jvm.exec) (hb : c.code = cX9_onWay) (hml : c.maxLocals = 6) (hown : s.vm.findClass RX9 = some m.cls) (hts : ∀ w ∈ wsX9_onWay, w.before args s = true) (hK : va_K D vwCl (zTY κ) s) (hA : ∀ q : Nat, H0.size ≤ q → A q) (hB : zAmb D κ mk ad H0) (hBA : zApt mk ad A H0.size) (H : Heap) (locs : List Loc) (ls : Array Slot) (hP : va_P D vwCl ([((t 0), .inr (9, [.ref (t 1), .ref (t 2), .int (zi t_count), zpg ad t_polygon, .int (zi t_from), .int (zi t_length), .int (zi t_waysAhead)])), ((t 1), .inl (κ 1, 21, .inl (zc t_cornersOf))), ((t 2), .inl (κ 1, 7, .inl (zc t_chosen)))]) H) (hD : va_D A ([((t 0), .inr (9, [.ref (t 1), .ref (t 2), .int (zi t_count), zpg ad t_polygon, .int (zi t_from), .int (zi t_length), .int (zi t_waysAhead)])), ((t 1), .inl (κ 1, 21, .inl (zc t_cornersOf))), ((t 2), .inl (κ 1, 7, .inl (zc t_chosen)))])) (hS : va_S A H0 H locs) (hl : lv_has ls 6 [(0, .ref (t 0)), (1, .ref (ad n1 0)), (2, .int (zi i2)), (3, .int (zi i3)), (4, .int (zi i4)), (5, .int (zi i5))]) (hg : Go (zQ_X9_onWay p l e s m args below meth c Q D κ A H0 t mk ad t_count t_cornersOf n1) (zf_X9_onWay mk t_count t_polygon t_from t_length t_waysAhead t_cornersOf t_chosen n1 i2 i3 i4 i5)) : W p l e zr_X9_onWay s m args below meth c H locs 0 0 Q (F0 m 0 ls []) := by
  unfold zf_X9_onWay at hg
  refine lv_aload_n hx hb dX9_onWay_0 rfl (lv_at hl 0 rfl) ?_
  refine lv_aload_n hx hb dX9_onWay_1 rfl (lv_at hl 1 rfl) ?_
  obtain ⟨m1, hg⟩ := Go_n hg
  refine zv_putP (D := D) (ci := 9) (C := RX9) (T := TX9) (N := 7) hx hb hts zi_X9_onWay_X9 tyX9 tyX9_ok nmX9 hown hK hP hD hS 0 rfl rfl 3 (by decide) (hts (.fieldLink RX9 40 "DiamondRows$Triangles" "polygon" "LDiamondRows$Polygon;") zl_X9_onWay_40) (fun _ h9 => h9) rfl (by decide +kernel) (Nat.le_of_ble_eq_true rfl) m1 dX9_onWay_2 (fun H locs hP hD hS => ?_)
  have hP : va_P D vwCl ([((t 0), .inr (9, [.ref (t 1), .ref (t 2), .int (zi t_count), zpg ad n1, .int (zi t_from), .int (zi t_length), .int (zi t_waysAhead)])), ((t 1), .inl (κ 1, 21, .inl (zc t_cornersOf))), ((t 2), .inl (κ 1, 7, .inl (zc t_chosen)))]) H := hP
  have hD : va_D A ([((t 0), .inr (9, [.ref (t 1), .ref (t 2), .int (zi t_count), zpg ad n1, .int (zi t_from), .int (zi t_length), .int (zi t_waysAhead)])), ((t 1), .inl (κ 1, 21, .inl (zc t_cornersOf))), ((t 2), .inl (κ 1, 7, .inl (zc t_chosen)))]) := hD
  refine lv_aload_n hx hb dX9_onWay_5 rfl (lv_at hl 0 rfl) ?_
  refine lv_iload_n hx hb dX9_onWay_6 rfl (lv_at hl 2 rfl) ?_
  refine va_put (D := D) (ci := 9) (v := .int (zi i2)) (ty := .int) (C := RX9) (T := TX9) (N := 7) hx hb hts zi_X9_onWay_X9 tyX9 tyX9_ok nmX9 hown hK hP hD hS 0 rfl rfl 4 (by decide) (hts (.fieldLink RX9 44 "DiamondRows$Triangles" "from" "I") zl_X9_onWay_44) (fun _ h9 => h9) rfl (by decide +kernel) rfl rfl (Nat.le_of_ble_eq_true rfl) dX9_onWay_7 (fun H locs hP hD hS => ?_)
  have hP : va_P D vwCl ([((t 0), .inr (9, [.ref (t 1), .ref (t 2), .int (zi t_count), zpg ad n1, .int (zi i2), .int (zi t_length), .int (zi t_waysAhead)])), ((t 1), .inl (κ 1, 21, .inl (zc t_cornersOf))), ((t 2), .inl (κ 1, 7, .inl (zc t_chosen)))]) H := hP
  have hD : va_D A ([((t 0), .inr (9, [.ref (t 1), .ref (t 2), .int (zi t_count), zpg ad n1, .int (zi i2), .int (zi t_length), .int (zi t_waysAhead)])), ((t 1), .inl (κ 1, 21, .inl (zc t_cornersOf))), ((t 2), .inl (κ 1, 7, .inl (zc t_chosen)))]) := hD
  refine lv_aload_n hx hb dX9_onWay_10 rfl (lv_at hl 0 rfl) ?_
  refine lv_aload_n hx hb dX9_onWay_11 rfl (lv_at hl 1 rfl) ?_
  refine lv_iload_n hx hb dX9_onWay_12 rfl (lv_at hl 2 rfl) ?_
  refine lv_iload_n hx hb dX9_onWay_13 rfl (lv_at hl 3 rfl) ?_
  obtain ⟨o2, ho2, hg⟩ := Go_b hg
  refine zc_vi (rest := [.ref (t 0)]) ⟨hx, hb, hml, hown, hts⟩ (zc_X5_ahead l D κ (ad n1) n1 i2 i3 o2 ho2) (cwV 2 hts gX9_onWay_X5_ahead rfl rfl rfl hv_X5_ahead ⟨Nat.le_of_ble_eq_true rfl, Nat.le_of_ble_eq_true rfl⟩) (zpreV hK ((zamb hB hBA hS) n1 m1) 5 0 rfl rfl) rfl hl.1 rfl (Nat.le_of_ble_eq_true rfl) dX9_onWay_14 ⟨Nat.zero_le _, Nat.zero_le _⟩ ?_
  refine zv_iconst hx hb dX9_onWay_17 ?_
  refine zv_isub hx hb dX9_onWay_18 ?_
  refine va_put (D := D) (ci := 9) (v := .int (zi (o2 - (1 : Int)))) (ty := .int) (C := RX9) (T := TX9) (N := 7) hx hb hts zi_X9_onWay_X9 tyX9 tyX9_ok nmX9 hown hK hP hD hS 0 rfl rfl 5 (by decide) (hts (.fieldLink RX9 50 "DiamondRows$Triangles" "length" "I") zl_X9_onWay_50) (fun _ h9 => h9) rfl (by decide +kernel) rfl rfl (Nat.le_of_ble_eq_true rfl) dX9_onWay_19 (fun H locs hP hD hS => ?_)
  have hP : va_P D vwCl ([((t 0), .inr (9, [.ref (t 1), .ref (t 2), .int (zi t_count), zpg ad n1, .int (zi i2), .int (zi (o2 - (1 : Int))), .int (zi t_waysAhead)])), ((t 1), .inl (κ 1, 21, .inl (zc t_cornersOf))), ((t 2), .inl (κ 1, 7, .inl (zc t_chosen)))]) H := hP
  have hD : va_D A ([((t 0), .inr (9, [.ref (t 1), .ref (t 2), .int (zi t_count), zpg ad n1, .int (zi i2), .int (zi (o2 - (1 : Int))), .int (zi t_waysAhead)])), ((t 1), .inl (κ 1, 21, .inl (zc t_cornersOf))), ((t 2), .inl (κ 1, 7, .inl (zc t_chosen)))]) := hD
  refine lv_aload_n hx hb dX9_onWay_22 rfl (lv_at hl 0 rfl) ?_
  refine lv_iload hx hb dX9_onWay_23 (lv_at hl 4 rfl) ?_
  refine va_put (D := D) (ci := 9) (v := .int (zi i4)) (ty := .int) (C := RX9) (T := TX9) (N := 7) hx hb hts zi_X9_onWay_X9 tyX9 tyX9_ok nmX9 hown hK hP hD hS 0 rfl rfl 6 (by decide) (hts (.fieldLink RX9 53 "DiamondRows$Triangles" "waysAhead" "I") zl_X9_onWay_53) (fun _ h9 => h9) rfl (by decide +kernel) rfl rfl (Nat.le_of_ble_eq_true rfl) dX9_onWay_25 (fun H locs hP hD hS => ?_)
  have hP : va_P D vwCl ([((t 0), .inr (9, [.ref (t 1), .ref (t 2), .int (zi t_count), zpg ad n1, .int (zi i2), .int (zi (o2 - (1 : Int))), .int (zi i4)])), ((t 1), .inl (κ 1, 21, .inl (zc t_cornersOf))), ((t 2), .inl (κ 1, 7, .inl (zc t_chosen)))]) H := hP
  have hD : va_D A ([((t 0), .inr (9, [.ref (t 1), .ref (t 2), .int (zi t_count), zpg ad n1, .int (zi i2), .int (zi (o2 - (1 : Int))), .int (zi i4)])), ((t 1), .inl (κ 1, 21, .inl (zc t_cornersOf))), ((t 2), .inl (κ 1, 7, .inl (zc t_chosen)))]) := hD
  refine lv_aload_n hx hb dX9_onWay_28 rfl (lv_at hl 0 rfl) ?_
  refine va_get (D := D) (ci := 9) (v := .int (zi (o2 - (1 : Int)))) (C := RX9) (T := TX9) (N := 7) hx hb hts zi_X9_onWay_X9 hown hK hP 0 rfl rfl 5 (by decide) (hts (.fieldLink RX9 50 "DiamondRows$Triangles" "length" "I") zl_X9_onWay_50) (fun _ h9 => h9) rfl dX9_onWay_29 ?_
  refine zv_bipush hx hb dX9_onWay_32 (by decide) ?_
  obtain ⟨b3, hg⟩ := Go_n hg
  refine zv_icmp_gt (tgt := 51) hx hb dX9_onWay_34 (by decide) b3 (by decide) (fun c10 => ?_) (fun c10 => ?_)
  · have hg := Go_t c10 hg
    refine zv_iconst hx hb dX9_onWay_51 ?_
    exact (Go_s hg) _ _ _ _ hP hD hS dX9_onWay_52
  · have hg := Go_f c10 hg
    refine lv_iload hx hb dX9_onWay_37 (lv_at hl 5 rfl) ?_
    obtain ⟨b4, hg⟩ := Go_n hg
    refine zv_if_lt (tgt := 51) hx hb dX9_onWay_39 (by decide) b4 (fun c9 => ?_) (fun c9 => ?_)
    · have hg := Go_t c9 hg
      refine zv_iconst hx hb dX9_onWay_51 ?_
      exact (Go_s hg) _ _ _ _ hP hD hS dX9_onWay_52
    · have hg := Go_f c9 hg
      refine lv_iload hx hb dX9_onWay_42 (lv_at hl 5 rfl) ?_
      refine lv_aload_n hx hb dX9_onWay_44 rfl (lv_at hl 0 rfl) ?_
      refine va_get (D := D) (ci := 9) (v := .int (zi (o2 - (1 : Int)))) (C := RX9) (T := TX9) (N := 7) hx hb hts zi_X9_onWay_X9 hown hK hP 0 rfl rfl 5 (by decide) (hts (.fieldLink RX9 50 "DiamondRows$Triangles" "length" "I") zl_X9_onWay_50) (fun _ h9 => h9) rfl dX9_onWay_45 ?_
      refine zv_icmp_lt (tgt := 53) hx hb dX9_onWay_48 (by decide) b4 b3 (fun c8 => ?_) (fun c8 => ?_)
      · have hg := Go_t c8 hg
        refine lv_aload_n hx hb dX9_onWay_53 rfl (lv_at hl 0 rfl) ?_
        refine zv_iconst hx hb dX9_onWay_54 ?_
        refine zv_iconst hx hb dX9_onWay_55 ?_
        obtain ⟨o5, ho5, hg⟩ := Go_b hg
        refine zj_i (wr := []) (ws1 := [((t 0), .inr (9, [.ref (t 1), .ref (t 2), .int (zi t_count), zpg ad n1, .int (zi i2), .int (zi (o2 - (1 : Int))), .int (zi (o5.2.1))])), ((t 1), .inl (κ 1, 21, .inl (zc t_cornersOf))), ((t 2), .inl (κ 1, 7, .inl (zc (o5.2.2))))]) (va_runV (rest := []) ⟨hx, hb, hml, hown, hts⟩ (zc_X9_choose l D κ t mk ad 10 H.size t_count n1 i2 (o2 - (1 : Int)) i4 t_cornersOf t_chosen (0 : Int) (0 : Int) o5 ho5) (cwV 2 hts gX9_onWay_X9_choose rfl rfl rfl hv_X9_choose ⟨Nat.le_of_ble_eq_true rfl, Nat.le_of_ble_eq_true rfl⟩) (zpreWVa hK (hP.sub [0, 1, 2] rfl) (hD.sub [0, 1, 2] (by decide) rfl) (zamb hB hBA hS) (zapt hBA hS (va_free hD hS hA [0, 1, 2] rfl)) 9 0 rfl rfl) rfl rfl hl.1 rfl (lv_room (Nat.le_of_ble_eq_true rfl)) dX9_onWay_56 ⟨Nat.zero_le _, Nat.zero_le _⟩) hP hD hS hA [0, 1, 2] [] [0, 1, 2] rfl rfl (by decide) (by decide) rfl rfl (by decide) (fun H locs hP hD hS => ?_)
        refine zv_ifb_eq (tgt := 72) hx hb dX9_onWay_59 (by decide) (fun c7 => ?_) (fun c7 => ?_)
        · have hg := Go_t c7 hg
          refine zv_bipush hx hb dX9_onWay_72 (by decide) ?_
          exact (Go_s hg) _ _ _ _ hP hD hS dX9_onWay_74
        · have hg := Go_f c7 hg
          refine lv_aload_n hx hb dX9_onWay_62 rfl (lv_at hl 0 rfl) ?_
          refine va_get (D := D) (ci := 9) (v := .ref (t 2)) (C := RX9) (T := TX9) (N := 7) hx hb hts zi_X9_onWay_X9 hown hK hP 0 rfl rfl 1 (by decide) (hts (.fieldLink RX9 15 "DiamondRows$Triangles" "chosen" "[I") zl_X9_onWay_15) (fun _ h9 => h9) rfl dX9_onWay_63 ?_
          refine lv_iload hx hb dX9_onWay_66 (lv_at hl 5 rfl) ?_
          obtain ⟨n6, hg⟩ := Go_n hg
          refine zv_iald hx hb hK hP 2 1 rfl rfl (by decide) n6 dX9_onWay_68 ?_
          refine lv_goto (tgt := 74) hx hb dX9_onWay_69 (by decide) ?_
          exact (Go_s hg) _ _ _ _ hP hD hS dX9_onWay_74
      · have hg := Go_f c8 hg
        refine zv_iconst hx hb dX9_onWay_51 ?_
        exact (Go_s hg) _ _ _ _ hP hD hS dX9_onWay_52
set_option maxHeartbeats 4000000 in
set_option maxRecDepth 100000 in
theorem zc_X9_onWay (l : Launch) (D : va_G) (κ : Nat → ClassId) (t : Nat → Nat) (mk : Nat) (ad : Nat → Nat → Nat) (sz : Nat) (t_count : Int) (t_polygon : Nat) (t_from : Int) (t_length : Int) (t_waysAhead : Int) (t_cornersOf : Nat) (t_chosen : Nat) (n1 : Nat) (i2 : Int) (i3 : Int) (i4 : Int) (i5 : Int) (out : Int × Nat × Int × Int × Int × Nat) (h : zf_X9_onWay mk t_count t_polygon t_from t_length t_waysAhead t_cornersOf t_chosen n1 i2 i3 i4 i5 = some out) : Met l yX9_onWay wsX9_onWay zr_X9_onWay (va_Pc [.ref (t 0), .ref (ad n1 0), .int (zi i2), .int (zi i3), .int (zi i4), .int (zi i5)] (zWa D κ mk ad ([((t 0), .inr (9, [.ref (t 1), .ref (t 2), .int (zi t_count), zpg ad t_polygon, .int (zi t_from), .int (zi t_length), .int (zi t_waysAhead)])), ((t 1), .inl (κ 1, 21, .inl (zc t_cornersOf))), ((t 2), .inl (κ 1, 7, .inl (zc t_chosen)))]) sz)) (va_Qi (fun r (_ : Unit) => r = zi (out.1)) (fun _ => zB D κ (va_A ([((t 0), .inr (9, [.ref (t 1), .ref (t 2), .int (zi t_count), zpg ad t_polygon, .int (zi t_from), .int (zi t_length), .int (zi t_waysAhead)])), ((t 1), .inl (κ 1, 21, .inl (zc t_cornersOf))), ((t 2), .inl (κ 1, 7, .inl (zc t_chosen)))]) sz) ([((t 0), .inr (9, [.ref (t 1), .ref (t 2), .int (zi t_count), zpg ad (out.2.1), .int (zi (out.2.2.1)), .int (zi (out.2.2.2.1)), .int (zi (out.2.2.2.2.1))])), ((t 1), .inl (κ 1, 21, .inl (zc t_cornersOf))), ((t 2), .inl (κ 1, 7, .inl (zc (out.2.2.2.2.2))))])) (va_A ([((t 0), .inr (9, [.ref (t 1), .ref (t 2), .int (zi t_count), zpg ad t_polygon, .int (zi t_from), .int (zi t_length), .int (zi t_waysAhead)])), ((t 1), .inl (κ 1, 21, .inl (zc t_cornersOf))), ((t 2), .inl (κ 1, 7, .inl (zc t_chosen)))]) sz)) 0 0 (va_A ([((t 0), .inr (9, [.ref (t 1), .ref (t 2), .int (zi t_count), zpg ad t_polygon, .int (zi t_from), .int (zi t_length), .int (zi t_waysAhead)])), ((t 1), .inl (κ 1, 21, .inl (zc t_cornersOf))), ((t 2), .inl (κ 1, 7, .inl (zc t_chosen)))]) sz) := by
  refine Met.ofW (cc := cX9_onWay) (maxL := 6) (ret := (some .int)) (by decide +kernel) rfl ?_
  intro p e s m args below meth c s₁ B hml hv
  obtain ⟨rfl, hsz, hP, hK, hD0, hB, hBA⟩ := hv
  have hx := B.exec
  have hb := B.bytes
  have hr := B.returns
  have hts := atoms_spec (ws := wsX9_onWay) B.pre
  have hown : s.vm.findClass RX9 = some m.cls := findClass_of_methodNamed B.named
  have hlocks := B.notSynchronized
  subst hsz
  have hD := hD0.self (sz := s.heap.size)
  generalize hAe : va_A ([((t 0), .inr (9, [.ref (t 1), .ref (t 2), .int (zi t_count), zpg ad t_polygon, .int (zi t_from), .int (zi t_length), .int (zi t_waysAhead)])), ((t 1), .inl (κ 1, 21, .inl (zc t_cornersOf))), ((t 2), .inl (κ 1, 7, .inl (zc t_chosen)))]) s.heap.size = A at hD hBA ⊢
  have hA : ∀ q : Nat, s.heap.size ≤ q → A q := fun q h => by rw [← hAe]; exact Or.inr h
  have hS : va_S A s.heap s.heap [] := va_S.rf
  have hl := lv_entry ([.ref (t 0), .ref (ad n1 0), .int (zi i2), .int (zi i3), .int (zi i4), .int (zi i5)]) (n := 6) (Nat.le_of_ble_eq_true rfl)
  rw [lg_entry_eq]
  generalize (lg_sl ([.ref (t 0), .ref (ad n1 0), .int (zi i2), .int (zi i3), .int (zi i4), .int (zi i5)]) ++ List.replicate (6 - (lg_sl ([.ref (t 0), .ref (ad n1 0), .int (zi i2), .int (zi i3), .int (zi i4), .int (zi i5)])).length) Slot.unset).toArray = ls at hl ⊢
  have hl : lv_has ls 6 [(0, .ref (t 0)), (1, .ref (ad n1 0)), (2, .int (zi i2)), (3, .int (zi i3)), (4, .int (zi i4)), (5, .int (zi i5))] := hl
  refine zs_X9_onWay t mk ad t_count t_polygon t_from t_length t_waysAhead t_cornersOf t_chosen n1 i2 i3 i4 i5 hx hb hml hown hts hK hA hB hBA s.heap [] ls hP hD hS hl ⟨out, h, ?_⟩
  exact fun H locs ls pc hP hD hS hd => W.iret hx hb hr (fun t ht hW => ⟨⟨_, (), rfl, rfl, by rw [ht]; exact hP, va_K.moved hW.alike hK, hD⟩, hS.F ht⟩) hS.2.2 hd
end

section
/-! DiamondRows$Fitting.size()I -/
abbrev zr_X3_size : Room := { frames := 0, cells := 0, slots := 0, locals := 0 }
noncomputable def zf_X3_size  (t_size : Int)  : Option (Int) :=
  some (t_size)
theorem zi_X3_size_X3 : ∀ w ∈ u_ws RX3 TX3 3, w ∈ wsX3_size := fun w h => (List.mem_cons_of_mem _ (List.mem_append_right _ h))
theorem zl_X3_size_18 : Cond.fieldLink RX3 18 "DiamondRows$Fitting" "size" "I" ∈ wsX3_size := (List.mem_cons_of_mem _ (List.mem_append_left _ (List.mem_of_getElem? (i := 0) rfl)))
def zQ_X3_size (p : Program) (l : Launch) (e : Env) (s : State) (m : MethodId) (args : Array Value) (below : List Frame) (meth : Method) (c : Code) (Q : State → Prop) (H : Heap) (locs : List Loc)  (o : Int) : Prop := ∀ (ls : Array Slot) (pc : Nat), decode cX3_size pc = .ok (.ireturn, 1) → W p l e zr_X3_size s m args below meth c H locs 0 0 Q (F0 m pc ls [.int (zi o)])
set_option maxHeartbeats 4000000 in
set_option maxRecDepth 100000 in
theorem zs_X3_size {p : Program} {l : Launch} {e : Env} {s : State} {m : MethodId} {args : Array Value} {below : List Frame} {meth : Method} {c : Code} {Q : State → Prop} {D : va_G} {κ : Nat → ClassId} {H : Heap} {locs : List Loc} (t : Nat → Nat) (t_size : Int) (t_numbers : Nat) (t_tally : Nat)  (hx : p.tables.exec = Jvm.exec) (hb : c.code = cX3_size) (hml : c.maxLocals = 1) (hown : s.vm.findClass RX3 = some m.cls) (hts : ∀ w ∈ wsX3_size, w.before args s = true) (hK : va_K D vwCl (zTY κ) s) (hP : va_P D vwCl ([((t 0), .inr (3, [.ref (t 1), .ref (t 2), .int (zi t_size)])), ((t 1), .inl (κ 1, 429, .inl (zc t_numbers))), ((t 2), .inl (κ 1, 22, .inl (zc t_tally)))]) H) (ls : Array Slot) (hl : lv_has ls 1 [(0, .ref (t 0))]) (hg : Go (zQ_X3_size p l e s m args below meth c Q H locs) (zf_X3_size t_size )) : W p l e zr_X3_size s m args below meth c H locs 0 0 Q (F0 m 0 ls []) := by
  unfold zf_X3_size at hg
  refine lv_aload_n hx hb dX3_size_0 rfl (lv_at hl 0 rfl) ?_
  refine va_get (D := D) (ci := 3) (v := .int (zi t_size)) (C := RX3) (T := TX3) (N := 3) hx hb hts zi_X3_size_X3 hown hK hP 0 rfl rfl 2 (by decide) (hts (.fieldLink RX3 18 "DiamondRows$Fitting" "size" "I") zl_X3_size_18) (fun _ h9 => h9) rfl dX3_size_1 ?_
  exact (Go_s hg) _ _ dX3_size_4
set_option maxHeartbeats 4000000 in
set_option maxRecDepth 100000 in
theorem zc_X3_size (l : Launch) (D : va_G) (κ : Nat → ClassId) (t : Nat → Nat) (t_size : Int) (t_numbers : Nat) (t_tally : Nat)  (out : Int) (h : zf_X3_size t_size  = some out) : Met l yX3_size wsX3_size zr_X3_size (va_Pc [.ref (t 0)] (zR D κ ([((t 0), .inr (3, [.ref (t 1), .ref (t 2), .int (zi t_size)])), ((t 1), .inl (κ 1, 429, .inl (zc t_numbers))), ((t 2), .inl (κ 1, 22, .inl (zc t_tally)))]))) (vp_Si (fun x => x = zi out)) 0 0 (fun _ => False) := by
  refine Met.ofW (cc := cX3_size) (maxL := 1) (ret := (some .int)) (by decide +kernel) rfl ?_
  intro p e s m args below meth c s₁ B hml hv
  obtain ⟨rfl, hP, hK⟩ := hv
  have hx := B.exec
  have hb := B.bytes
  have hr := B.returns
  have hts := atoms_spec (ws := wsX3_size) B.pre
  have hown : s.vm.findClass RX3 = some m.cls := findClass_of_methodNamed B.named
  have hlocks := B.notSynchronized
  have hl := lv_entry ([.ref (t 0)]) (n := 1) (Nat.le_of_ble_eq_true rfl)
  rw [lg_entry_eq]
  generalize (lg_sl ([.ref (t 0)]) ++ List.replicate (1 - (lg_sl ([.ref (t 0)])).length) Slot.unset).toArray = ls at hl ⊢
  have hl : lv_has ls 1 [(0, .ref (t 0))] := hl
  refine zs_X3_size t t_size t_numbers t_tally  hx hb hml hown hts hK hP ls hl ⟨out, h, ?_⟩
  exact fun ls pc hd => W.iret hx hb hr (fun t ht hW => ⟨_, rfl, rfl, ht⟩) (fun _ h => by cases h) hd
/-! DiamondRows$Fitting.gather(LDiamondRows$Polygon;LDiamondRows$Sightings;I)V -/
abbrev zr_X3_gather : Room := { frames := 4, cells := 0, slots := 0, locals := 94 }
abbrev zS_X3_gather : Type := Nat × Int × Int × Int × Nat × Nat
abbrev zO_X3_gather : Type := Int × Nat × Nat
noncomputable def zg_X3_gather_0 (mk : Nat) (q2_size : Int) (q2_rights : Int) (q2_seenStep : Nat) (q2_seenFrom : Nat) (q2_seenTo : Nat) (q2_seenValue : Nat) (q2_rightStep : Nat) (q2_rightOf : Nat) (q2_rightValue : Nat) (n1 : Nat) (i3 : Int) (i4 : Int) (t_size : Int) (t_numbers : Nat) (q2_knownValue : Nat) : Option (zO_X3_gather ⊕ zS_X3_gather) :=
  Option.bind (zf_X7_recall q2_size q2_rights q2_seenStep q2_seenValue q2_rightStep q2_rightOf q2_rightValue q2_knownValue i3) (fun o1 =>
  some (.inr (13, i3, (0 : Int), (0 : Int), t_numbers, o1)))
noncomputable def zg_X3_gather_13 (mk : Nat) (q2_size : Int) (q2_rights : Int) (q2_seenStep : Nat) (q2_seenFrom : Nat) (q2_seenTo : Nat) (q2_seenValue : Nat) (q2_rightStep : Nat) (q2_rightOf : Nat) (q2_rightValue : Nat) (n1 : Nat) (i3 : Int) (i4 : Int) (t_size : Int) (t_numbers : Nat) (q2_knownValue : Nat) : Option (zO_X3_gather ⊕ zS_X3_gather) :=
  if zno mk n1 then none else
  Option.bind (zf_X5_cutCount n1) (fun o3 =>
  if zout i4 then none else
  if zout o3 then none else
  if o3 ≤ i4 then
  some (.inl (t_size, t_numbers, q2_knownValue))
  else
  if (429 : Int) ≤ i4 then
  some (.inl (t_size, t_numbers, q2_knownValue))
  else
  Option.bind (zf_X5_cutAt n1 i4) (fun o6 =>
  Option.bind (zf_X7_agreeWith mk q2_size q2_seenFrom q2_seenTo q2_knownValue n1 o6) (fun o7 =>
  if o7 = false then
  some (.inr (13, 0, (i4 + (1 : Int)), t_size, t_numbers, q2_knownValue))
  else
  if t_size < 0 ∨ 429 ≤ t_size then none else
  some (.inr (13, 0, (i4 + (1 : Int)), (t_size + (1 : Int)), (zset t_numbers (Int.toNat t_size) i4), q2_knownValue)))))
noncomputable def zg_X3_gather (mk : Nat) (q2_size : Int) (q2_rights : Int) (q2_seenStep : Nat) (q2_seenFrom : Nat) (q2_seenTo : Nat) (q2_seenValue : Nat) (q2_rightStep : Nat) (q2_rightOf : Nat) (q2_rightValue : Nat) (n1 : Nat) (st : zS_X3_gather) : Option (zO_X3_gather ⊕ zS_X3_gather) := match st with
  | (lab, i3, i4, t_size, t_numbers, q2_knownValue) => if lab = 0 then zg_X3_gather_0 mk q2_size q2_rights q2_seenStep q2_seenFrom q2_seenTo q2_seenValue q2_rightStep q2_rightOf q2_rightValue n1 i3 i4 t_size t_numbers q2_knownValue else if lab = 13 then zg_X3_gather_13 mk q2_size q2_rights q2_seenStep q2_seenFrom q2_seenTo q2_seenValue q2_rightStep q2_rightOf q2_rightValue n1 i3 i4 t_size t_numbers q2_knownValue else none
noncomputable def zf_X3_gather (mk : Nat) (t_size : Int) (t_numbers : Nat) (q2_size : Int) (q2_rights : Int) (q2_seenStep : Nat) (q2_seenFrom : Nat) (q2_seenTo : Nat) (q2_seenValue : Nat) (q2_rightStep : Nat) (q2_rightOf : Nat) (q2_rightValue : Nat) (q2_knownValue : Nat) (n1 : Nat) (i3 : Int) : Option (Int × Nat × Nat) := jrun (zg_X3_gather mk q2_size q2_rights q2_seenStep q2_seenFrom q2_seenTo q2_seenValue q2_rightStep q2_rightOf q2_rightValue n1) jfuel (0, i3, 0, t_size, t_numbers, q2_knownValue)
theorem zi_X3_gather_X3 : ∀ w ∈ u_ws RX3 TX3 3, w ∈ wsX3_gather := fun w h => (List.mem_cons_of_mem _ (List.mem_append_right _ (List.mem_append_left _ h)))
theorem zl_X3_gather_9 : Cond.fieldLink RX3 9 "DiamondRows$Fitting" "numbers" "[I" ∈ wsX3_gather := (List.mem_cons_of_mem _ (List.mem_append_left _ (List.mem_of_getElem? (i := 1) rfl)))
theorem zl_X3_gather_18 : Cond.fieldLink RX3 18 "DiamondRows$Fitting" "size" "I" ∈ wsX3_gather := (List.mem_cons_of_mem _ (List.mem_append_left _ (List.mem_of_getElem? (i := 0) rfl)))
def zQ_X3_gather (p : Program) (l : Launch) (e : Env) (s : State) (m : MethodId) (args : Array Value) (below : List Frame) (meth : Method) (c : Code) (Q : State → Prop) (D : va_G) (κ : Nat → ClassId) (A : Nat → Prop) (H0 : Heap) (t : Nat → Nat) (q2 : Nat → Nat) (mk : Nat) (ad : Nat → Nat → Nat) (t_tally : Nat) (q2_size : Int) (q2_rights : Int) (q2_latest : Int) (q2_seenStep : Nat) (q2_seenFrom : Nat) (q2_seenTo : Nat) (q2_seenValue : Nat) (q2_timesRight : Nat) (q2_rightStep : Nat) (q2_rightOf : Nat) (q2_rightValue : Nat) (n1 : Nat) (o : Int × Nat × Nat) : Prop := ∀ (H : Heap) (locs : List Loc) (ls : Array Slot) (pc : Nat), va_P D vwCl ([((t 0), .inr (3, [.ref (t 1), .ref (t 2), .int (zi (o.1))])), ((t 1), .inl (κ 1, 429, .inl (zc (o.2.1)))), ((t 2), .inl (κ 1, 22, .inl (zc t_tally))), ((q2 0), .inr (7, [.ref (q2 1), .ref (q2 2), .ref (q2 3), .ref (q2 4), .ref (q2 5), .ref (q2 6), .ref (q2 7), .ref (q2 8), .ref (q2 9), .int (zi q2_size), .int (zi q2_rights), .int (zi q2_latest)])), ((q2 1), .inl (κ 1, 20, .inl (zc q2_seenStep))), ((q2 2), .inl (κ 1, 20, .inl (zc q2_seenFrom))), ((q2 3), .inl (κ 1, 20, .inl (zc q2_seenTo))), ((q2 4), .inl (κ 1, 20, .inl (zc q2_seenValue))), ((q2 5), .inl (κ 1, 20, .inl (zc q2_timesRight))), ((q2 6), .inl (κ 1, 20, .inl (zc q2_rightStep))), ((q2 7), .inl (κ 1, 20, .inl (zc q2_rightOf))), ((q2 8), .inl (κ 1, 20, .inl (zc q2_rightValue))), ((q2 9), .inl (κ 1, 20, .inl (zc (o.2.2))))]) H → va_D A ([((t 0), .inr (3, [.ref (t 1), .ref (t 2), .int (zi (o.1))])), ((t 1), .inl (κ 1, 429, .inl (zc (o.2.1)))), ((t 2), .inl (κ 1, 22, .inl (zc t_tally))), ((q2 0), .inr (7, [.ref (q2 1), .ref (q2 2), .ref (q2 3), .ref (q2 4), .ref (q2 5), .ref (q2 6), .ref (q2 7), .ref (q2 8), .ref (q2 9), .int (zi q2_size), .int (zi q2_rights), .int (zi q2_latest)])), ((q2 1), .inl (κ 1, 20, .inl (zc q2_seenStep))), ((q2 2), .inl (κ 1, 20, .inl (zc q2_seenFrom))), ((q2 3), .inl (κ 1, 20, .inl (zc q2_seenTo))), ((q2 4), .inl (κ 1, 20, .inl (zc q2_seenValue))), ((q2 5), .inl (κ 1, 20, .inl (zc q2_timesRight))), ((q2 6), .inl (κ 1, 20, .inl (zc q2_rightStep))), ((q2 7), .inl (κ 1, 20, .inl (zc q2_rightOf))), ((q2 8), .inl (κ 1, 20, .inl (zc q2_rightValue))), ((q2 9), .inl (κ 1, 20, .inl (zc (o.2.2))))]) → va_S A H0 H locs → decode cX3_gather pc = .ok (.return_, 1) → W p l e zr_X3_gather s m args below meth c H locs 0 0 Q (F0 m pc ls [])
def zA_X3_gather_0 (p : Program) (l : Launch) (e : Env) (s : State) (m : MethodId) (args : Array Value) (below : List Frame) (meth : Method) (c : Code) (Q : State → Prop) (D : va_G) (κ : Nat → ClassId) (A : Nat → Prop) (H0 : Heap) (t : Nat → Nat) (q2 : Nat → Nat) (mk : Nat) (ad : Nat → Nat → Nat) (t_tally : Nat) (q2_size : Int) (q2_rights : Int) (q2_latest : Int) (q2_seenStep : Nat) (q2_seenFrom : Nat) (q2_seenTo : Nat) (q2_seenValue : Nat) (q2_timesRight : Nat) (q2_rightStep : Nat) (q2_rightOf : Nat) (q2_rightValue : Nat) (n1 : Nat) (i3 : Int) (i4 : Int) (t_size : Int) (t_numbers : Nat) (q2_knownValue : Nat) : Prop := ∀ (H : Heap) (locs : List Loc) (ls : Array Slot), va_P D vwCl ([((t 0), .inr (3, [.ref (t 1), .ref (t 2), .int (zi t_size)])), ((t 1), .inl (κ 1, 429, .inl (zc t_numbers))), ((t 2), .inl (κ 1, 22, .inl (zc t_tally))), ((q2 0), .inr (7, [.ref (q2 1), .ref (q2 2), .ref (q2 3), .ref (q2 4), .ref (q2 5), .ref (q2 6), .ref (q2 7), .ref (q2 8), .ref (q2 9), .int (zi q2_size), .int (zi q2_rights), .int (zi q2_latest)])), ((q2 1), .inl (κ 1, 20, .inl (zc q2_seenStep))), ((q2 2), .inl (κ 1, 20, .inl (zc q2_seenFrom))), ((q2 3), .inl (κ 1, 20, .inl (zc q2_seenTo))), ((q2 4), .inl (κ 1, 20, .inl (zc q2_seenValue))), ((q2 5), .inl (κ 1, 20, .inl (zc q2_timesRight))), ((q2 6), .inl (κ 1, 20, .inl (zc q2_rightStep))), ((q2 7), .inl (κ 1, 20, .inl (zc q2_rightOf))), ((q2 8), .inl (κ 1, 20, .inl (zc q2_rightValue))), ((q2 9), .inl (κ 1, 20, .inl (zc q2_knownValue)))]) H → va_D A ([((t 0), .inr (3, [.ref (t 1), .ref (t 2), .int (zi t_size)])), ((t 1), .inl (κ 1, 429, .inl (zc t_numbers))), ((t 2), .inl (κ 1, 22, .inl (zc t_tally))), ((q2 0), .inr (7, [.ref (q2 1), .ref (q2 2), .ref (q2 3), .ref (q2 4), .ref (q2 5), .ref (q2 6), .ref (q2 7), .ref (q2 8), .ref (q2 9), .int (zi q2_size), .int (zi q2_rights), .int (zi q2_latest)])), ((q2 1), .inl (κ 1, 20, .inl (zc q2_seenStep))), ((q2 2), .inl (κ 1, 20, .inl (zc q2_seenFrom))), ((q2 3), .inl (κ 1, 20, .inl (zc q2_seenTo))), ((q2 4), .inl (κ 1, 20, .inl (zc q2_seenValue))), ((q2 5), .inl (κ 1, 20, .inl (zc q2_timesRight))), ((q2 6), .inl (κ 1, 20, .inl (zc q2_rightStep))), ((q2 7), .inl (κ 1, 20, .inl (zc q2_rightOf))), ((q2 8), .inl (κ 1, 20, .inl (zc q2_rightValue))), ((q2 9), .inl (κ 1, 20, .inl (zc q2_knownValue)))]) → va_S A H0 H locs → lv_has ls 5 [(0, .ref (t 0)), (1, .ref (ad n1 0)), (2, .ref (q2 0)), (3, .int (zi i3))] → W p l e zr_X3_gather s m args below meth c H locs 0 0 Q (F0 m 0 ls [])
def zA_X3_gather_13 (p : Program) (l : Launch) (e : Env) (s : State) (m : MethodId) (args : Array Value) (below : List Frame) (meth : Method) (c : Code) (Q : State → Prop) (D : va_G) (κ : Nat → ClassId) (A : Nat → Prop) (H0 : Heap) (t : Nat → Nat) (q2 : Nat → Nat) (mk : Nat) (ad : Nat → Nat → Nat) (t_tally : Nat) (q2_size : Int) (q2_rights : Int) (q2_latest : Int) (q2_seenStep : Nat) (q2_seenFrom : Nat) (q2_seenTo : Nat) (q2_seenValue : Nat) (q2_timesRight : Nat) (q2_rightStep : Nat) (q2_rightOf : Nat) (q2_rightValue : Nat) (n1 : Nat) (i3 : Int) (i4 : Int) (t_size : Int) (t_numbers : Nat) (q2_knownValue : Nat) : Prop := ∀ (H : Heap) (locs : List Loc) (ls : Array Slot), va_P D vwCl ([((t 0), .inr (3, [.ref (t 1), .ref (t 2), .int (zi t_size)])), ((t 1), .inl (κ 1, 429, .inl (zc t_numbers))), ((t 2), .inl (κ 1, 22, .inl (zc t_tally))), ((q2 0), .inr (7, [.ref (q2 1), .ref (q2 2), .ref (q2 3), .ref (q2 4), .ref (q2 5), .ref (q2 6), .ref (q2 7), .ref (q2 8), .ref (q2 9), .int (zi q2_size), .int (zi q2_rights), .int (zi q2_latest)])), ((q2 1), .inl (κ 1, 20, .inl (zc q2_seenStep))), ((q2 2), .inl (κ 1, 20, .inl (zc q2_seenFrom))), ((q2 3), .inl (κ 1, 20, .inl (zc q2_seenTo))), ((q2 4), .inl (κ 1, 20, .inl (zc q2_seenValue))), ((q2 5), .inl (κ 1, 20, .inl (zc q2_timesRight))), ((q2 6), .inl (κ 1, 20, .inl (zc q2_rightStep))), ((q2 7), .inl (κ 1, 20, .inl (zc q2_rightOf))), ((q2 8), .inl (κ 1, 20, .inl (zc q2_rightValue))), ((q2 9), .inl (κ 1, 20, .inl (zc q2_knownValue)))]) H → va_D A ([((t 0), .inr (3, [.ref (t 1), .ref (t 2), .int (zi t_size)])), ((t 1), .inl (κ 1, 429, .inl (zc t_numbers))), ((t 2), .inl (κ 1, 22, .inl (zc t_tally))), ((q2 0), .inr (7, [.ref (q2 1), .ref (q2 2), .ref (q2 3), .ref (q2 4), .ref (q2 5), .ref (q2 6), .ref (q2 7), .ref (q2 8), .ref (q2 9), .int (zi q2_size), .int (zi q2_rights), .int (zi q2_latest)])), ((q2 1), .inl (κ 1, 20, .inl (zc q2_seenStep))), ((q2 2), .inl (κ 1, 20, .inl (zc q2_seenFrom))), ((q2 3), .inl (κ 1, 20, .inl (zc q2_seenTo))), ((q2 4), .inl (κ 1, 20, .inl (zc q2_seenValue))), ((q2 5), .inl (κ 1, 20, .inl (zc q2_timesRight))), ((q2 6), .inl (κ 1, 20, .inl (zc q2_rightStep))), ((q2 7), .inl (κ 1, 20, .inl (zc q2_rightOf))), ((q2 8), .inl (κ 1, 20, .inl (zc q2_rightValue))), ((q2 9), .inl (κ 1, 20, .inl (zc q2_knownValue)))]) → va_S A H0 H locs → lv_has ls 5 [(0, .ref (t 0)), (1, .ref (ad n1 0)), (2, .ref (q2 0)), (4, .int (zi i4))] → W p l e zr_X3_gather s m args below meth c H locs 0 0 Q (F0 m 13 ls [])
def zA_X3_gather (p : Program) (l : Launch) (e : Env) (s : State) (m : MethodId) (args : Array Value) (below : List Frame) (meth : Method) (c : Code) (Q : State → Prop) (D : va_G) (κ : Nat → ClassId) (A : Nat → Prop) (H0 : Heap) (t : Nat → Nat) (q2 : Nat → Nat) (mk : Nat) (ad : Nat → Nat → Nat) (t_tally : Nat) (q2_size : Int) (q2_rights : Int) (q2_latest : Int) (q2_seenStep : Nat) (q2_seenFrom : Nat) (q2_seenTo : Nat) (q2_seenValue : Nat) (q2_timesRight : Nat) (q2_rightStep : Nat) (q2_rightOf : Nat) (q2_rightValue : Nat) (n1 : Nat) (st : zS_X3_gather) : Prop := match st with
  | (lab, i3, i4, t_size, t_numbers, q2_knownValue) => if lab = 0 then zA_X3_gather_0 p l e s m args below meth c Q D κ A H0 t q2 mk ad t_tally q2_size q2_rights q2_latest q2_seenStep q2_seenFrom q2_seenTo q2_seenValue q2_timesRight q2_rightStep q2_rightOf q2_rightValue n1 i3 i4 t_size t_numbers q2_knownValue else if lab = 13 then zA_X3_gather_13 p l e s m args below meth c Q D κ A H0 t q2 mk ad t_tally q2_size q2_rights q2_latest q2_seenStep q2_seenFrom q2_seenTo q2_seenValue q2_timesRight q2_rightStep q2_rightOf q2_rightValue n1 i3 i4 t_size t_numbers q2_knownValue else True
set_option maxHeartbeats 4000000 in
set_option maxRecDepth 100000 in
theorem zs_X3_gather_0 {p : Program} {l : Launch} {e : Env} {s : State} {m : MethodId} {args : Array Value} {below : List Frame} {meth : Method} {c : Code} {Q : State → Prop} {D : va_G} {κ : Nat → ClassId} {A : Nat → Prop} {H0 : Heap} (t : Nat → Nat) (q2 : Nat → Nat) (mk : Nat) (ad : Nat → Nat → Nat) (t_tally : Nat) (q2_size : Int) (q2_rights : Int) (q2_latest : Int) (q2_seenStep : Nat) (q2_seenFrom : Nat) (q2_seenTo : Nat) (q2_seenValue : Nat) (q2_timesRight : Nat) (q2_rightStep : Nat) (q2_rightOf : Nat) (q2_rightValue : Nat) (n1 : Nat) (hx : p.tables.exec = Jvm.exec) (hb : c.code = cX3_gather) (hml : c.maxLocals = 5) (hown : s.vm.findClass RX3 = some m.cls) (hts : ∀ w ∈ wsX3_gather, w.before args s = true) (hK : va_K D vwCl (zTY κ) s) (hA : ∀ q : Nat, H0.size ≤ q → A q) (hB : zAmb D κ mk ad H0) (hBA : zApt mk ad A H0.size) (i3 : Int) (i4 : Int) (t_size : Int) (t_numbers : Nat) (q2_knownValue : Nat) (hg : Go (GoE (zA_X3_gather p l e s m args below meth c Q D κ A H0 t q2 mk ad t_tally q2_size q2_rights q2_latest q2_seenStep q2_seenFrom q2_seenTo q2_seenValue q2_timesRight q2_rightStep q2_rightOf q2_rightValue n1) (zQ_X3_gather p l e s m args below meth c Q D κ A H0 t q2 mk ad t_tally q2_size q2_rights q2_latest q2_seenStep q2_seenFrom q2_seenTo q2_seenValue q2_timesRight q2_rightStep q2_rightOf q2_rightValue n1)) (zg_X3_gather_0 mk q2_size q2_rights q2_seenStep q2_seenFrom q2_seenTo q2_seenValue q2_rightStep q2_rightOf q2_rightValue n1 i3 i4 t_size t_numbers q2_knownValue)) : zA_X3_gather_0 p l e s m args below meth c Q D κ A H0 t q2 mk ad t_tally q2_size q2_rights q2_latest q2_seenStep q2_seenFrom q2_seenTo q2_seenValue q2_timesRight q2_rightStep q2_rightOf q2_rightValue n1 i3 i4 t_size t_numbers q2_knownValue := by
  intro H locs ls hP hD hS hl
  unfold zg_X3_gather_0 at hg
  refine lv_aload_n hx hb dX3_gather_0 rfl (lv_at hl 2 rfl) ?_
  refine lv_iload_n hx hb dX3_gather_1 rfl (lv_at hl 3 rfl) ?_
  obtain ⟨o1, ho1, hg⟩ := Go_b hg
  refine zj_v (wr := [((t 0), .inr (3, [.ref (t 1), .ref (t 2), .int (zi t_size)])), ((t 1), .inl (κ 1, 429, .inl (zc t_numbers))), ((t 2), .inl (κ 1, 22, .inl (zc t_tally)))]) (ws1 := [((t 0), .inr (3, [.ref (t 1), .ref (t 2), .int (zi t_size)])), ((t 1), .inl (κ 1, 429, .inl (zc t_numbers))), ((t 2), .inl (κ 1, 22, .inl (zc t_tally))), ((q2 0), .inr (7, [.ref (q2 1), .ref (q2 2), .ref (q2 3), .ref (q2 4), .ref (q2 5), .ref (q2 6), .ref (q2 7), .ref (q2 8), .ref (q2 9), .int (zi q2_size), .int (zi q2_rights), .int (zi q2_latest)])), ((q2 1), .inl (κ 1, 20, .inl (zc q2_seenStep))), ((q2 2), .inl (κ 1, 20, .inl (zc q2_seenFrom))), ((q2 3), .inl (κ 1, 20, .inl (zc q2_seenTo))), ((q2 4), .inl (κ 1, 20, .inl (zc q2_seenValue))), ((q2 5), .inl (κ 1, 20, .inl (zc q2_timesRight))), ((q2 6), .inl (κ 1, 20, .inl (zc q2_rightStep))), ((q2 7), .inl (κ 1, 20, .inl (zc q2_rightOf))), ((q2 8), .inl (κ 1, 20, .inl (zc q2_rightValue))), ((q2 9), .inl (κ 1, 20, .inl (zc o1)))]) (va_runV (rest := []) ⟨hx, hb, hml, hown, hts⟩ (zc_X7_recall l D κ q2 H.size q2_size q2_rights q2_latest q2_seenStep q2_seenFrom q2_seenTo q2_seenValue q2_timesRight q2_rightStep q2_rightOf q2_rightValue q2_knownValue i3 o1 ho1) (cwV 1 hts gX3_gather_X7_recall rfl rfl rfl hv_X7_recall ⟨Nat.le_of_ble_eq_true rfl, Nat.le_of_ble_eq_true rfl⟩) (zpreWV hK (hP.sub [3, 4, 5, 6, 7, 8, 9, 10, 11, 12] rfl) (hD.sub [3, 4, 5, 6, 7, 8, 9, 10, 11, 12] (by decide) rfl) 7 0 rfl rfl) rfl rfl hl.1 rfl (lv_room (Nat.le_of_ble_eq_true rfl)) dX3_gather_2 ⟨Nat.zero_le _, Nat.zero_le _⟩) hP hD hS hA [3, 4, 5, 6, 7, 8, 9, 10, 11, 12] [0, 1, 2] [0, 1, 2, 3, 4, 5, 6, 7, 8, 9, 10, 11, 12] rfl rfl (by decide) (by decide) rfl rfl (by decide) (fun H locs hP hD hS => ?_)
  refine lv_aload_n hx hb dX3_gather_5 rfl (lv_at hl 0 rfl) ?_
  refine zv_iconst hx hb dX3_gather_6 ?_
  refine va_put (D := D) (ci := 3) (v := .int (zi (0 : Int))) (ty := .int) (C := RX3) (T := TX3) (N := 3) hx hb hts zi_X3_gather_X3 tyX3 tyX3_ok nmX3 hown hK hP hD hS 0 rfl rfl 2 (by decide) (hts (.fieldLink RX3 18 "DiamondRows$Fitting" "size" "I") zl_X3_gather_18) (fun _ h9 => h9) rfl (by decide +kernel) rfl rfl (Nat.le_of_ble_eq_true rfl) dX3_gather_7 (fun H locs hP hD hS => ?_)
  have hP : va_P D vwCl ([((t 0), .inr (3, [.ref (t 1), .ref (t 2), .int (zi (0 : Int))])), ((t 1), .inl (κ 1, 429, .inl (zc t_numbers))), ((t 2), .inl (κ 1, 22, .inl (zc t_tally))), ((q2 0), .inr (7, [.ref (q2 1), .ref (q2 2), .ref (q2 3), .ref (q2 4), .ref (q2 5), .ref (q2 6), .ref (q2 7), .ref (q2 8), .ref (q2 9), .int (zi q2_size), .int (zi q2_rights), .int (zi q2_latest)])), ((q2 1), .inl (κ 1, 20, .inl (zc q2_seenStep))), ((q2 2), .inl (κ 1, 20, .inl (zc q2_seenFrom))), ((q2 3), .inl (κ 1, 20, .inl (zc q2_seenTo))), ((q2 4), .inl (κ 1, 20, .inl (zc q2_seenValue))), ((q2 5), .inl (κ 1, 20, .inl (zc q2_timesRight))), ((q2 6), .inl (κ 1, 20, .inl (zc q2_rightStep))), ((q2 7), .inl (κ 1, 20, .inl (zc q2_rightOf))), ((q2 8), .inl (κ 1, 20, .inl (zc q2_rightValue))), ((q2 9), .inl (κ 1, 20, .inl (zc o1)))]) H := hP
  have hD : va_D A ([((t 0), .inr (3, [.ref (t 1), .ref (t 2), .int (zi (0 : Int))])), ((t 1), .inl (κ 1, 429, .inl (zc t_numbers))), ((t 2), .inl (κ 1, 22, .inl (zc t_tally))), ((q2 0), .inr (7, [.ref (q2 1), .ref (q2 2), .ref (q2 3), .ref (q2 4), .ref (q2 5), .ref (q2 6), .ref (q2 7), .ref (q2 8), .ref (q2 9), .int (zi q2_size), .int (zi q2_rights), .int (zi q2_latest)])), ((q2 1), .inl (κ 1, 20, .inl (zc q2_seenStep))), ((q2 2), .inl (κ 1, 20, .inl (zc q2_seenFrom))), ((q2 3), .inl (κ 1, 20, .inl (zc q2_seenTo))), ((q2 4), .inl (κ 1, 20, .inl (zc q2_seenValue))), ((q2 5), .inl (κ 1, 20, .inl (zc q2_timesRight))), ((q2 6), .inl (κ 1, 20, .inl (zc q2_rightStep))), ((q2 7), .inl (κ 1, 20, .inl (zc q2_rightOf))), ((q2 8), .inl (κ 1, 20, .inl (zc q2_rightValue))), ((q2 9), .inl (κ 1, 20, .inl (zc o1)))]) := hD
  refine zv_iconst hx hb dX3_gather_10 ?_
  refine lv_istore (lv' := [(4, .int (zi (0 : Int))), (0, .ref (t 0)), (1, .ref (ad n1 0)), (2, .ref (q2 0)), (3, .int (zi i3))]) hx hb dX3_gather_11 hl (by decide) rfl (fun ls hl => ?_)
  exact (Go_s hg) H locs ls hP hD hS (lv_sub hl [1, 2, 3, 0] rfl)
set_option maxHeartbeats 4000000 in
set_option maxRecDepth 100000 in
theorem zs_X3_gather_13 {p : Program} {l : Launch} {e : Env} {s : State} {m : MethodId} {args : Array Value} {below : List Frame} {meth : Method} {c : Code} {Q : State → Prop} {D : va_G} {κ : Nat → ClassId} {A : Nat → Prop} {H0 : Heap} (t : Nat → Nat) (q2 : Nat → Nat) (mk : Nat) (ad : Nat → Nat → Nat) (t_tally : Nat) (q2_size : Int) (q2_rights : Int) (q2_latest : Int) (q2_seenStep : Nat) (q2_seenFrom : Nat) (q2_seenTo : Nat) (q2_seenValue : Nat) (q2_timesRight : Nat) (q2_rightStep : Nat) (q2_rightOf : Nat) (q2_rightValue : Nat) (n1 : Nat) (hx : p.tables.exec = Jvm.exec) (hb : c.code = cX3_gather) (hml : c.maxLocals = 5) (hown : s.vm.findClass RX3 = some m.cls) (hts : ∀ w ∈ wsX3_gather, w.before args s = true) (hK : va_K D vwCl (zTY κ) s) (hA : ∀ q : Nat, H0.size ≤ q → A q) (hB : zAmb D κ mk ad H0) (hBA : zApt mk ad A H0.size) (i3 : Int) (i4 : Int) (t_size : Int) (t_numbers : Nat) (q2_knownValue : Nat) (hg : Go (GoE (zA_X3_gather p l e s m args below meth c Q D κ A H0 t q2 mk ad t_tally q2_size q2_rights q2_latest q2_seenStep q2_seenFrom q2_seenTo q2_seenValue q2_timesRight q2_rightStep q2_rightOf q2_rightValue n1) (zQ_X3_gather p l e s m args below meth c Q D κ A H0 t q2 mk ad t_tally q2_size q2_rights q2_latest q2_seenStep q2_seenFrom q2_seenTo q2_seenValue q2_timesRight q2_rightStep q2_rightOf q2_rightValue n1)) (zg_X3_gather_13 mk q2_size q2_rights q2_seenStep q2_seenFrom q2_seenTo q2_seenValue q2_rightStep q2_rightOf q2_rightValue n1 i3 i4 t_size t_numbers q2_knownValue)) : zA_X3_gather_13 p l e s m args below meth c Q D κ A H0 t q2 mk ad t_tally q2_size q2_rights q2_latest q2_seenStep q2_seenFrom q2_seenTo q2_seenValue q2_timesRight q2_rightStep q2_rightOf q2_rightValue n1 i3 i4 t_size t_numbers q2_knownValue := by
  intro H locs ls hP hD hS hl
  unfold zg_X3_gather_13 at hg
  refine lv_iload hx hb dX3_gather_13 (lv_at hl 3 rfl) ?_
  refine lv_aload_n hx hb dX3_gather_15 rfl (lv_at hl 1 rfl) ?_
  obtain ⟨m2, hg⟩ := Go_n hg
  obtain ⟨o3, ho3, hg⟩ := Go_b hg
  refine zc_vi (rest := [.int (zi i4)]) ⟨hx, hb, hml, hown, hts⟩ (zc_X5_cutCount l D κ (ad n1) n1  o3 ho3) (cwV 0 hts gX3_gather_X5_cutCount rfl rfl rfl hv_X5_cutCount ⟨Nat.le_of_ble_eq_true rfl, Nat.le_of_ble_eq_true rfl⟩) (zpreV hK ((zamb hB hBA hS) n1 m2) 5 0 rfl rfl) rfl hl.1 rfl (Nat.le_of_ble_eq_true rfl) dX3_gather_16 ⟨Nat.zero_le _, Nat.zero_le _⟩ ?_
  obtain ⟨b4, hg⟩ := Go_n hg
  obtain ⟨b5, hg⟩ := Go_n hg
  refine zv_icmp_ge (tgt := 71) hx hb dX3_gather_19 (by decide) b4 b5 (fun c11 => ?_) (fun c11 => ?_)
  · have hg := Go_t c11 hg
    exact (Go_s hg) _ _ _ _ hP hD hS dX3_gather_71
  · have hg := Go_f c11 hg
    refine lv_iload hx hb dX3_gather_22 (lv_at hl 3 rfl) ?_
    refine zv_sipush hx hb dX3_gather_24 (by decide) ?_
    refine zv_icmp_ge (tgt := 71) hx hb dX3_gather_27 (by decide) b4 (by decide) (fun c10 => ?_) (fun c10 => ?_)
    · have hg := Go_t c10 hg
      exact (Go_s hg) _ _ _ _ hP hD hS dX3_gather_71
    · have hg := Go_f c10 hg
      refine lv_aload_n hx hb dX3_gather_30 rfl (lv_at hl 2 rfl) ?_
      refine lv_aload_n hx hb dX3_gather_31 rfl (lv_at hl 1 rfl) ?_
      refine lv_aload_n hx hb dX3_gather_32 rfl (lv_at hl 1 rfl) ?_
      refine lv_iload hx hb dX3_gather_33 (lv_at hl 3 rfl) ?_
      obtain ⟨o6, ho6, hg⟩ := Go_b hg
      refine zc_vi (rest := [.ref (ad n1 0), .ref (q2 0)]) ⟨hx, hb, hml, hown, hts⟩ (zc_X5_cutAt l D κ (ad n1) n1 i4 o6 ho6) (cwV 1 hts gX3_gather_X5_cutAt rfl rfl rfl hv_X5_cutAt ⟨Nat.le_of_ble_eq_true rfl, Nat.le_of_ble_eq_true rfl⟩) (zpreV hK ((zamb hB hBA hS) n1 m2) 5 0 rfl rfl) rfl hl.1 rfl (Nat.le_of_ble_eq_true rfl) dX3_gather_35 ⟨Nat.zero_le _, Nat.zero_le _⟩ ?_
      obtain ⟨o7, ho7, hg⟩ := Go_b hg
      refine zc_vi (rest := []) ⟨hx, hb, hml, hown, hts⟩ (zc_X7_agreeWith l D κ q2 mk ad q2_size q2_rights q2_latest q2_seenStep q2_seenFrom q2_seenTo q2_seenValue q2_timesRight q2_rightStep q2_rightOf q2_rightValue q2_knownValue n1 o6 o7 ho7) (cwV 2 hts gX3_gather_X7_agreeWith rfl rfl rfl hv_X7_agreeWith ⟨Nat.le_of_ble_eq_true rfl, Nat.le_of_ble_eq_true rfl⟩) (zpreVa hK (hP.sub [3, 4, 5, 6, 7, 8, 9, 10, 11, 12] rfl) (zamb hB hBA hS) 7 0 rfl rfl) rfl hl.1 rfl (Nat.le_of_ble_eq_true rfl) dX3_gather_38 ⟨Nat.zero_le _, Nat.zero_le _⟩ ?_
      refine zv_ifb_eq (tgt := 65) hx hb dX3_gather_41 (by decide) (fun c9 => ?_) (fun c9 => ?_)
      · have hg := Go_t c9 hg
        refine lv_iinc (v := zi (i4 + (1 : Int))) (lv' := [(4, .int (zi (i4 + (1 : Int)))), (0, .ref (t 0)), (1, .ref (ad n1 0)), (2, .ref (q2 0))]) hx hb dX3_gather_65 hl (k := 3) rfl (zi_add i4 _) (by decide) rfl (fun ls hl => ?_)
        refine lv_goto (tgt := 13) hx hb dX3_gather_68 (by decide) ?_
        exact (Go_s hg) H locs ls hP hD hS (lv_sub hl [1, 2, 3, 0] rfl)
      · have hg := Go_f c9 hg
        refine lv_aload_n hx hb dX3_gather_44 rfl (lv_at hl 0 rfl) ?_
        refine va_get (D := D) (ci := 3) (v := .ref (t 1)) (C := RX3) (T := TX3) (N := 3) hx hb hts zi_X3_gather_X3 hown hK hP 0 rfl rfl 0 (by decide) (hts (.fieldLink RX3 9 "DiamondRows$Fitting" "numbers" "[I") zl_X3_gather_9) (fun _ h9 => h9) rfl dX3_gather_45 ?_
        refine lv_aload_n hx hb dX3_gather_48 rfl (lv_at hl 0 rfl) ?_
        refine va_get (D := D) (ci := 3) (v := .int (zi t_size)) (C := RX3) (T := TX3) (N := 3) hx hb hts zi_X3_gather_X3 hown hK hP 0 rfl rfl 2 (by decide) (hts (.fieldLink RX3 18 "DiamondRows$Fitting" "size" "I") zl_X3_gather_18) (fun _ h9 => h9) rfl dX3_gather_49 ?_
        refine lv_iload hx hb dX3_gather_52 (lv_at hl 3 rfl) ?_
        obtain ⟨n8, hg⟩ := Go_n hg
        refine zv_iast hx hb hK hP hD hS 1 1 rfl rfl (by decide) n8 dX3_gather_54 (fun H locs hP hD hS => ?_)
        have hP : va_P D vwCl ([((t 0), .inr (3, [.ref (t 1), .ref (t 2), .int (zi t_size)])), ((t 1), .inl (κ 1, 429, .inl (zc (zset t_numbers (Int.toNat t_size) i4)))), ((t 2), .inl (κ 1, 22, .inl (zc t_tally))), ((q2 0), .inr (7, [.ref (q2 1), .ref (q2 2), .ref (q2 3), .ref (q2 4), .ref (q2 5), .ref (q2 6), .ref (q2 7), .ref (q2 8), .ref (q2 9), .int (zi q2_size), .int (zi q2_rights), .int (zi q2_latest)])), ((q2 1), .inl (κ 1, 20, .inl (zc q2_seenStep))), ((q2 2), .inl (κ 1, 20, .inl (zc q2_seenFrom))), ((q2 3), .inl (κ 1, 20, .inl (zc q2_seenTo))), ((q2 4), .inl (κ 1, 20, .inl (zc q2_seenValue))), ((q2 5), .inl (κ 1, 20, .inl (zc q2_timesRight))), ((q2 6), .inl (κ 1, 20, .inl (zc q2_rightStep))), ((q2 7), .inl (κ 1, 20, .inl (zc q2_rightOf))), ((q2 8), .inl (κ 1, 20, .inl (zc q2_rightValue))), ((q2 9), .inl (κ 1, 20, .inl (zc q2_knownValue)))]) H := hP
        have hD : va_D A ([((t 0), .inr (3, [.ref (t 1), .ref (t 2), .int (zi t_size)])), ((t 1), .inl (κ 1, 429, .inl (zc (zset t_numbers (Int.toNat t_size) i4)))), ((t 2), .inl (κ 1, 22, .inl (zc t_tally))), ((q2 0), .inr (7, [.ref (q2 1), .ref (q2 2), .ref (q2 3), .ref (q2 4), .ref (q2 5), .ref (q2 6), .ref (q2 7), .ref (q2 8), .ref (q2 9), .int (zi q2_size), .int (zi q2_rights), .int (zi q2_latest)])), ((q2 1), .inl (κ 1, 20, .inl (zc q2_seenStep))), ((q2 2), .inl (κ 1, 20, .inl (zc q2_seenFrom))), ((q2 3), .inl (κ 1, 20, .inl (zc q2_seenTo))), ((q2 4), .inl (κ 1, 20, .inl (zc q2_seenValue))), ((q2 5), .inl (κ 1, 20, .inl (zc q2_timesRight))), ((q2 6), .inl (κ 1, 20, .inl (zc q2_rightStep))), ((q2 7), .inl (κ 1, 20, .inl (zc q2_rightOf))), ((q2 8), .inl (κ 1, 20, .inl (zc q2_rightValue))), ((q2 9), .inl (κ 1, 20, .inl (zc q2_knownValue)))]) := hD
        refine lv_aload_n hx hb dX3_gather_55 rfl (lv_at hl 0 rfl) ?_
        refine lv_dup hx hb dX3_gather_56 rfl ?_
        refine va_get (D := D) (ci := 3) (v := .int (zi t_size)) (C := RX3) (T := TX3) (N := 3) hx hb hts zi_X3_gather_X3 hown hK hP 0 rfl rfl 2 (by decide) (hts (.fieldLink RX3 18 "DiamondRows$Fitting" "size" "I") zl_X3_gather_18) (fun _ h9 => h9) rfl dX3_gather_57 ?_
        refine zv_iconst hx hb dX3_gather_60 ?_
        refine zv_iadd hx hb dX3_gather_61 ?_
        refine va_put (D := D) (ci := 3) (v := .int (zi (t_size + (1 : Int)))) (ty := .int) (C := RX3) (T := TX3) (N := 3) hx hb hts zi_X3_gather_X3 tyX3 tyX3_ok nmX3 hown hK hP hD hS 0 rfl rfl 2 (by decide) (hts (.fieldLink RX3 18 "DiamondRows$Fitting" "size" "I") zl_X3_gather_18) (fun _ h9 => h9) rfl (by decide +kernel) rfl rfl (Nat.le_of_ble_eq_true rfl) dX3_gather_62 (fun H locs hP hD hS => ?_)
        have hP : va_P D vwCl ([((t 0), .inr (3, [.ref (t 1), .ref (t 2), .int (zi (t_size + (1 : Int)))])), ((t 1), .inl (κ 1, 429, .inl (zc (zset t_numbers (Int.toNat t_size) i4)))), ((t 2), .inl (κ 1, 22, .inl (zc t_tally))), ((q2 0), .inr (7, [.ref (q2 1), .ref (q2 2), .ref (q2 3), .ref (q2 4), .ref (q2 5), .ref (q2 6), .ref (q2 7), .ref (q2 8), .ref (q2 9), .int (zi q2_size), .int (zi q2_rights), .int (zi q2_latest)])), ((q2 1), .inl (κ 1, 20, .inl (zc q2_seenStep))), ((q2 2), .inl (κ 1, 20, .inl (zc q2_seenFrom))), ((q2 3), .inl (κ 1, 20, .inl (zc q2_seenTo))), ((q2 4), .inl (κ 1, 20, .inl (zc q2_seenValue))), ((q2 5), .inl (κ 1, 20, .inl (zc q2_timesRight))), ((q2 6), .inl (κ 1, 20, .inl (zc q2_rightStep))), ((q2 7), .inl (κ 1, 20, .inl (zc q2_rightOf))), ((q2 8), .inl (κ 1, 20, .inl (zc q2_rightValue))), ((q2 9), .inl (κ 1, 20, .inl (zc q2_knownValue)))]) H := hP
        have hD : va_D A ([((t 0), .inr (3, [.ref (t 1), .ref (t 2), .int (zi (t_size + (1 : Int)))])), ((t 1), .inl (κ 1, 429, .inl (zc (zset t_numbers (Int.toNat t_size) i4)))), ((t 2), .inl (κ 1, 22, .inl (zc t_tally))), ((q2 0), .inr (7, [.ref (q2 1), .ref (q2 2), .ref (q2 3), .ref (q2 4), .ref (q2 5), .ref (q2 6), .ref (q2 7), .ref (q2 8), .ref (q2 9), .int (zi q2_size), .int (zi q2_rights), .int (zi q2_latest)])), ((q2 1), .inl (κ 1, 20, .inl (zc q2_seenStep))), ((q2 2), .inl (κ 1, 20, .inl (zc q2_seenFrom))), ((q2 3), .inl (κ 1, 20, .inl (zc q2_seenTo))), ((q2 4), .inl (κ 1, 20, .inl (zc q2_seenValue))), ((q2 5), .inl (κ 1, 20, .inl (zc q2_timesRight))), ((q2 6), .inl (κ 1, 20, .inl (zc q2_rightStep))), ((q2 7), .inl (κ 1, 20, .inl (zc q2_rightOf))), ((q2 8), .inl (κ 1, 20, .inl (zc q2_rightValue))), ((q2 9), .inl (κ 1, 20, .inl (zc q2_knownValue)))]) := hD
        refine lv_iinc (v := zi (i4 + (1 : Int))) (lv' := [(4, .int (zi (i4 + (1 : Int)))), (0, .ref (t 0)), (1, .ref (ad n1 0)), (2, .ref (q2 0))]) hx hb dX3_gather_65 hl (k := 3) rfl (zi_add i4 _) (by decide) rfl (fun ls hl => ?_)
        refine lv_goto (tgt := 13) hx hb dX3_gather_68 (by decide) ?_
        exact (Go_s hg) H locs ls hP hD hS (lv_sub hl [1, 2, 3, 0] rfl)
set_option maxHeartbeats 4000000 in
set_option maxRecDepth 100000 in
theorem zw_X3_gather {p : Program} {l : Launch} {e : Env} {s : State} {m : MethodId} {args : Array Value} {below : List Frame} {meth : Method} {c : Code} {Q : State → Prop} {D : va_G} {κ : Nat → ClassId} {A : Nat → Prop} {H0 : Heap} (t : Nat → Nat) (q2 : Nat → Nat) (mk : Nat) (ad : Nat → Nat → Nat) (t_tally : Nat) (q2_size : Int) (q2_rights : Int) (q2_latest : Int) (q2_seenStep : Nat) (q2_seenFrom : Nat) (q2_seenTo : Nat) (q2_seenValue : Nat) (q2_timesRight : Nat) (q2_rightStep : Nat) (q2_rightOf : Nat) (q2_rightValue : Nat) (n1 : Nat) (t_size : Int) (t_numbers : Nat) (q2_knownValue : Nat) (i3 : Int) (hx : p.tables.exec = Jvm.exec) (hb : c.code = cX3_gather) (hml : c.maxLocals = 5) (hown : s.vm.findClass RX3 = some m.cls) (hts : ∀ w ∈ wsX3_gather, w.before args s = true) (hK : va_K D vwCl (zTY κ) s) (hA : ∀ q : Nat, H0.size ≤ q → A q) (hB : zAmb D κ mk ad H0) (hBA : zApt mk ad A H0.size) (out : Int × Nat × Nat) (h : zf_X3_gather mk t_size t_numbers q2_size q2_rights q2_seenStep q2_seenFrom q2_seenTo q2_seenValue q2_rightStep q2_rightOf q2_rightValue q2_knownValue n1 i3 = some out) (hq : zQ_X3_gather p l e s m args below meth c Q D κ A H0 t q2 mk ad t_tally q2_size q2_rights q2_latest q2_seenStep q2_seenFrom q2_seenTo q2_seenValue q2_timesRight q2_rightStep q2_rightOf q2_rightValue n1 out) : zA_X3_gather_0 p l e s m args below meth c Q D κ A H0 t q2 mk ad t_tally q2_size q2_rights q2_latest q2_seenStep q2_seenFrom q2_seenTo q2_seenValue q2_timesRight q2_rightStep q2_rightOf q2_rightValue n1 i3 0 t_size t_numbers q2_knownValue := by
  have hst : ∀ st : zS_X3_gather, Go (GoE (zA_X3_gather p l e s m args below meth c Q D κ A H0 t q2 mk ad t_tally q2_size q2_rights q2_latest q2_seenStep q2_seenFrom q2_seenTo q2_seenValue q2_timesRight q2_rightStep q2_rightOf q2_rightValue n1) (zQ_X3_gather p l e s m args below meth c Q D κ A H0 t q2 mk ad t_tally q2_size q2_rights q2_latest q2_seenStep q2_seenFrom q2_seenTo q2_seenValue q2_timesRight q2_rightStep q2_rightOf q2_rightValue n1)) (zg_X3_gather mk q2_size q2_rights q2_seenStep q2_seenFrom q2_seenTo q2_seenValue q2_rightStep q2_rightOf q2_rightValue n1 st) → zA_X3_gather p l e s m args below meth c Q D κ A H0 t q2 mk ad t_tally q2_size q2_rights q2_latest q2_seenStep q2_seenFrom q2_seenTo q2_seenValue q2_timesRight q2_rightStep q2_rightOf q2_rightValue n1 st := by
    intro st hg
    obtain ⟨lab, i3, i4, t_size, t_numbers, q2_knownValue⟩ := st
    by_cases h0 : lab = 0
    · subst h0
      exact zs_X3_gather_0 t q2 mk ad t_tally q2_size q2_rights q2_latest q2_seenStep q2_seenFrom q2_seenTo q2_seenValue q2_timesRight q2_rightStep q2_rightOf q2_rightValue n1 hx hb hml hown hts hK hA hB hBA i3 i4 t_size t_numbers q2_knownValue hg
    by_cases h13 : lab = 13
    · subst h13
      exact zs_X3_gather_13 t q2 mk ad t_tally q2_size q2_rights q2_latest q2_seenStep q2_seenFrom q2_seenTo q2_seenValue q2_timesRight q2_rightStep q2_rightOf q2_rightValue n1 hx hb hml hown hts hK hA hB hBA i3 i4 t_size t_numbers q2_knownValue hg
    have hz : zg_X3_gather mk q2_size q2_rights q2_seenStep q2_seenFrom q2_seenTo q2_seenValue q2_rightStep q2_rightOf q2_rightValue n1 (lab, i3, i4, t_size, t_numbers, q2_knownValue) = none := by simp [zg_X3_gather, h0, h13]
    rw [hz] at hg
    obtain ⟨a, h1, -⟩ := hg
    cases h1
  exact jwalk (At := zA_X3_gather p l e s m args below meth c Q D κ A H0 t q2 mk ad t_tally q2_size q2_rights q2_latest q2_seenStep q2_seenFrom q2_seenTo q2_seenValue q2_timesRight q2_rightStep q2_rightOf q2_rightValue n1) (Ret := zQ_X3_gather p l e s m args below meth c Q D κ A H0 t q2 mk ad t_tally q2_size q2_rights q2_latest q2_seenStep q2_seenFrom q2_seenTo q2_seenValue q2_timesRight q2_rightStep q2_rightOf q2_rightValue n1) hst _ _ _ h hq
set_option maxHeartbeats 4000000 in
set_option maxRecDepth 100000 in
theorem zc_X3_gather (l : Launch) (D : va_G) (κ : Nat → ClassId) (t : Nat → Nat) (q2 : Nat → Nat) (mk : Nat) (ad : Nat → Nat → Nat) (sz : Nat) (t_size : Int) (t_numbers : Nat) (t_tally : Nat) (q2_size : Int) (q2_rights : Int) (q2_latest : Int) (q2_seenStep : Nat) (q2_seenFrom : Nat) (q2_seenTo : Nat) (q2_seenValue : Nat) (q2_timesRight : Nat) (q2_rightStep : Nat) (q2_rightOf : Nat) (q2_rightValue : Nat) (q2_knownValue : Nat) (n1 : Nat) (i3 : Int) (out : Int × Nat × Nat) (h : zf_X3_gather mk t_size t_numbers q2_size q2_rights q2_seenStep q2_seenFrom q2_seenTo q2_seenValue q2_rightStep q2_rightOf q2_rightValue q2_knownValue n1 i3 = some out) : Met l yX3_gather wsX3_gather zr_X3_gather (va_Pc [.ref (t 0), .ref (ad n1 0), .ref (q2 0), .int (zi i3)] (zWa D κ mk ad ([((t 0), .inr (3, [.ref (t 1), .ref (t 2), .int (zi t_size)])), ((t 1), .inl (κ 1, 429, .inl (zc t_numbers))), ((t 2), .inl (κ 1, 22, .inl (zc t_tally))), ((q2 0), .inr (7, [.ref (q2 1), .ref (q2 2), .ref (q2 3), .ref (q2 4), .ref (q2 5), .ref (q2 6), .ref (q2 7), .ref (q2 8), .ref (q2 9), .int (zi q2_size), .int (zi q2_rights), .int (zi q2_latest)])), ((q2 1), .inl (κ 1, 20, .inl (zc q2_seenStep))), ((q2 2), .inl (κ 1, 20, .inl (zc q2_seenFrom))), ((q2 3), .inl (κ 1, 20, .inl (zc q2_seenTo))), ((q2 4), .inl (κ 1, 20, .inl (zc q2_seenValue))), ((q2 5), .inl (κ 1, 20, .inl (zc q2_timesRight))), ((q2 6), .inl (κ 1, 20, .inl (zc q2_rightStep))), ((q2 7), .inl (κ 1, 20, .inl (zc q2_rightOf))), ((q2 8), .inl (κ 1, 20, .inl (zc q2_rightValue))), ((q2 9), .inl (κ 1, 20, .inl (zc q2_knownValue)))]) sz)) (va_Qv (fun (_ : Unit) => True) (fun _ => zB D κ (va_A ([((t 0), .inr (3, [.ref (t 1), .ref (t 2), .int (zi t_size)])), ((t 1), .inl (κ 1, 429, .inl (zc t_numbers))), ((t 2), .inl (κ 1, 22, .inl (zc t_tally))), ((q2 0), .inr (7, [.ref (q2 1), .ref (q2 2), .ref (q2 3), .ref (q2 4), .ref (q2 5), .ref (q2 6), .ref (q2 7), .ref (q2 8), .ref (q2 9), .int (zi q2_size), .int (zi q2_rights), .int (zi q2_latest)])), ((q2 1), .inl (κ 1, 20, .inl (zc q2_seenStep))), ((q2 2), .inl (κ 1, 20, .inl (zc q2_seenFrom))), ((q2 3), .inl (κ 1, 20, .inl (zc q2_seenTo))), ((q2 4), .inl (κ 1, 20, .inl (zc q2_seenValue))), ((q2 5), .inl (κ 1, 20, .inl (zc q2_timesRight))), ((q2 6), .inl (κ 1, 20, .inl (zc q2_rightStep))), ((q2 7), .inl (κ 1, 20, .inl (zc q2_rightOf))), ((q2 8), .inl (κ 1, 20, .inl (zc q2_rightValue))), ((q2 9), .inl (κ 1, 20, .inl (zc q2_knownValue)))]) sz) ([((t 0), .inr (3, [.ref (t 1), .ref (t 2), .int (zi (out.1))])), ((t 1), .inl (κ 1, 429, .inl (zc (out.2.1)))), ((t 2), .inl (κ 1, 22, .inl (zc t_tally))), ((q2 0), .inr (7, [.ref (q2 1), .ref (q2 2), .ref (q2 3), .ref (q2 4), .ref (q2 5), .ref (q2 6), .ref (q2 7), .ref (q2 8), .ref (q2 9), .int (zi q2_size), .int (zi q2_rights), .int (zi q2_latest)])), ((q2 1), .inl (κ 1, 20, .inl (zc q2_seenStep))), ((q2 2), .inl (κ 1, 20, .inl (zc q2_seenFrom))), ((q2 3), .inl (κ 1, 20, .inl (zc q2_seenTo))), ((q2 4), .inl (κ 1, 20, .inl (zc q2_seenValue))), ((q2 5), .inl (κ 1, 20, .inl (zc q2_timesRight))), ((q2 6), .inl (κ 1, 20, .inl (zc q2_rightStep))), ((q2 7), .inl (κ 1, 20, .inl (zc q2_rightOf))), ((q2 8), .inl (κ 1, 20, .inl (zc q2_rightValue))), ((q2 9), .inl (κ 1, 20, .inl (zc (out.2.2))))])) (va_A ([((t 0), .inr (3, [.ref (t 1), .ref (t 2), .int (zi t_size)])), ((t 1), .inl (κ 1, 429, .inl (zc t_numbers))), ((t 2), .inl (κ 1, 22, .inl (zc t_tally))), ((q2 0), .inr (7, [.ref (q2 1), .ref (q2 2), .ref (q2 3), .ref (q2 4), .ref (q2 5), .ref (q2 6), .ref (q2 7), .ref (q2 8), .ref (q2 9), .int (zi q2_size), .int (zi q2_rights), .int (zi q2_latest)])), ((q2 1), .inl (κ 1, 20, .inl (zc q2_seenStep))), ((q2 2), .inl (κ 1, 20, .inl (zc q2_seenFrom))), ((q2 3), .inl (κ 1, 20, .inl (zc q2_seenTo))), ((q2 4), .inl (κ 1, 20, .inl (zc q2_seenValue))), ((q2 5), .inl (κ 1, 20, .inl (zc q2_timesRight))), ((q2 6), .inl (κ 1, 20, .inl (zc q2_rightStep))), ((q2 7), .inl (κ 1, 20, .inl (zc q2_rightOf))), ((q2 8), .inl (κ 1, 20, .inl (zc q2_rightValue))), ((q2 9), .inl (κ 1, 20, .inl (zc q2_knownValue)))]) sz)) 0 0 (va_A ([((t 0), .inr (3, [.ref (t 1), .ref (t 2), .int (zi t_size)])), ((t 1), .inl (κ 1, 429, .inl (zc t_numbers))), ((t 2), .inl (κ 1, 22, .inl (zc t_tally))), ((q2 0), .inr (7, [.ref (q2 1), .ref (q2 2), .ref (q2 3), .ref (q2 4), .ref (q2 5), .ref (q2 6), .ref (q2 7), .ref (q2 8), .ref (q2 9), .int (zi q2_size), .int (zi q2_rights), .int (zi q2_latest)])), ((q2 1), .inl (κ 1, 20, .inl (zc q2_seenStep))), ((q2 2), .inl (κ 1, 20, .inl (zc q2_seenFrom))), ((q2 3), .inl (κ 1, 20, .inl (zc q2_seenTo))), ((q2 4), .inl (κ 1, 20, .inl (zc q2_seenValue))), ((q2 5), .inl (κ 1, 20, .inl (zc q2_timesRight))), ((q2 6), .inl (κ 1, 20, .inl (zc q2_rightStep))), ((q2 7), .inl (κ 1, 20, .inl (zc q2_rightOf))), ((q2 8), .inl (κ 1, 20, .inl (zc q2_rightValue))), ((q2 9), .inl (κ 1, 20, .inl (zc q2_knownValue)))]) sz) := by
  refine Met.ofW (cc := cX3_gather) (maxL := 5) (ret := none) (by decide +kernel) rfl ?_
  intro p e s m args below meth c s₁ B hml hv
  obtain ⟨rfl, hsz, hP, hK, hD0, hB, hBA⟩ := hv
  have hx := B.exec
  have hb := B.bytes
  have hr := B.returns
  have hts := atoms_spec (ws := wsX3_gather) B.pre
  have hown : s.vm.findClass RX3 = some m.cls := findClass_of_methodNamed B.named
  have hlocks := B.notSynchronized
  subst hsz
  have hD := hD0.self (sz := s.heap.size)
  generalize hAe : va_A ([((t 0), .inr (3, [.ref (t 1), .ref (t 2), .int (zi t_size)])), ((t 1), .inl (κ 1, 429, .inl (zc t_numbers))), ((t 2), .inl (κ 1, 22, .inl (zc t_tally))), ((q2 0), .inr (7, [.ref (q2 1), .ref (q2 2), .ref (q2 3), .ref (q2 4), .ref (q2 5), .ref (q2 6), .ref (q2 7), .ref (q2 8), .ref (q2 9), .int (zi q2_size), .int (zi q2_rights), .int (zi q2_latest)])), ((q2 1), .inl (κ 1, 20, .inl (zc q2_seenStep))), ((q2 2), .inl (κ 1, 20, .inl (zc q2_seenFrom))), ((q2 3), .inl (κ 1, 20, .inl (zc q2_seenTo))), ((q2 4), .inl (κ 1, 20, .inl (zc q2_seenValue))), ((q2 5), .inl (κ 1, 20, .inl (zc q2_timesRight))), ((q2 6), .inl (κ 1, 20, .inl (zc q2_rightStep))), ((q2 7), .inl (κ 1, 20, .inl (zc q2_rightOf))), ((q2 8), .inl (κ 1, 20, .inl (zc q2_rightValue))), ((q2 9), .inl (κ 1, 20, .inl (zc q2_knownValue)))]) s.heap.size = A at hD hBA ⊢
  have hA : ∀ q : Nat, s.heap.size ≤ q → A q := fun q h => by rw [← hAe]; exact Or.inr h
  have hS : va_S A s.heap s.heap [] := va_S.rf
  have hl := lv_entry ([.ref (t 0), .ref (ad n1 0), .ref (q2 0), .int (zi i3)]) (n := 5) (Nat.le_of_ble_eq_true rfl)
  rw [lg_entry_eq]
  generalize (lg_sl ([.ref (t 0), .ref (ad n1 0), .ref (q2 0), .int (zi i3)]) ++ List.replicate (5 - (lg_sl ([.ref (t 0), .ref (ad n1 0), .ref (q2 0), .int (zi i3)])).length) Slot.unset).toArray = ls at hl ⊢
  have hl : lv_has ls 5 [(0, .ref (t 0)), (1, .ref (ad n1 0)), (2, .ref (q2 0)), (3, .int (zi i3))] := hl
  refine (zw_X3_gather t q2 mk ad t_tally q2_size q2_rights q2_latest q2_seenStep q2_seenFrom q2_seenTo q2_seenValue q2_timesRight q2_rightStep q2_rightOf q2_rightValue n1 t_size t_numbers q2_knownValue i3 hx hb hml hown hts hK hA hB hBA out h ?_) s.heap [] ls hP hD hS (lv_sub hl [0, 1, 2, 3] rfl)
  exact fun H locs ls pc hP hD hS hd => W.vret hx hb hr (fun t ht hW => ⟨⟨(), rfl, trivial, by rw [ht]; exact hP, va_K.moved hW.alike hK, hD⟩, hS.F ht⟩) hS.2.2 hd
/-! DiamondRows$Fitting.leastNumber()I -/
abbrev zr_X3_leastNumber : Room := { frames := 0, cells := 0, slots := 0, locals := 0 }
noncomputable def zf_X3_leastNumber  (t_size : Int) (t_numbers : Nat)  : Option (Int) :=
  if zout t_size then none else
  if t_size ≤ 0 then
  some ((-1 : Int))
  else
  some ((zget t_numbers (Int.toNat (0 : Int))))
theorem zi_X3_leastNumber_X3 : ∀ w ∈ u_ws RX3 TX3 3, w ∈ wsX3_leastNumber := fun w h => (List.mem_cons_of_mem _ (List.mem_append_right _ h))
theorem zl_X3_leastNumber_9 : Cond.fieldLink RX3 9 "DiamondRows$Fitting" "numbers" "[I" ∈ wsX3_leastNumber := (List.mem_cons_of_mem _ (List.mem_append_left _ (List.mem_of_getElem? (i := 1) rfl)))
theorem zl_X3_leastNumber_18 : Cond.fieldLink RX3 18 "DiamondRows$Fitting" "size" "I" ∈ wsX3_leastNumber := (List.mem_cons_of_mem _ (List.mem_append_left _ (List.mem_of_getElem? (i := 0) rfl)))
def zQ_X3_leastNumber (p : Program) (l : Launch) (e : Env) (s : State) (m : MethodId) (args : Array Value) (below : List Frame) (meth : Method) (c : Code) (Q : State → Prop) (H : Heap) (locs : List Loc)  (o : Int) : Prop := ∀ (ls : Array Slot) (pc : Nat), decode cX3_leastNumber pc = .ok (.ireturn, 1) → W p l e zr_X3_leastNumber s m args below meth c H locs 0 0 Q (F0 m pc ls [.int (zi o)])
set_option maxHeartbeats 4000000 in
set_option maxRecDepth 100000 in
theorem zs_X3_leastNumber {p : Program} {l : Launch} {e : Env} {s : State} {m : MethodId} {args : Array Value} {below : List Frame} {meth : Method} {c : Code} {Q : State → Prop} {D : va_G} {κ : Nat → ClassId} {H : Heap} {locs : List Loc} (t : Nat → Nat) (t_size : Int) (t_numbers : Nat) (t_tally : Nat)  (hx : p.tables.exec = Jvm.exec) (hb : c.code = cX3_leastNumber) (hml : c.maxLocals = 1) (hown : s.vm.findClass RX3 = some m.cls) (hts : ∀ w ∈ wsX3_leastNumber, w.before args s = true) (hK : va_K D vwCl (zTY κ) s) (hP : va_P D vwCl ([((t 0), .inr (3, [.ref (t 1), .ref (t 2), .int (zi t_size)])), ((t 1), .inl (κ 1, 429, .inl (zc t_numbers))), ((t 2), .inl (κ 1, 22, .inl (zc t_tally)))]) H) (ls : Array Slot) (hl : lv_has ls 1 [(0, .ref (t 0))]) (hg : Go (zQ_X3_leastNumber p l e s m args below meth c Q H locs) (zf_X3_leastNumber t_size t_numbers )) : W p l e zr_X3_leastNumber s m args below meth c H locs 0 0 Q (F0 m 0 ls []) := by
  unfold zf_X3_leastNumber at hg
  refine lv_aload_n hx hb dX3_leastNumber_0 rfl (lv_at hl 0 rfl) ?_
  refine va_get (D := D) (ci := 3) (v := .int (zi t_size)) (C := RX3) (T := TX3) (N := 3) hx hb hts zi_X3_leastNumber_X3 hown hK hP 0 rfl rfl 2 (by decide) (hts (.fieldLink RX3 18 "DiamondRows$Fitting" "size" "I") zl_X3_leastNumber_18) (fun _ h9 => h9) rfl dX3_leastNumber_1 ?_
  obtain ⟨b1, hg⟩ := Go_n hg
  refine zv_if_le (tgt := 16) hx hb dX3_leastNumber_4 (by decide) b1 (fun c2 => ?_) (fun c2 => ?_)
  · have hg := Go_t c2 hg
    refine zv_iconst hx hb dX3_leastNumber_16 ?_
    exact (Go_s hg) _ _ dX3_leastNumber_17
  · have hg := Go_f c2 hg
    refine lv_aload_n hx hb dX3_leastNumber_7 rfl (lv_at hl 0 rfl) ?_
    refine va_get (D := D) (ci := 3) (v := .ref (t 1)) (C := RX3) (T := TX3) (N := 3) hx hb hts zi_X3_leastNumber_X3 hown hK hP 0 rfl rfl 0 (by decide) (hts (.fieldLink RX3 9 "DiamondRows$Fitting" "numbers" "[I") zl_X3_leastNumber_9) (fun _ h9 => h9) rfl dX3_leastNumber_8 ?_
    refine zv_iconst hx hb dX3_leastNumber_11 ?_
    refine zv_iald hx hb hK hP 1 1 rfl rfl (by decide) (by decide) dX3_leastNumber_12 ?_
    refine lv_goto (tgt := 17) hx hb dX3_leastNumber_13 (by decide) ?_
    exact (Go_s hg) _ _ dX3_leastNumber_17
set_option maxHeartbeats 4000000 in
set_option maxRecDepth 100000 in
theorem zc_X3_leastNumber (l : Launch) (D : va_G) (κ : Nat → ClassId) (t : Nat → Nat) (t_size : Int) (t_numbers : Nat) (t_tally : Nat)  (out : Int) (h : zf_X3_leastNumber t_size t_numbers  = some out) : Met l yX3_leastNumber wsX3_leastNumber zr_X3_leastNumber (va_Pc [.ref (t 0)] (zR D κ ([((t 0), .inr (3, [.ref (t 1), .ref (t 2), .int (zi t_size)])), ((t 1), .inl (κ 1, 429, .inl (zc t_numbers))), ((t 2), .inl (κ 1, 22, .inl (zc t_tally)))]))) (vp_Si (fun x => x = zi out)) 0 0 (fun _ => False) := by
  refine Met.ofW (cc := cX3_leastNumber) (maxL := 1) (ret := (some .int)) (by decide +kernel) rfl ?_
  intro p e s m args below meth c s₁ B hml hv
  obtain ⟨rfl, hP, hK⟩ := hv
  have hx := B.exec
  have hb := B.bytes
  have hr := B.returns
  have hts := atoms_spec (ws := wsX3_leastNumber) B.pre
  have hown : s.vm.findClass RX3 = some m.cls := findClass_of_methodNamed B.named
  have hlocks := B.notSynchronized
  have hl := lv_entry ([.ref (t 0)]) (n := 1) (Nat.le_of_ble_eq_true rfl)
  rw [lg_entry_eq]
  generalize (lg_sl ([.ref (t 0)]) ++ List.replicate (1 - (lg_sl ([.ref (t 0)])).length) Slot.unset).toArray = ls at hl ⊢
  have hl : lv_has ls 1 [(0, .ref (t 0))] := hl
  refine zs_X3_leastNumber t t_size t_numbers t_tally  hx hb hml hown hts hK hP ls hl ⟨out, h, ?_⟩
  exact fun ls pc hd => W.iret hx hb hr (fun t ht hW => ⟨_, rfl, rfl, ht⟩) (fun _ h => by cases h) hd
/-! DiamondRows$Fitting.howSure(LDiamondRows$Polygon;I)I -/
abbrev zr_X3_howSure : Room := { frames := 2, cells := 0, slots := 0, locals := 43 }
abbrev zS_X3_howSure : Type := Nat × Int × Int × Int
abbrev zO_X3_howSure : Type := Int
noncomputable def zg_X3_howSure_0 (mk : Nat) (t_size : Int) (t_numbers : Nat) (n1 : Nat) (i2 : Int) (i3 : Int) (i4 : Int) : Option (zO_X3_howSure ⊕ zS_X3_howSure) :=
  some (.inr (5, i2, (0 : Int), (0 : Int)))
noncomputable def zg_X3_howSure_5 (mk : Nat) (t_size : Int) (t_numbers : Nat) (n1 : Nat) (i2 : Int) (i3 : Int) (i4 : Int) : Option (zO_X3_howSure ⊕ zS_X3_howSure) :=
  if zout i4 then none else
  if zout t_size then none else
  if t_size ≤ i4 then
  if t_size = 0 then
  some (.inl ((-1 : Int)))
  else
  if zout i3 then none else
  if i3 = t_size then
  some (.inl ((1 : Int)))
  else
  if i3 = 0 then
  some (.inl ((0 : Int)))
  else
  some (.inl ((2 : Int)))
  else
  if i4 < 0 ∨ 429 ≤ i4 then none else
  if zno mk n1 then none else
  Option.bind (zf_X5_cutAt n1 (zget t_numbers (Int.toNat i4))) (fun o9 =>
  Option.bind (zf_X5_has n1 o9 i2) (fun o10 =>
  if o10 = false then
  some (.inr (5, i2, i3, (i4 + (1 : Int))))
  else
  some (.inr (5, i2, (i3 + (1 : Int)), (i4 + (1 : Int))))))
noncomputable def zg_X3_howSure (mk : Nat) (t_size : Int) (t_numbers : Nat) (n1 : Nat) (st : zS_X3_howSure) : Option (zO_X3_howSure ⊕ zS_X3_howSure) := match st with
  | (lab, i2, i3, i4) => if lab = 0 then zg_X3_howSure_0 mk t_size t_numbers n1 i2 i3 i4 else if lab = 5 then zg_X3_howSure_5 mk t_size t_numbers n1 i2 i3 i4 else none
noncomputable def zf_X3_howSure (mk : Nat) (t_size : Int) (t_numbers : Nat) (n1 : Nat) (i2 : Int) : Option (Int) := jrun (zg_X3_howSure mk t_size t_numbers n1) jfuel (0, i2, 0, 0)
theorem zi_X3_howSure_X3 : ∀ w ∈ u_ws RX3 TX3 3, w ∈ wsX3_howSure := fun w h => (List.mem_cons_of_mem _ (List.mem_append_right _ (List.mem_append_left _ h)))
theorem zl_X3_howSure_9 : Cond.fieldLink RX3 9 "DiamondRows$Fitting" "numbers" "[I" ∈ wsX3_howSure := (List.mem_cons_of_mem _ (List.mem_append_left _ (List.mem_of_getElem? (i := 1) rfl)))
theorem zl_X3_howSure_18 : Cond.fieldLink RX3 18 "DiamondRows$Fitting" "size" "I" ∈ wsX3_howSure := (List.mem_cons_of_mem _ (List.mem_append_left _ (List.mem_of_getElem? (i := 0) rfl)))
def zQ_X3_howSure (p : Program) (l : Launch) (e : Env) (s : State) (m : MethodId) (args : Array Value) (below : List Frame) (meth : Method) (c : Code) (Q : State → Prop) (H : Heap) (locs : List Loc)  (o : Int) : Prop := ∀ (ls : Array Slot) (pc : Nat), decode cX3_howSure pc = .ok (.ireturn, 1) → W p l e zr_X3_howSure s m args below meth c H locs 0 0 Q (F0 m pc ls [.int (zi o)])
def zA_X3_howSure_0 (p : Program) (l : Launch) (e : Env) (s : State) (m : MethodId) (args : Array Value) (below : List Frame) (meth : Method) (c : Code) (Q : State → Prop) (H : Heap) (locs : List Loc) (t : Nat → Nat) (mk : Nat) (ad : Nat → Nat → Nat) (n1 : Nat) (i2 : Int) (i3 : Int) (i4 : Int) : Prop := ∀ ls : Array Slot, lv_has ls 5 [(0, .ref (t 0)), (1, .ref (ad n1 0)), (2, .int (zi i2))] → W p l e zr_X3_howSure s m args below meth c H locs 0 0 Q (F0 m 0 ls [])
def zA_X3_howSure_5 (p : Program) (l : Launch) (e : Env) (s : State) (m : MethodId) (args : Array Value) (below : List Frame) (meth : Method) (c : Code) (Q : State → Prop) (H : Heap) (locs : List Loc) (t : Nat → Nat) (mk : Nat) (ad : Nat → Nat → Nat) (n1 : Nat) (i2 : Int) (i3 : Int) (i4 : Int) : Prop := ∀ ls : Array Slot, lv_has ls 5 [(0, .ref (t 0)), (1, .ref (ad n1 0)), (2, .int (zi i2)), (3, .int (zi i3)), (4, .int (zi i4))] → W p l e zr_X3_howSure s m args below meth c H locs 0 0 Q (F0 m 5 ls [])
def zA_X3_howSure (p : Program) (l : Launch) (e : Env) (s : State) (m : MethodId) (args : Array Value) (below : List Frame) (meth : Method) (c : Code) (Q : State → Prop) (H : Heap) (locs : List Loc) (t : Nat → Nat) (mk : Nat) (ad : Nat → Nat → Nat) (n1 : Nat) (st : zS_X3_howSure) : Prop := match st with
  | (lab, i2, i3, i4) => if lab = 0 then zA_X3_howSure_0 p l e s m args below meth c Q H locs t mk ad n1 i2 i3 i4 else if lab = 5 then zA_X3_howSure_5 p l e s m args below meth c Q H locs t mk ad n1 i2 i3 i4 else True
set_option maxHeartbeats 4000000 in
set_option maxRecDepth 100000 in
theorem zs_X3_howSure_0 {p : Program} {l : Launch} {e : Env} {s : State} {m : MethodId} {args : Array Value} {below : List Frame} {meth : Method} {c : Code} {Q : State → Prop} {D : va_G} {κ : Nat → ClassId} {H : Heap} {locs : List Loc} (t : Nat → Nat) (mk : Nat) (ad : Nat → Nat → Nat) (t_size : Int) (t_numbers : Nat) (t_tally : Nat) (n1 : Nat) (hx : p.tables.exec = Jvm.exec) (hb : c.code = cX3_howSure) (hml : c.maxLocals = 5) (hown : s.vm.findClass RX3 = some m.cls) (hts : ∀ w ∈ wsX3_howSure, w.before args s = true) (hK : va_K D vwCl (zTY κ) s) (hP : va_P D vwCl ([((t 0), .inr (3, [.ref (t 1), .ref (t 2), .int (zi t_size)])), ((t 1), .inl (κ 1, 429, .inl (zc t_numbers))), ((t 2), .inl (κ 1, 22, .inl (zc t_tally)))]) H) (hB : zAmb D κ mk ad H) (i2 : Int) (i3 : Int) (i4 : Int) (hg : Go (GoE (zA_X3_howSure p l e s m args below meth c Q H locs t mk ad n1) (zQ_X3_howSure p l e s m args below meth c Q H locs)) (zg_X3_howSure_0 mk t_size t_numbers n1 i2 i3 i4)) : zA_X3_howSure_0 p l e s m args below meth c Q H locs t mk ad n1 i2 i3 i4 := by
  intro ls hl
  unfold zg_X3_howSure_0 at hg
  refine zv_iconst hx hb dX3_howSure_0 ?_
  refine lv_istore_n (lv' := [(3, .int (zi (0 : Int))), (0, .ref (t 0)), (1, .ref (ad n1 0)), (2, .int (zi i2))]) hx hb dX3_howSure_1 rfl hl (by decide) rfl (fun ls hl => ?_)
  refine zv_iconst hx hb dX3_howSure_2 ?_
  refine lv_istore (lv' := [(4, .int (zi (0 : Int))), (3, .int (zi (0 : Int))), (0, .ref (t 0)), (1, .ref (ad n1 0)), (2, .int (zi i2))]) hx hb dX3_howSure_3 hl (by decide) rfl (fun ls hl => ?_)
  exact (Go_s hg) ls (lv_sub hl [2, 3, 4, 1, 0] rfl)
set_option maxHeartbeats 4000000 in
set_option maxRecDepth 100000 in
theorem zs_X3_howSure_5 {p : Program} {l : Launch} {e : Env} {s : State} {m : MethodId} {args : Array Value} {below : List Frame} {meth : Method} {c : Code} {Q : State → Prop} {D : va_G} {κ : Nat → ClassId} {H : Heap} {locs : List Loc} (t : Nat → Nat) (mk : Nat) (ad : Nat → Nat → Nat) (t_size : Int) (t_numbers : Nat) (t_tally : Nat) (n1 : Nat) (hx : p.tables.exec = Jvm.exec) (hb : c.code = cX3_howSure) (hml : c.maxLocals = 5) (hown : s.vm.findClass RX3 = some m.cls) (hts : ∀ w ∈ wsX3_howSure, w.before args s = true) (hK : va_K D vwCl (zTY κ) s) (hP : va_P D vwCl ([((t 0), .inr (3, [.ref (t 1), .ref (t 2), .int (zi t_size)])), ((t 1), .inl (κ 1, 429, .inl (zc t_numbers))), ((t 2), .inl (κ 1, 22, .inl (zc t_tally)))]) H) (hB : zAmb D κ mk ad H) (i2 : Int) (i3 : Int) (i4 : Int) (hg : Go (GoE (zA_X3_howSure p l e s m args below meth c Q H locs t mk ad n1) (zQ_X3_howSure p l e s m args below meth c Q H locs)) (zg_X3_howSure_5 mk t_size t_numbers n1 i2 i3 i4)) : zA_X3_howSure_5 p l e s m args below meth c Q H locs t mk ad n1 i2 i3 i4 := by
  intro ls hl
  unfold zg_X3_howSure_5 at hg
  refine lv_iload hx hb dX3_howSure_5 (lv_at hl 4 rfl) ?_
  refine lv_aload_n hx hb dX3_howSure_7 rfl (lv_at hl 0 rfl) ?_
  refine va_get (D := D) (ci := 3) (v := .int (zi t_size)) (C := RX3) (T := TX3) (N := 3) hx hb hts zi_X3_howSure_X3 hown hK hP 0 rfl rfl 2 (by decide) (hts (.fieldLink RX3 18 "DiamondRows$Fitting" "size" "I") zl_X3_howSure_18) (fun _ h9 => h9) rfl dX3_howSure_8 ?_
  obtain ⟨b1, hg⟩ := Go_n hg
  obtain ⟨b2, hg⟩ := Go_n hg
  refine zv_icmp_ge (tgt := 42) hx hb dX3_howSure_11 (by decide) b1 b2 (fun c12 => ?_) (fun c12 => ?_)
  · have hg := Go_t c12 hg
    refine lv_aload_n hx hb dX3_howSure_42 rfl (lv_at hl 0 rfl) ?_
    refine va_get (D := D) (ci := 3) (v := .int (zi t_size)) (C := RX3) (T := TX3) (N := 3) hx hb hts zi_X3_howSure_X3 hown hK hP 0 rfl rfl 2 (by decide) (hts (.fieldLink RX3 18 "DiamondRows$Fitting" "size" "I") zl_X3_howSure_18) (fun _ h9 => h9) rfl dX3_howSure_43 ?_
    refine zv_if_ne (tgt := 51) hx hb dX3_howSure_46 (by decide) b2 (fun c6 => ?_) (fun c6 => ?_)
    · have hg := Go_f c6 hg
      refine lv_iload_n hx hb dX3_howSure_51 rfl (lv_at hl 3 rfl) ?_
      refine lv_aload_n hx hb dX3_howSure_52 rfl (lv_at hl 0 rfl) ?_
      refine va_get (D := D) (ci := 3) (v := .int (zi t_size)) (C := RX3) (T := TX3) (N := 3) hx hb hts zi_X3_howSure_X3 hown hK hP 0 rfl rfl 2 (by decide) (hts (.fieldLink RX3 18 "DiamondRows$Fitting" "size" "I") zl_X3_howSure_18) (fun _ h9 => h9) rfl dX3_howSure_53 ?_
      obtain ⟨b3, hg⟩ := Go_n hg
      refine zv_icmp_ne (tgt := 63) hx hb dX3_howSure_56 (by decide) b3 b2 (fun c5 => ?_) (fun c5 => ?_)
      · have hg := Go_f c5 hg
        refine lv_iload_n hx hb dX3_howSure_63 rfl (lv_at hl 3 rfl) ?_
        refine zv_if_ne (tgt := 71) hx hb dX3_howSure_64 (by decide) b3 (fun c4 => ?_) (fun c4 => ?_)
        · have hg := Go_f c4 hg
          refine zv_iconst hx hb dX3_howSure_71 ?_
          exact (Go_s hg) _ _ dX3_howSure_72
        · have hg := Go_t c4 hg
          refine zv_iconst hx hb dX3_howSure_67 ?_
          refine lv_goto (tgt := 72) hx hb dX3_howSure_68 (by decide) ?_
          exact (Go_s hg) _ _ dX3_howSure_72
      · have hg := Go_t c5 hg
        refine zv_iconst hx hb dX3_howSure_59 ?_
        refine lv_goto (tgt := 72) hx hb dX3_howSure_60 (by decide) ?_
        exact (Go_s hg) _ _ dX3_howSure_72
    · have hg := Go_t c6 hg
      refine zv_iconst hx hb dX3_howSure_49 ?_
      exact (Go_s hg) _ _ dX3_howSure_50
  · have hg := Go_f c12 hg
    refine lv_aload_n hx hb dX3_howSure_14 rfl (lv_at hl 1 rfl) ?_
    refine lv_aload_n hx hb dX3_howSure_15 rfl (lv_at hl 1 rfl) ?_
    refine lv_aload_n hx hb dX3_howSure_16 rfl (lv_at hl 0 rfl) ?_
    refine va_get (D := D) (ci := 3) (v := .ref (t 1)) (C := RX3) (T := TX3) (N := 3) hx hb hts zi_X3_howSure_X3 hown hK hP 0 rfl rfl 0 (by decide) (hts (.fieldLink RX3 9 "DiamondRows$Fitting" "numbers" "[I") zl_X3_howSure_9) (fun _ h9 => h9) rfl dX3_howSure_17 ?_
    refine lv_iload hx hb dX3_howSure_20 (lv_at hl 4 rfl) ?_
    obtain ⟨n7, hg⟩ := Go_n hg
    refine zv_iald hx hb hK hP 1 1 rfl rfl (by decide) n7 dX3_howSure_22 ?_
    obtain ⟨m8, hg⟩ := Go_n hg
    obtain ⟨o9, ho9, hg⟩ := Go_b hg
    refine zc_vi (rest := [.ref (ad n1 0)]) ⟨hx, hb, hml, hown, hts⟩ (zc_X5_cutAt l D κ (ad n1) n1 (zget t_numbers (Int.toNat i4)) o9 ho9) (cwV 1 hts gX3_howSure_X5_cutAt rfl rfl rfl hv_X5_cutAt ⟨Nat.le_of_ble_eq_true rfl, Nat.le_of_ble_eq_true rfl⟩) (zpreV hK (hB n1 m8) 5 0 rfl rfl) rfl hl.1 rfl (Nat.le_of_ble_eq_true rfl) dX3_howSure_23 ⟨Nat.zero_le _, Nat.zero_le _⟩ ?_
    refine lv_iload_n hx hb dX3_howSure_26 rfl (lv_at hl 2 rfl) ?_
    obtain ⟨o10, ho10, hg⟩ := Go_b hg
    refine zc_vi (rest := []) ⟨hx, hb, hml, hown, hts⟩ (zc_X5_has l D κ (ad n1) n1 o9 i2 o10 ho10) (cwV 2 hts gX3_howSure_X5_has rfl rfl rfl hv_X5_has ⟨Nat.le_of_ble_eq_true rfl, Nat.le_of_ble_eq_true rfl⟩) (zpreV hK (hB n1 m8) 5 0 rfl rfl) rfl hl.1 rfl (Nat.le_of_ble_eq_true rfl) dX3_howSure_27 ⟨Nat.zero_le _, Nat.zero_le _⟩ ?_
    refine zv_ifb_eq (tgt := 36) hx hb dX3_howSure_30 (by decide) (fun c11 => ?_) (fun c11 => ?_)
    · have hg := Go_t c11 hg
      refine lv_iinc (v := zi (i4 + (1 : Int))) (lv' := [(4, .int (zi (i4 + (1 : Int)))), (0, .ref (t 0)), (1, .ref (ad n1 0)), (2, .int (zi i2)), (3, .int (zi i3))]) hx hb dX3_howSure_36 hl (k := 4) rfl (zi_add i4 _) (by decide) rfl (fun ls hl => ?_)
      refine lv_goto (tgt := 5) hx hb dX3_howSure_39 (by decide) ?_
      exact (Go_s hg) ls (lv_sub hl [1, 2, 3, 4, 0] rfl)
    · have hg := Go_f c11 hg
      refine lv_iinc (v := zi (i3 + (1 : Int))) (lv' := [(3, .int (zi (i3 + (1 : Int)))), (0, .ref (t 0)), (1, .ref (ad n1 0)), (2, .int (zi i2)), (4, .int (zi i4))]) hx hb dX3_howSure_33 hl (k := 3) rfl (zi_add i3 _) (by decide) rfl (fun ls hl => ?_)
      refine lv_iinc (v := zi (i4 + (1 : Int))) (lv' := [(4, .int (zi (i4 + (1 : Int)))), (3, .int (zi (i3 + (1 : Int)))), (0, .ref (t 0)), (1, .ref (ad n1 0)), (2, .int (zi i2))]) hx hb dX3_howSure_36 hl (k := 4) rfl (zi_add i4 _) (by decide) rfl (fun ls hl => ?_)
      refine lv_goto (tgt := 5) hx hb dX3_howSure_39 (by decide) ?_
      exact (Go_s hg) ls (lv_sub hl [2, 3, 4, 1, 0] rfl)
set_option maxHeartbeats 4000000 in
set_option maxRecDepth 100000 in
theorem zw_X3_howSure {p : Program} {l : Launch} {e : Env} {s : State} {m : MethodId} {args : Array Value} {below : List Frame} {meth : Method} {c : Code} {Q : State → Prop} {D : va_G} {κ : Nat → ClassId} {H : Heap} {locs : List Loc} (t : Nat → Nat) (mk : Nat) (ad : Nat → Nat → Nat) (t_size : Int) (t_numbers : Nat) (t_tally : Nat) (n1 : Nat) (i2 : Int) (hx : p.tables.exec = Jvm.exec) (hb : c.code = cX3_howSure) (hml : c.maxLocals = 5) (hown : s.vm.findClass RX3 = some m.cls) (hts : ∀ w ∈ wsX3_howSure, w.before args s = true) (hK : va_K D vwCl (zTY κ) s) (hP : va_P D vwCl ([((t 0), .inr (3, [.ref (t 1), .ref (t 2), .int (zi t_size)])), ((t 1), .inl (κ 1, 429, .inl (zc t_numbers))), ((t 2), .inl (κ 1, 22, .inl (zc t_tally)))]) H) (hB : zAmb D κ mk ad H) (out : Int) (h : zf_X3_howSure mk t_size t_numbers n1 i2 = some out) (hq : zQ_X3_howSure p l e s m args below meth c Q H locs out) : zA_X3_howSure_0 p l e s m args below meth c Q H locs t mk ad n1 i2 0 0 := by
  have hst : ∀ st : zS_X3_howSure, Go (GoE (zA_X3_howSure p l e s m args below meth c Q H locs t mk ad n1) (zQ_X3_howSure p l e s m args below meth c Q H locs)) (zg_X3_howSure mk t_size t_numbers n1 st) → zA_X3_howSure p l e s m args below meth c Q H locs t mk ad n1 st := by
    intro st hg
    obtain ⟨lab, i2, i3, i4⟩ := st
    by_cases h0 : lab = 0
    · subst h0
      exact zs_X3_howSure_0 t mk ad t_size t_numbers t_tally n1 hx hb hml hown hts hK hP hB i2 i3 i4 hg
    by_cases h5 : lab = 5
    · subst h5
      exact zs_X3_howSure_5 t mk ad t_size t_numbers t_tally n1 hx hb hml hown hts hK hP hB i2 i3 i4 hg
    have hz : zg_X3_howSure mk t_size t_numbers n1 (lab, i2, i3, i4) = none := by simp [zg_X3_howSure, h0, h5]
    rw [hz] at hg
    obtain ⟨a, h1, -⟩ := hg
    cases h1
  exact jwalk (At := zA_X3_howSure p l e s m args below meth c Q H locs t mk ad n1) (Ret := zQ_X3_howSure p l e s m args below meth c Q H locs) hst _ _ _ h hq
set_option maxHeartbeats 4000000 in
set_option maxRecDepth 100000 in
theorem zc_X3_howSure (l : Launch) (D : va_G) (κ : Nat → ClassId) (t : Nat → Nat) (mk : Nat) (ad : Nat → Nat → Nat) (t_size : Int) (t_numbers : Nat) (t_tally : Nat) (n1 : Nat) (i2 : Int) (out : Int) (h : zf_X3_howSure mk t_size t_numbers n1 i2 = some out) : Met l yX3_howSure wsX3_howSure zr_X3_howSure (va_Pc [.ref (t 0), .ref (ad n1 0), .int (zi i2)] (zRa D κ mk ad ([((t 0), .inr (3, [.ref (t 1), .ref (t 2), .int (zi t_size)])), ((t 1), .inl (κ 1, 429, .inl (zc t_numbers))), ((t 2), .inl (κ 1, 22, .inl (zc t_tally)))]))) (vp_Si (fun x => x = zi out)) 0 0 (fun _ => False) := by
  refine Met.ofW (cc := cX3_howSure) (maxL := 5) (ret := (some .int)) (by decide +kernel) rfl ?_
  intro p e s m args below meth c s₁ B hml hv
  obtain ⟨rfl, hP, hK, hB⟩ := hv
  have hx := B.exec
  have hb := B.bytes
  have hr := B.returns
  have hts := atoms_spec (ws := wsX3_howSure) B.pre
  have hown : s.vm.findClass RX3 = some m.cls := findClass_of_methodNamed B.named
  have hlocks := B.notSynchronized
  have hl := lv_entry ([.ref (t 0), .ref (ad n1 0), .int (zi i2)]) (n := 5) (Nat.le_of_ble_eq_true rfl)
  rw [lg_entry_eq]
  generalize (lg_sl ([.ref (t 0), .ref (ad n1 0), .int (zi i2)]) ++ List.replicate (5 - (lg_sl ([.ref (t 0), .ref (ad n1 0), .int (zi i2)])).length) Slot.unset).toArray = ls at hl ⊢
  have hl : lv_has ls 5 [(0, .ref (t 0)), (1, .ref (ad n1 0)), (2, .int (zi i2))] := hl
  refine (zw_X3_howSure t mk ad t_size t_numbers t_tally n1 i2 hx hb hml hown hts hK hP hB out h ?_) ls (lv_sub hl [0, 1, 2] rfl)
  exact fun ls pc hd => W.iret hx hb hr (fun t ht hW => ⟨_, rfl, rfl, ht⟩) (fun _ h => by cases h) hd
/-! DiamondRows$Fitting.mostAgreeing(LDiamondRows$Polygon;II)I -/
abbrev zr_X3_mostAgreeing : Room := { frames := 3, cells := 0, slots := 0, locals := 70 }
abbrev zS_X3_mostAgreeing : Type := Nat × Int × Int × Int × Int × Nat
abbrev zO_X3_mostAgreeing : Type := Int × Nat
noncomputable def zg_X3_mostAgreeing_0 (mk : Nat) (t_size : Int) (t_numbers : Nat) (n1 : Nat) (i2 : Int) (i3 : Int) (i4 : Int) (i5 : Int) (t_tally : Nat) : Option (zO_X3_mostAgreeing ⊕ zS_X3_mostAgreeing) :=
  some (.inr (3, i2, i3, (0 : Int), 0, t_tally))
noncomputable def zg_X3_mostAgreeing_3 (mk : Nat) (t_size : Int) (t_numbers : Nat) (n1 : Nat) (i2 : Int) (i3 : Int) (i4 : Int) (i5 : Int) (t_tally : Nat) : Option (zO_X3_mostAgreeing ⊕ zS_X3_mostAgreeing) :=
  if zout i4 then none else
  if (21 : Int) < i4 then
  some (.inr (30, i2, i3, (0 : Int), (0 : Int), t_tally))
  else
  if i4 < 0 ∨ 22 ≤ i4 then none else
  some (.inr (3, i2, i3, (i4 + (1 : Int)), 0, (zset t_tally (Int.toNat i4) (0 : Int))))
noncomputable def zg_X3_mostAgreeing_30 (mk : Nat) (t_size : Int) (t_numbers : Nat) (n1 : Nat) (i2 : Int) (i3 : Int) (i4 : Int) (i5 : Int) (t_tally : Nat) : Option (zO_X3_mostAgreeing ⊕ zS_X3_mostAgreeing) :=
  if zout i5 then none else
  if zout t_size then none else
  if t_size ≤ i5 then
  some (.inl (i4, t_tally))
  else
  if i5 < 0 ∨ 429 ≤ i5 then none else
  if zno mk n1 then none else
  Option.bind (zf_X5_cutAt n1 (zget t_numbers (Int.toNat i5))) (fun o8 =>
  Option.bind (zf_X5_entryOf n1 o8 i2 i3) (fun o9 =>
  if zout o9 then none else
  if o9 < 0 then
  some (.inr (30, i2, i3, i4, (i5 + (1 : Int)), t_tally))
  else
  if (21 : Int) < o9 then
  some (.inr (30, i2, i3, i4, (i5 + (1 : Int)), t_tally))
  else
  if o9 < 0 ∨ 22 ≤ o9 then none else
  if zout i4 then none else
  some (.inr (30, i2, i3, (zmax i4 (zget (zset t_tally (Int.toNat o9) ((zget t_tally (Int.toNat o9)) + (1 : Int))) (Int.toNat o9))), (i5 + (1 : Int)), (zset t_tally (Int.toNat o9) ((zget t_tally (Int.toNat o9)) + (1 : Int)))))))
noncomputable def zg_X3_mostAgreeing (mk : Nat) (t_size : Int) (t_numbers : Nat) (n1 : Nat) (st : zS_X3_mostAgreeing) : Option (zO_X3_mostAgreeing ⊕ zS_X3_mostAgreeing) := match st with
  | (lab, i2, i3, i4, i5, t_tally) => if lab = 0 then zg_X3_mostAgreeing_0 mk t_size t_numbers n1 i2 i3 i4 i5 t_tally else if lab = 3 then zg_X3_mostAgreeing_3 mk t_size t_numbers n1 i2 i3 i4 i5 t_tally else if lab = 30 then zg_X3_mostAgreeing_30 mk t_size t_numbers n1 i2 i3 i4 i5 t_tally else none
noncomputable def zf_X3_mostAgreeing (mk : Nat) (t_size : Int) (t_numbers : Nat) (t_tally : Nat) (n1 : Nat) (i2 : Int) (i3 : Int) : Option (Int × Nat) := jrun (zg_X3_mostAgreeing mk t_size t_numbers n1) jfuel (0, i2, i3, 0, 0, t_tally)
theorem zi_X3_mostAgreeing_X3 : ∀ w ∈ u_ws RX3 TX3 3, w ∈ wsX3_mostAgreeing := fun w h => (List.mem_cons_of_mem _ (List.mem_append_right _ (List.mem_append_left _ h)))
theorem zl_X3_mostAgreeing_9 : Cond.fieldLink RX3 9 "DiamondRows$Fitting" "numbers" "[I" ∈ wsX3_mostAgreeing := (List.mem_cons_of_mem _ (List.mem_append_left _ (List.mem_of_getElem? (i := 2) rfl)))
theorem zl_X3_mostAgreeing_15 : Cond.fieldLink RX3 15 "DiamondRows$Fitting" "tally" "[I" ∈ wsX3_mostAgreeing := (List.mem_cons_of_mem _ (List.mem_append_left _ (List.mem_of_getElem? (i := 0) rfl)))
theorem zl_X3_mostAgreeing_18 : Cond.fieldLink RX3 18 "DiamondRows$Fitting" "size" "I" ∈ wsX3_mostAgreeing := (List.mem_cons_of_mem _ (List.mem_append_left _ (List.mem_of_getElem? (i := 1) rfl)))
def zQ_X3_mostAgreeing (p : Program) (l : Launch) (e : Env) (s : State) (m : MethodId) (args : Array Value) (below : List Frame) (meth : Method) (c : Code) (Q : State → Prop) (D : va_G) (κ : Nat → ClassId) (A : Nat → Prop) (H0 : Heap) (t : Nat → Nat) (mk : Nat) (ad : Nat → Nat → Nat) (t_size : Int) (t_numbers : Nat) (n1 : Nat) (o : Int × Nat) : Prop := ∀ (H : Heap) (locs : List Loc) (ls : Array Slot) (pc : Nat), va_P D vwCl ([((t 0), .inr (3, [.ref (t 1), .ref (t 2), .int (zi t_size)])), ((t 1), .inl (κ 1, 429, .inl (zc t_numbers))), ((t 2), .inl (κ 1, 22, .inl (zc (o.2))))]) H → va_D A ([((t 0), .inr (3, [.ref (t 1), .ref (t 2), .int (zi t_size)])), ((t 1), .inl (κ 1, 429, .inl (zc t_numbers))), ((t 2), .inl (κ 1, 22, .inl (zc (o.2))))]) → va_S A H0 H locs → decode cX3_mostAgreeing pc = .ok (.ireturn, 1) → W p l e zr_X3_mostAgreeing s m args below meth c H locs 0 0 Q (F0 m pc ls [.int (zi (o.1))])
def zA_X3_mostAgreeing_0 (p : Program) (l : Launch) (e : Env) (s : State) (m : MethodId) (args : Array Value) (below : List Frame) (meth : Method) (c : Code) (Q : State → Prop) (D : va_G) (κ : Nat → ClassId) (A : Nat → Prop) (H0 : Heap) (t : Nat → Nat) (mk : Nat) (ad : Nat → Nat → Nat) (t_size : Int) (t_numbers : Nat) (n1 : Nat) (i2 : Int) (i3 : Int) (i4 : Int) (i5 : Int) (t_tally : Nat) : Prop := ∀ (H : Heap) (locs : List Loc) (ls : Array Slot), va_P D vwCl ([((t 0), .inr (3, [.ref (t 1), .ref (t 2), .int (zi t_size)])), ((t 1), .inl (κ 1, 429, .inl (zc t_numbers))), ((t 2), .inl (κ 1, 22, .inl (zc t_tally)))]) H → va_D A ([((t 0), .inr (3, [.ref (t 1), .ref (t 2), .int (zi t_size)])), ((t 1), .inl (κ 1, 429, .inl (zc t_numbers))), ((t 2), .inl (κ 1, 22, .inl (zc t_tally)))]) → va_S A H0 H locs → lv_has ls 7 [(0, .ref (t 0)), (1, .ref (ad n1 0)), (2, .int (zi i2)), (3, .int (zi i3))] → W p l e zr_X3_mostAgreeing s m args below meth c H locs 0 0 Q (F0 m 0 ls [])
def zA_X3_mostAgreeing_3 (p : Program) (l : Launch) (e : Env) (s : State) (m : MethodId) (args : Array Value) (below : List Frame) (meth : Method) (c : Code) (Q : State → Prop) (D : va_G) (κ : Nat → ClassId) (A : Nat → Prop) (H0 : Heap) (t : Nat → Nat) (mk : Nat) (ad : Nat → Nat → Nat) (t_size : Int) (t_numbers : Nat) (n1 : Nat) (i2 : Int) (i3 : Int) (i4 : Int) (i5 : Int) (t_tally : Nat) : Prop := ∀ (H : Heap) (locs : List Loc) (ls : Array Slot), va_P D vwCl ([((t 0), .inr (3, [.ref (t 1), .ref (t 2), .int (zi t_size)])), ((t 1), .inl (κ 1, 429, .inl (zc t_numbers))), ((t 2), .inl (κ 1, 22, .inl (zc t_tally)))]) H → va_D A ([((t 0), .inr (3, [.ref (t 1), .ref (t 2), .int (zi t_size)])), ((t 1), .inl (κ 1, 429, .inl (zc t_numbers))), ((t 2), .inl (κ 1, 22, .inl (zc t_tally)))]) → va_S A H0 H locs → lv_has ls 7 [(0, .ref (t 0)), (1, .ref (ad n1 0)), (2, .int (zi i2)), (3, .int (zi i3)), (4, .int (zi i4))] → W p l e zr_X3_mostAgreeing s m args below meth c H locs 0 0 Q (F0 m 3 ls [])
def zA_X3_mostAgreeing_30 (p : Program) (l : Launch) (e : Env) (s : State) (m : MethodId) (args : Array Value) (below : List Frame) (meth : Method) (c : Code) (Q : State → Prop) (D : va_G) (κ : Nat → ClassId) (A : Nat → Prop) (H0 : Heap) (t : Nat → Nat) (mk : Nat) (ad : Nat → Nat → Nat) (t_size : Int) (t_numbers : Nat) (n1 : Nat) (i2 : Int) (i3 : Int) (i4 : Int) (i5 : Int) (t_tally : Nat) : Prop := ∀ (H : Heap) (locs : List Loc) (ls : Array Slot), va_P D vwCl ([((t 0), .inr (3, [.ref (t 1), .ref (t 2), .int (zi t_size)])), ((t 1), .inl (κ 1, 429, .inl (zc t_numbers))), ((t 2), .inl (κ 1, 22, .inl (zc t_tally)))]) H → va_D A ([((t 0), .inr (3, [.ref (t 1), .ref (t 2), .int (zi t_size)])), ((t 1), .inl (κ 1, 429, .inl (zc t_numbers))), ((t 2), .inl (κ 1, 22, .inl (zc t_tally)))]) → va_S A H0 H locs → lv_has ls 7 [(0, .ref (t 0)), (1, .ref (ad n1 0)), (2, .int (zi i2)), (3, .int (zi i3)), (4, .int (zi i4)), (5, .int (zi i5))] → W p l e zr_X3_mostAgreeing s m args below meth c H locs 0 0 Q (F0 m 30 ls [])
def zA_X3_mostAgreeing (p : Program) (l : Launch) (e : Env) (s : State) (m : MethodId) (args : Array Value) (below : List Frame) (meth : Method) (c : Code) (Q : State → Prop) (D : va_G) (κ : Nat → ClassId) (A : Nat → Prop) (H0 : Heap) (t : Nat → Nat) (mk : Nat) (ad : Nat → Nat → Nat) (t_size : Int) (t_numbers : Nat) (n1 : Nat) (st : zS_X3_mostAgreeing) : Prop := match st with
  | (lab, i2, i3, i4, i5, t_tally) => if lab = 0 then zA_X3_mostAgreeing_0 p l e s m args below meth c Q D κ A H0 t mk ad t_size t_numbers n1 i2 i3 i4 i5 t_tally else if lab = 3 then zA_X3_mostAgreeing_3 p l e s m args below meth c Q D κ A H0 t mk ad t_size t_numbers n1 i2 i3 i4 i5 t_tally else if lab = 30 then zA_X3_mostAgreeing_30 p l e s m args below meth c Q D κ A H0 t mk ad t_size t_numbers n1 i2 i3 i4 i5 t_tally else True
set_option maxHeartbeats 4000000 in
set_option maxRecDepth 100000 in
theorem zs_X3_mostAgreeing_0 {p : Program} {l : Launch} {e : Env} {s : State} {m : MethodId} {args : Array Value} {below : List Frame} {meth : Method} {c : Code} {Q : State → Prop} {D : va_G} {κ : Nat → ClassId} {A : Nat → Prop} {H0 : Heap} (t : Nat → Nat) (mk : Nat) (ad : Nat → Nat → Nat) (t_size : Int) (t_numbers : Nat) (n1 : Nat) (hx : p.tables.exec = Jvm.exec) (hb : c.code = cX3_mostAgreeing) (hml : c.maxLocals = 7) (hown : s.vm.findClass RX3 = some m.cls) (hts : ∀ w ∈ wsX3_mostAgreeing, w.before args s = true) (hK : va_K D vwCl (zTY κ) s) (hA : ∀ q : Nat, H0.size ≤ q → A q) (hB : zAmb D κ mk ad H0) (hBA : zApt mk ad A H0.size) (i2 : Int) (i3 : Int) (i4 : Int) (i5 : Int) (t_tally : Nat) (hg : Go (GoE (zA_X3_mostAgreeing p l e s m args below meth c Q D κ A H0 t mk ad t_size t_numbers n1) (zQ_X3_mostAgreeing p l e s m args below meth c Q D κ A H0 t mk ad t_size t_numbers n1)) (zg_X3_mostAgreeing_0 mk t_size t_numbers n1 i2 i3 i4 i5 t_tally)) : zA_X3_mostAgreeing_0 p l e s m args below meth c Q D κ A H0 t mk ad t_size t_numbers n1 i2 i3 i4 i5 t_tally := by
  intro H locs ls hP hD hS hl
  unfold zg_X3_mostAgreeing_0 at hg
  refine zv_iconst hx hb dX3_mostAgreeing_0 ?_
  refine lv_istore (lv' := [(4, .int (zi (0 : Int))), (0, .ref (t 0)), (1, .ref (ad n1 0)), (2, .int (zi i2)), (3, .int (zi i3))]) hx hb dX3_mostAgreeing_1 hl (by decide) rfl (fun ls hl => ?_)
  exact (Go_s hg) H locs ls hP hD hS (lv_sub hl [1, 2, 3, 4, 0] rfl)
set_option maxHeartbeats 4000000 in
set_option maxRecDepth 100000 in
theorem zs_X3_mostAgreeing_3 {p : Program} {l : Launch} {e : Env} {s : State} {m : MethodId} {args : Array Value} {below : List Frame} {meth : Method} {c : Code} {Q : State → Prop} {D : va_G} {κ : Nat → ClassId} {A : Nat → Prop} {H0 : Heap} (t : Nat → Nat) (mk : Nat) (ad : Nat → Nat → Nat) (t_size : Int) (t_numbers : Nat) (n1 : Nat) (hx : p.tables.exec = Jvm.exec) (hb : c.code = cX3_mostAgreeing) (hml : c.maxLocals = 7) (hown : s.vm.findClass RX3 = some m.cls) (hts : ∀ w ∈ wsX3_mostAgreeing, w.before args s = true) (hK : va_K D vwCl (zTY κ) s) (hA : ∀ q : Nat, H0.size ≤ q → A q) (hB : zAmb D κ mk ad H0) (hBA : zApt mk ad A H0.size) (i2 : Int) (i3 : Int) (i4 : Int) (i5 : Int) (t_tally : Nat) (hg : Go (GoE (zA_X3_mostAgreeing p l e s m args below meth c Q D κ A H0 t mk ad t_size t_numbers n1) (zQ_X3_mostAgreeing p l e s m args below meth c Q D κ A H0 t mk ad t_size t_numbers n1)) (zg_X3_mostAgreeing_3 mk t_size t_numbers n1 i2 i3 i4 i5 t_tally)) : zA_X3_mostAgreeing_3 p l e s m args below meth c Q D κ A H0 t mk ad t_size t_numbers n1 i2 i3 i4 i5 t_tally := by
  intro H locs ls hP hD hS hl
  unfold zg_X3_mostAgreeing_3 at hg
  refine lv_iload hx hb dX3_mostAgreeing_3 (lv_at hl 4 rfl) ?_
  refine zv_bipush hx hb dX3_mostAgreeing_5 (by decide) ?_
  obtain ⟨b1, hg⟩ := Go_n hg
  refine zv_icmp_gt (tgt := 24) hx hb dX3_mostAgreeing_7 (by decide) b1 (by decide) (fun c3 => ?_) (fun c3 => ?_)
  · have hg := Go_t c3 hg
    refine zv_iconst hx hb dX3_mostAgreeing_24 ?_
    refine lv_istore (lv' := [(4, .int (zi (0 : Int))), (0, .ref (t 0)), (1, .ref (ad n1 0)), (2, .int (zi i2)), (3, .int (zi i3))]) hx hb dX3_mostAgreeing_25 hl (by decide) rfl (fun ls hl => ?_)
    refine zv_iconst hx hb dX3_mostAgreeing_27 ?_
    refine lv_istore (lv' := [(5, .int (zi (0 : Int))), (4, .int (zi (0 : Int))), (0, .ref (t 0)), (1, .ref (ad n1 0)), (2, .int (zi i2)), (3, .int (zi i3))]) hx hb dX3_mostAgreeing_28 hl (by decide) rfl (fun ls hl => ?_)
    exact (Go_s hg) H locs ls hP hD hS (lv_sub hl [2, 3, 4, 5, 1, 0] rfl)
  · have hg := Go_f c3 hg
    refine lv_aload_n hx hb dX3_mostAgreeing_10 rfl (lv_at hl 0 rfl) ?_
    refine va_get (D := D) (ci := 3) (v := .ref (t 2)) (C := RX3) (T := TX3) (N := 3) hx hb hts zi_X3_mostAgreeing_X3 hown hK hP 0 rfl rfl 1 (by decide) (hts (.fieldLink RX3 15 "DiamondRows$Fitting" "tally" "[I") zl_X3_mostAgreeing_15) (fun _ h9 => h9) rfl dX3_mostAgreeing_11 ?_
    refine lv_iload hx hb dX3_mostAgreeing_14 (lv_at hl 4 rfl) ?_
    refine zv_iconst hx hb dX3_mostAgreeing_16 ?_
    obtain ⟨n2, hg⟩ := Go_n hg
    refine zv_iast hx hb hK hP hD hS 2 1 rfl rfl (by decide) n2 dX3_mostAgreeing_17 (fun H locs hP hD hS => ?_)
    have hP : va_P D vwCl ([((t 0), .inr (3, [.ref (t 1), .ref (t 2), .int (zi t_size)])), ((t 1), .inl (κ 1, 429, .inl (zc t_numbers))), ((t 2), .inl (κ 1, 22, .inl (zc (zset t_tally (Int.toNat i4) (0 : Int)))))]) H := hP
    have hD : va_D A ([((t 0), .inr (3, [.ref (t 1), .ref (t 2), .int (zi t_size)])), ((t 1), .inl (κ 1, 429, .inl (zc t_numbers))), ((t 2), .inl (κ 1, 22, .inl (zc (zset t_tally (Int.toNat i4) (0 : Int)))))]) := hD
    refine lv_iinc (v := zi (i4 + (1 : Int))) (lv' := [(4, .int (zi (i4 + (1 : Int)))), (0, .ref (t 0)), (1, .ref (ad n1 0)), (2, .int (zi i2)), (3, .int (zi i3))]) hx hb dX3_mostAgreeing_18 hl (k := 4) rfl (zi_add i4 _) (by decide) rfl (fun ls hl => ?_)
    refine lv_goto (tgt := 3) hx hb dX3_mostAgreeing_21 (by decide) ?_
    exact (Go_s hg) H locs ls hP hD hS (lv_sub hl [1, 2, 3, 4, 0] rfl)
set_option maxHeartbeats 4000000 in
set_option maxRecDepth 100000 in
theorem zs_X3_mostAgreeing_30 {p : Program} {l : Launch} {e : Env} {s : State} {m : MethodId} {args : Array Value} {below : List Frame} {meth : Method} {c : Code} {Q : State → Prop} {D : va_G} {κ : Nat → ClassId} {A : Nat → Prop} {H0 : Heap} (t : Nat → Nat) (mk : Nat) (ad : Nat → Nat → Nat) (t_size : Int) (t_numbers : Nat) (n1 : Nat) (hx : p.tables.exec = Jvm.exec) (hb : c.code = cX3_mostAgreeing) (hml : c.maxLocals = 7) (hown : s.vm.findClass RX3 = some m.cls) (hts : ∀ w ∈ wsX3_mostAgreeing, w.before args s = true) (hK : va_K D vwCl (zTY κ) s) (hA : ∀ q : Nat, H0.size ≤ q → A q) (hB : zAmb D κ mk ad H0) (hBA : zApt mk ad A H0.size) (i2 : Int) (i3 : Int) (i4 : Int) (i5 : Int) (t_tally : Nat) (hg : Go (GoE (zA_X3_mostAgreeing p l e s m args below meth c Q D κ A H0 t mk ad t_size t_numbers n1) (zQ_X3_mostAgreeing p l e s m args below meth c Q D κ A H0 t mk ad t_size t_numbers n1)) (zg_X3_mostAgreeing_30 mk t_size t_numbers n1 i2 i3 i4 i5 t_tally)) : zA_X3_mostAgreeing_30 p l e s m args below meth c Q D κ A H0 t mk ad t_size t_numbers n1 i2 i3 i4 i5 t_tally := by
  intro H locs ls hP hD hS hl
  unfold zg_X3_mostAgreeing_30 at hg
  refine lv_iload hx hb dX3_mostAgreeing_30 (lv_at hl 5 rfl) ?_
  refine lv_aload_n hx hb dX3_mostAgreeing_32 rfl (lv_at hl 0 rfl) ?_
  refine va_get (D := D) (ci := 3) (v := .int (zi t_size)) (C := RX3) (T := TX3) (N := 3) hx hb hts zi_X3_mostAgreeing_X3 hown hK hP 0 rfl rfl 2 (by decide) (hts (.fieldLink RX3 18 "DiamondRows$Fitting" "size" "I") zl_X3_mostAgreeing_18) (fun _ h9 => h9) rfl dX3_mostAgreeing_33 ?_
  obtain ⟨b4, hg⟩ := Go_n hg
  obtain ⟨b5, hg⟩ := Go_n hg
  refine zv_icmp_ge (tgt := 101) hx hb dX3_mostAgreeing_36 (by decide) b4 b5 (fun c15 => ?_) (fun c15 => ?_)
  · have hg := Go_t c15 hg
    refine lv_iload hx hb dX3_mostAgreeing_101 (lv_at hl 4 rfl) ?_
    exact (Go_s hg) _ _ _ _ hP hD hS dX3_mostAgreeing_103
  · have hg := Go_f c15 hg
    refine lv_aload_n hx hb dX3_mostAgreeing_39 rfl (lv_at hl 1 rfl) ?_
    refine lv_aload_n hx hb dX3_mostAgreeing_40 rfl (lv_at hl 1 rfl) ?_
    refine lv_aload_n hx hb dX3_mostAgreeing_41 rfl (lv_at hl 0 rfl) ?_
    refine va_get (D := D) (ci := 3) (v := .ref (t 1)) (C := RX3) (T := TX3) (N := 3) hx hb hts zi_X3_mostAgreeing_X3 hown hK hP 0 rfl rfl 0 (by decide) (hts (.fieldLink RX3 9 "DiamondRows$Fitting" "numbers" "[I") zl_X3_mostAgreeing_9) (fun _ h9 => h9) rfl dX3_mostAgreeing_42 ?_
    refine lv_iload hx hb dX3_mostAgreeing_45 (lv_at hl 5 rfl) ?_
    obtain ⟨n6, hg⟩ := Go_n hg
    refine zv_iald hx hb hK hP 1 1 rfl rfl (by decide) n6 dX3_mostAgreeing_47 ?_
    obtain ⟨m7, hg⟩ := Go_n hg
    obtain ⟨o8, ho8, hg⟩ := Go_b hg
    refine zc_vi (rest := [.ref (ad n1 0)]) ⟨hx, hb, hml, hown, hts⟩ (zc_X5_cutAt l D κ (ad n1) n1 (zget t_numbers (Int.toNat i5)) o8 ho8) (cwV 1 hts gX3_mostAgreeing_X5_cutAt rfl rfl rfl hv_X5_cutAt ⟨Nat.le_of_ble_eq_true rfl, Nat.le_of_ble_eq_true rfl⟩) (zpreV hK ((zamb hB hBA hS) n1 m7) 5 0 rfl rfl) rfl hl.1 rfl (Nat.le_of_ble_eq_true rfl) dX3_mostAgreeing_48 ⟨Nat.zero_le _, Nat.zero_le _⟩ ?_
    refine lv_iload_n hx hb dX3_mostAgreeing_51 rfl (lv_at hl 2 rfl) ?_
    refine lv_iload_n hx hb dX3_mostAgreeing_52 rfl (lv_at hl 3 rfl) ?_
    obtain ⟨o9, ho9, hg⟩ := Go_b hg
    refine zc_vi (rest := []) ⟨hx, hb, hml, hown, hts⟩ (zc_X5_entryOf l D κ (ad n1) n1 o8 i2 i3 o9 ho9) (cwV 3 hts gX3_mostAgreeing_X5_entryOf rfl rfl rfl hv_X5_entryOf ⟨Nat.le_of_ble_eq_true rfl, Nat.le_of_ble_eq_true rfl⟩) (zpreV hK ((zamb hB hBA hS) n1 m7) 5 0 rfl rfl) rfl hl.1 rfl (Nat.le_of_ble_eq_true rfl) dX3_mostAgreeing_53 ⟨Nat.zero_le _, Nat.zero_le _⟩ ?_
    refine lv_istore (lv' := [(6, .int (zi o9)), (0, .ref (t 0)), (1, .ref (ad n1 0)), (2, .int (zi i2)), (3, .int (zi i3)), (4, .int (zi i4)), (5, .int (zi i5))]) hx hb dX3_mostAgreeing_56 hl (by decide) rfl (fun ls hl => ?_)
    refine lv_iload hx hb dX3_mostAgreeing_58 (lv_at hl 0 rfl) ?_
    obtain ⟨b10, hg⟩ := Go_n hg
    refine zv_if_lt (tgt := 95) hx hb dX3_mostAgreeing_60 (by decide) b10 (fun c14 => ?_) (fun c14 => ?_)
    · have hg := Go_t c14 hg
      refine lv_iinc (v := zi (i5 + (1 : Int))) (lv' := [(5, .int (zi (i5 + (1 : Int)))), (6, .int (zi o9)), (0, .ref (t 0)), (1, .ref (ad n1 0)), (2, .int (zi i2)), (3, .int (zi i3)), (4, .int (zi i4))]) hx hb dX3_mostAgreeing_95 hl (k := 6) rfl (zi_add i5 _) (by decide) rfl (fun ls hl => ?_)
      refine lv_goto (tgt := 30) hx hb dX3_mostAgreeing_98 (by decide) ?_
      exact (Go_s hg) H locs ls hP hD hS (lv_sub hl [2, 3, 4, 5, 6, 0] rfl)
    · have hg := Go_f c14 hg
      refine lv_iload hx hb dX3_mostAgreeing_63 (lv_at hl 0 rfl) ?_
      refine zv_bipush hx hb dX3_mostAgreeing_65 (by decide) ?_
      refine zv_icmp_gt (tgt := 95) hx hb dX3_mostAgreeing_67 (by decide) b10 (by decide) (fun c13 => ?_) (fun c13 => ?_)
      · have hg := Go_t c13 hg
        refine lv_iinc (v := zi (i5 + (1 : Int))) (lv' := [(5, .int (zi (i5 + (1 : Int)))), (6, .int (zi o9)), (0, .ref (t 0)), (1, .ref (ad n1 0)), (2, .int (zi i2)), (3, .int (zi i3)), (4, .int (zi i4))]) hx hb dX3_mostAgreeing_95 hl (k := 6) rfl (zi_add i5 _) (by decide) rfl (fun ls hl => ?_)
        refine lv_goto (tgt := 30) hx hb dX3_mostAgreeing_98 (by decide) ?_
        exact (Go_s hg) H locs ls hP hD hS (lv_sub hl [2, 3, 4, 5, 6, 0] rfl)
      · have hg := Go_f c13 hg
        refine lv_aload_n hx hb dX3_mostAgreeing_70 rfl (lv_at hl 1 rfl) ?_
        refine va_get (D := D) (ci := 3) (v := .ref (t 2)) (C := RX3) (T := TX3) (N := 3) hx hb hts zi_X3_mostAgreeing_X3 hown hK hP 0 rfl rfl 1 (by decide) (hts (.fieldLink RX3 15 "DiamondRows$Fitting" "tally" "[I") zl_X3_mostAgreeing_15) (fun _ h9 => h9) rfl dX3_mostAgreeing_71 ?_
        refine lv_iload hx hb dX3_mostAgreeing_74 (lv_at hl 0 rfl) ?_
        refine lv_dup2_11 hx hb dX3_mostAgreeing_76 rfl rfl ?_
        obtain ⟨n11, hg⟩ := Go_n hg
        refine zv_iald hx hb hK hP 2 1 rfl rfl (by decide) n11 dX3_mostAgreeing_77 ?_
        refine zv_iconst hx hb dX3_mostAgreeing_78 ?_
        refine zv_iadd hx hb dX3_mostAgreeing_79 ?_
        refine zv_iast hx hb hK hP hD hS 2 1 rfl rfl (by decide) n11 dX3_mostAgreeing_80 (fun H locs hP hD hS => ?_)
        have hP : va_P D vwCl ([((t 0), .inr (3, [.ref (t 1), .ref (t 2), .int (zi t_size)])), ((t 1), .inl (κ 1, 429, .inl (zc t_numbers))), ((t 2), .inl (κ 1, 22, .inl (zc (zset t_tally (Int.toNat o9) ((zget t_tally (Int.toNat o9)) + (1 : Int))))))]) H := hP
        have hD : va_D A ([((t 0), .inr (3, [.ref (t 1), .ref (t 2), .int (zi t_size)])), ((t 1), .inl (κ 1, 429, .inl (zc t_numbers))), ((t 2), .inl (κ 1, 22, .inl (zc (zset t_tally (Int.toNat o9) ((zget t_tally (Int.toNat o9)) + (1 : Int))))))]) := hD
        refine lv_iload hx hb dX3_mostAgreeing_81 (lv_at hl 5 rfl) ?_
        refine lv_aload_n hx hb dX3_mostAgreeing_83 rfl (lv_at hl 1 rfl) ?_
        refine va_get (D := D) (ci := 3) (v := .ref (t 2)) (C := RX3) (T := TX3) (N := 3) hx hb hts zi_X3_mostAgreeing_X3 hown hK hP 0 rfl rfl 1 (by decide) (hts (.fieldLink RX3 15 "DiamondRows$Fitting" "tally" "[I") zl_X3_mostAgreeing_15) (fun _ h9 => h9) rfl dX3_mostAgreeing_84 ?_
        refine lv_iload hx hb dX3_mostAgreeing_87 (lv_at hl 0 rfl) ?_
        refine zv_iald hx hb hK hP 2 1 rfl rfl (by decide) n11 dX3_mostAgreeing_89 ?_
        obtain ⟨b12, hg⟩ := Go_n hg
        refine va_mmax hx hb (by rw [hml]; exact hl.1.symm) hown (hts (.methodLink RX3 66 Lib.Math.max.name) (List.mem_cons_of_mem _ (List.mem_append_left _ (List.mem_of_getElem? (i := 3) rfl)))) (hts (.static Lib.Math.max.name) (by decide +kernel)) (hts (.initialized "java/lang/Math") (by decide +kernel)) (hts (.code Lib.Math.max.name Lib.Math.max.code 2 (some .int)) (by decide +kernel)) (Nat.le_of_ble_eq_true rfl) (Nat.le_of_ble_eq_true rfl) (Nat.zero_le _) (Nat.zero_le _) dX3_mostAgreeing_90 ?_
        rw [zi_max b12 (zget_in _ _)]
        refine lv_istore (lv' := [(4, .int (zi (zmax i4 (zget (zset t_tally (Int.toNat o9) ((zget t_tally (Int.toNat o9)) + (1 : Int))) (Int.toNat o9))))), (6, .int (zi o9)), (0, .ref (t 0)), (1, .ref (ad n1 0)), (2, .int (zi i2)), (3, .int (zi i3)), (5, .int (zi i5))]) hx hb dX3_mostAgreeing_93 hl (by decide) rfl (fun ls hl => ?_)
        refine lv_iinc (v := zi (i5 + (1 : Int))) (lv' := [(5, .int (zi (i5 + (1 : Int)))), (4, .int (zi (zmax i4 (zget (zset t_tally (Int.toNat o9) ((zget t_tally (Int.toNat o9)) + (1 : Int))) (Int.toNat o9))))), (6, .int (zi o9)), (0, .ref (t 0)), (1, .ref (ad n1 0)), (2, .int (zi i2)), (3, .int (zi i3))]) hx hb dX3_mostAgreeing_95 hl (k := 6) rfl (zi_add i5 _) (by decide) rfl (fun ls hl => ?_)
        refine lv_goto (tgt := 30) hx hb dX3_mostAgreeing_98 (by decide) ?_
        exact (Go_s hg) H locs ls hP hD hS (lv_sub hl [3, 4, 5, 6, 1, 0] rfl)
set_option maxHeartbeats 4000000 in
set_option maxRecDepth 100000 in
theorem zw_X3_mostAgreeing {p : Program} {l : Launch} {e : Env} {s : State} {m : MethodId} {args : Array Value} {below : List Frame} {meth : Method} {c : Code} {Q : State → Prop} {D : va_G} {κ : Nat → ClassId} {A : Nat → Prop} {H0 : Heap} (t : Nat → Nat) (mk : Nat) (ad : Nat → Nat → Nat) (t_size : Int) (t_numbers : Nat) (n1 : Nat) (t_tally : Nat) (i2 : Int) (i3 : Int) (hx : p.tables.exec = Jvm.exec) (hb : c.code = cX3_mostAgreeing) (hml : c.maxLocals = 7) (hown : s.vm.findClass RX3 = some m.cls) (hts : ∀ w ∈ wsX3_mostAgreeing, w.before args s = true) (hK : va_K D vwCl (zTY κ) s) (hA : ∀ q : Nat, H0.size ≤ q → A q) (hB : zAmb D κ mk ad H0) (hBA : zApt mk ad A H0.size) (out : Int × Nat) (h : zf_X3_mostAgreeing mk t_size t_numbers t_tally n1 i2 i3 = some out) (hq : zQ_X3_mostAgreeing p l e s m args below meth c Q D κ A H0 t mk ad t_size t_numbers n1 out) : zA_X3_mostAgreeing_0 p l e s m args below meth c Q D κ A H0 t mk ad t_size t_numbers n1 i2 i3 0 0 t_tally := by
  have hst : ∀ st : zS_X3_mostAgreeing, Go (GoE (zA_X3_mostAgreeing p l e s m args below meth c Q D κ A H0 t mk ad t_size t_numbers n1) (zQ_X3_mostAgreeing p l e s m args below meth c Q D κ A H0 t mk ad t_size t_numbers n1)) (zg_X3_mostAgreeing mk t_size t_numbers n1 st) → zA_X3_mostAgreeing p l e s m args below meth c Q D κ A H0 t mk ad t_size t_numbers n1 st := by
    intro st hg
    obtain ⟨lab, i2, i3, i4, i5, t_tally⟩ := st
    by_cases h0 : lab = 0
    · subst h0
      exact zs_X3_mostAgreeing_0 t mk ad t_size t_numbers n1 hx hb hml hown hts hK hA hB hBA i2 i3 i4 i5 t_tally hg
    by_cases h3 : lab = 3
    · subst h3
      exact zs_X3_mostAgreeing_3 t mk ad t_size t_numbers n1 hx hb hml hown hts hK hA hB hBA i2 i3 i4 i5 t_tally hg
    by_cases h30 : lab = 30
    · subst h30
      exact zs_X3_mostAgreeing_30 t mk ad t_size t_numbers n1 hx hb hml hown hts hK hA hB hBA i2 i3 i4 i5 t_tally hg
    have hz : zg_X3_mostAgreeing mk t_size t_numbers n1 (lab, i2, i3, i4, i5, t_tally) = none := by simp [zg_X3_mostAgreeing, h0, h3, h30]
    rw [hz] at hg
    obtain ⟨a, h1, -⟩ := hg
    cases h1
  exact jwalk (At := zA_X3_mostAgreeing p l e s m args below meth c Q D κ A H0 t mk ad t_size t_numbers n1) (Ret := zQ_X3_mostAgreeing p l e s m args below meth c Q D κ A H0 t mk ad t_size t_numbers n1) hst _ _ _ h hq
set_option maxHeartbeats 4000000 in
set_option maxRecDepth 100000 in
theorem zc_X3_mostAgreeing (l : Launch) (D : va_G) (κ : Nat → ClassId) (t : Nat → Nat) (mk : Nat) (ad : Nat → Nat → Nat) (sz : Nat) (t_size : Int) (t_numbers : Nat) (t_tally : Nat) (n1 : Nat) (i2 : Int) (i3 : Int) (out : Int × Nat) (h : zf_X3_mostAgreeing mk t_size t_numbers t_tally n1 i2 i3 = some out) : Met l yX3_mostAgreeing wsX3_mostAgreeing zr_X3_mostAgreeing (va_Pc [.ref (t 0), .ref (ad n1 0), .int (zi i2), .int (zi i3)] (zWa D κ mk ad ([((t 0), .inr (3, [.ref (t 1), .ref (t 2), .int (zi t_size)])), ((t 1), .inl (κ 1, 429, .inl (zc t_numbers))), ((t 2), .inl (κ 1, 22, .inl (zc t_tally)))]) sz)) (va_Qi (fun r (_ : Unit) => r = zi (out.1)) (fun _ => zB D κ (va_A ([((t 0), .inr (3, [.ref (t 1), .ref (t 2), .int (zi t_size)])), ((t 1), .inl (κ 1, 429, .inl (zc t_numbers))), ((t 2), .inl (κ 1, 22, .inl (zc t_tally)))]) sz) ([((t 0), .inr (3, [.ref (t 1), .ref (t 2), .int (zi t_size)])), ((t 1), .inl (κ 1, 429, .inl (zc t_numbers))), ((t 2), .inl (κ 1, 22, .inl (zc (out.2))))])) (va_A ([((t 0), .inr (3, [.ref (t 1), .ref (t 2), .int (zi t_size)])), ((t 1), .inl (κ 1, 429, .inl (zc t_numbers))), ((t 2), .inl (κ 1, 22, .inl (zc t_tally)))]) sz)) 0 0 (va_A ([((t 0), .inr (3, [.ref (t 1), .ref (t 2), .int (zi t_size)])), ((t 1), .inl (κ 1, 429, .inl (zc t_numbers))), ((t 2), .inl (κ 1, 22, .inl (zc t_tally)))]) sz) := by
  refine Met.ofW (cc := cX3_mostAgreeing) (maxL := 7) (ret := (some .int)) (by decide +kernel) rfl ?_
  intro p e s m args below meth c s₁ B hml hv
  obtain ⟨rfl, hsz, hP, hK, hD0, hB, hBA⟩ := hv
  have hx := B.exec
  have hb := B.bytes
  have hr := B.returns
  have hts := atoms_spec (ws := wsX3_mostAgreeing) B.pre
  have hown : s.vm.findClass RX3 = some m.cls := findClass_of_methodNamed B.named
  have hlocks := B.notSynchronized
  subst hsz
  have hD := hD0.self (sz := s.heap.size)
  generalize hAe : va_A ([((t 0), .inr (3, [.ref (t 1), .ref (t 2), .int (zi t_size)])), ((t 1), .inl (κ 1, 429, .inl (zc t_numbers))), ((t 2), .inl (κ 1, 22, .inl (zc t_tally)))]) s.heap.size = A at hD hBA ⊢
  have hA : ∀ q : Nat, s.heap.size ≤ q → A q := fun q h => by rw [← hAe]; exact Or.inr h
  have hS : va_S A s.heap s.heap [] := va_S.rf
  have hl := lv_entry ([.ref (t 0), .ref (ad n1 0), .int (zi i2), .int (zi i3)]) (n := 7) (Nat.le_of_ble_eq_true rfl)
  rw [lg_entry_eq]
  generalize (lg_sl ([.ref (t 0), .ref (ad n1 0), .int (zi i2), .int (zi i3)]) ++ List.replicate (7 - (lg_sl ([.ref (t 0), .ref (ad n1 0), .int (zi i2), .int (zi i3)])).length) Slot.unset).toArray = ls at hl ⊢
  have hl : lv_has ls 7 [(0, .ref (t 0)), (1, .ref (ad n1 0)), (2, .int (zi i2)), (3, .int (zi i3))] := hl
  refine (zw_X3_mostAgreeing t mk ad t_size t_numbers n1 t_tally i2 i3 hx hb hml hown hts hK hA hB hBA out h ?_) s.heap [] ls hP hD hS (lv_sub hl [0, 1, 2, 3] rfl)
  exact fun H locs ls pc hP hD hS hd => W.iret hx hb hr (fun t ht hW => ⟨⟨_, (), rfl, rfl, by rw [ht]; exact hP, va_K.moved hW.alike hK, hD⟩, hS.F ht⟩) hS.2.2 hd
/-! DiamondRows$Fitting.bestQuestion(LDiamondRows$Polygon;)I -/
abbrev zr_X3_bestQuestion : Room := { frames := 4, cells := 0, slots := 0, locals := 96 }
abbrev zS_X3_bestQuestion : Type := Nat × Int × Int × Int × Nat
abbrev zO_X3_bestQuestion : Type := Int × Nat
noncomputable def zg_X3_bestQuestion_0 (mk : Nat) (t_size : Int) (t_numbers : Nat) (n1 : Nat) (i2 : Int) (i3 : Int) (i4 : Int) (t_tally : Nat) : Option (zO_X3_bestQuestion ⊕ zS_X3_bestQuestion) :=
  some (.inr (10, (-1 : Int), t_size, (0 : Int), t_tally))
noncomputable def zg_X3_bestQuestion_10 (mk : Nat) (t_size : Int) (t_numbers : Nat) (n1 : Nat) (i2 : Int) (i3 : Int) (i4 : Int) (t_tally : Nat) : Option (zO_X3_bestQuestion ⊕ zS_X3_bestQuestion) :=
  if zno mk n1 then none else
  Option.bind (zf_X5_lineCount n1) (fun o2 =>
  if zout i4 then none else
  if zout o2 then none else
  if o2 ≤ i4 then
  some (.inl (i2, t_tally))
  else
  Option.bind (zf_X5_lesserOf n1 i4) (fun o5 =>
  Option.bind (zf_X5_greaterOf n1 i4) (fun o6 =>
  Option.bind (zf_X3_mostAgreeing mk t_size t_numbers t_tally n1 o5 o6) (fun o7 =>
  if zout (o7.1) then none else
  if zout i3 then none else
  if i3 ≤ (o7.1) then
  some (.inr (10, i2, i3, (i4 + (1 : Int)), (o7.2)))
  else
  Option.bind (zf_X5_pairOf n1 i4) (fun o10 =>
  some (.inr (10, o10, (o7.1), (i4 + (1 : Int)), (o7.2))))))))
noncomputable def zg_X3_bestQuestion (mk : Nat) (t_size : Int) (t_numbers : Nat) (n1 : Nat) (st : zS_X3_bestQuestion) : Option (zO_X3_bestQuestion ⊕ zS_X3_bestQuestion) := match st with
  | (lab, i2, i3, i4, t_tally) => if lab = 0 then zg_X3_bestQuestion_0 mk t_size t_numbers n1 i2 i3 i4 t_tally else if lab = 10 then zg_X3_bestQuestion_10 mk t_size t_numbers n1 i2 i3 i4 t_tally else none
noncomputable def zf_X3_bestQuestion (mk : Nat) (t_size : Int) (t_numbers : Nat) (t_tally : Nat) (n1 : Nat) : Option (Int × Nat) := jrun (zg_X3_bestQuestion mk t_size t_numbers n1) jfuel (0, 0, 0, 0, t_tally)
theorem zi_X3_bestQuestion_X3 : ∀ w ∈ u_ws RX3 TX3 3, w ∈ wsX3_bestQuestion := fun w h => (List.mem_cons_of_mem _ (List.mem_append_right _ (List.mem_append_left _ h)))
theorem zl_X3_bestQuestion_18 : Cond.fieldLink RX3 18 "DiamondRows$Fitting" "size" "I" ∈ wsX3_bestQuestion := (List.mem_cons_of_mem _ (List.mem_append_left _ (List.mem_of_getElem? (i := 0) rfl)))
def zQ_X3_bestQuestion (p : Program) (l : Launch) (e : Env) (s : State) (m : MethodId) (args : Array Value) (below : List Frame) (meth : Method) (c : Code) (Q : State → Prop) (D : va_G) (κ : Nat → ClassId) (A : Nat → Prop) (H0 : Heap) (t : Nat → Nat) (mk : Nat) (ad : Nat → Nat → Nat) (t_size : Int) (t_numbers : Nat) (n1 : Nat) (o : Int × Nat) : Prop := ∀ (H : Heap) (locs : List Loc) (ls : Array Slot) (pc : Nat), va_P D vwCl ([((t 0), .inr (3, [.ref (t 1), .ref (t 2), .int (zi t_size)])), ((t 1), .inl (κ 1, 429, .inl (zc t_numbers))), ((t 2), .inl (κ 1, 22, .inl (zc (o.2))))]) H → va_D A ([((t 0), .inr (3, [.ref (t 1), .ref (t 2), .int (zi t_size)])), ((t 1), .inl (κ 1, 429, .inl (zc t_numbers))), ((t 2), .inl (κ 1, 22, .inl (zc (o.2))))]) → va_S A H0 H locs → decode cX3_bestQuestion pc = .ok (.ireturn, 1) → W p l e zr_X3_bestQuestion s m args below meth c H locs 0 0 Q (F0 m pc ls [.int (zi (o.1))])
def zA_X3_bestQuestion_0 (p : Program) (l : Launch) (e : Env) (s : State) (m : MethodId) (args : Array Value) (below : List Frame) (meth : Method) (c : Code) (Q : State → Prop) (D : va_G) (κ : Nat → ClassId) (A : Nat → Prop) (H0 : Heap) (t : Nat → Nat) (mk : Nat) (ad : Nat → Nat → Nat) (t_size : Int) (t_numbers : Nat) (n1 : Nat) (i2 : Int) (i3 : Int) (i4 : Int) (t_tally : Nat) : Prop := ∀ (H : Heap) (locs : List Loc) (ls : Array Slot), va_P D vwCl ([((t 0), .inr (3, [.ref (t 1), .ref (t 2), .int (zi t_size)])), ((t 1), .inl (κ 1, 429, .inl (zc t_numbers))), ((t 2), .inl (κ 1, 22, .inl (zc t_tally)))]) H → va_D A ([((t 0), .inr (3, [.ref (t 1), .ref (t 2), .int (zi t_size)])), ((t 1), .inl (κ 1, 429, .inl (zc t_numbers))), ((t 2), .inl (κ 1, 22, .inl (zc t_tally)))]) → va_S A H0 H locs → lv_has ls 6 [(0, .ref (t 0)), (1, .ref (ad n1 0))] → W p l e zr_X3_bestQuestion s m args below meth c H locs 0 0 Q (F0 m 0 ls [])
def zA_X3_bestQuestion_10 (p : Program) (l : Launch) (e : Env) (s : State) (m : MethodId) (args : Array Value) (below : List Frame) (meth : Method) (c : Code) (Q : State → Prop) (D : va_G) (κ : Nat → ClassId) (A : Nat → Prop) (H0 : Heap) (t : Nat → Nat) (mk : Nat) (ad : Nat → Nat → Nat) (t_size : Int) (t_numbers : Nat) (n1 : Nat) (i2 : Int) (i3 : Int) (i4 : Int) (t_tally : Nat) : Prop := ∀ (H : Heap) (locs : List Loc) (ls : Array Slot), va_P D vwCl ([((t 0), .inr (3, [.ref (t 1), .ref (t 2), .int (zi t_size)])), ((t 1), .inl (κ 1, 429, .inl (zc t_numbers))), ((t 2), .inl (κ 1, 22, .inl (zc t_tally)))]) H → va_D A ([((t 0), .inr (3, [.ref (t 1), .ref (t 2), .int (zi t_size)])), ((t 1), .inl (κ 1, 429, .inl (zc t_numbers))), ((t 2), .inl (κ 1, 22, .inl (zc t_tally)))]) → va_S A H0 H locs → lv_has ls 6 [(0, .ref (t 0)), (1, .ref (ad n1 0)), (2, .int (zi i2)), (3, .int (zi i3)), (4, .int (zi i4))] → W p l e zr_X3_bestQuestion s m args below meth c H locs 0 0 Q (F0 m 10 ls [])
def zA_X3_bestQuestion (p : Program) (l : Launch) (e : Env) (s : State) (m : MethodId) (args : Array Value) (below : List Frame) (meth : Method) (c : Code) (Q : State → Prop) (D : va_G) (κ : Nat → ClassId) (A : Nat → Prop) (H0 : Heap) (t : Nat → Nat) (mk : Nat) (ad : Nat → Nat → Nat) (t_size : Int) (t_numbers : Nat) (n1 : Nat) (st : zS_X3_bestQuestion) : Prop := match st with
  | (lab, i2, i3, i4, t_tally) => if lab = 0 then zA_X3_bestQuestion_0 p l e s m args below meth c Q D κ A H0 t mk ad t_size t_numbers n1 i2 i3 i4 t_tally else if lab = 10 then zA_X3_bestQuestion_10 p l e s m args below meth c Q D κ A H0 t mk ad t_size t_numbers n1 i2 i3 i4 t_tally else True
set_option maxHeartbeats 4000000 in
set_option maxRecDepth 100000 in
theorem zs_X3_bestQuestion_0 {p : Program} {l : Launch} {e : Env} {s : State} {m : MethodId} {args : Array Value} {below : List Frame} {meth : Method} {c : Code} {Q : State → Prop} {D : va_G} {κ : Nat → ClassId} {A : Nat → Prop} {H0 : Heap} (t : Nat → Nat) (mk : Nat) (ad : Nat → Nat → Nat) (t_size : Int) (t_numbers : Nat) (n1 : Nat) (hx : p.tables.exec = Jvm.exec) (hb : c.code = cX3_bestQuestion) (hml : c.maxLocals = 6) (hown : s.vm.findClass RX3 = some m.cls) (hts : ∀ w ∈ wsX3_bestQuestion, w.before args s = true) (hK : va_K D vwCl (zTY κ) s) (hA : ∀ q : Nat, H0.size ≤ q → A q) (hB : zAmb D κ mk ad H0) (hBA : zApt mk ad A H0.size) (i2 : Int) (i3 : Int) (i4 : Int) (t_tally : Nat) (hg : Go (GoE (zA_X3_bestQuestion p l e s m args below meth c Q D κ A H0 t mk ad t_size t_numbers n1) (zQ_X3_bestQuestion p l e s m args below meth c Q D κ A H0 t mk ad t_size t_numbers n1)) (zg_X3_bestQuestion_0 mk t_size t_numbers n1 i2 i3 i4 t_tally)) : zA_X3_bestQuestion_0 p l e s m args below meth c Q D κ A H0 t mk ad t_size t_numbers n1 i2 i3 i4 t_tally := by
  intro H locs ls hP hD hS hl
  unfold zg_X3_bestQuestion_0 at hg
  refine zv_iconst hx hb dX3_bestQuestion_0 ?_
  refine lv_istore_n (lv' := [(2, .int (zi (-1 : Int))), (0, .ref (t 0)), (1, .ref (ad n1 0))]) hx hb dX3_bestQuestion_1 rfl hl (by decide) rfl (fun ls hl => ?_)
  refine lv_aload_n hx hb dX3_bestQuestion_2 rfl (lv_at hl 1 rfl) ?_
  refine va_get (D := D) (ci := 3) (v := .int (zi t_size)) (C := RX3) (T := TX3) (N := 3) hx hb hts zi_X3_bestQuestion_X3 hown hK hP 0 rfl rfl 2 (by decide) (hts (.fieldLink RX3 18 "DiamondRows$Fitting" "size" "I") zl_X3_bestQuestion_18) (fun _ h9 => h9) rfl dX3_bestQuestion_3 ?_
  refine lv_istore_n (lv' := [(3, .int (zi t_size)), (2, .int (zi (-1 : Int))), (0, .ref (t 0)), (1, .ref (ad n1 0))]) hx hb dX3_bestQuestion_6 rfl hl (by decide) rfl (fun ls hl => ?_)
  refine zv_iconst hx hb dX3_bestQuestion_7 ?_
  refine lv_istore (lv' := [(4, .int (zi (0 : Int))), (3, .int (zi t_size)), (2, .int (zi (-1 : Int))), (0, .ref (t 0)), (1, .ref (ad n1 0))]) hx hb dX3_bestQuestion_8 hl (by decide) rfl (fun ls hl => ?_)
  exact (Go_s hg) H locs ls hP hD hS (lv_sub hl [3, 4, 2, 1, 0] rfl)
set_option maxHeartbeats 4000000 in
set_option maxRecDepth 100000 in
theorem zs_X3_bestQuestion_10 {p : Program} {l : Launch} {e : Env} {s : State} {m : MethodId} {args : Array Value} {below : List Frame} {meth : Method} {c : Code} {Q : State → Prop} {D : va_G} {κ : Nat → ClassId} {A : Nat → Prop} {H0 : Heap} (t : Nat → Nat) (mk : Nat) (ad : Nat → Nat → Nat) (t_size : Int) (t_numbers : Nat) (n1 : Nat) (hx : p.tables.exec = Jvm.exec) (hb : c.code = cX3_bestQuestion) (hml : c.maxLocals = 6) (hown : s.vm.findClass RX3 = some m.cls) (hts : ∀ w ∈ wsX3_bestQuestion, w.before args s = true) (hK : va_K D vwCl (zTY κ) s) (hA : ∀ q : Nat, H0.size ≤ q → A q) (hB : zAmb D κ mk ad H0) (hBA : zApt mk ad A H0.size) (i2 : Int) (i3 : Int) (i4 : Int) (t_tally : Nat) (hg : Go (GoE (zA_X3_bestQuestion p l e s m args below meth c Q D κ A H0 t mk ad t_size t_numbers n1) (zQ_X3_bestQuestion p l e s m args below meth c Q D κ A H0 t mk ad t_size t_numbers n1)) (zg_X3_bestQuestion_10 mk t_size t_numbers n1 i2 i3 i4 t_tally)) : zA_X3_bestQuestion_10 p l e s m args below meth c Q D κ A H0 t mk ad t_size t_numbers n1 i2 i3 i4 t_tally := by
  intro H locs ls hP hD hS hl
  unfold zg_X3_bestQuestion_10 at hg
  refine lv_iload hx hb dX3_bestQuestion_10 (lv_at hl 4 rfl) ?_
  refine lv_aload_n hx hb dX3_bestQuestion_12 rfl (lv_at hl 1 rfl) ?_
  obtain ⟨m1, hg⟩ := Go_n hg
  obtain ⟨o2, ho2, hg⟩ := Go_b hg
  refine zc_vi (rest := [.int (zi i4)]) ⟨hx, hb, hml, hown, hts⟩ (zc_X5_lineCount l D κ (ad n1) n1  o2 ho2) (cwV 0 hts gX3_bestQuestion_X5_lineCount rfl rfl rfl hv_X5_lineCount ⟨Nat.le_of_ble_eq_true rfl, Nat.le_of_ble_eq_true rfl⟩) (zpreV hK ((zamb hB hBA hS) n1 m1) 5 0 rfl rfl) rfl hl.1 rfl (Nat.le_of_ble_eq_true rfl) dX3_bestQuestion_13 ⟨Nat.zero_le _, Nat.zero_le _⟩ ?_
  obtain ⟨b3, hg⟩ := Go_n hg
  obtain ⟨b4, hg⟩ := Go_n hg
  refine zv_icmp_ge (tgt := 60) hx hb dX3_bestQuestion_16 (by decide) b3 b4 (fun c12 => ?_) (fun c12 => ?_)
  · have hg := Go_t c12 hg
    refine lv_iload_n hx hb dX3_bestQuestion_60 rfl (lv_at hl 2 rfl) ?_
    exact (Go_s hg) _ _ _ _ hP hD hS dX3_bestQuestion_61
  · have hg := Go_f c12 hg
    refine lv_aload_n hx hb dX3_bestQuestion_19 rfl (lv_at hl 0 rfl) ?_
    refine lv_aload_n hx hb dX3_bestQuestion_20 rfl (lv_at hl 1 rfl) ?_
    refine lv_aload_n hx hb dX3_bestQuestion_21 rfl (lv_at hl 1 rfl) ?_
    refine lv_iload hx hb dX3_bestQuestion_22 (lv_at hl 4 rfl) ?_
    obtain ⟨o5, ho5, hg⟩ := Go_b hg
    refine zc_vi (rest := [.ref (ad n1 0), .ref (t 0)]) ⟨hx, hb, hml, hown, hts⟩ (zc_X5_lesserOf l D κ (ad n1) n1 i4 o5 ho5) (cwV 1 hts gX3_bestQuestion_X5_lesserOf rfl rfl rfl hv_X5_lesserOf ⟨Nat.le_of_ble_eq_true rfl, Nat.le_of_ble_eq_true rfl⟩) (zpreV hK ((zamb hB hBA hS) n1 m1) 5 0 rfl rfl) rfl hl.1 rfl (Nat.le_of_ble_eq_true rfl) dX3_bestQuestion_24 ⟨Nat.zero_le _, Nat.zero_le _⟩ ?_
    refine lv_aload_n hx hb dX3_bestQuestion_27 rfl (lv_at hl 1 rfl) ?_
    refine lv_iload hx hb dX3_bestQuestion_28 (lv_at hl 4 rfl) ?_
    obtain ⟨o6, ho6, hg⟩ := Go_b hg
    refine zc_vi (rest := [.int (zi o5), .ref (ad n1 0), .ref (t 0)]) ⟨hx, hb, hml, hown, hts⟩ (zc_X5_greaterOf l D κ (ad n1) n1 i4 o6 ho6) (cwV 1 hts gX3_bestQuestion_X5_greaterOf rfl rfl rfl hv_X5_greaterOf ⟨Nat.le_of_ble_eq_true rfl, Nat.le_of_ble_eq_true rfl⟩) (zpreV hK ((zamb hB hBA hS) n1 m1) 5 0 rfl rfl) rfl hl.1 rfl (Nat.le_of_ble_eq_true rfl) dX3_bestQuestion_30 ⟨Nat.zero_le _, Nat.zero_le _⟩ ?_
    obtain ⟨o7, ho7, hg⟩ := Go_b hg
    refine zj_i (wr := []) (ws1 := [((t 0), .inr (3, [.ref (t 1), .ref (t 2), .int (zi t_size)])), ((t 1), .inl (κ 1, 429, .inl (zc t_numbers))), ((t 2), .inl (κ 1, 22, .inl (zc (o7.2))))]) (va_runV (rest := []) ⟨hx, hb, hml, hown, hts⟩ (zc_X3_mostAgreeing l D κ t mk ad H.size t_size t_numbers t_tally n1 o5 o6 o7 ho7) (cwV 3 hts gX3_bestQuestion_X3_mostAgreeing rfl rfl rfl hv_X3_mostAgreeing ⟨Nat.le_of_ble_eq_true rfl, Nat.le_of_ble_eq_true rfl⟩) (zpreWVa hK (hP.sub [0, 1, 2] rfl) (hD.sub [0, 1, 2] (by decide) rfl) (zamb hB hBA hS) (zapt hBA hS (va_free hD hS hA [0, 1, 2] rfl)) 3 0 rfl rfl) rfl rfl hl.1 rfl (lv_room (Nat.le_of_ble_eq_true rfl)) dX3_bestQuestion_33 ⟨Nat.zero_le _, Nat.zero_le _⟩) hP hD hS hA [0, 1, 2] [] [0, 1, 2] rfl rfl (by decide) (by decide) rfl rfl (by decide) (fun H locs hP hD hS => ?_)
    refine lv_istore (lv' := [(5, .int (zi (o7.1))), (0, .ref (t 0)), (1, .ref (ad n1 0)), (2, .int (zi i2)), (3, .int (zi i3)), (4, .int (zi i4))]) hx hb dX3_bestQuestion_36 hl (by decide) rfl (fun ls hl => ?_)
    refine lv_iload hx hb dX3_bestQuestion_38 (lv_at hl 0 rfl) ?_
    refine lv_iload_n hx hb dX3_bestQuestion_40 rfl (lv_at hl 4 rfl) ?_
    obtain ⟨b8, hg⟩ := Go_n hg
    obtain ⟨b9, hg⟩ := Go_n hg
    refine zv_icmp_ge (tgt := 54) hx hb dX3_bestQuestion_41 (by decide) b8 b9 (fun c11 => ?_) (fun c11 => ?_)
    · have hg := Go_t c11 hg
      refine lv_iinc (v := zi (i4 + (1 : Int))) (lv' := [(4, .int (zi (i4 + (1 : Int)))), (5, .int (zi (o7.1))), (0, .ref (t 0)), (1, .ref (ad n1 0)), (2, .int (zi i2)), (3, .int (zi i3))]) hx hb dX3_bestQuestion_54 hl (k := 5) rfl (zi_add i4 _) (by decide) rfl (fun ls hl => ?_)
      refine lv_goto (tgt := 10) hx hb dX3_bestQuestion_57 (by decide) ?_
      exact (Go_s hg) H locs ls hP hD hS (lv_sub hl [2, 3, 4, 5, 0] rfl)
    · have hg := Go_f c11 hg
      refine lv_iload hx hb dX3_bestQuestion_44 (lv_at hl 0 rfl) ?_
      refine lv_istore_n (lv' := [(3, .int (zi (o7.1))), (5, .int (zi (o7.1))), (0, .ref (t 0)), (1, .ref (ad n1 0)), (2, .int (zi i2)), (4, .int (zi i4))]) hx hb dX3_bestQuestion_46 rfl hl (by decide) rfl (fun ls hl => ?_)
      refine lv_aload_n hx hb dX3_bestQuestion_47 rfl (lv_at hl 3 rfl) ?_
      refine lv_iload hx hb dX3_bestQuestion_48 (lv_at hl 5 rfl) ?_
      obtain ⟨o10, ho10, hg⟩ := Go_b hg
      refine zc_vi (rest := []) ⟨hx, hb, hml, hown, hts⟩ (zc_X5_pairOf l D κ (ad n1) n1 i4 o10 ho10) (cwV 1 hts gX3_bestQuestion_X5_pairOf rfl rfl rfl hv_X5_pairOf ⟨Nat.le_of_ble_eq_true rfl, Nat.le_of_ble_eq_true rfl⟩) (zpreV hK ((zamb hB hBA hS) n1 m1) 5 0 rfl rfl) rfl hl.1 rfl (Nat.le_of_ble_eq_true rfl) dX3_bestQuestion_50 ⟨Nat.zero_le _, Nat.zero_le _⟩ ?_
      refine lv_istore_n (lv' := [(2, .int (zi o10)), (3, .int (zi (o7.1))), (5, .int (zi (o7.1))), (0, .ref (t 0)), (1, .ref (ad n1 0)), (4, .int (zi i4))]) hx hb dX3_bestQuestion_53 rfl hl (by decide) rfl (fun ls hl => ?_)
      refine lv_iinc (v := zi (i4 + (1 : Int))) (lv' := [(4, .int (zi (i4 + (1 : Int)))), (2, .int (zi o10)), (3, .int (zi (o7.1))), (5, .int (zi (o7.1))), (0, .ref (t 0)), (1, .ref (ad n1 0))]) hx hb dX3_bestQuestion_54 hl (k := 5) rfl (zi_add i4 _) (by decide) rfl (fun ls hl => ?_)
      refine lv_goto (tgt := 10) hx hb dX3_bestQuestion_57 (by decide) ?_
      exact (Go_s hg) H locs ls hP hD hS (lv_sub hl [4, 5, 1, 2, 0] rfl)
set_option maxHeartbeats 4000000 in
set_option maxRecDepth 100000 in
theorem zw_X3_bestQuestion {p : Program} {l : Launch} {e : Env} {s : State} {m : MethodId} {args : Array Value} {below : List Frame} {meth : Method} {c : Code} {Q : State → Prop} {D : va_G} {κ : Nat → ClassId} {A : Nat → Prop} {H0 : Heap} (t : Nat → Nat) (mk : Nat) (ad : Nat → Nat → Nat) (t_size : Int) (t_numbers : Nat) (n1 : Nat) (t_tally : Nat)  (hx : p.tables.exec = Jvm.exec) (hb : c.code = cX3_bestQuestion) (hml : c.maxLocals = 6) (hown : s.vm.findClass RX3 = some m.cls) (hts : ∀ w ∈ wsX3_bestQuestion, w.before args s = true) (hK : va_K D vwCl (zTY κ) s) (hA : ∀ q : Nat, H0.size ≤ q → A q) (hB : zAmb D κ mk ad H0) (hBA : zApt mk ad A H0.size) (out : Int × Nat) (h : zf_X3_bestQuestion mk t_size t_numbers t_tally n1 = some out) (hq : zQ_X3_bestQuestion p l e s m args below meth c Q D κ A H0 t mk ad t_size t_numbers n1 out) : zA_X3_bestQuestion_0 p l e s m args below meth c Q D κ A H0 t mk ad t_size t_numbers n1 0 0 0 t_tally := by
  have hst : ∀ st : zS_X3_bestQuestion, Go (GoE (zA_X3_bestQuestion p l e s m args below meth c Q D κ A H0 t mk ad t_size t_numbers n1) (zQ_X3_bestQuestion p l e s m args below meth c Q D κ A H0 t mk ad t_size t_numbers n1)) (zg_X3_bestQuestion mk t_size t_numbers n1 st) → zA_X3_bestQuestion p l e s m args below meth c Q D κ A H0 t mk ad t_size t_numbers n1 st := by
    intro st hg
    obtain ⟨lab, i2, i3, i4, t_tally⟩ := st
    by_cases h0 : lab = 0
    · subst h0
      exact zs_X3_bestQuestion_0 t mk ad t_size t_numbers n1 hx hb hml hown hts hK hA hB hBA i2 i3 i4 t_tally hg
    by_cases h10 : lab = 10
    · subst h10
      exact zs_X3_bestQuestion_10 t mk ad t_size t_numbers n1 hx hb hml hown hts hK hA hB hBA i2 i3 i4 t_tally hg
    have hz : zg_X3_bestQuestion mk t_size t_numbers n1 (lab, i2, i3, i4, t_tally) = none := by simp [zg_X3_bestQuestion, h0, h10]
    rw [hz] at hg
    obtain ⟨a, h1, -⟩ := hg
    cases h1
  exact jwalk (At := zA_X3_bestQuestion p l e s m args below meth c Q D κ A H0 t mk ad t_size t_numbers n1) (Ret := zQ_X3_bestQuestion p l e s m args below meth c Q D κ A H0 t mk ad t_size t_numbers n1) hst _ _ _ h hq
set_option maxHeartbeats 4000000 in
set_option maxRecDepth 100000 in
theorem zc_X3_bestQuestion (l : Launch) (D : va_G) (κ : Nat → ClassId) (t : Nat → Nat) (mk : Nat) (ad : Nat → Nat → Nat) (sz : Nat) (t_size : Int) (t_numbers : Nat) (t_tally : Nat) (n1 : Nat) (out : Int × Nat) (h : zf_X3_bestQuestion mk t_size t_numbers t_tally n1 = some out) : Met l yX3_bestQuestion wsX3_bestQuestion zr_X3_bestQuestion (va_Pc [.ref (t 0), .ref (ad n1 0)] (zWa D κ mk ad ([((t 0), .inr (3, [.ref (t 1), .ref (t 2), .int (zi t_size)])), ((t 1), .inl (κ 1, 429, .inl (zc t_numbers))), ((t 2), .inl (κ 1, 22, .inl (zc t_tally)))]) sz)) (va_Qi (fun r (_ : Unit) => r = zi (out.1)) (fun _ => zB D κ (va_A ([((t 0), .inr (3, [.ref (t 1), .ref (t 2), .int (zi t_size)])), ((t 1), .inl (κ 1, 429, .inl (zc t_numbers))), ((t 2), .inl (κ 1, 22, .inl (zc t_tally)))]) sz) ([((t 0), .inr (3, [.ref (t 1), .ref (t 2), .int (zi t_size)])), ((t 1), .inl (κ 1, 429, .inl (zc t_numbers))), ((t 2), .inl (κ 1, 22, .inl (zc (out.2))))])) (va_A ([((t 0), .inr (3, [.ref (t 1), .ref (t 2), .int (zi t_size)])), ((t 1), .inl (κ 1, 429, .inl (zc t_numbers))), ((t 2), .inl (κ 1, 22, .inl (zc t_tally)))]) sz)) 0 0 (va_A ([((t 0), .inr (3, [.ref (t 1), .ref (t 2), .int (zi t_size)])), ((t 1), .inl (κ 1, 429, .inl (zc t_numbers))), ((t 2), .inl (κ 1, 22, .inl (zc t_tally)))]) sz) := by
  refine Met.ofW (cc := cX3_bestQuestion) (maxL := 6) (ret := (some .int)) (by decide +kernel) rfl ?_
  intro p e s m args below meth c s₁ B hml hv
  obtain ⟨rfl, hsz, hP, hK, hD0, hB, hBA⟩ := hv
  have hx := B.exec
  have hb := B.bytes
  have hr := B.returns
  have hts := atoms_spec (ws := wsX3_bestQuestion) B.pre
  have hown : s.vm.findClass RX3 = some m.cls := findClass_of_methodNamed B.named
  have hlocks := B.notSynchronized
  subst hsz
  have hD := hD0.self (sz := s.heap.size)
  generalize hAe : va_A ([((t 0), .inr (3, [.ref (t 1), .ref (t 2), .int (zi t_size)])), ((t 1), .inl (κ 1, 429, .inl (zc t_numbers))), ((t 2), .inl (κ 1, 22, .inl (zc t_tally)))]) s.heap.size = A at hD hBA ⊢
  have hA : ∀ q : Nat, s.heap.size ≤ q → A q := fun q h => by rw [← hAe]; exact Or.inr h
  have hS : va_S A s.heap s.heap [] := va_S.rf
  have hl := lv_entry ([.ref (t 0), .ref (ad n1 0)]) (n := 6) (Nat.le_of_ble_eq_true rfl)
  rw [lg_entry_eq]
  generalize (lg_sl ([.ref (t 0), .ref (ad n1 0)]) ++ List.replicate (6 - (lg_sl ([.ref (t 0), .ref (ad n1 0)])).length) Slot.unset).toArray = ls at hl ⊢
  have hl : lv_has ls 6 [(0, .ref (t 0)), (1, .ref (ad n1 0))] := hl
  refine (zw_X3_bestQuestion t mk ad t_size t_numbers n1 t_tally  hx hb hml hown hts hK hA hB hBA out h ?_) s.heap [] ls hP hD hS (lv_sub hl [0, 1] rfl)
  exact fun H locs ls pc hP hD hS hd => W.iret hx hb hr (fun t ht hW => ⟨⟨_, (), rfl, rfl, by rw [ht]; exact hP, va_K.moved hW.alike hK, hD⟩, hS.F ht⟩) hS.2.2 hd
end

section
/-! DiamondRows$CutText.faultKind()I -/
abbrev zr_X1_faultKind : Room := { frames := 0, cells := 0, slots := 0, locals := 0 }
noncomputable def zf_X1_faultKind (mk : Nat) (t_faultKind : Int)  : Option (Int) :=
  some (t_faultKind)
theorem zi_X1_faultKind_X1 : ∀ w ∈ u_ws RX1 TX1 6, w ∈ wsX1_faultKind := fun w h => (List.mem_cons_of_mem _ (List.mem_append_right _ h))
theorem zl_X1_faultKind_15 : Cond.fieldLink RX1 15 "DiamondRows$CutText" "faultKind" "I" ∈ wsX1_faultKind := (List.mem_cons_of_mem _ (List.mem_append_left _ (List.mem_of_getElem? (i := 0) rfl)))
def zQ_X1_faultKind (p : Program) (l : Launch) (e : Env) (s : State) (m : MethodId) (args : Array Value) (below : List Frame) (meth : Method) (c : Code) (Q : State → Prop) (H : Heap) (locs : List Loc)  (o : Int) : Prop := ∀ (ls : Array Slot) (pc : Nat), decode cX1_faultKind pc = .ok (.ireturn, 1) → W p l e zr_X1_faultKind s m args below meth c H locs 0 0 Q (F0 m pc ls [.int (zi o)])
set_option maxHeartbeats 4000000 in
set_option maxRecDepth 100000 in
theorem zs_X1_faultKind {p : Program} {l : Launch} {e : Env} {s : State} {m : MethodId} {args : Array Value} {below : List Frame} {meth : Method} {c : Code} {Q : State → Prop} {D : va_G} {κ : Nat → ClassId} {H : Heap} {locs : List Loc} (t : Nat → Nat) (mk : Nat) (ad : Nat → Nat → Nat) (t_faultKind : Int) (t_faultPlace : Int) (t_expected : Int) (t_first : Int) (t_polygon : Nat) (t_bits : Int)  (hx : p.tables.exec = Jvm.exec) (hb : c.code = cX1_faultKind) (hml : c.maxLocals = 1) (hown : s.vm.findClass RX1 = some m.cls) (hts : ∀ w ∈ wsX1_faultKind, w.before args s = true) (hK : va_K D vwCl (zTY κ) s) (hP : va_P D vwCl ([((t 0), .inr (1, [.int (zi t_faultKind), .int (zi t_faultPlace), .int (zi t_expected), .int (zi t_first), zpg ad t_polygon, .int (zi t_bits)]))]) H) (hB : zAmb D κ mk ad H) (ls : Array Slot) (hl : lv_has ls 1 [(0, .ref (t 0))]) (hg : Go (zQ_X1_faultKind p l e s m args below meth c Q H locs) (zf_X1_faultKind mk t_faultKind )) : W p l e zr_X1_faultKind s m args below meth c H locs 0 0 Q (F0 m 0 ls []) := by
  unfold zf_X1_faultKind at hg
  refine lv_aload_n hx hb dX1_faultKind_0 rfl (lv_at hl 0 rfl) ?_
  refine va_get (D := D) (ci := 1) (v := .int (zi t_faultKind)) (C := RX1) (T := TX1) (N := 6) hx hb hts zi_X1_faultKind_X1 hown hK hP 0 rfl rfl 0 (by decide) (hts (.fieldLink RX1 15 "DiamondRows$CutText" "faultKind" "I") zl_X1_faultKind_15) (fun _ h9 => h9) rfl dX1_faultKind_1 ?_
  exact (Go_s hg) _ _ dX1_faultKind_4
set_option maxHeartbeats 4000000 in
set_option maxRecDepth 100000 in
theorem zc_X1_faultKind (l : Launch) (D : va_G) (κ : Nat → ClassId) (t : Nat → Nat) (mk : Nat) (ad : Nat → Nat → Nat) (t_faultKind : Int) (t_faultPlace : Int) (t_expected : Int) (t_first : Int) (t_polygon : Nat) (t_bits : Int)  (out : Int) (h : zf_X1_faultKind mk t_faultKind  = some out) : Met l yX1_faultKind wsX1_faultKind zr_X1_faultKind (va_Pc [.ref (t 0)] (zRa D κ mk ad ([((t 0), .inr (1, [.int (zi t_faultKind), .int (zi t_faultPlace), .int (zi t_expected), .int (zi t_first), zpg ad t_polygon, .int (zi t_bits)]))]))) (vp_Si (fun x => x = zi out)) 0 0 (fun _ => False) := by
  refine Met.ofW (cc := cX1_faultKind) (maxL := 1) (ret := (some .int)) (by decide +kernel) rfl ?_
  intro p e s m args below meth c s₁ B hml hv
  obtain ⟨rfl, hP, hK, hB⟩ := hv
  have hx := B.exec
  have hb := B.bytes
  have hr := B.returns
  have hts := atoms_spec (ws := wsX1_faultKind) B.pre
  have hown : s.vm.findClass RX1 = some m.cls := findClass_of_methodNamed B.named
  have hlocks := B.notSynchronized
  have hl := lv_entry ([.ref (t 0)]) (n := 1) (Nat.le_of_ble_eq_true rfl)
  rw [lg_entry_eq]
  generalize (lg_sl ([.ref (t 0)]) ++ List.replicate (1 - (lg_sl ([.ref (t 0)])).length) Slot.unset).toArray = ls at hl ⊢
  have hl : lv_has ls 1 [(0, .ref (t 0))] := hl
  refine zs_X1_faultKind t mk ad t_faultKind t_faultPlace t_expected t_first t_polygon t_bits  hx hb hml hown hts hK hP hB ls hl ⟨out, h, ?_⟩
  exact fun ls pc hd => W.iret hx hb hr (fun t ht hW => ⟨_, rfl, rfl, ht⟩) (fun _ h => by cases h) hd
/-! DiamondRows$CutText.faultPlace()I -/
abbrev zr_X1_faultPlace : Room := { frames := 0, cells := 0, slots := 0, locals := 0 }
noncomputable def zf_X1_faultPlace (mk : Nat) (t_faultPlace : Int)  : Option (Int) :=
  some (t_faultPlace)
theorem zi_X1_faultPlace_X1 : ∀ w ∈ u_ws RX1 TX1 6, w ∈ wsX1_faultPlace := fun w h => (List.mem_cons_of_mem _ (List.mem_append_right _ h))
theorem zl_X1_faultPlace_9 : Cond.fieldLink RX1 9 "DiamondRows$CutText" "faultPlace" "I" ∈ wsX1_faultPlace := (List.mem_cons_of_mem _ (List.mem_append_left _ (List.mem_of_getElem? (i := 0) rfl)))
def zQ_X1_faultPlace (p : Program) (l : Launch) (e : Env) (s : State) (m : MethodId) (args : Array Value) (below : List Frame) (meth : Method) (c : Code) (Q : State → Prop) (H : Heap) (locs : List Loc)  (o : Int) : Prop := ∀ (ls : Array Slot) (pc : Nat), decode cX1_faultPlace pc = .ok (.ireturn, 1) → W p l e zr_X1_faultPlace s m args below meth c H locs 0 0 Q (F0 m pc ls [.int (zi o)])
set_option maxHeartbeats 4000000 in
set_option maxRecDepth 100000 in
theorem zs_X1_faultPlace {p : Program} {l : Launch} {e : Env} {s : State} {m : MethodId} {args : Array Value} {below : List Frame} {meth : Method} {c : Code} {Q : State → Prop} {D : va_G} {κ : Nat → ClassId} {H : Heap} {locs : List Loc} (t : Nat → Nat) (mk : Nat) (ad : Nat → Nat → Nat) (t_faultKind : Int) (t_faultPlace : Int) (t_expected : Int) (t_first : Int) (t_polygon : Nat) (t_bits : Int)  (hx : p.tables.exec = Jvm.exec) (hb : c.code = cX1_faultPlace) (hml : c.maxLocals = 1) (hown : s.vm.findClass RX1 = some m.cls) (hts : ∀ w ∈ wsX1_faultPlace, w.before args s = true) (hK : va_K D vwCl (zTY κ) s) (hP : va_P D vwCl ([((t 0), .inr (1, [.int (zi t_faultKind), .int (zi t_faultPlace), .int (zi t_expected), .int (zi t_first), zpg ad t_polygon, .int (zi t_bits)]))]) H) (hB : zAmb D κ mk ad H) (ls : Array Slot) (hl : lv_has ls 1 [(0, .ref (t 0))]) (hg : Go (zQ_X1_faultPlace p l e s m args below meth c Q H locs) (zf_X1_faultPlace mk t_faultPlace )) : W p l e zr_X1_faultPlace s m args below meth c H locs 0 0 Q (F0 m 0 ls []) := by
  unfold zf_X1_faultPlace at hg
  refine lv_aload_n hx hb dX1_faultPlace_0 rfl (lv_at hl 0 rfl) ?_
  refine va_get (D := D) (ci := 1) (v := .int (zi t_faultPlace)) (C := RX1) (T := TX1) (N := 6) hx hb hts zi_X1_faultPlace_X1 hown hK hP 0 rfl rfl 1 (by decide) (hts (.fieldLink RX1 9 "DiamondRows$CutText" "faultPlace" "I") zl_X1_faultPlace_9) (fun _ h9 => h9) rfl dX1_faultPlace_1 ?_
  exact (Go_s hg) _ _ dX1_faultPlace_4
set_option maxHeartbeats 4000000 in
set_option maxRecDepth 100000 in
theorem zc_X1_faultPlace (l : Launch) (D : va_G) (κ : Nat → ClassId) (t : Nat → Nat) (mk : Nat) (ad : Nat → Nat → Nat) (t_faultKind : Int) (t_faultPlace : Int) (t_expected : Int) (t_first : Int) (t_polygon : Nat) (t_bits : Int)  (out : Int) (h : zf_X1_faultPlace mk t_faultPlace  = some out) : Met l yX1_faultPlace wsX1_faultPlace zr_X1_faultPlace (va_Pc [.ref (t 0)] (zRa D κ mk ad ([((t 0), .inr (1, [.int (zi t_faultKind), .int (zi t_faultPlace), .int (zi t_expected), .int (zi t_first), zpg ad t_polygon, .int (zi t_bits)]))]))) (vp_Si (fun x => x = zi out)) 0 0 (fun _ => False) := by
  refine Met.ofW (cc := cX1_faultPlace) (maxL := 1) (ret := (some .int)) (by decide +kernel) rfl ?_
  intro p e s m args below meth c s₁ B hml hv
  obtain ⟨rfl, hP, hK, hB⟩ := hv
  have hx := B.exec
  have hb := B.bytes
  have hr := B.returns
  have hts := atoms_spec (ws := wsX1_faultPlace) B.pre
  have hown : s.vm.findClass RX1 = some m.cls := findClass_of_methodNamed B.named
  have hlocks := B.notSynchronized
  have hl := lv_entry ([.ref (t 0)]) (n := 1) (Nat.le_of_ble_eq_true rfl)
  rw [lg_entry_eq]
  generalize (lg_sl ([.ref (t 0)]) ++ List.replicate (1 - (lg_sl ([.ref (t 0)])).length) Slot.unset).toArray = ls at hl ⊢
  have hl : lv_has ls 1 [(0, .ref (t 0))] := hl
  refine zs_X1_faultPlace t mk ad t_faultKind t_faultPlace t_expected t_first t_polygon t_bits  hx hb hml hown hts hK hP hB ls hl ⟨out, h, ?_⟩
  exact fun ls pc hd => W.iret hx hb hr (fun t ht hW => ⟨_, rfl, rfl, ht⟩) (fun _ h => by cases h) hd
/-! DiamondRows$CutText.bits()I -/
abbrev zr_X1_bits : Room := { frames := 0, cells := 0, slots := 0, locals := 0 }
noncomputable def zf_X1_bits (mk : Nat) (t_bits : Int)  : Option (Int) :=
  some (t_bits)
theorem zi_X1_bits_X1 : ∀ w ∈ u_ws RX1 TX1 6, w ∈ wsX1_bits := fun w h => (List.mem_cons_of_mem _ (List.mem_append_right _ h))
theorem zl_X1_bits_22 : Cond.fieldLink RX1 22 "DiamondRows$CutText" "bits" "I" ∈ wsX1_bits := (List.mem_cons_of_mem _ (List.mem_append_left _ (List.mem_of_getElem? (i := 0) rfl)))
def zQ_X1_bits (p : Program) (l : Launch) (e : Env) (s : State) (m : MethodId) (args : Array Value) (below : List Frame) (meth : Method) (c : Code) (Q : State → Prop) (H : Heap) (locs : List Loc)  (o : Int) : Prop := ∀ (ls : Array Slot) (pc : Nat), decode cX1_bits pc = .ok (.ireturn, 1) → W p l e zr_X1_bits s m args below meth c H locs 0 0 Q (F0 m pc ls [.int (zi o)])
set_option maxHeartbeats 4000000 in
set_option maxRecDepth 100000 in
theorem zs_X1_bits {p : Program} {l : Launch} {e : Env} {s : State} {m : MethodId} {args : Array Value} {below : List Frame} {meth : Method} {c : Code} {Q : State → Prop} {D : va_G} {κ : Nat → ClassId} {H : Heap} {locs : List Loc} (t : Nat → Nat) (mk : Nat) (ad : Nat → Nat → Nat) (t_faultKind : Int) (t_faultPlace : Int) (t_expected : Int) (t_first : Int) (t_polygon : Nat) (t_bits : Int)  (hx : p.tables.exec = Jvm.exec) (hb : c.code = cX1_bits) (hml : c.maxLocals = 1) (hown : s.vm.findClass RX1 = some m.cls) (hts : ∀ w ∈ wsX1_bits, w.before args s = true) (hK : va_K D vwCl (zTY κ) s) (hP : va_P D vwCl ([((t 0), .inr (1, [.int (zi t_faultKind), .int (zi t_faultPlace), .int (zi t_expected), .int (zi t_first), zpg ad t_polygon, .int (zi t_bits)]))]) H) (hB : zAmb D κ mk ad H) (ls : Array Slot) (hl : lv_has ls 1 [(0, .ref (t 0))]) (hg : Go (zQ_X1_bits p l e s m args below meth c Q H locs) (zf_X1_bits mk t_bits )) : W p l e zr_X1_bits s m args below meth c H locs 0 0 Q (F0 m 0 ls []) := by
  unfold zf_X1_bits at hg
  refine lv_aload_n hx hb dX1_bits_0 rfl (lv_at hl 0 rfl) ?_
  refine va_get (D := D) (ci := 1) (v := .int (zi t_bits)) (C := RX1) (T := TX1) (N := 6) hx hb hts zi_X1_bits_X1 hown hK hP 0 rfl rfl 5 (by decide) (hts (.fieldLink RX1 22 "DiamondRows$CutText" "bits" "I") zl_X1_bits_22) (fun _ h9 => h9) rfl dX1_bits_1 ?_
  exact (Go_s hg) _ _ dX1_bits_4
set_option maxHeartbeats 4000000 in
set_option maxRecDepth 100000 in
theorem zc_X1_bits (l : Launch) (D : va_G) (κ : Nat → ClassId) (t : Nat → Nat) (mk : Nat) (ad : Nat → Nat → Nat) (t_faultKind : Int) (t_faultPlace : Int) (t_expected : Int) (t_first : Int) (t_polygon : Nat) (t_bits : Int)  (out : Int) (h : zf_X1_bits mk t_bits  = some out) : Met l yX1_bits wsX1_bits zr_X1_bits (va_Pc [.ref (t 0)] (zRa D κ mk ad ([((t 0), .inr (1, [.int (zi t_faultKind), .int (zi t_faultPlace), .int (zi t_expected), .int (zi t_first), zpg ad t_polygon, .int (zi t_bits)]))]))) (vp_Si (fun x => x = zi out)) 0 0 (fun _ => False) := by
  refine Met.ofW (cc := cX1_bits) (maxL := 1) (ret := (some .int)) (by decide +kernel) rfl ?_
  intro p e s m args below meth c s₁ B hml hv
  obtain ⟨rfl, hP, hK, hB⟩ := hv
  have hx := B.exec
  have hb := B.bytes
  have hr := B.returns
  have hts := atoms_spec (ws := wsX1_bits) B.pre
  have hown : s.vm.findClass RX1 = some m.cls := findClass_of_methodNamed B.named
  have hlocks := B.notSynchronized
  have hl := lv_entry ([.ref (t 0)]) (n := 1) (Nat.le_of_ble_eq_true rfl)
  rw [lg_entry_eq]
  generalize (lg_sl ([.ref (t 0)]) ++ List.replicate (1 - (lg_sl ([.ref (t 0)])).length) Slot.unset).toArray = ls at hl ⊢
  have hl : lv_has ls 1 [(0, .ref (t 0))] := hl
  refine zs_X1_bits t mk ad t_faultKind t_faultPlace t_expected t_first t_polygon t_bits  hx hb hml hown hts hK hP hB ls hl ⟨out, h, ?_⟩
  exact fun ls pc hd => W.iret hx hb hr (fun t ht hW => ⟨_, rfl, rfl, ht⟩) (fun _ h => by cases h) hd
/-! DiamondRows$CutText.takeFirst(LDiamondRows$Tape;)I -/
abbrev zr_X1_takeFirst : Room := { frames := 1, cells := 0, slots := 0, locals := 21 }
noncomputable def zf_X1_takeFirst (mk : Nat) (t_first : Int) (t_polygon : Nat) (t_bits : Int) (q1_kind : Int) (q1_value : Int)  : Option (Int × Int) :=
  if t_polygon = 0 then
  some ((1 : Int), t_first)
  else
  Option.bind (zf_X8_kind q1_kind) (fun o2 =>
  if zout o2 then none else
  if o2 = 0 then
  Option.bind (zf_J6_bitCount_0f7a4 t_bits) (fun o11 =>
  if zno mk t_polygon then none else
  Option.bind (zf_X5_corners t_polygon) (fun o13 =>
  if zout o11 then none else
  if zout (o13 - (3 : Int)) then none else
  if (o13 - (3 : Int)) ≤ o11 then
  some ((0 : Int), t_first)
  else
  some ((6 : Int), t_first)))
  else
  Option.bind (zf_X8_value q1_value) (fun o4 =>
  Option.bind (zf_X8_kind q1_kind) (fun o5 =>
  if zout o5 then none else
  if o5 = (2 : Int) then
  if zno mk t_polygon then none else
  Option.bind (zf_X5_hasCorner t_polygon o4) (fun o8 =>
  if o8 = false then
  some ((2 : Int), o4)
  else
  some ((0 : Int), o4))
  else
  some ((1 : Int), o4))))
theorem zi_X1_takeFirst_X1 : ∀ w ∈ u_ws RX1 TX1 6, w ∈ wsX1_takeFirst := fun w h => (List.mem_cons_of_mem _ (List.mem_append_right _ (List.mem_append_left _ h)))
theorem zl_X1_takeFirst_18 : Cond.fieldLink RX1 18 "DiamondRows$CutText" "polygon" "LDiamondRows$Polygon;" ∈ wsX1_takeFirst := (List.mem_cons_of_mem _ (List.mem_append_left _ (List.mem_of_getElem? (i := 0) rfl)))
theorem zl_X1_takeFirst_22 : Cond.fieldLink RX1 22 "DiamondRows$CutText" "bits" "I" ∈ wsX1_takeFirst := (List.mem_cons_of_mem _ (List.mem_append_left _ (List.mem_of_getElem? (i := 1) rfl)))
theorem zl_X1_takeFirst_79 : Cond.fieldLink RX1 79 "DiamondRows$CutText" "first" "I" ∈ wsX1_takeFirst := (List.mem_cons_of_mem _ (List.mem_append_left _ (List.mem_of_getElem? (i := 2) rfl)))
def zQ_X1_takeFirst (p : Program) (l : Launch) (e : Env) (s : State) (m : MethodId) (args : Array Value) (below : List Frame) (meth : Method) (c : Code) (Q : State → Prop) (D : va_G) (κ : Nat → ClassId) (A : Nat → Prop) (H0 : Heap) (t : Nat → Nat) (q1 : Nat → Nat) (mk : Nat) (ad : Nat → Nat → Nat) (t_faultKind : Int) (t_faultPlace : Int) (t_expected : Int) (t_polygon : Nat) (t_bits : Int) (q1_length : Int) (q1_next : Int) (q1_kind : Int) (q1_place : Int) (q1_value : Int) (q1_bytes : Nat) (o : Int × Int) : Prop := ∀ (H : Heap) (locs : List Loc) (ls : Array Slot) (pc : Nat), va_P D vwCl ([((t 0), .inr (1, [.int (zi t_faultKind), .int (zi t_faultPlace), .int (zi t_expected), .int (zi (o.2)), zpg ad t_polygon, .int (zi t_bits)])), ((q1 0), .inr (8, [.ref (q1 1), .int (zi q1_length), .int (zi q1_next), .int (zi q1_kind), .int (zi q1_place), .int (zi q1_value)])), ((q1 1), .inl (κ 0, 300, .inl (zc q1_bytes)))]) H → va_D A ([((t 0), .inr (1, [.int (zi t_faultKind), .int (zi t_faultPlace), .int (zi t_expected), .int (zi (o.2)), zpg ad t_polygon, .int (zi t_bits)])), ((q1 0), .inr (8, [.ref (q1 1), .int (zi q1_length), .int (zi q1_next), .int (zi q1_kind), .int (zi q1_place), .int (zi q1_value)])), ((q1 1), .inl (κ 0, 300, .inl (zc q1_bytes)))]) → va_S A H0 H locs → decode cX1_takeFirst pc = .ok (.ireturn, 1) → W p l e zr_X1_takeFirst s m args below meth c H locs 0 0 Q (F0 m pc ls [.int (zi (o.1))])
set_option maxHeartbeats 4000000 in
set_option maxRecDepth 100000 in
theorem zs_X1_takeFirst {p : Program} {l : Launch} {e : Env} {s : State} {m : MethodId} {args : Array Value} {below : List Frame} {meth : Method} {c : Code} {Q : State → Prop} {D : va_G} {κ : Nat → ClassId} {A : Nat → Prop} {H0 : Heap} (t : Nat → Nat) (q1 : Nat → Nat) (mk : Nat) (ad : Nat → Nat → Nat) (t_faultKind : Int) (t_faultPlace : Int) (t_expected : Int) (t_first : Int) (t_polygon : Nat) (t_bits : Int) (q1_length : Int) (q1_next : Int) (q1_kind : Int) (q1_place : Int) (q1_value : Int) (q1_bytes : Nat)  (hx : p.tables.exec = Jvm.exec) (hb : c.code = cX1_takeFirst) (hml : c.maxLocals = 2) (hown : s.vm.findClass RX1 = some m.cls) (hts : ∀ w ∈ wsX1_takeFirst, w.before args s = true) (hK : va_K D vwCl (zTY κ) s) (hA : ∀ q : Nat, H0.size ≤ q → A q) (hB : zAmb D κ mk ad H0) (hBA : zApt mk ad A H0.size) (H : Heap) (locs : List Loc) (ls : Array Slot) (hP : va_P D vwCl ([((t 0), .inr (1, [.int (zi t_faultKind), .int (zi t_faultPlace), .int (zi t_expected), .int (zi t_first), zpg ad t_polygon, .int (zi t_bits)])), ((q1 0), .inr (8, [.ref (q1 1), .int (zi q1_length), .int (zi q1_next), .int (zi q1_kind), .int (zi q1_place), .int (zi q1_value)])), ((q1 1), .inl (κ 0, 300, .inl (zc q1_bytes)))]) H) (hD : va_D A ([((t 0), .inr (1, [.int (zi t_faultKind), .int (zi t_faultPlace), .int (zi t_expected), .int (zi t_first), zpg ad t_polygon, .int (zi t_bits)])), ((q1 0), .inr (8, [.ref (q1 1), .int (zi q1_length), .int (zi q1_next), .int (zi q1_kind), .int (zi q1_place), .int (zi q1_value)])), ((q1 1), .inl (κ 0, 300, .inl (zc q1_bytes)))])) (hS : va_S A H0 H locs) (hl : lv_has ls 2 [(0, .ref (t 0)), (1, .ref (q1 0))]) (hg : Go (zQ_X1_takeFirst p l e s m args below meth c Q D κ A H0 t q1 mk ad t_faultKind t_faultPlace t_expected t_polygon t_bits q1_length q1_next q1_kind q1_place q1_value q1_bytes) (zf_X1_takeFirst mk t_first t_polygon t_bits q1_kind q1_value )) : W p l e zr_X1_takeFirst s m args below meth c H locs 0 0 Q (F0 m 0 ls []) := by
  unfold zf_X1_takeFirst at hg
  refine lv_aload_n hx hb dX1_takeFirst_0 rfl (lv_at hl 0 rfl) ?_
  by_cases c1 : t_polygon = 0
  · have hg := Go_t c1 hg
    refine va_get (D := D) (ci := 1) (v := .null) (C := RX1) (T := TX1) (N := 6) hx hb hts zi_X1_takeFirst_X1 hown hK hP 0 rfl rfl 4 (by decide) (hts (.fieldLink RX1 18 "DiamondRows$CutText" "polygon" "LDiamondRows$Polygon;") zl_X1_takeFirst_18) (fun _ h9 => h9) (zpg_null c1) dX1_takeFirst_1 ?_
    refine lv_ifnonnullN hx hb dX1_takeFirst_4 ?_
    refine zv_iconst hx hb dX1_takeFirst_7 ?_
    exact (Go_s hg) _ _ _ _ hP hD hS dX1_takeFirst_8
  · have hg := Go_f c1 hg
    refine va_get (D := D) (ci := 1) (v := .ref (ad t_polygon 0)) (C := RX1) (T := TX1) (N := 6) hx hb hts zi_X1_takeFirst_X1 hown hK hP 0 rfl rfl 4 (by decide) (hts (.fieldLink RX1 18 "DiamondRows$CutText" "polygon" "LDiamondRows$Polygon;") zl_X1_takeFirst_18) (fun _ h9 => h9) (zpg_some c1) dX1_takeFirst_1 ?_
    refine lv_ifnonnull (tgt := 9) hx hb dX1_takeFirst_4 (by decide) ?_
    refine lv_aload_n hx hb dX1_takeFirst_9 rfl (lv_at hl 1 rfl) ?_
    obtain ⟨o2, ho2, hg⟩ := Go_b hg
    refine zc_vi (rest := []) ⟨hx, hb, hml, hown, hts⟩ (zc_X8_kind l D κ q1 q1_length q1_next q1_kind q1_place q1_value q1_bytes o2 ho2) (cwV 0 hts gX1_takeFirst_X8_kind rfl rfl rfl hv_X8_kind ⟨Nat.le_of_ble_eq_true rfl, Nat.le_of_ble_eq_true rfl⟩) (zpreV hK (hP.sub [1, 2] rfl) 8 0 rfl rfl) rfl hl.1 rfl (Nat.le_of_ble_eq_true rfl) dX1_takeFirst_10 ⟨Nat.zero_le _, Nat.zero_le _⟩ ?_
    obtain ⟨b3, hg⟩ := Go_n hg
    refine zv_if_ne (tgt := 42) hx hb dX1_takeFirst_13 (by decide) b3 (fun c17 => ?_) (fun c17 => ?_)
    · have hg := Go_f c17 hg
      refine lv_aload_n hx hb dX1_takeFirst_42 rfl (lv_at hl 0 rfl) ?_
      refine lv_aload_n hx hb dX1_takeFirst_43 rfl (lv_at hl 1 rfl) ?_
      obtain ⟨o4, ho4, hg⟩ := Go_b hg
      refine zc_vi (rest := [.ref (t 0)]) ⟨hx, hb, hml, hown, hts⟩ (zc_X8_value l D κ q1 q1_length q1_next q1_kind q1_place q1_value q1_bytes o4 ho4) (cwV 0 hts gX1_takeFirst_X8_value rfl rfl rfl hv_X8_value ⟨Nat.le_of_ble_eq_true rfl, Nat.le_of_ble_eq_true rfl⟩) (zpreV hK (hP.sub [1, 2] rfl) 8 0 rfl rfl) rfl hl.1 rfl (Nat.le_of_ble_eq_true rfl) dX1_takeFirst_44 ⟨Nat.zero_le _, Nat.zero_le _⟩ ?_
      refine va_put (D := D) (ci := 1) (v := .int (zi o4)) (ty := .int) (C := RX1) (T := TX1) (N := 6) hx hb hts zi_X1_takeFirst_X1 tyX1 tyX1_ok nmX1 hown hK hP hD hS 0 rfl rfl 3 (by decide) (hts (.fieldLink RX1 79 "DiamondRows$CutText" "first" "I") zl_X1_takeFirst_79) (fun _ h9 => h9) rfl (by decide +kernel) rfl rfl (Nat.le_of_ble_eq_true rfl) dX1_takeFirst_47 (fun H locs hP hD hS => ?_)
      have hP : va_P D vwCl ([((t 0), .inr (1, [.int (zi t_faultKind), .int (zi t_faultPlace), .int (zi t_expected), .int (zi o4), zpg ad t_polygon, .int (zi t_bits)])), ((q1 0), .inr (8, [.ref (q1 1), .int (zi q1_length), .int (zi q1_next), .int (zi q1_kind), .int (zi q1_place), .int (zi q1_value)])), ((q1 1), .inl (κ 0, 300, .inl (zc q1_bytes)))]) H := hP
      have hD : va_D A ([((t 0), .inr (1, [.int (zi t_faultKind), .int (zi t_faultPlace), .int (zi t_expected), .int (zi o4), zpg ad t_polygon, .int (zi t_bits)])), ((q1 0), .inr (8, [.ref (q1 1), .int (zi q1_length), .int (zi q1_next), .int (zi q1_kind), .int (zi q1_place), .int (zi q1_value)])), ((q1 1), .inl (κ 0, 300, .inl (zc q1_bytes)))]) := hD
      refine lv_aload_n hx hb dX1_takeFirst_50 rfl (lv_at hl 1 rfl) ?_
      obtain ⟨o5, ho5, hg⟩ := Go_b hg
      refine zc_vi (rest := []) ⟨hx, hb, hml, hown, hts⟩ (zc_X8_kind l D κ q1 q1_length q1_next q1_kind q1_place q1_value q1_bytes o5 ho5) (cwV 0 hts gX1_takeFirst_X8_kind rfl rfl rfl hv_X8_kind ⟨Nat.le_of_ble_eq_true rfl, Nat.le_of_ble_eq_true rfl⟩) (zpreV hK (hP.sub [1, 2] rfl) 8 0 rfl rfl) rfl hl.1 rfl (Nat.le_of_ble_eq_true rfl) dX1_takeFirst_51 ⟨Nat.zero_le _, Nat.zero_le _⟩ ?_
      refine zv_iconst hx hb dX1_takeFirst_54 ?_
      obtain ⟨b6, hg⟩ := Go_n hg
      refine zv_icmp_eq (tgt := 60) hx hb dX1_takeFirst_55 (by decide) b6 (by decide) (fun c10 => ?_) (fun c10 => ?_)
      · have hg := Go_t c10 hg
        refine lv_aload_n hx hb dX1_takeFirst_60 rfl (lv_at hl 0 rfl) ?_
        obtain ⟨m7, hg⟩ := Go_n hg
        refine va_get (D := D) (ci := 1) (v := .ref (ad t_polygon 0)) (C := RX1) (T := TX1) (N := 6) hx hb hts zi_X1_takeFirst_X1 hown hK hP 0 rfl rfl 4 (by decide) (hts (.fieldLink RX1 18 "DiamondRows$CutText" "polygon" "LDiamondRows$Polygon;") zl_X1_takeFirst_18) (fun _ h9 => h9) (zpg_ok m7) dX1_takeFirst_61 ?_
        refine lv_aload_n hx hb dX1_takeFirst_64 rfl (lv_at hl 0 rfl) ?_
        refine va_get (D := D) (ci := 1) (v := .int (zi o4)) (C := RX1) (T := TX1) (N := 6) hx hb hts zi_X1_takeFirst_X1 hown hK hP 0 rfl rfl 3 (by decide) (hts (.fieldLink RX1 79 "DiamondRows$CutText" "first" "I") zl_X1_takeFirst_79) (fun _ h9 => h9) rfl dX1_takeFirst_65 ?_
        obtain ⟨o8, ho8, hg⟩ := Go_b hg
        refine zc_vi (rest := []) ⟨hx, hb, hml, hown, hts⟩ (zc_X5_hasCorner l D κ (ad t_polygon) t_polygon o4 o8 ho8) (cwV 1 hts gX1_takeFirst_X5_hasCorner rfl rfl rfl hv_X5_hasCorner ⟨Nat.le_of_ble_eq_true rfl, Nat.le_of_ble_eq_true rfl⟩) (zpreV hK ((zamb hB hBA hS) t_polygon m7) 5 0 rfl rfl) rfl hl.1 rfl (Nat.le_of_ble_eq_true rfl) dX1_takeFirst_68 ⟨Nat.zero_le _, Nat.zero_le _⟩ ?_
        refine zv_ifb_eq (tgt := 78) hx hb dX1_takeFirst_71 (by decide) (fun c9 => ?_) (fun c9 => ?_)
        · have hg := Go_t c9 hg
          refine zv_iconst hx hb dX1_takeFirst_78 ?_
          exact (Go_s hg) _ _ _ _ hP hD hS dX1_takeFirst_79
        · have hg := Go_f c9 hg
          refine zv_iconst hx hb dX1_takeFirst_74 ?_
          refine lv_goto (tgt := 79) hx hb dX1_takeFirst_75 (by decide) ?_
          exact (Go_s hg) _ _ _ _ hP hD hS dX1_takeFirst_79
      · have hg := Go_f c10 hg
        refine zv_iconst hx hb dX1_takeFirst_58 ?_
        exact (Go_s hg) _ _ _ _ hP hD hS dX1_takeFirst_59
    · have hg := Go_t c17 hg
      refine lv_aload_n hx hb dX1_takeFirst_16 rfl (lv_at hl 0 rfl) ?_
      refine va_get (D := D) (ci := 1) (v := .int (zi t_bits)) (C := RX1) (T := TX1) (N := 6) hx hb hts zi_X1_takeFirst_X1 hown hK hP 0 rfl rfl 5 (by decide) (hts (.fieldLink RX1 22 "DiamondRows$CutText" "bits" "I") zl_X1_takeFirst_22) (fun _ h9 => h9) rfl dX1_takeFirst_17 ?_
      obtain ⟨o11, ho11, hg⟩ := Go_b hg
      refine zc_si (rest := []) ⟨hx, hb, hml, hown, hts⟩ (zc_J6_bitCount_0f7a4 l D κ t_bits o11 ho11) (va_cwS 1 hts gX1_takeFirst_J6_bitCount_0f7a4 rfl rfl rfl hs_J6_bitCount_0f7a4 ⟨Nat.le_of_ble_eq_true rfl, Nat.le_of_ble_eq_true rfl⟩) (zpreS hK (hP.sub [] rfl)) rfl hl.1 rfl (Nat.le_of_ble_eq_true rfl) dX1_takeFirst_20 ⟨Nat.zero_le _, Nat.zero_le _⟩ ?_
      refine lv_aload_n hx hb dX1_takeFirst_23 rfl (lv_at hl 0 rfl) ?_
      obtain ⟨m12, hg⟩ := Go_n hg
      refine va_get (D := D) (ci := 1) (v := .ref (ad t_polygon 0)) (C := RX1) (T := TX1) (N := 6) hx hb hts zi_X1_takeFirst_X1 hown hK hP 0 rfl rfl 4 (by decide) (hts (.fieldLink RX1 18 "DiamondRows$CutText" "polygon" "LDiamondRows$Polygon;") zl_X1_takeFirst_18) (fun _ h9 => h9) (zpg_ok m12) dX1_takeFirst_24 ?_
      obtain ⟨o13, ho13, hg⟩ := Go_b hg
      refine zc_vi (rest := [.int (zi o11)]) ⟨hx, hb, hml, hown, hts⟩ (zc_X5_corners l D κ (ad t_polygon) t_polygon  o13 ho13) (cwV 0 hts gX1_takeFirst_X5_corners rfl rfl rfl hv_X5_corners ⟨Nat.le_of_ble_eq_true rfl, Nat.le_of_ble_eq_true rfl⟩) (zpreV hK ((zamb hB hBA hS) t_polygon m12) 5 0 rfl rfl) rfl hl.1 rfl (Nat.le_of_ble_eq_true rfl) dX1_takeFirst_27 ⟨Nat.zero_le _, Nat.zero_le _⟩ ?_
      refine zv_iconst hx hb dX1_takeFirst_30 ?_
      refine zv_isub hx hb dX1_takeFirst_31 ?_
      obtain ⟨b14, hg⟩ := Go_n hg
      obtain ⟨b15, hg⟩ := Go_n hg
      refine zv_icmp_ge (tgt := 40) hx hb dX1_takeFirst_32 (by decide) b14 b15 (fun c16 => ?_) (fun c16 => ?_)
      · have hg := Go_t c16 hg
        refine zv_iconst hx hb dX1_takeFirst_40 ?_
        exact (Go_s hg) _ _ _ _ hP hD hS dX1_takeFirst_41
      · have hg := Go_f c16 hg
        refine zv_bipush hx hb dX1_takeFirst_35 (by decide) ?_
        refine lv_goto (tgt := 41) hx hb dX1_takeFirst_37 (by decide) ?_
        exact (Go_s hg) _ _ _ _ hP hD hS dX1_takeFirst_41
set_option maxHeartbeats 4000000 in
set_option maxRecDepth 100000 in
theorem zc_X1_takeFirst (l : Launch) (D : va_G) (κ : Nat → ClassId) (t : Nat → Nat) (q1 : Nat → Nat) (mk : Nat) (ad : Nat → Nat → Nat) (sz : Nat) (t_faultKind : Int) (t_faultPlace : Int) (t_expected : Int) (t_first : Int) (t_polygon : Nat) (t_bits : Int) (q1_length : Int) (q1_next : Int) (q1_kind : Int) (q1_place : Int) (q1_value : Int) (q1_bytes : Nat)  (out : Int × Int) (h : zf_X1_takeFirst mk t_first t_polygon t_bits q1_kind q1_value  = some out) : Met l yX1_takeFirst wsX1_takeFirst zr_X1_takeFirst (va_Pc [.ref (t 0), .ref (q1 0)] (zWa D κ mk ad ([((t 0), .inr (1, [.int (zi t_faultKind), .int (zi t_faultPlace), .int (zi t_expected), .int (zi t_first), zpg ad t_polygon, .int (zi t_bits)])), ((q1 0), .inr (8, [.ref (q1 1), .int (zi q1_length), .int (zi q1_next), .int (zi q1_kind), .int (zi q1_place), .int (zi q1_value)])), ((q1 1), .inl (κ 0, 300, .inl (zc q1_bytes)))]) sz)) (va_Qi (fun r (_ : Unit) => r = zi (out.1)) (fun _ => zB D κ (va_A ([((t 0), .inr (1, [.int (zi t_faultKind), .int (zi t_faultPlace), .int (zi t_expected), .int (zi t_first), zpg ad t_polygon, .int (zi t_bits)])), ((q1 0), .inr (8, [.ref (q1 1), .int (zi q1_length), .int (zi q1_next), .int (zi q1_kind), .int (zi q1_place), .int (zi q1_value)])), ((q1 1), .inl (κ 0, 300, .inl (zc q1_bytes)))]) sz) ([((t 0), .inr (1, [.int (zi t_faultKind), .int (zi t_faultPlace), .int (zi t_expected), .int (zi (out.2)), zpg ad t_polygon, .int (zi t_bits)])), ((q1 0), .inr (8, [.ref (q1 1), .int (zi q1_length), .int (zi q1_next), .int (zi q1_kind), .int (zi q1_place), .int (zi q1_value)])), ((q1 1), .inl (κ 0, 300, .inl (zc q1_bytes)))])) (va_A ([((t 0), .inr (1, [.int (zi t_faultKind), .int (zi t_faultPlace), .int (zi t_expected), .int (zi t_first), zpg ad t_polygon, .int (zi t_bits)])), ((q1 0), .inr (8, [.ref (q1 1), .int (zi q1_length), .int (zi q1_next), .int (zi q1_kind), .int (zi q1_place), .int (zi q1_value)])), ((q1 1), .inl (κ 0, 300, .inl (zc q1_bytes)))]) sz)) 0 0 (va_A ([((t 0), .inr (1, [.int (zi t_faultKind), .int (zi t_faultPlace), .int (zi t_expected), .int (zi t_first), zpg ad t_polygon, .int (zi t_bits)])), ((q1 0), .inr (8, [.ref (q1 1), .int (zi q1_length), .int (zi q1_next), .int (zi q1_kind), .int (zi q1_place), .int (zi q1_value)])), ((q1 1), .inl (κ 0, 300, .inl (zc q1_bytes)))]) sz) := by
  refine Met.ofW (cc := cX1_takeFirst) (maxL := 2) (ret := (some .int)) (by decide +kernel) rfl ?_
  intro p e s m args below meth c s₁ B hml hv
  obtain ⟨rfl, hsz, hP, hK, hD0, hB, hBA⟩ := hv
  have hx := B.exec
  have hb := B.bytes
  have hr := B.returns
  have hts := atoms_spec (ws := wsX1_takeFirst) B.pre
  have hown : s.vm.findClass RX1 = some m.cls := findClass_of_methodNamed B.named
  have hlocks := B.notSynchronized
  subst hsz
  have hD := hD0.self (sz := s.heap.size)
  generalize hAe : va_A ([((t 0), .inr (1, [.int (zi t_faultKind), .int (zi t_faultPlace), .int (zi t_expected), .int (zi t_first), zpg ad t_polygon, .int (zi t_bits)])), ((q1 0), .inr (8, [.ref (q1 1), .int (zi q1_length), .int (zi q1_next), .int (zi q1_kind), .int (zi q1_place), .int (zi q1_value)])), ((q1 1), .inl (κ 0, 300, .inl (zc q1_bytes)))]) s.heap.size = A at hD hBA ⊢
  have hA : ∀ q : Nat, s.heap.size ≤ q → A q := fun q h => by rw [← hAe]; exact Or.inr h
  have hS : va_S A s.heap s.heap [] := va_S.rf
  have hl := lv_entry ([.ref (t 0), .ref (q1 0)]) (n := 2) (Nat.le_of_ble_eq_true rfl)
  rw [lg_entry_eq]
  generalize (lg_sl ([.ref (t 0), .ref (q1 0)]) ++ List.replicate (2 - (lg_sl ([.ref (t 0), .ref (q1 0)])).length) Slot.unset).toArray = ls at hl ⊢
  have hl : lv_has ls 2 [(0, .ref (t 0)), (1, .ref (q1 0))] := hl
  refine zs_X1_takeFirst t q1 mk ad t_faultKind t_faultPlace t_expected t_first t_polygon t_bits q1_length q1_next q1_kind q1_place q1_value q1_bytes  hx hb hml hown hts hK hA hB hBA s.heap [] ls hP hD hS hl ⟨out, h, ?_⟩
  exact fun H locs ls pc hP hD hS hd => W.iret hx hb hr (fun t ht hW => ⟨⟨_, (), rfl, rfl, by rw [ht]; exact hP, va_K.moved hW.alike hK, hD⟩, hS.F ht⟩) hS.2.2 hd
/-! DiamondRows$CutText.takeSecond(I)I -/
abbrev zr_X1_takeSecond : Room := { frames := 2, cells := 0, slots := 0, locals := 43 }
noncomputable def zf_X1_takeSecond (mk : Nat) (t_first : Int) (t_polygon : Nat) (t_bits : Int) (i1 : Int) : Option (Int × Int) :=
  if t_polygon = 0 then
  some ((2 : Int), t_bits)
  else
  if zno mk t_polygon then none else
  Option.bind (zf_X5_hasCorner t_polygon i1) (fun o3 =>
  if o3 = false then
  some ((2 : Int), t_bits)
  else
  Option.bind (zf_X5_lineOf t_polygon t_first i1) (fun o4 =>
  if zout o4 then none else
  if o4 = (-1 : Int) then
  some ((4 : Int), t_bits)
  else
  Option.bind (zf_X5_has t_polygon t_bits o4) (fun o6 =>
  if o6 = false then
  Option.bind (zf_X5_crossersOf t_polygon o4) (fun o7 =>
  if (zand o7 t_bits) = 0 then
  some ((0 : Int), (zor t_bits (zshl (1 : Int) o4)))
  else
  some ((5 : Int), t_bits))
  else
  some ((3 : Int), t_bits))))
theorem zi_X1_takeSecond_X1 : ∀ w ∈ u_ws RX1 TX1 6, w ∈ wsX1_takeSecond := fun w h => (List.mem_cons_of_mem _ (List.mem_append_right _ (List.mem_append_left _ h)))
theorem zl_X1_takeSecond_18 : Cond.fieldLink RX1 18 "DiamondRows$CutText" "polygon" "LDiamondRows$Polygon;" ∈ wsX1_takeSecond := (List.mem_cons_of_mem _ (List.mem_append_left _ (List.mem_of_getElem? (i := 0) rfl)))
theorem zl_X1_takeSecond_22 : Cond.fieldLink RX1 22 "DiamondRows$CutText" "bits" "I" ∈ wsX1_takeSecond := (List.mem_cons_of_mem _ (List.mem_append_left _ (List.mem_of_getElem? (i := 2) rfl)))
theorem zl_X1_takeSecond_79 : Cond.fieldLink RX1 79 "DiamondRows$CutText" "first" "I" ∈ wsX1_takeSecond := (List.mem_cons_of_mem _ (List.mem_append_left _ (List.mem_of_getElem? (i := 1) rfl)))
def zQ_X1_takeSecond (p : Program) (l : Launch) (e : Env) (s : State) (m : MethodId) (args : Array Value) (below : List Frame) (meth : Method) (c : Code) (Q : State → Prop) (D : va_G) (κ : Nat → ClassId) (A : Nat → Prop) (H0 : Heap) (t : Nat → Nat) (mk : Nat) (ad : Nat → Nat → Nat) (t_faultKind : Int) (t_faultPlace : Int) (t_expected : Int) (t_first : Int) (t_polygon : Nat) (o : Int × Int) : Prop := ∀ (H : Heap) (locs : List Loc) (ls : Array Slot) (pc : Nat), va_P D vwCl ([((t 0), .inr (1, [.int (zi t_faultKind), .int (zi t_faultPlace), .int (zi t_expected), .int (zi t_first), zpg ad t_polygon, .int (zi (o.2))]))]) H → va_D A ([((t 0), .inr (1, [.int (zi t_faultKind), .int (zi t_faultPlace), .int (zi t_expected), .int (zi t_first), zpg ad t_polygon, .int (zi (o.2))]))]) → va_S A H0 H locs → decode cX1_takeSecond pc = .ok (.ireturn, 1) → W p l e zr_X1_takeSecond s m args below meth c H locs 0 0 Q (F0 m pc ls [.int (zi (o.1))])
set_option maxHeartbeats 4000000 in
set_option maxRecDepth 100000 in
theorem zs_X1_takeSecond {p : Program} {l : Launch} {e : Env} {s : State} {m : MethodId} {args : Array Value} {below : List Frame} {meth : Method} {c : Code} {Q : State → Prop} {D : va_G} {κ : Nat → ClassId} {A : Nat → Prop} {H0 : Heap} (t : Nat → Nat) (mk : Nat) (ad : Nat → Nat → Nat) (t_faultKind : Int) (t_faultPlace : Int) (t_expected : Int) (t_first : Int) (t_polygon : Nat) (t_bits : Int) (i1 : Int) (hx : p.tables.exec = Jvm.exec) (hb : c.code = cX1_takeSecond) (hml : c.maxLocals = 3) (hown : s.vm.findClass RX1 = some m.cls) (hts : ∀ w ∈ wsX1_takeSecond, w.before args s = true) (hK : va_K D vwCl (zTY κ) s) (hA : ∀ q : Nat, H0.size ≤ q → A q) (hB : zAmb D κ mk ad H0) (hBA : zApt mk ad A H0.size) (H : Heap) (locs : List Loc) (ls : Array Slot) (hP : va_P D vwCl ([((t 0), .inr (1, [.int (zi t_faultKind), .int (zi t_faultPlace), .int (zi t_expected), .int (zi t_first), zpg ad t_polygon, .int (zi t_bits)]))]) H) (hD : va_D A ([((t 0), .inr (1, [.int (zi t_faultKind), .int (zi t_faultPlace), .int (zi t_expected), .int (zi t_first), zpg ad t_polygon, .int (zi t_bits)]))])) (hS : va_S A H0 H locs) (hl : lv_has ls 3 [(0, .ref (t 0)), (1, .int (zi i1))]) (hg : Go (zQ_X1_takeSecond p l e s m args below meth c Q D κ A H0 t mk ad t_faultKind t_faultPlace t_expected t_first t_polygon) (zf_X1_takeSecond mk t_first t_polygon t_bits i1)) : W p l e zr_X1_takeSecond s m args below meth c H locs 0 0 Q (F0 m 0 ls []) := by
  unfold zf_X1_takeSecond at hg
  refine lv_aload_n hx hb dX1_takeSecond_0 rfl (lv_at hl 0 rfl) ?_
  by_cases c1 : t_polygon = 0
  · have hg := Go_t c1 hg
    refine va_get (D := D) (ci := 1) (v := .null) (C := RX1) (T := TX1) (N := 6) hx hb hts zi_X1_takeSecond_X1 hown hK hP 0 rfl rfl 4 (by decide) (hts (.fieldLink RX1 18 "DiamondRows$CutText" "polygon" "LDiamondRows$Polygon;") zl_X1_takeSecond_18) (fun _ h9 => h9) (zpg_null c1) dX1_takeSecond_1 ?_
    refine lv_ifnullN (tgt := 18) hx hb dX1_takeSecond_4 (by decide) ?_
    refine zv_iconst hx hb dX1_takeSecond_18 ?_
    exact (Go_s hg) _ _ _ _ hP hD hS dX1_takeSecond_19
  · have hg := Go_f c1 hg
    refine va_get (D := D) (ci := 1) (v := .ref (ad t_polygon 0)) (C := RX1) (T := TX1) (N := 6) hx hb hts zi_X1_takeSecond_X1 hown hK hP 0 rfl rfl 4 (by decide) (hts (.fieldLink RX1 18 "DiamondRows$CutText" "polygon" "LDiamondRows$Polygon;") zl_X1_takeSecond_18) (fun _ h9 => h9) (zpg_some c1) dX1_takeSecond_1 ?_
    refine lv_ifnull hx hb dX1_takeSecond_4 ?_
    refine lv_aload_n hx hb dX1_takeSecond_7 rfl (lv_at hl 0 rfl) ?_
    obtain ⟨m2, hg⟩ := Go_n hg
    refine va_get (D := D) (ci := 1) (v := .ref (ad t_polygon 0)) (C := RX1) (T := TX1) (N := 6) hx hb hts zi_X1_takeSecond_X1 hown hK hP 0 rfl rfl 4 (by decide) (hts (.fieldLink RX1 18 "DiamondRows$CutText" "polygon" "LDiamondRows$Polygon;") zl_X1_takeSecond_18) (fun _ h9 => h9) (zpg_ok m2) dX1_takeSecond_8 ?_
    refine lv_iload_n hx hb dX1_takeSecond_11 rfl (lv_at hl 1 rfl) ?_
    obtain ⟨o3, ho3, hg⟩ := Go_b hg
    refine zc_vi (rest := []) ⟨hx, hb, hml, hown, hts⟩ (zc_X5_hasCorner l D κ (ad t_polygon) t_polygon i1 o3 ho3) (cwV 1 hts gX1_takeSecond_X5_hasCorner rfl rfl rfl hv_X5_hasCorner ⟨Nat.le_of_ble_eq_true rfl, Nat.le_of_ble_eq_true rfl⟩) (zpreV hK ((zamb hB hBA hS) t_polygon m2) 5 0 rfl rfl) rfl hl.1 rfl (Nat.le_of_ble_eq_true rfl) dX1_takeSecond_12 ⟨Nat.zero_le _, Nat.zero_le _⟩ ?_
    refine zv_ifb_ne (tgt := 20) hx hb dX1_takeSecond_15 (by decide) (fun c11 => ?_) (fun c11 => ?_)
    · have hg := Go_f c11 hg
      refine lv_aload_n hx hb dX1_takeSecond_20 rfl (lv_at hl 0 rfl) ?_
      refine va_get (D := D) (ci := 1) (v := .ref (ad t_polygon 0)) (C := RX1) (T := TX1) (N := 6) hx hb hts zi_X1_takeSecond_X1 hown hK hP 0 rfl rfl 4 (by decide) (hts (.fieldLink RX1 18 "DiamondRows$CutText" "polygon" "LDiamondRows$Polygon;") zl_X1_takeSecond_18) (fun _ h9 => h9) (zpg_ok m2) dX1_takeSecond_21 ?_
      refine lv_aload_n hx hb dX1_takeSecond_24 rfl (lv_at hl 0 rfl) ?_
      refine va_get (D := D) (ci := 1) (v := .int (zi t_first)) (C := RX1) (T := TX1) (N := 6) hx hb hts zi_X1_takeSecond_X1 hown hK hP 0 rfl rfl 3 (by decide) (hts (.fieldLink RX1 79 "DiamondRows$CutText" "first" "I") zl_X1_takeSecond_79) (fun _ h9 => h9) rfl dX1_takeSecond_25 ?_
      refine lv_iload_n hx hb dX1_takeSecond_28 rfl (lv_at hl 1 rfl) ?_
      obtain ⟨o4, ho4, hg⟩ := Go_b hg
      refine zc_vi (rest := []) ⟨hx, hb, hml, hown, hts⟩ (zc_X5_lineOf l D κ (ad t_polygon) t_polygon t_first i1 o4 ho4) (cwV 2 hts gX1_takeSecond_X5_lineOf rfl rfl rfl hv_X5_lineOf ⟨Nat.le_of_ble_eq_true rfl, Nat.le_of_ble_eq_true rfl⟩) (zpreV hK ((zamb hB hBA hS) t_polygon m2) 5 0 rfl rfl) rfl hl.1 rfl (Nat.le_of_ble_eq_true rfl) dX1_takeSecond_29 ⟨Nat.zero_le _, Nat.zero_le _⟩ ?_
      refine lv_istore_n (lv' := [(2, .int (zi o4)), (0, .ref (t 0)), (1, .int (zi i1))]) hx hb dX1_takeSecond_32 rfl hl (by decide) rfl (fun ls hl => ?_)
      refine lv_iload_n hx hb dX1_takeSecond_33 rfl (lv_at hl 0 rfl) ?_
      refine zv_iconst hx hb dX1_takeSecond_34 ?_
      obtain ⟨b5, hg⟩ := Go_n hg
      refine zv_icmp_ne (tgt := 40) hx hb dX1_takeSecond_35 (by decide) b5 (by decide) (fun c10 => ?_) (fun c10 => ?_)
      · have hg := Go_f c10 hg
        refine lv_aload_n hx hb dX1_takeSecond_40 rfl (lv_at hl 1 rfl) ?_
        refine va_get (D := D) (ci := 1) (v := .ref (ad t_polygon 0)) (C := RX1) (T := TX1) (N := 6) hx hb hts zi_X1_takeSecond_X1 hown hK hP 0 rfl rfl 4 (by decide) (hts (.fieldLink RX1 18 "DiamondRows$CutText" "polygon" "LDiamondRows$Polygon;") zl_X1_takeSecond_18) (fun _ h9 => h9) (zpg_ok m2) dX1_takeSecond_41 ?_
        refine lv_aload_n hx hb dX1_takeSecond_44 rfl (lv_at hl 1 rfl) ?_
        refine va_get (D := D) (ci := 1) (v := .int (zi t_bits)) (C := RX1) (T := TX1) (N := 6) hx hb hts zi_X1_takeSecond_X1 hown hK hP 0 rfl rfl 5 (by decide) (hts (.fieldLink RX1 22 "DiamondRows$CutText" "bits" "I") zl_X1_takeSecond_22) (fun _ h9 => h9) rfl dX1_takeSecond_45 ?_
        refine lv_iload_n hx hb dX1_takeSecond_48 rfl (lv_at hl 0 rfl) ?_
        obtain ⟨o6, ho6, hg⟩ := Go_b hg
        refine zc_vi (rest := []) ⟨hx, hb, hml, hown, hts⟩ (zc_X5_has l D κ (ad t_polygon) t_polygon t_bits o4 o6 ho6) (cwV 2 hts gX1_takeSecond_X5_has rfl rfl rfl hv_X5_has ⟨Nat.le_of_ble_eq_true rfl, Nat.le_of_ble_eq_true rfl⟩) (zpreV hK ((zamb hB hBA hS) t_polygon m2) 5 0 rfl rfl) rfl hl.1 rfl (Nat.le_of_ble_eq_true rfl) dX1_takeSecond_49 ⟨Nat.zero_le _, Nat.zero_le _⟩ ?_
        refine zv_ifb_eq (tgt := 57) hx hb dX1_takeSecond_52 (by decide) (fun c9 => ?_) (fun c9 => ?_)
        · have hg := Go_t c9 hg
          refine lv_aload_n hx hb dX1_takeSecond_57 rfl (lv_at hl 1 rfl) ?_
          refine va_get (D := D) (ci := 1) (v := .ref (ad t_polygon 0)) (C := RX1) (T := TX1) (N := 6) hx hb hts zi_X1_takeSecond_X1 hown hK hP 0 rfl rfl 4 (by decide) (hts (.fieldLink RX1 18 "DiamondRows$CutText" "polygon" "LDiamondRows$Polygon;") zl_X1_takeSecond_18) (fun _ h9 => h9) (zpg_ok m2) dX1_takeSecond_58 ?_
          refine lv_iload_n hx hb dX1_takeSecond_61 rfl (lv_at hl 0 rfl) ?_
          obtain ⟨o7, ho7, hg⟩ := Go_b hg
          refine zc_vi (rest := []) ⟨hx, hb, hml, hown, hts⟩ (zc_X5_crossersOf l D κ (ad t_polygon) t_polygon o4 o7 ho7) (cwV 1 hts gX1_takeSecond_X5_crossersOf rfl rfl rfl hv_X5_crossersOf ⟨Nat.le_of_ble_eq_true rfl, Nat.le_of_ble_eq_true rfl⟩) (zpreV hK ((zamb hB hBA hS) t_polygon m2) 5 0 rfl rfl) rfl hl.1 rfl (Nat.le_of_ble_eq_true rfl) dX1_takeSecond_62 ⟨Nat.zero_le _, Nat.zero_le _⟩ ?_
          refine lv_aload_n hx hb dX1_takeSecond_65 rfl (lv_at hl 1 rfl) ?_
          refine va_get (D := D) (ci := 1) (v := .int (zi t_bits)) (C := RX1) (T := TX1) (N := 6) hx hb hts zi_X1_takeSecond_X1 hown hK hP 0 rfl rfl 5 (by decide) (hts (.fieldLink RX1 22 "DiamondRows$CutText" "bits" "I") zl_X1_takeSecond_22) (fun _ h9 => h9) rfl dX1_takeSecond_66 ?_
          refine zv_iand hx hb dX1_takeSecond_69 ?_
          refine zv_if_eq (tgt := 75) hx hb dX1_takeSecond_70 (by decide) (zand_in _ _) (fun c8 => ?_) (fun c8 => ?_)
          · have hg := Go_t c8 hg
            refine lv_aload_n hx hb dX1_takeSecond_75 rfl (lv_at hl 1 rfl) ?_
            refine lv_dup hx hb dX1_takeSecond_76 rfl ?_
            refine va_get (D := D) (ci := 1) (v := .int (zi t_bits)) (C := RX1) (T := TX1) (N := 6) hx hb hts zi_X1_takeSecond_X1 hown hK hP 0 rfl rfl 5 (by decide) (hts (.fieldLink RX1 22 "DiamondRows$CutText" "bits" "I") zl_X1_takeSecond_22) (fun _ h9 => h9) rfl dX1_takeSecond_77 ?_
            refine zv_iconst hx hb dX1_takeSecond_80 ?_
            refine lv_iload_n hx hb dX1_takeSecond_81 rfl (lv_at hl 0 rfl) ?_
            refine zv_ishl hx hb dX1_takeSecond_82 ?_
            refine zv_ior hx hb dX1_takeSecond_83 ?_
            refine va_put (D := D) (ci := 1) (v := .int (zi (zor t_bits (zshl (1 : Int) o4)))) (ty := .int) (C := RX1) (T := TX1) (N := 6) hx hb hts zi_X1_takeSecond_X1 tyX1 tyX1_ok nmX1 hown hK hP hD hS 0 rfl rfl 5 (by decide) (hts (.fieldLink RX1 22 "DiamondRows$CutText" "bits" "I") zl_X1_takeSecond_22) (fun _ h9 => h9) rfl (by decide +kernel) rfl rfl (Nat.le_of_ble_eq_true rfl) dX1_takeSecond_84 (fun H locs hP hD hS => ?_)
            have hP : va_P D vwCl ([((t 0), .inr (1, [.int (zi t_faultKind), .int (zi t_faultPlace), .int (zi t_expected), .int (zi t_first), zpg ad t_polygon, .int (zi (zor t_bits (zshl (1 : Int) o4)))]))]) H := hP
            have hD : va_D A ([((t 0), .inr (1, [.int (zi t_faultKind), .int (zi t_faultPlace), .int (zi t_expected), .int (zi t_first), zpg ad t_polygon, .int (zi (zor t_bits (zshl (1 : Int) o4)))]))]) := hD
            refine zv_iconst hx hb dX1_takeSecond_87 ?_
            exact (Go_s hg) _ _ _ _ hP hD hS dX1_takeSecond_88
          · have hg := Go_f c8 hg
            refine zv_iconst hx hb dX1_takeSecond_73 ?_
            exact (Go_s hg) _ _ _ _ hP hD hS dX1_takeSecond_74
        · have hg := Go_f c9 hg
          refine zv_iconst hx hb dX1_takeSecond_55 ?_
          exact (Go_s hg) _ _ _ _ hP hD hS dX1_takeSecond_56
      · have hg := Go_t c10 hg
        refine zv_iconst hx hb dX1_takeSecond_38 ?_
        exact (Go_s hg) _ _ _ _ hP hD hS dX1_takeSecond_39
    · have hg := Go_t c11 hg
      refine zv_iconst hx hb dX1_takeSecond_18 ?_
      exact (Go_s hg) _ _ _ _ hP hD hS dX1_takeSecond_19
set_option maxHeartbeats 4000000 in
set_option maxRecDepth 100000 in
theorem zc_X1_takeSecond (l : Launch) (D : va_G) (κ : Nat → ClassId) (t : Nat → Nat) (mk : Nat) (ad : Nat → Nat → Nat) (sz : Nat) (t_faultKind : Int) (t_faultPlace : Int) (t_expected : Int) (t_first : Int) (t_polygon : Nat) (t_bits : Int) (i1 : Int) (out : Int × Int) (h : zf_X1_takeSecond mk t_first t_polygon t_bits i1 = some out) : Met l yX1_takeSecond wsX1_takeSecond zr_X1_takeSecond (va_Pc [.ref (t 0), .int (zi i1)] (zWa D κ mk ad ([((t 0), .inr (1, [.int (zi t_faultKind), .int (zi t_faultPlace), .int (zi t_expected), .int (zi t_first), zpg ad t_polygon, .int (zi t_bits)]))]) sz)) (va_Qi (fun r (_ : Unit) => r = zi (out.1)) (fun _ => zB D κ (va_A ([((t 0), .inr (1, [.int (zi t_faultKind), .int (zi t_faultPlace), .int (zi t_expected), .int (zi t_first), zpg ad t_polygon, .int (zi t_bits)]))]) sz) ([((t 0), .inr (1, [.int (zi t_faultKind), .int (zi t_faultPlace), .int (zi t_expected), .int (zi t_first), zpg ad t_polygon, .int (zi (out.2))]))])) (va_A ([((t 0), .inr (1, [.int (zi t_faultKind), .int (zi t_faultPlace), .int (zi t_expected), .int (zi t_first), zpg ad t_polygon, .int (zi t_bits)]))]) sz)) 0 0 (va_A ([((t 0), .inr (1, [.int (zi t_faultKind), .int (zi t_faultPlace), .int (zi t_expected), .int (zi t_first), zpg ad t_polygon, .int (zi t_bits)]))]) sz) := by
  refine Met.ofW (cc := cX1_takeSecond) (maxL := 3) (ret := (some .int)) (by decide +kernel) rfl ?_
  intro p e s m args below meth c s₁ B hml hv
  obtain ⟨rfl, hsz, hP, hK, hD0, hB, hBA⟩ := hv
  have hx := B.exec
  have hb := B.bytes
  have hr := B.returns
  have hts := atoms_spec (ws := wsX1_takeSecond) B.pre
  have hown : s.vm.findClass RX1 = some m.cls := findClass_of_methodNamed B.named
  have hlocks := B.notSynchronized
  subst hsz
  have hD := hD0.self (sz := s.heap.size)
  generalize hAe : va_A ([((t 0), .inr (1, [.int (zi t_faultKind), .int (zi t_faultPlace), .int (zi t_expected), .int (zi t_first), zpg ad t_polygon, .int (zi t_bits)]))]) s.heap.size = A at hD hBA ⊢
  have hA : ∀ q : Nat, s.heap.size ≤ q → A q := fun q h => by rw [← hAe]; exact Or.inr h
  have hS : va_S A s.heap s.heap [] := va_S.rf
  have hl := lv_entry ([.ref (t 0), .int (zi i1)]) (n := 3) (Nat.le_of_ble_eq_true rfl)
  rw [lg_entry_eq]
  generalize (lg_sl ([.ref (t 0), .int (zi i1)]) ++ List.replicate (3 - (lg_sl ([.ref (t 0), .int (zi i1)])).length) Slot.unset).toArray = ls at hl ⊢
  have hl : lv_has ls 3 [(0, .ref (t 0)), (1, .int (zi i1))] := hl
  refine zs_X1_takeSecond t mk ad t_faultKind t_faultPlace t_expected t_first t_polygon t_bits i1 hx hb hml hown hts hK hA hB hBA s.heap [] ls hP hD hS hl ⟨out, h, ?_⟩
  exact fun H locs ls pc hP hD hS hd => W.iret hx hb hr (fun t ht hW => ⟨⟨_, (), rfl, rfl, by rw [ht]; exact hP, va_K.moved hW.alike hK, hD⟩, hS.F ht⟩) hS.2.2 hd
end
