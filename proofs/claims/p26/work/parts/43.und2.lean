set_option maxHeartbeats 4000000 in
set_option maxRecDepth 100000 in
theorem zsp_X1_understand {p : Program} {l : Launch} {e : Env} {s : State} {m : MethodId} {args : Array Value} {below : List Frame} {meth : Method} {c : Code} {Q : State → Prop} {cells slots : Nat} {D : va_G} {κ : Nat → ClassId} {A : Nat → Prop} {H0 : Heap} (t q1 q2 : Nat → Nat) (str : Nat) (mk : Nat) (ad : Nat → Nat → Nat) (q1_length : Int) (q1_bytes : Nat) (hx : p.tables.exec = Jvm.exec) (hb : c.code = cX1_understand) (hml : c.maxLocals = 4) (hown : s.vm.findClass RX1 = some m.cls) (hts : ∀ w ∈ wsX1_understand, w.before args s = true) (hK : va_K D vwCl (zTY κ) s) (hA : ∀ q : Nat, H0.size ≤ q → A q) (hroom : cells ≤ zr_X1_understand.cells ∧ slots ≤ zr_X1_understand.slots) (i3 : Int) (t_faultKind t_faultPlace t_expected t_first : Int) (t_polygon : Nat) (t_bits q1_next q1_kind q1_place q1_value : Int) (h0 : 0 ≤ i3) (hi3 : i3 ≤ 300) (o4 : Int × Int × Int × Int) (ho4 : zf_X8_readToken q1_length q1_next q1_kind q1_place q1_value q1_bytes = some o4) (kk : ∀ (H : Heap) (locs : List Loc) (ls : Array Slot), va_P D vwCl (zTX κ t q1 q2 mk ad t_faultKind t_faultPlace t_expected t_first t_polygon t_bits q1_length (o4.1) (o4.2.1) (o4.2.2.1) (o4.2.2.2) q1_bytes) H → va_D A (zTX κ t q1 q2 mk ad t_faultKind t_faultPlace t_expected t_first t_polygon t_bits q1_length (o4.1) (o4.2.1) (o4.2.2.1) (o4.2.2.2) q1_bytes) → va_S A H0 H locs → lv_has ls 4 [(0, .ref (t 0)), (1, .ref (q1 0)), (2, .ref (q2 0)), (3, .int (zi i3))] → W p l e zr_X1_understand s m args below meth c H locs cells slots Q (F0 m 46 ls [.ref (q2 0), .ref (q1 0), .ref (t 0), .ref (t 0)])) : zA_X1_understand_31 p l e s m args below meth c Q cells slots D κ A H0 t q1 q2 str mk ad q1_length q1_bytes i3 t_faultKind t_faultPlace t_expected t_first t_polygon t_bits q1_next q1_kind q1_place q1_value := by
  intro H locs ls hP hD hS hl
  refine lv_iload_n hx hb dX1_understand_31 rfl (lv_at hl 3 rfl) ?_
  refine zv_sipush hx hb dX1_understand_32 (by decide) ?_
  refine zv_icmp_gt (tgt := 85) hx hb dX1_understand_35 (by decide) (by unfold zout; omega) (by decide) (fun q => absurd q (by omega)) (fun _ => ?_)
  refine lv_aload_n hx hb dX1_understand_38 rfl (lv_at hl 1 rfl) ?_
  refine zj_v (wr := [((t 0), .inr (1, [.int (zi t_faultKind), .int (zi t_faultPlace), .int (zi t_expected), .int (zi t_first), zpg ad t_polygon, .int (zi t_bits)])), ((q2 0), .inr (6, [.ref (q2 1)])), ((q2 1), .inl (κ 4, 6, .inr (.inr (.inr (.inr (zmade mk ad))))))]) (ws1 := [((t 0), .inr (1, [.int (zi t_faultKind), .int (zi t_faultPlace), .int (zi t_expected), .int (zi t_first), zpg ad t_polygon, .int (zi t_bits)])), ((q1 0), .inr (8, [.ref (q1 1), .int (zi q1_length), .int (zi (o4.1)), .int (zi (o4.2.1)), .int (zi (o4.2.2.1)), .int (zi (o4.2.2.2))])), ((q1 1), .inl (κ 0, 300, .inl (zc q1_bytes))), ((q2 0), .inr (6, [.ref (q2 1)])), ((q2 1), .inl (κ 4, 6, .inr (.inr (.inr (.inr (zmade mk ad))))))]) (va_runV (rest := []) ⟨hx, hb, hml, hown, hts⟩ (zc_X8_readToken l D κ q1 H.size q1_length q1_next q1_kind q1_place q1_value q1_bytes o4 ho4) (cwV 0 hts gX1_understand_X8_readToken rfl rfl rfl (by decide +kernel) ⟨Nat.le_of_ble_eq_true rfl, Nat.le_of_ble_eq_true rfl⟩) (zpreWV hK (hP.sub [1, 2] rfl) (hD.sub [1, 2] (by decide) rfl) 8 0 rfl rfl) rfl rfl hl.1 rfl (lv_room (Nat.le_of_ble_eq_true rfl)) dX1_understand_39 hroom) hP hD hS hA [1, 2] [0, 3, 4] [0, 3, 4, 1, 2] rfl rfl (by decide) (by decide) rfl rfl (by decide) (fun H locs hP hD hS => ?_)
  refine lv_aload_n hx hb dX1_understand_42 rfl (lv_at hl 0 rfl) ?_
  refine lv_aload_n hx hb dX1_understand_43 rfl (lv_at hl 0 rfl) ?_
  refine lv_aload_n hx hb dX1_understand_44 rfl (lv_at hl 1 rfl) ?_
  refine lv_aload_n hx hb dX1_understand_45 rfl (lv_at hl 2 rfl) ?_
  exact kk H locs ls hP hD hS hl
noncomputable def zgu_X1 (i3 t_faultPlace r ex fi : Int) (t_polygon : Nat) (bi : Int) (o4 : Int × Int × Int × Int) : Option (zO_X1_understand ⊕ zS_X1_understand) :=
  if zout r then none else
  if r = 0 then
  Option.bind (zf_X8_kind (o4.2.1)) (fun o7 =>
  if zout o7 then none else
  if o7 = 0 then
  if t_polygon = 0 then
  some (.inl (false, r, t_faultPlace, ex, fi, t_polygon, bi, (o4.1), (o4.2.1), (o4.2.2.1), (o4.2.2.2)))
  else
  some (.inl (true, r, t_faultPlace, ex, fi, t_polygon, bi, (o4.1), (o4.2.1), (o4.2.2.1), (o4.2.2.2)))
  else
  some (.inr (31, (i3 + (1 : Int)), r, t_faultPlace, ex, fi, t_polygon, bi, (o4.1), (o4.2.1), (o4.2.2.1), (o4.2.2.2))))
  else
  Option.bind (zf_X8_place (o4.2.2.1)) (fun o11 =>
  some (.inl (false, r, o11, ex, fi, t_polygon, bi, (o4.1), (o4.2.1), (o4.2.2.1), (o4.2.2.2))))
set_option maxHeartbeats 4000000 in
set_option maxRecDepth 100000 in
theorem zss_X1_understand {p : Program} {l : Launch} {e : Env} {s : State} {m : MethodId} {args : Array Value} {below : List Frame} {meth : Method} {c : Code} {Q : State → Prop} {cells slots : Nat} {D : va_G} {κ : Nat → ClassId} {A : Nat → Prop} {H0 : Heap} (t q1 q2 : Nat → Nat) (str : Nat) (mk : Nat) (ad : Nat → Nat → Nat) (q1_length : Int) (q1_bytes : Nat) (hx : p.tables.exec = Jvm.exec) (hb : c.code = cX1_understand) (hml : c.maxLocals = 4) (hown : s.vm.findClass RX1 = some m.cls) (hts : ∀ w ∈ wsX1_understand, w.before args s = true) (hK : va_K D vwCl (zTY κ) s) (hA : ∀ q : Nat, H0.size ≤ q → A q) (hroom : cells ≤ zr_X1_understand.cells ∧ slots ≤ zr_X1_understand.slots) (i3 : Int) (t_faultKind t_faultPlace r ex fi : Int) (t_polygon : Nat) (bi : Int) (o4 : Int × Int × Int × Int) (hg : Go (GoE (zA_X1_understand p l e s m args below meth c Q cells slots D κ A H0 t q1 q2 str mk ad q1_length q1_bytes) (zQ_X1_understand p l e s m args below meth c Q cells slots D κ A H0 t q1 q2 str mk ad q1_length q1_bytes)) (zgu_X1 i3 t_faultPlace r ex fi t_polygon bi o4)) (H : Heap) (locs : List Loc) (ls : Array Slot) (hP : va_P D vwCl (zTX κ t q1 q2 mk ad t_faultKind t_faultPlace ex fi t_polygon bi q1_length (o4.1) (o4.2.1) (o4.2.2.1) (o4.2.2.2) q1_bytes) H) (hD : va_D A (zTX κ t q1 q2 mk ad t_faultKind t_faultPlace ex fi t_polygon bi q1_length (o4.1) (o4.2.1) (o4.2.2.1) (o4.2.2.2) q1_bytes)) (hS : va_S A H0 H locs) (hl : lv_has ls 4 [(0, .ref (t 0)), (1, .ref (q1 0)), (2, .ref (q2 0)), (3, .int (zi i3))]) : W p l e zr_X1_understand s m args below meth c H locs cells slots Q (F0 m 49 ls [.int (zi r), .ref (t 0)]) := by
  unfold zgu_X1 at hg
  refine va_put (D := D) (ci := 1) (v := .int (zi r)) (ty := .int) (C := RX1) (T := TX1) (N := 6) hx hb hts zi_X1_understand_X1 tyX1 tyX1_ok nmX1 hown hK hP hD hS 0 rfl rfl 0 (by decide) (hts (.fieldLink RX1 15 "DiamondRows$CutText" "faultKind" "I") zl_X1_understand_15) (fun _ h9 => h9) rfl (by decide +kernel) rfl rfl (Nat.le_of_ble_eq_true rfl) dX1_understand_49 (fun H locs hP hD hS => ?_)
  have hP : va_P D vwCl ([((t 0), .inr (1, [.int (zi r), .int (zi t_faultPlace), .int (zi ex), .int (zi fi), zpg ad t_polygon, .int (zi bi)])), ((q1 0), .inr (8, [.ref (q1 1), .int (zi q1_length), .int (zi (o4.1)), .int (zi (o4.2.1)), .int (zi (o4.2.2.1)), .int (zi (o4.2.2.2))])), ((q1 1), .inl (κ 0, 300, .inl (zc q1_bytes))), ((q2 0), .inr (6, [.ref (q2 1)])), ((q2 1), .inl (κ 4, 6, .inr (.inr (.inr (.inr (zmade mk ad))))))]) H := hP
  have hD : va_D A ([((t 0), .inr (1, [.int (zi r), .int (zi t_faultPlace), .int (zi ex), .int (zi fi), zpg ad t_polygon, .int (zi bi)])), ((q1 0), .inr (8, [.ref (q1 1), .int (zi q1_length), .int (zi (o4.1)), .int (zi (o4.2.1)), .int (zi (o4.2.2.1)), .int (zi (o4.2.2.2))])), ((q1 1), .inl (κ 0, 300, .inl (zc q1_bytes))), ((q2 0), .inr (6, [.ref (q2 1)])), ((q2 1), .inl (κ 4, 6, .inr (.inr (.inr (.inr (zmade mk ad))))))]) := hD
  refine lv_aload_n hx hb dX1_understand_52 rfl (lv_at hl 0 rfl) ?_
  refine va_get (D := D) (ci := 1) (v := .int (zi r)) (C := RX1) (T := TX1) (N := 6) hx hb hts zi_X1_understand_X1 hown hK hP 0 rfl rfl 0 (by decide) (hts (.fieldLink RX1 15 "DiamondRows$CutText" "faultKind" "I") zl_X1_understand_15) (fun _ h9 => h9) rfl dX1_understand_53 ?_
  obtain ⟨b6, hg⟩ := Go_n hg
  refine zv_if_eq (tgt := 69) hx hb dX1_understand_56 (by decide) b6 (fun c12 => ?_) (fun c12 => ?_)
  · have hg := Go_t c12 hg
    refine lv_aload_n hx hb dX1_understand_69 rfl (lv_at hl 1 rfl) ?_
    obtain ⟨o7, ho7, hg⟩ := Go_b hg
    refine zc_vi (rest := []) ⟨hx, hb, hml, hown, hts⟩ (zc_X8_kind l D κ q1 q1_length (o4.1) (o4.2.1) (o4.2.2.1) (o4.2.2.2) q1_bytes o7 ho7) (cwV 0 hts gX1_understand_X8_kind rfl rfl rfl (by decide +kernel) ⟨Nat.le_of_ble_eq_true rfl, Nat.le_of_ble_eq_true rfl⟩) (zpreV hK (hP.sub [1, 2] rfl) 8 0 rfl rfl) rfl hl.1 rfl (Nat.le_of_ble_eq_true rfl) dX1_understand_70 hroom ?_
    obtain ⟨b8, hg⟩ := Go_n hg
    refine zv_if_ne (tgt := 79) hx hb dX1_understand_73 (by decide) b8 (fun c10 => ?_) (fun c10 => ?_)
    · have hg := Go_f c10 hg
      refine lv_iinc (v := zi (i3 + (1 : Int))) (lv' := [(3, .int (zi (i3 + (1 : Int)))), (0, .ref (t 0)), (1, .ref (q1 0)), (2, .ref (q2 0))]) hx hb dX1_understand_79 hl (k := 3) rfl (zi_add i3 _) (by decide) rfl (fun ls hl => ?_)
      refine lv_goto (tgt := 31) hx hb dX1_understand_82 (by decide) ?_
      exact (Go_s hg) H locs ls hP hD hS (lv_sub hl [1, 2, 3, 0] rfl)
    · have hg := Go_t c10 hg
      refine lv_goto (tgt := 85) hx hb dX1_understand_76 (by decide) ?_
      refine lv_aload_n hx hb dX1_understand_85 rfl (lv_at hl 0 rfl) ?_
      by_cases c9 : t_polygon = 0
      · have hg := Go_t c9 hg
        refine va_get (D := D) (ci := 1) (v := .null) (C := RX1) (T := TX1) (N := 6) hx hb hts zi_X1_understand_X1 hown hK hP 0 rfl rfl 4 (by decide) (hts (.fieldLink RX1 18 "DiamondRows$CutText" "polygon" "LDiamondRows$Polygon;") zl_X1_understand_18) (fun _ h9 => h9) (zpg_null c9) dX1_understand_86 ?_
        refine lv_ifnullN (tgt := 96) hx hb dX1_understand_89 (by decide) ?_
        refine zv_iconst hx hb dX1_understand_96 ?_
        exact (Go_s hg) _ _ _ _ hP hD hS dX1_understand_97
      · have hg := Go_f c9 hg
        refine va_get (D := D) (ci := 1) (v := .ref (ad t_polygon 0)) (C := RX1) (T := TX1) (N := 6) hx hb hts zi_X1_understand_X1 hown hK hP 0 rfl rfl 4 (by decide) (hts (.fieldLink RX1 18 "DiamondRows$CutText" "polygon" "LDiamondRows$Polygon;") zl_X1_understand_18) (fun _ h9 => h9) (zpg_some c9) dX1_understand_86 ?_
        refine lv_ifnull hx hb dX1_understand_89 ?_
        refine zv_iconst hx hb dX1_understand_92 ?_
        refine lv_goto (tgt := 97) hx hb dX1_understand_93 (by decide) ?_
        exact (Go_s hg) _ _ _ _ hP hD hS dX1_understand_97
  · have hg := Go_f c12 hg
    refine lv_aload_n hx hb dX1_understand_59 rfl (lv_at hl 0 rfl) ?_
    refine lv_aload_n hx hb dX1_understand_60 rfl (lv_at hl 1 rfl) ?_
    obtain ⟨o11, ho11, hg⟩ := Go_b hg
    refine zc_vi (rest := [.ref (t 0)]) ⟨hx, hb, hml, hown, hts⟩ (zc_X8_place l D κ q1 q1_length (o4.1) (o4.2.1) (o4.2.2.1) (o4.2.2.2) q1_bytes o11 ho11) (cwV 0 hts gX1_understand_X8_place rfl rfl rfl (by decide +kernel) ⟨Nat.le_of_ble_eq_true rfl, Nat.le_of_ble_eq_true rfl⟩) (zpreV hK (hP.sub [1, 2] rfl) 8 0 rfl rfl) rfl hl.1 rfl (Nat.le_of_ble_eq_true rfl) dX1_understand_61 hroom ?_
    refine va_put (D := D) (ci := 1) (v := .int (zi o11)) (ty := .int) (C := RX1) (T := TX1) (N := 6) hx hb hts zi_X1_understand_X1 tyX1 tyX1_ok nmX1 hown hK hP hD hS 0 rfl rfl 1 (by decide) (hts (.fieldLink RX1 9 "DiamondRows$CutText" "faultPlace" "I") zl_X1_understand_9) (fun _ h9 => h9) rfl (by decide +kernel) rfl rfl (Nat.le_of_ble_eq_true rfl) dX1_understand_64 (fun H locs hP hD hS => ?_)
    have hP : va_P D vwCl ([((t 0), .inr (1, [.int (zi r), .int (zi o11), .int (zi ex), .int (zi fi), zpg ad t_polygon, .int (zi bi)])), ((q1 0), .inr (8, [.ref (q1 1), .int (zi q1_length), .int (zi (o4.1)), .int (zi (o4.2.1)), .int (zi (o4.2.2.1)), .int (zi (o4.2.2.2))])), ((q1 1), .inl (κ 0, 300, .inl (zc q1_bytes))), ((q2 0), .inr (6, [.ref (q2 1)])), ((q2 1), .inl (κ 4, 6, .inr (.inr (.inr (.inr (zmade mk ad))))))]) H := hP
    have hD : va_D A ([((t 0), .inr (1, [.int (zi r), .int (zi o11), .int (zi ex), .int (zi fi), zpg ad t_polygon, .int (zi bi)])), ((q1 0), .inr (8, [.ref (q1 1), .int (zi q1_length), .int (zi (o4.1)), .int (zi (o4.2.1)), .int (zi (o4.2.2.1)), .int (zi (o4.2.2.2))])), ((q1 1), .inl (κ 0, 300, .inl (zc q1_bytes))), ((q2 0), .inr (6, [.ref (q2 1)])), ((q2 1), .inl (κ 4, 6, .inr (.inr (.inr (.inr (zmade mk ad))))))]) := hD
    refine zv_iconst hx hb dX1_understand_67 ?_
    exact (Go_s hg) _ _ _ _ hP hD hS dX1_understand_68
/-- a text that comes to nothing ahead of a polygon -/
def zuF (len kd pl va : Int) (by_ : Nat) (fi : Int) (o : zO_X1_understand) : Prop :=
  (∃ n4 k4 p4 v4 : Int, zf_X8_readToken len 0 kd pl va by_ = some (n4, k4, p4, v4) ∧ zf_X8_isWordF len n4 k4 p4 by_ = some false ∧ o = (false, 1, p4, 1, fi, 0, 0, n4, k4, p4, v4)) ∨
  (∃ n4 p4 v4 n5 k5 p5 v5 : Int, zf_X8_readToken len 0 kd pl va by_ = some (n4, 1, p4, v4) ∧ zf_X8_isWordF len n4 1 p4 by_ = some true ∧ zf_X8_readToken len n4 1 p4 v4 by_ = some (n5, k5, p5, v5) ∧ ((¬ k5 = 2 ∧ ¬ zout k5 ∧ o = (false, 1, p5, 4, fi, 0, 0, n5, k5, p5, v5)) ∨ (k5 = 2 ∧ ¬ zout v5 ∧ (v5 < 4 ∨ 9 < v5) ∧ o = (false, 2, p5, 4, fi, 0, 0, n5, k5, p5, v5))))
set_option maxHeartbeats 4000000 in
set_option maxRecDepth 100000 in
theorem zc_X1_understand_F (l : Launch) (D : va_G) (κ : Nat → ClassId) (t q1 q2 : Nat → Nat) (str sv : Nat) (mk : Nat) (ad : Nat → Nat → Nat) (sz : Nat) (fk fp ex fi : Int) (pol : Nat) (bi len nx kd pl va : Int) (by_ : Nat) (out : zO_X1_understand) (h : zuF len kd pl va by_ fi out) : Met l yX1_understand wsX1_understand zr_X1_understand (va_Pc [.ref (t 0), .ref (q1 0), .ref (q2 0)] (zWs str sv (va_A (zTX κ t q1 q2 mk ad fk fp ex fi pol bi len nx kd pl va by_) sz) (zWa D κ mk ad (zTX κ t q1 q2 mk ad fk fp ex fi pol bi len nx kd pl va by_) sz))) (va_Qi (fun r (_ : Unit) => r = zi (bI (out.1))) (fun _ => zB D κ (va_A (zTX κ t q1 q2 mk ad fk fp ex fi pol bi len nx kd pl va by_) sz) (zTX κ t q1 q2 mk ad (out.2.1) (out.2.2.1) (out.2.2.2.1) (out.2.2.2.2.1) (out.2.2.2.2.2.1) (out.2.2.2.2.2.2.1) len (out.2.2.2.2.2.2.2.1) (out.2.2.2.2.2.2.2.2.1) (out.2.2.2.2.2.2.2.2.2.1) (out.2.2.2.2.2.2.2.2.2.2) by_)) (va_A (zTX κ t q1 q2 mk ad fk fp ex fi pol bi len nx kd pl va by_) sz)) 7 609 (va_A (zTX κ t q1 q2 mk ad fk fp ex fi pol bi len nx kd pl va by_) sz) := by
  refine Met.ofW (cc := cX1_understand) (maxL := 4) (ret := (some .boolean)) (by decide +kernel) rfl ?_
  intro p e s m args below meth cd s₁ B hml hv
  obtain ⟨rfl, ⟨⟨hsz, hP, hK, hD0, hB, hBA⟩, hV⟩, hst⟩ := hv
  have hx := B.exec
  have hb := B.bytes
  have hr := B.returns
  have hts := atoms_spec (ws := wsX1_understand) B.pre
  have hown : s.vm.findClass RX1 = some m.cls := findClass_of_methodNamed B.named
  have hlocks := B.notSynchronized
  subst hsz
  have hD := hD0.self (sz := s.heap.size)
  have hAe : ∃ A, A = va_A (zTX κ t q1 q2 mk ad fk fp ex fi pol bi len nx kd pl va by_) s.heap.size := ⟨_, rfl⟩
  obtain ⟨A, hAe⟩ := hAe
  rw [← hAe] at hD hBA hst ⊢
  have hA : ∀ q : Nat, s.heap.size ≤ q → A q := fun q h => by rw [hAe]; exact Or.inr h
  have hS : va_S A s.heap s.heap [] := va_S.rf
  have hl := lv_entry ([.ref (t 0), .ref (q1 0), .ref (q2 0)]) (n := 4) (Nat.le_of_ble_eq_true rfl)
  rw [lg_entry_eq]
  generalize (lg_sl ([.ref (t 0), .ref (q1 0), .ref (q2 0)]) ++ List.replicate (4 - (lg_sl ([.ref (t 0), .ref (q1 0), .ref (q2 0)])).length) Slot.unset).toArray = ls at hl ⊢
  have hl : lv_has ls 4 [(0, .ref (t 0)), (1, .ref (q1 0)), (2, .ref (q2 0))] := hl
  refine W.widen (k := 7) (n := 609) (Nat.zero_le _) (Nat.zero_le _) ?_
  have hroom : (7 : Nat) ≤ zr_X1_understand.cells ∧ (609 : Nat) ≤ zr_X1_understand.slots := ⟨Nat.le_refl _, Nat.le_refl _⟩
  rcases h with ⟨n4, k4, p4, v4, h1, h2, rfl⟩ | ⟨n4, p4, v4, n5, k5, p5, v5, h1, h2, h3, h5⟩
  · refine zs_X1_understand_0 (cells := 7) (slots := 609) t q1 q2 str mk ad len by_ hx hb hml hown hts hK hA hB hBA hV hroom 0 fk fp ex fi pol bi nx kd pl va ⟨_, rfl, ?_⟩ s.heap [] ls hP hD hS (lv_sub hl [0, 1, 2] rfl)
    refine zsp_X1_understand t q1 q2 str mk ad len by_ hx hb hml hown hts hK hA hroom 0 0 (-1) 0 fi 0 0 0 kd pl va (by decide) (by decide) (n4, k4, p4, v4) h1 (fun H locs ls hP hD hS hl => ?_)
    refine zj_i (wr := []) (ws1 := (zTX κ t q1 q2 mk ad 0 (-1) 1 fi 0 0 len n4 k4 p4 v4 by_)) (va_runV (rest := [.ref (t 0)]) ⟨hx, hb, hml, hown, hts⟩ (zc_X1_takeToken_0 l D κ t q1 q2 str sv mk ad H.size 0 (-1) fi 0 0 len n4 k4 p4 v4 by_ false h2) (cwV 2 hts gX1_understand_X1_takeToken rfl rfl rfl (by decide +kernel) ⟨Nat.le_of_ble_eq_true rfl, Nat.le_of_ble_eq_true rfl⟩) (zpreStr2 ((hst.kept hS.2.1).narrow (va_free hD hS hA [0, 1, 2, 3, 4] rfl)) (zpreStr hV (zpreWVa hK (hP.sub [0, 1, 2, 3, 4] rfl) (hD.sub [0, 1, 2, 3, 4] (by decide) rfl) (zamb hB hBA hS) (zapt hBA hS (va_free hD hS hA [0, 1, 2, 3, 4] rfl)) 1 0 rfl rfl))) rfl rfl hl.1 rfl (lv_room (Nat.le_of_ble_eq_true rfl)) dX1_understand_46 hroom) hP hD hS hA [0, 1, 2, 3, 4] [] [0, 1, 2, 3, 4] rfl rfl (by decide) (by decide) rfl rfl (by decide) (fun H locs hP hD hS => ?_)
    refine zss_X1_understand t q1 q2 str mk ad len by_ hx hb hml hown hts hK hA hroom 0 0 (-1) 1 1 fi 0 0 (n4, k4, p4, v4) ⟨_, rfl, ?_⟩ H locs ls hP hD hS hl
    exact fun H locs ls pc hP hD hS hd => W.zret hx hb hr (bI_nar _) (fun t ht hW => ⟨⟨_, (), rfl, rfl, by rw [ht]; exact hP, va_K.moved hW.alike hK, hD⟩, hS.F ht⟩) hS.2.2 hd
  · refine zs_X1_understand_0 (cells := 7) (slots := 609) t q1 q2 str mk ad len by_ hx hb hml hown hts hK hA hB hBA hV hroom 0 fk fp ex fi pol bi nx kd pl va ⟨_, rfl, ?_⟩ s.heap [] ls hP hD hS (lv_sub hl [0, 1, 2] rfl)
    refine zsp_X1_understand t q1 q2 str mk ad len by_ hx hb hml hown hts hK hA hroom 0 0 (-1) 0 fi 0 0 0 kd pl va (by decide) (by decide) (n4, 1, p4, v4) h1 (fun H locs ls hP hD hS hl => ?_)
    refine zj_i (wr := []) (ws1 := (zTX κ t q1 q2 mk ad 0 (-1) 1 fi 0 0 len n4 1 p4 v4 by_)) (va_runV (rest := [.ref (t 0)]) ⟨hx, hb, hml, hown, hts⟩ (zc_X1_takeToken_0 l D κ t q1 q2 str sv mk ad H.size 0 (-1) fi 0 0 len n4 1 p4 v4 by_ true h2) (cwV 2 hts gX1_understand_X1_takeToken rfl rfl rfl (by decide +kernel) ⟨Nat.le_of_ble_eq_true rfl, Nat.le_of_ble_eq_true rfl⟩) (zpreStr2 ((hst.kept hS.2.1).narrow (va_free hD hS hA [0, 1, 2, 3, 4] rfl)) (zpreStr hV (zpreWVa hK (hP.sub [0, 1, 2, 3, 4] rfl) (hD.sub [0, 1, 2, 3, 4] (by decide) rfl) (zamb hB hBA hS) (zapt hBA hS (va_free hD hS hA [0, 1, 2, 3, 4] rfl)) 1 0 rfl rfl))) rfl rfl hl.1 rfl (lv_room (Nat.le_of_ble_eq_true rfl)) dX1_understand_46 hroom) hP hD hS hA [0, 1, 2, 3, 4] [] [0, 1, 2, 3, 4] rfl rfl (by decide) (by decide) rfl rfl (by decide) (fun H locs hP hD hS => ?_)
    refine zss_X1_understand t q1 q2 str mk ad len by_ hx hb hml hown hts hK hA hroom 0 0 (-1) 0 1 fi 0 0 (n4, 1, p4, v4) ⟨_, rfl, ?_⟩ H locs ls hP hD hS hl
    rcases h5 with ⟨h5, h6, rfl⟩ | ⟨rfl, h6, h7, rfl⟩
    · refine zsp_X1_understand t q1 q2 str mk ad len by_ hx hb hml hown hts hK hA hroom (0 + 1) 0 (-1) 1 fi 0 0 n4 1 p4 v4 (by decide) (by decide) (n5, k5, p5, v5) h3 (fun H locs ls hP hD hS hl => ?_)
      have ht : zf_X1_takeToken mk 1 fi 0 0 n5 k5 p5 v5 = some (1, 4, fi, 0) := by
            unfold zf_X1_takeToken
            rw [if_neg (by decide), if_neg (by decide), if_pos rfl]
            show (if zout k5 then none else if k5 = 2 then _ else _) = _
            rw [if_neg h6, if_neg h5]
      refine zj_i (wr := []) (ws1 := (zTX κ t q1 q2 mk ad 0 (-1) 4 fi 0 0 len n5 k5 p5 v5 by_)) (va_runV (rest := [.ref (t 0)]) ⟨hx, hb, hml, hown, hts⟩ (zc_X1_takeToken l D κ t q1 q2 str mk ad H.size 0 (-1) 1 fi 0 0 len n5 k5 p5 v5 by_ (1, 4, fi, 0) ht) (cwV 2 hts gX1_understand_X1_takeToken rfl rfl rfl (by decide +kernel) ⟨Nat.le_of_ble_eq_true rfl, Nat.le_of_ble_eq_true rfl⟩) (zpreStr hV (zpreWVa hK (hP.sub [0, 1, 2, 3, 4] rfl) (hD.sub [0, 1, 2, 3, 4] (by decide) rfl) (zamb hB hBA hS) (zapt hBA hS (va_free hD hS hA [0, 1, 2, 3, 4] rfl)) 1 0 rfl rfl)) rfl rfl hl.1 rfl (lv_room (Nat.le_of_ble_eq_true rfl)) dX1_understand_46 hroom) hP hD hS hA [0, 1, 2, 3, 4] [] [0, 1, 2, 3, 4] rfl rfl (by decide) (by decide) rfl rfl (by decide) (fun H locs hP hD hS => ?_)
      refine zss_X1_understand t q1 q2 str mk ad len by_ hx hb hml hown hts hK hA hroom (0 + 1) 0 (-1) 1 4 fi 0 0 (n5, k5, p5, v5) ⟨_, rfl, ?_⟩ H locs ls hP hD hS hl
      exact fun H locs ls pc hP hD hS hd => W.zret hx hb hr (bI_nar _) (fun t ht hW => ⟨⟨_, (), rfl, rfl, by rw [ht]; exact hP, va_K.moved hW.alike hK, hD⟩, hS.F ht⟩) hS.2.2 hd
    · refine zsp_X1_understand t q1 q2 str mk ad len by_ hx hb hml hown hts hK hA hroom (0 + 1) 0 (-1) 1 fi 0 0 n4 1 p4 v4 (by decide) (by decide) (n5, 2, p5, v5) h3 (fun H locs ls hP hD hS hl => ?_)
      refine zj_i (wr := []) (ws1 := (zTX κ t q1 q2 mk ad 0 (-1) 4 fi 0 0 len n5 2 p5 v5 by_)) (va_runV (rest := [.ref (t 0)]) ⟨hx, hb, hml, hown, hts⟩ (zc_X1_takeToken_n l D κ t q1 q2 str sv mk ad H.size 0 (-1) fi 0 len n5 p5 v5 by_ h6 h7) (cwV 2 hts gX1_understand_X1_takeToken rfl rfl rfl (by decide +kernel) ⟨Nat.le_of_ble_eq_true rfl, Nat.le_of_ble_eq_true rfl⟩) (zpreStr hV (zpreWVa hK (hP.sub [0, 1, 2, 3, 4] rfl) (hD.sub [0, 1, 2, 3, 4] (by decide) rfl) (zamb hB hBA hS) (zapt hBA hS (va_free hD hS hA [0, 1, 2, 3, 4] rfl)) 1 0 rfl rfl)) rfl rfl hl.1 rfl (lv_room (Nat.le_of_ble_eq_true rfl)) dX1_understand_46 hroom) hP hD hS hA [0, 1, 2, 3, 4] [] [0, 1, 2, 3, 4] rfl rfl (by decide) (by decide) rfl rfl (by decide) (fun H locs hP hD hS => ?_)
      refine zss_X1_understand t q1 q2 str mk ad len by_ hx hb hml hown hts hK hA hroom (0 + 1) 0 (-1) 2 4 fi 0 0 (n5, 2, p5, v5) ⟨_, rfl, ?_⟩ H locs ls hP hD hS hl
      exact fun H locs ls pc hP hD hS hd => W.zret hx hb hr (bI_nar _) (fun t ht hW => ⟨⟨_, (), rfl, rfl, by rw [ht]; exact hP, va_K.moved hW.alike hK, hD⟩, hS.F ht⟩) hS.2.2 hd
set_option maxHeartbeats 4000000 in
set_option maxRecDepth 100000 in
theorem zc_X1_understand_M (l : Launch) (D : va_G) (κ : Nat → ClassId) (t q1 q2 : Nat → Nat) (str sv : Nat) (mk : Nat) (ad : Nat → Nat → Nat) (sz : Nat) (fk fp ex fi : Int) (pol : Nat) (bi len nx kd pl va : Int) (by_ : Nat) (n4 p4 v4 n5 p5 : Int) (c : Nat) (h4 : 4 ≤ c) (h9 : c ≤ 9) (h1 : zf_X8_readToken len 0 kd pl va by_ = some (n4, 1, p4, v4)) (h2 : zf_X8_isWordF len n4 1 p4 by_ = some true) (h3 : zf_X8_readToken len n4 1 p4 v4 by_ = some (n5, 2, p5, (c : Int))) (out : zO_X1_understand) (n : Nat) (h6 : jrun (zg_X1_understand (zmk mk c) len by_) n (31, (0 + 1) + 1, 0, (-1), 4, fi, c, 0, n5, 2, p5, (c : Int)) = some out) : Met l yX1_understand wsX1_understand zr_X1_understand (va_Pc [.ref (t 0), .ref (q1 0), .ref (q2 0)] (zWs str sv (va_A (zTX κ t q1 q2 mk ad fk fp ex fi pol bi len nx kd pl va by_) sz) (zWa D κ mk ad (zTX κ t q1 q2 mk ad fk fp ex fi pol bi len nx kd pl va by_) sz))) (va_Qi (fun r (ad1 : Nat → Nat → Nat) => r = zi (bI (out.1)) ∧ (∀ n, ¬ zno mk n → ad1 n = ad n) ∧ (zno mk c → ∀ k, k < 7 → sz ≤ ad1 c k)) (fun ad1 u => zB D κ (va_A (zTX κ t q1 q2 mk ad fk fp ex fi pol bi len nx kd pl va by_) sz) (zTX κ t q1 q2 (zmk mk c) ad1 (out.2.1) (out.2.2.1) (out.2.2.2.1) (out.2.2.2.2.1) (out.2.2.2.2.2.1) (out.2.2.2.2.2.2.1) len (out.2.2.2.2.2.2.2.1) (out.2.2.2.2.2.2.2.2.1) (out.2.2.2.2.2.2.2.2.2.1) (out.2.2.2.2.2.2.2.2.2.2) by_) u ∧ zAmb D κ (zmk mk c) ad1 u.heap) (va_A (zTX κ t q1 q2 mk ad fk fp ex fi pol bi len nx kd pl va by_) sz)) 7 609 (va_A (zTX κ t q1 q2 mk ad fk fp ex fi pol bi len nx kd pl va by_) sz) := by
  refine Met.ofW (cc := cX1_understand) (maxL := 4) (ret := (some .boolean)) (by decide +kernel) rfl ?_
  intro p e s m args below meth cd s₁ B hml hv
  obtain ⟨rfl, ⟨⟨hsz, hP, hK, hD0, hB, hBA⟩, hV⟩, hst⟩ := hv
  have hx := B.exec
  have hb := B.bytes
  have hr := B.returns
  have hts := atoms_spec (ws := wsX1_understand) B.pre
  have hown : s.vm.findClass RX1 = some m.cls := findClass_of_methodNamed B.named
  have hlocks := B.notSynchronized
  subst hsz
  have hD := hD0.self (sz := s.heap.size)
  have hAe : ∃ A, A = va_A (zTX κ t q1 q2 mk ad fk fp ex fi pol bi len nx kd pl va by_) s.heap.size := ⟨_, rfl⟩
  obtain ⟨A, hAe⟩ := hAe
  rw [← hAe] at hD hBA hst ⊢
  have hA : ∀ q : Nat, s.heap.size ≤ q → A q := fun q h => by rw [hAe]; exact Or.inr h
  have hS : va_S A s.heap s.heap [] := va_S.rf
  have hl := lv_entry ([.ref (t 0), .ref (q1 0), .ref (q2 0)]) (n := 4) (Nat.le_of_ble_eq_true rfl)
  rw [lg_entry_eq]
  generalize (lg_sl ([.ref (t 0), .ref (q1 0), .ref (q2 0)]) ++ List.replicate (4 - (lg_sl ([.ref (t 0), .ref (q1 0), .ref (q2 0)])).length) Slot.unset).toArray = ls at hl ⊢
  have hl : lv_has ls 4 [(0, .ref (t 0)), (1, .ref (q1 0)), (2, .ref (q2 0))] := hl
  have hroom : (0 : Nat) ≤ zr_X1_understand.cells ∧ (0 : Nat) ≤ zr_X1_understand.slots := ⟨Nat.zero_le _, Nat.zero_le _⟩
  refine zs_X1_understand_0 (cells := 0) (slots := 0) t q1 q2 str mk ad len by_ hx hb hml hown hts hK hA hB hBA hV hroom 0 fk fp ex fi pol bi nx kd pl va ⟨_, rfl, ?_⟩ s.heap [] ls hP hD hS (lv_sub hl [0, 1, 2] rfl)
  refine zsp_X1_understand t q1 q2 str mk ad len by_ hx hb hml hown hts hK hA hroom 0 0 (-1) 0 fi 0 0 0 kd pl va (by decide) (by decide) (n4, 1, p4, v4) h1 (fun H locs ls hP hD hS hl => ?_)
  refine zj_i (wr := []) (ws1 := (zTX κ t q1 q2 mk ad 0 (-1) 1 fi 0 0 len n4 1 p4 v4 by_)) (va_runV (rest := [.ref (t 0)]) ⟨hx, hb, hml, hown, hts⟩ (zc_X1_takeToken_0 l D κ t q1 q2 str sv mk ad H.size 0 (-1) fi 0 0 len n4 1 p4 v4 by_ true h2) (cwV 2 hts gX1_understand_X1_takeToken rfl rfl rfl (by decide +kernel) ⟨Nat.le_of_ble_eq_true rfl, Nat.le_of_ble_eq_true rfl⟩) (zpreStr2 ((hst.kept hS.2.1).narrow (va_free hD hS hA [0, 1, 2, 3, 4] rfl)) (zpreStr hV (zpreWVa hK (hP.sub [0, 1, 2, 3, 4] rfl) (hD.sub [0, 1, 2, 3, 4] (by decide) rfl) (zamb hB hBA hS) (zapt hBA hS (va_free hD hS hA [0, 1, 2, 3, 4] rfl)) 1 0 rfl rfl))) rfl rfl hl.1 rfl (lv_room (Nat.le_of_ble_eq_true rfl)) dX1_understand_46 hroom) hP hD hS hA [0, 1, 2, 3, 4] [] [0, 1, 2, 3, 4] rfl rfl (by decide) (by decide) rfl rfl (by decide) (fun H locs hP hD hS => ?_)
  refine zss_X1_understand t q1 q2 str mk ad len by_ hx hb hml hown hts hK hA hroom 0 0 (-1) 0 1 fi 0 0 (n4, 1, p4, v4) ⟨_, rfl, ?_⟩ H locs ls hP hD hS hl
  refine zsp_X1_understand t q1 q2 str mk ad len by_ hx hb hml hown hts hK hA hroom (0 + 1) 0 (-1) 1 fi 0 0 n4 1 p4 v4 (by decide) (by decide) (n5, 2, p5, (c : Int)) h3 (fun H locs ls hP hD hS hl => ?_)
  have hSo := hS
  have hFc := va_free (wc := zTX κ t q1 q2 mk ad 0 (-1) 1 fi 0 0 len n5 2 p5 (c : Int) by_) hD hS hA [0, 1, 2, 3, 4] rfl
  refine va_calli (va_runV (rest := [.ref (t 0)]) ⟨hx, hb, hml, hown, hts⟩ (zc_X1_takeToken_m l D κ t q1 q2 str sv mk ad H.size 0 (-1) fi 0 len n5 p5 c by_ h4 h9) (cwV 2 hts gX1_understand_X1_takeToken rfl rfl rfl (by decide +kernel) ⟨Nat.le_of_ble_eq_true rfl, Nat.le_of_ble_eq_true rfl⟩) (zpreStr hV (zpreWVa hK (hP.sub [0, 1, 2, 3, 4] rfl) (hD.sub [0, 1, 2, 3, 4] (by decide) rfl) (zamb hB hBA hS) (zapt hBA hS (va_free hD hS hA [0, 1, 2, 3, 4] rfl)) 1 0 rfl rfl)) rfl rfl hl.1 rfl (lv_room (Nat.le_of_ble_eq_true rfl)) dX1_understand_46 ⟨Nat.le_of_ble_eq_true rfl, Nat.le_of_ble_eq_true rfl⟩) hS (fun q _ h => hFc q h) hFc (fun r ad1 T1 H1 locs1 hT1 hvm hpost hBB hz1 hk1 hS1 => ?_)
  obtain ⟨rfl, hag, hnew⟩ := hpost
  obtain ⟨⟨hP1, -, hD1⟩, hB1⟩ := hBB
  rw [hT1] at hP1 hB1
  have hf : (zTX κ t q1 q2 mk ad fk fp ex fi pol bi len nx kd pl va by_).map Prod.fst = (zTX κ t q1 q2 (zmk mk c) ad1 0 (-1) 4 fi c 0 len n5 2 p5 (c : Int) by_).map Prod.fst := rfl
  have hz0 : s.heap.size ≤ H1.size := hS1.1
  have hap : zApt (zmk mk c) ad1 (va_A (zTX κ t q1 q2 (zmk mk c) ad1 0 (-1) 4 fi c 0 len n5 2 p5 (c : Int) by_) H1.size) H1.size := zapt_new (H := H) (κ := κ) (D := D) (fun n hn k hk => ⟨(hBA n hn k hk).1, Nat.lt_of_lt_of_le (hBA n hn k hk).2 hS.1⟩) hag (fun z => hnew z) hz1 hB1 (fun q hq => zold_in (B := A) (wc := (zTX κ t q1 q2 (zmk mk c) ad1 0 (-1) 4 fi c 0 len n5 2 p5 (c : Int) by_)) (sz := H1.size) hP hD (fun q hq => by rw [hAe]; exact zA_same hf hz0 hq) [0, 1, 2, 3, 4] rfl q hq)
  refine zrebase (A1 := va_A (zTX κ t q1 q2 (zmk mk c) ad1 0 (-1) 4 fi c 0 len n5 2 p5 (c : Int) by_) H1.size) rfl hS1 (fun q hq hAq => by rw [hAe] at hAq; exact zA_old hf hq hAq) (fun locs hS => ?_)
  have hDn : va_D (va_A (zTX κ t q1 q2 (zmk mk c) ad1 0 (-1) 4 fi c 0 len n5 2 p5 (c : Int) by_) H1.size) (zTX κ t q1 q2 (zmk mk c) ad1 0 (-1) 4 fi c 0 len n5 2 p5 (c : Int) by_) := zD_A hD1 zA_self
  have hS0 := hS1
  have hroom : (7 : Nat) ≤ zr_X1_understand.cells ∧ (609 : Nat) ≤ zr_X1_understand.slots := ⟨Nat.le_refl _, Nat.le_refl _⟩
  refine zss_X1_understand (cells := 7) (slots := 609) (A := va_A (zTX κ t q1 q2 (zmk mk c) ad1 0 (-1) 4 fi c 0 len n5 2 p5 (c : Int) by_) H1.size) (H0 := H1) t q1 q2 str (zmk mk c) ad1 len by_ hx hb hml hown hts hK (fun q h => Or.inr h) hroom (0 + 1) 0 (-1) 0 4 fi c 0 (n5, 2, p5, (c : Int)) ⟨_, rfl, ?_⟩ H1 locs ls hP1 hDn hS hl
  refine zw_X1_understand (cells := 7) (slots := 609) (A := va_A (zTX κ t q1 q2 (zmk mk c) ad1 0 (-1) 4 fi c 0 len n5 2 p5 (c : Int) by_) H1.size) (H0 := H1) t q1 q2 str (zmk mk c) ad1 len by_ hx hb hml hown hts hK (fun q h => Or.inr h) hB1 hap hV hroom out n (31, (0 + 1) + 1, 0, (-1), 4, fi, c, 0, n5, 2, p5, (c : Int)) h6 ?_
  intro H locs ls pc hP hD hS hd
  have hSb := zback hS0 hS (fun q hq => by rw [hAe]; exact zA_same hf hz0 hq)
  exact W.zret hx hb hr (bI_nar _) (fun T hT hW => ⟨⟨_, ad1, rfl, ⟨rfl, hag, fun z k hk => Nat.le_trans hSo.1 (hnew z k hk)⟩, ⟨by rw [hT]; exact hP, va_K.moved hW.alike hK, zD_A hD (fun k q hq => by rw [hAe]; exact zA_same hf hz0 (hD.2 k q hq))⟩, by rw [hT]; exact zamb hB1 hap hS⟩, hSb.F hT⟩) hSb.2.2 hd
