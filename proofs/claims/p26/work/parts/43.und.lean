/-! DiamondRows$Tape.isWord(Ljava/lang/String;)Z -/
abbrev zr_X8_isWord : Room := { frames := 0, cells := 0, slots := 0, locals := 0 }
noncomputable def zf_X8_isWord  (t_next : Int) (t_kind : Int) (t_place : Int)  : Option (Bool) :=
  if zout t_kind then none else
  if t_kind = (1 : Int) then
  none
  else
  some (false)
theorem zi_X8_isWord_X8 : ∀ w ∈ u_ws RX8 TX8 6, w ∈ wsX8_isWord := by decide +kernel
theorem zl_X8_isWord_19 : Cond.fieldLink RX8 19 "DiamondRows$Tape" "kind" "I" ∈ wsX8_isWord := by decide +kernel
theorem zl_X8_isWord_22 : Cond.fieldLink RX8 22 "DiamondRows$Tape" "place" "I" ∈ wsX8_isWord := by decide +kernel
theorem zl_X8_isWord_28 : Cond.fieldLink RX8 28 "DiamondRows$Tape" "next" "I" ∈ wsX8_isWord := by decide +kernel
def zQ_X8_isWord (p : Program) (l : Launch) (e : Env) (s : State) (m : MethodId) (args : Array Value) (below : List Frame) (meth : Method) (c : Code) (Q : State → Prop) (H : Heap) (locs : List Loc)  (o : Bool) : Prop := ∀ (ls : Array Slot) (pc : Nat), decode cX8_isWord pc = .ok (.ireturn, 1) → W p l e zr_X8_isWord s m args below meth c H locs 0 0 Q (F0 m pc ls [.int (zi (bI o))])
set_option maxHeartbeats 4000000 in
set_option maxRecDepth 100000 in
theorem zs_X8_isWord {p : Program} {l : Launch} {e : Env} {s : State} {m : MethodId} {args : Array Value} {below : List Frame} {meth : Method} {c : Code} {Q : State → Prop} {D : va_G} {κ : Nat → ClassId} {H : Heap} {locs : List Loc} (t : Nat → Nat) (str : Nat) (t_length : Int) (t_next : Int) (t_kind : Int) (t_place : Int) (t_value : Int) (t_bytes : Nat)  (hx : p.tables.exec = Jvm.exec) (hb : c.code = cX8_isWord) (hml : c.maxLocals = 3) (hown : s.vm.findClass RX8 = some m.cls) (hts : ∀ w ∈ wsX8_isWord, w.before args s = true) (hK : va_K D vwCl (zTY κ) s) (hP : va_P D vwCl ([((t 0), .inr (8, [.ref (t 1), .int (zi t_length), .int (zi t_next), .int (zi t_kind), .int (zi t_place), .int (zi t_value)])), ((t 1), .inl (κ 0, 300, .inl (zc t_bytes)))]) H) (ls : Array Slot) (hl : lv_has ls 3 [(0, .ref (t 0)), (1, .ref str)]) (hg : Go (zQ_X8_isWord p l e s m args below meth c Q H locs) (zf_X8_isWord t_next t_kind t_place )) : W p l e zr_X8_isWord s m args below meth c H locs 0 0 Q (F0 m 0 ls []) := by
  unfold zf_X8_isWord at hg
  refine lv_aload_n hx hb dX8_isWord_0 rfl (lv_at hl 0 rfl) ?_
  refine va_get (D := D) (ci := 8) (v := .int (zi t_kind)) (C := RX8) (T := TX8) (N := 6) hx hb hts zi_X8_isWord_X8 hown hK hP 0 rfl rfl 3 (by decide) (hts (.fieldLink RX8 19 "DiamondRows$Tape" "kind" "I") zl_X8_isWord_19) (fun _ h9 => h9) rfl dX8_isWord_1 ?_
  refine zv_iconst hx hb dX8_isWord_4 ?_
  obtain ⟨b1, hg⟩ := Go_n hg
  refine zv_icmp_ne (tgt := 24) hx hb dX8_isWord_5 (by decide) b1 (by decide) (fun c2 => ?_) (fun c2 => ?_)
  · have hg := Go_f c2 hg
    refine zv_iconst hx hb dX8_isWord_24 ?_
    exact (Go_s hg) _ _ dX8_isWord_25
  · have hg := Go_t c2 hg
    refine lv_aload_n hx hb dX8_isWord_8 rfl (lv_at hl 0 rfl) ?_
    refine va_get (D := D) (ci := 8) (v := .int (zi t_next)) (C := RX8) (T := TX8) (N := 6) hx hb hts zi_X8_isWord_X8 hown hK hP 0 rfl rfl 2 (by decide) (hts (.fieldLink RX8 28 "DiamondRows$Tape" "next" "I") zl_X8_isWord_28) (fun _ h9 => h9) rfl dX8_isWord_9 ?_
    refine lv_aload_n hx hb dX8_isWord_12 rfl (lv_at hl 0 rfl) ?_
    refine va_get (D := D) (ci := 8) (v := .int (zi t_place)) (C := RX8) (T := TX8) (N := 6) hx hb hts zi_X8_isWord_X8 hown hK hP 0 rfl rfl 4 (by decide) (hts (.fieldLink RX8 22 "DiamondRows$Tape" "place" "I") zl_X8_isWord_22) (fun _ h9 => h9) rfl dX8_isWord_13 ?_
    refine zv_isub hx hb dX8_isWord_16 ?_
    obtain ⟨a9, h9, -⟩ := hg
    cases h9
set_option maxHeartbeats 4000000 in
set_option maxRecDepth 100000 in
theorem zc_X8_isWord (l : Launch) (D : va_G) (κ : Nat → ClassId) (t : Nat → Nat) (str : Nat) (t_length : Int) (t_next : Int) (t_kind : Int) (t_place : Int) (t_value : Int) (t_bytes : Nat)  (out : Bool) (h : zf_X8_isWord t_next t_kind t_place  = some out) : Met l yX8_isWord wsX8_isWord zr_X8_isWord (va_Pc [.ref (t 0), .ref str] (zR D κ ([((t 0), .inr (8, [.ref (t 1), .int (zi t_length), .int (zi t_next), .int (zi t_kind), .int (zi t_place), .int (zi t_value)])), ((t 1), .inl (κ 0, 300, .inl (zc t_bytes)))]))) (vp_Si (fun x => x = zi (bI out))) 0 0 (fun _ => False) := by
  refine Met.ofW (cc := cX8_isWord) (maxL := 3) (ret := (some .boolean)) (by decide +kernel) rfl ?_
  intro p e s m args below meth c s₁ B hml hv
  obtain ⟨rfl, hP, hK⟩ := hv
  have hx := B.exec
  have hb := B.bytes
  have hr := B.returns
  have hts := atoms_spec (ws := wsX8_isWord) B.pre
  have hown : s.vm.findClass RX8 = some m.cls := findClass_of_methodNamed B.named
  have hlocks := B.notSynchronized
  have hl := lv_entry ([.ref (t 0), .ref str]) (n := 3) (Nat.le_of_ble_eq_true rfl)
  rw [lg_entry_eq]
  generalize (lg_sl ([.ref (t 0), .ref str]) ++ List.replicate (3 - (lg_sl ([.ref (t 0), .ref str])).length) Slot.unset).toArray = ls at hl ⊢
  have hl : lv_has ls 3 [(0, .ref (t 0)), (1, .ref str)] := hl
  refine zs_X8_isWord t str t_length t_next t_kind t_place t_value t_bytes  hx hb hml hown hts hK hP ls hl ⟨out, h, ?_⟩
  exact fun ls pc hd => W.zret hx hb hr (bI_nar _) (fun t ht hW => ⟨_, rfl, rfl, ht⟩) (fun _ h => by cases h) hd
/-! DiamondRows$CutText.takeToken(LDiamondRows$Tape;LDiamondRows$Polygons;)I -/
abbrev zr_X1_takeToken : Room := { frames := 3, cells := 0, slots := 0, locals := 65 }
noncomputable def zf_X1_takeToken (mk : Nat) (t_expected : Int) (t_first : Int) (t_polygon : Nat) (t_bits : Int) (q1_next : Int) (q1_kind : Int) (q1_place : Int) (q1_value : Int)  : Option (Int × Int × Int × Int) :=
  if zout t_expected then none else
  if t_expected = (0 : Int) then
  Option.bind (zf_X8_isWord q1_next q1_kind q1_place) (fun o3 =>
  if o3 = false then
  some ((1 : Int), (1 : Int), t_first, t_bits)
  else
  some ((0 : Int), (1 : Int), t_first, t_bits))
  else
  if t_expected = (1 : Int) then
  Option.bind (zf_X8_kind q1_kind) (fun o6 =>
  if zout o6 then none else
  if o6 = (2 : Int) then
  Option.bind (zf_X8_value q1_value) (fun o8 =>
  none)
  else
  some ((1 : Int), (4 : Int), t_first, t_bits))
  else
  if t_expected = (2 : Int) then
  Option.bind (zf_X1_takeFirst mk t_first t_polygon t_bits q1_kind q1_value) (fun o11 =>
  some ((o11.1), (3 : Int), (o11.2), t_bits))
  else
  if t_expected = (3 : Int) then
  Option.bind (zf_X8_kind q1_kind) (fun o13 =>
  if zout o13 then none else
  if o13 = (2 : Int) then
  Option.bind (zf_X8_value q1_value) (fun o15 =>
  Option.bind (zf_X1_takeSecond mk t_first t_polygon t_bits o15) (fun o16 =>
  some ((o16.1), (4 : Int), t_first, (o16.2))))
  else
  some ((1 : Int), (4 : Int), t_first, t_bits))
  else
  Option.bind (zf_X8_kind q1_kind) (fun o19 =>
  if zout o19 then none else
  if o19 = (3 : Int) then
  some ((0 : Int), (2 : Int), t_first, t_bits)
  else
  some ((1 : Int), (2 : Int), t_first, t_bits))
theorem zi_X1_takeToken_X1 : ∀ w ∈ u_ws RX1 TX1 6, w ∈ wsX1_takeToken := by decide +kernel
theorem zl_X1_takeToken_25 : Cond.fieldLink RX1 25 "DiamondRows$CutText" "expected" "I" ∈ wsX1_takeToken := by decide +kernel
def zQ_X1_takeToken (p : Program) (l : Launch) (e : Env) (s : State) (m : MethodId) (args : Array Value) (below : List Frame) (meth : Method) (c : Code) (Q : State → Prop) (D : va_G) (κ : Nat → ClassId) (A : Nat → Prop) (H0 : Heap) (t : Nat → Nat) (q1 : Nat → Nat) (q2 : Nat → Nat) (str : Nat) (mk : Nat) (ad : Nat → Nat → Nat) (t_faultKind : Int) (t_faultPlace : Int) (t_polygon : Nat) (q1_length : Int) (q1_next : Int) (q1_kind : Int) (q1_place : Int) (q1_value : Int) (q1_bytes : Nat) (o : Int × Int × Int × Int) : Prop := ∀ (H : Heap) (locs : List Loc) (ls : Array Slot) (pc : Nat), va_P D vwCl ([((t 0), .inr (1, [.int (zi t_faultKind), .int (zi t_faultPlace), .int (zi (o.2.1)), .int (zi (o.2.2.1)), zpg ad t_polygon, .int (zi (o.2.2.2))])), ((q1 0), .inr (8, [.ref (q1 1), .int (zi q1_length), .int (zi q1_next), .int (zi q1_kind), .int (zi q1_place), .int (zi q1_value)])), ((q1 1), .inl (κ 0, 300, .inl (zc q1_bytes))), ((q2 0), .inr (6, [.ref (q2 1)])), ((q2 1), .inl (κ 4, 6, .inr (.inr (.inr (.inr (zmade mk ad))))))]) H → va_D A ([((t 0), .inr (1, [.int (zi t_faultKind), .int (zi t_faultPlace), .int (zi (o.2.1)), .int (zi (o.2.2.1)), zpg ad t_polygon, .int (zi (o.2.2.2))])), ((q1 0), .inr (8, [.ref (q1 1), .int (zi q1_length), .int (zi q1_next), .int (zi q1_kind), .int (zi q1_place), .int (zi q1_value)])), ((q1 1), .inl (κ 0, 300, .inl (zc q1_bytes))), ((q2 0), .inr (6, [.ref (q2 1)])), ((q2 1), .inl (κ 4, 6, .inr (.inr (.inr (.inr (zmade mk ad))))))]) → va_S A H0 H locs → decode cX1_takeToken pc = .ok (.ireturn, 1) → W p l e zr_X1_takeToken s m args below meth c H locs 0 0 Q (F0 m pc ls [.int (zi (o.1))])
set_option maxHeartbeats 4000000 in
set_option maxRecDepth 100000 in
theorem zs_X1_takeToken {p : Program} {l : Launch} {e : Env} {s : State} {m : MethodId} {args : Array Value} {below : List Frame} {meth : Method} {c : Code} {Q : State → Prop} {D : va_G} {κ : Nat → ClassId} {A : Nat → Prop} {H0 : Heap} (t : Nat → Nat) (q1 : Nat → Nat) (q2 : Nat → Nat) (str : Nat) (mk : Nat) (ad : Nat → Nat → Nat) (t_faultKind : Int) (t_faultPlace : Int) (t_expected : Int) (t_first : Int) (t_polygon : Nat) (t_bits : Int) (q1_length : Int) (q1_next : Int) (q1_kind : Int) (q1_place : Int) (q1_value : Int) (q1_bytes : Nat)  (hx : p.tables.exec = Jvm.exec) (hb : c.code = cX1_takeToken) (hml : c.maxLocals = 3) (hown : s.vm.findClass RX1 = some m.cls) (hts : ∀ w ∈ wsX1_takeToken, w.before args s = true) (hK : va_K D vwCl (zTY κ) s) (hA : ∀ q : Nat, H0.size ≤ q → A q) (hB : zAmb D κ mk ad H0) (hBA : zApt mk ad A H0.size) (hV : vk_R RX1 47 "corners" str s) (H : Heap) (locs : List Loc) (ls : Array Slot) (hP : va_P D vwCl ([((t 0), .inr (1, [.int (zi t_faultKind), .int (zi t_faultPlace), .int (zi t_expected), .int (zi t_first), zpg ad t_polygon, .int (zi t_bits)])), ((q1 0), .inr (8, [.ref (q1 1), .int (zi q1_length), .int (zi q1_next), .int (zi q1_kind), .int (zi q1_place), .int (zi q1_value)])), ((q1 1), .inl (κ 0, 300, .inl (zc q1_bytes))), ((q2 0), .inr (6, [.ref (q2 1)])), ((q2 1), .inl (κ 4, 6, .inr (.inr (.inr (.inr (zmade mk ad))))))]) H) (hD : va_D A ([((t 0), .inr (1, [.int (zi t_faultKind), .int (zi t_faultPlace), .int (zi t_expected), .int (zi t_first), zpg ad t_polygon, .int (zi t_bits)])), ((q1 0), .inr (8, [.ref (q1 1), .int (zi q1_length), .int (zi q1_next), .int (zi q1_kind), .int (zi q1_place), .int (zi q1_value)])), ((q1 1), .inl (κ 0, 300, .inl (zc q1_bytes))), ((q2 0), .inr (6, [.ref (q2 1)])), ((q2 1), .inl (κ 4, 6, .inr (.inr (.inr (.inr (zmade mk ad))))))])) (hS : va_S A H0 H locs) (hl : lv_has ls 3 [(0, .ref (t 0)), (1, .ref (q1 0)), (2, .ref (q2 0))]) (hg : Go (zQ_X1_takeToken p l e s m args below meth c Q D κ A H0 t q1 q2 str mk ad t_faultKind t_faultPlace t_polygon q1_length q1_next q1_kind q1_place q1_value q1_bytes) (zf_X1_takeToken mk t_expected t_first t_polygon t_bits q1_next q1_kind q1_place q1_value )) : W p l e zr_X1_takeToken s m args below meth c H locs 0 0 Q (F0 m 0 ls []) := by
  unfold zf_X1_takeToken at hg
  refine lv_aload_n hx hb dX1_takeToken_0 rfl (lv_at hl 0 rfl) ?_
  refine va_get (D := D) (ci := 1) (v := .int (zi t_expected)) (C := RX1) (T := TX1) (N := 6) hx hb hts zi_X1_takeToken_X1 hown hK hP 0 rfl rfl 2 (by decide) (hts (.fieldLink RX1 25 "DiamondRows$CutText" "expected" "I") zl_X1_takeToken_25) (fun _ h9 => h9) rfl dX1_takeToken_1 ?_
  obtain ⟨b1, hg⟩ := Go_n hg
  by_cases c2 : t_expected = (0 : Int)
  · have hg := Go_t c2 hg
    refine lv_tableIn (off := 32) (tgt := 36) hx hb dX1_takeToken_4 (by rw [c2]; decide) (by rw [c2]; decide) (by rw [c2]; decide) (by decide) ?_
    refine lv_aload_n hx hb dX1_takeToken_36 rfl (lv_at hl 0 rfl) ?_
    refine zv_iconst hx hb dX1_takeToken_37 ?_
    refine va_put (D := D) (ci := 1) (v := .int (zi (1 : Int))) (ty := .int) (C := RX1) (T := TX1) (N := 6) hx hb hts zi_X1_takeToken_X1 tyX1 tyX1_ok nmX1 hown hK hP hD hS 0 rfl rfl 2 (by decide) (hts (.fieldLink RX1 25 "DiamondRows$CutText" "expected" "I") zl_X1_takeToken_25) (fun _ h9 => h9) rfl (by decide +kernel) rfl rfl (Nat.le_of_ble_eq_true rfl) dX1_takeToken_38 (fun H locs hP hD hS => ?_)
    have hP : va_P D vwCl ([((t 0), .inr (1, [.int (zi t_faultKind), .int (zi t_faultPlace), .int (zi (1 : Int)), .int (zi t_first), zpg ad t_polygon, .int (zi t_bits)])), ((q1 0), .inr (8, [.ref (q1 1), .int (zi q1_length), .int (zi q1_next), .int (zi q1_kind), .int (zi q1_place), .int (zi q1_value)])), ((q1 1), .inl (κ 0, 300, .inl (zc q1_bytes))), ((q2 0), .inr (6, [.ref (q2 1)])), ((q2 1), .inl (κ 4, 6, .inr (.inr (.inr (.inr (zmade mk ad))))))]) H := hP
    have hD : va_D A ([((t 0), .inr (1, [.int (zi t_faultKind), .int (zi t_faultPlace), .int (zi (1 : Int)), .int (zi t_first), zpg ad t_polygon, .int (zi t_bits)])), ((q1 0), .inr (8, [.ref (q1 1), .int (zi q1_length), .int (zi q1_next), .int (zi q1_kind), .int (zi q1_place), .int (zi q1_value)])), ((q1 1), .inl (κ 0, 300, .inl (zc q1_bytes))), ((q2 0), .inr (6, [.ref (q2 1)])), ((q2 1), .inl (κ 4, 6, .inr (.inr (.inr (.inr (zmade mk ad))))))]) := hD
    refine lv_aload_n hx hb dX1_takeToken_41 rfl (lv_at hl 1 rfl) ?_
    refine va_ldcS hx hb hown hV dX1_takeToken_42 ?_
    obtain ⟨o3, ho3, hg⟩ := Go_b hg
    refine zc_vi (rest := []) ⟨hx, hb, hml, hown, hts⟩ (zc_X8_isWord l D κ q1 str q1_length q1_next q1_kind q1_place q1_value q1_bytes o3 ho3) (cwV 1 hts gX1_takeToken_X8_isWord rfl rfl rfl (by decide +kernel) ⟨Nat.le_of_ble_eq_true rfl, Nat.le_of_ble_eq_true rfl⟩) (zpreV hK (hP.sub [1, 2] rfl) 8 0 rfl rfl) rfl hl.1 rfl (Nat.le_of_ble_eq_true rfl) dX1_takeToken_44 ⟨Nat.zero_le _, Nat.zero_le _⟩ ?_
    refine zv_ifb_eq (tgt := 54) hx hb dX1_takeToken_47 (by decide) (fun c4 => ?_) (fun c4 => ?_)
    · have hg := Go_t c4 hg
      refine zv_iconst hx hb dX1_takeToken_54 ?_
      exact (Go_s hg) _ _ _ _ hP hD hS dX1_takeToken_55
    · have hg := Go_f c4 hg
      refine zv_iconst hx hb dX1_takeToken_50 ?_
      refine lv_goto (tgt := 55) hx hb dX1_takeToken_51 (by decide) ?_
      exact (Go_s hg) _ _ _ _ hP hD hS dX1_takeToken_55
  · have hg := Go_f c2 hg
    by_cases c5 : t_expected = (1 : Int)
    · have hg := Go_t c5 hg
      refine lv_tableIn (off := 52) (tgt := 56) hx hb dX1_takeToken_4 (by rw [c5]; decide) (by rw [c5]; decide) (by rw [c5]; decide) (by decide) ?_
      refine lv_aload_n hx hb dX1_takeToken_56 rfl (lv_at hl 0 rfl) ?_
      refine zv_iconst hx hb dX1_takeToken_57 ?_
      refine va_put (D := D) (ci := 1) (v := .int (zi (4 : Int))) (ty := .int) (C := RX1) (T := TX1) (N := 6) hx hb hts zi_X1_takeToken_X1 tyX1 tyX1_ok nmX1 hown hK hP hD hS 0 rfl rfl 2 (by decide) (hts (.fieldLink RX1 25 "DiamondRows$CutText" "expected" "I") zl_X1_takeToken_25) (fun _ h9 => h9) rfl (by decide +kernel) rfl rfl (Nat.le_of_ble_eq_true rfl) dX1_takeToken_58 (fun H locs hP hD hS => ?_)
      have hP : va_P D vwCl ([((t 0), .inr (1, [.int (zi t_faultKind), .int (zi t_faultPlace), .int (zi (4 : Int)), .int (zi t_first), zpg ad t_polygon, .int (zi t_bits)])), ((q1 0), .inr (8, [.ref (q1 1), .int (zi q1_length), .int (zi q1_next), .int (zi q1_kind), .int (zi q1_place), .int (zi q1_value)])), ((q1 1), .inl (κ 0, 300, .inl (zc q1_bytes))), ((q2 0), .inr (6, [.ref (q2 1)])), ((q2 1), .inl (κ 4, 6, .inr (.inr (.inr (.inr (zmade mk ad))))))]) H := hP
      have hD : va_D A ([((t 0), .inr (1, [.int (zi t_faultKind), .int (zi t_faultPlace), .int (zi (4 : Int)), .int (zi t_first), zpg ad t_polygon, .int (zi t_bits)])), ((q1 0), .inr (8, [.ref (q1 1), .int (zi q1_length), .int (zi q1_next), .int (zi q1_kind), .int (zi q1_place), .int (zi q1_value)])), ((q1 1), .inl (κ 0, 300, .inl (zc q1_bytes))), ((q2 0), .inr (6, [.ref (q2 1)])), ((q2 1), .inl (κ 4, 6, .inr (.inr (.inr (.inr (zmade mk ad))))))]) := hD
      refine lv_aload_n hx hb dX1_takeToken_61 rfl (lv_at hl 1 rfl) ?_
      obtain ⟨o6, ho6, hg⟩ := Go_b hg
      refine zc_vi (rest := []) ⟨hx, hb, hml, hown, hts⟩ (zc_X8_kind l D κ q1 q1_length q1_next q1_kind q1_place q1_value q1_bytes o6 ho6) (cwV 0 hts gX1_takeToken_X8_kind rfl rfl rfl (by decide +kernel) ⟨Nat.le_of_ble_eq_true rfl, Nat.le_of_ble_eq_true rfl⟩) (zpreV hK (hP.sub [1, 2] rfl) 8 0 rfl rfl) rfl hl.1 rfl (Nat.le_of_ble_eq_true rfl) dX1_takeToken_62 ⟨Nat.zero_le _, Nat.zero_le _⟩ ?_
      refine zv_iconst hx hb dX1_takeToken_65 ?_
      obtain ⟨b7, hg⟩ := Go_n hg
      refine zv_icmp_eq (tgt := 71) hx hb dX1_takeToken_66 (by decide) b7 (by decide) (fun c9 => ?_) (fun c9 => ?_)
      · have hg := Go_t c9 hg
        refine lv_aload_n hx hb dX1_takeToken_71 rfl (lv_at hl 0 rfl) ?_
        refine lv_aload_n hx hb dX1_takeToken_72 rfl (lv_at hl 2 rfl) ?_
        refine lv_aload_n hx hb dX1_takeToken_73 rfl (lv_at hl 1 rfl) ?_
        obtain ⟨o8, ho8, hg⟩ := Go_b hg
        refine zc_vi (rest := [.ref (q2 0), .ref (t 0)]) ⟨hx, hb, hml, hown, hts⟩ (zc_X8_value l D κ q1 q1_length q1_next q1_kind q1_place q1_value q1_bytes o8 ho8) (cwV 0 hts gX1_takeToken_X8_value rfl rfl rfl (by decide +kernel) ⟨Nat.le_of_ble_eq_true rfl, Nat.le_of_ble_eq_true rfl⟩) (zpreV hK (hP.sub [1, 2] rfl) 8 0 rfl rfl) rfl hl.1 rfl (Nat.le_of_ble_eq_true rfl) dX1_takeToken_74 ⟨Nat.zero_le _, Nat.zero_le _⟩ ?_
        obtain ⟨a9, h9, -⟩ := hg
        cases h9
      · have hg := Go_f c9 hg
        refine zv_iconst hx hb dX1_takeToken_69 ?_
        exact (Go_s hg) _ _ _ _ hP hD hS dX1_takeToken_70
    · have hg := Go_f c5 hg
      by_cases c10 : t_expected = (2 : Int)
      · have hg := Go_t c10 hg
        refine lv_tableIn (off := 92) (tgt := 96) hx hb dX1_takeToken_4 (by rw [c10]; decide) (by rw [c10]; decide) (by rw [c10]; decide) (by decide) ?_
        refine lv_aload_n hx hb dX1_takeToken_96 rfl (lv_at hl 0 rfl) ?_
        refine zv_iconst hx hb dX1_takeToken_97 ?_
        refine va_put (D := D) (ci := 1) (v := .int (zi (3 : Int))) (ty := .int) (C := RX1) (T := TX1) (N := 6) hx hb hts zi_X1_takeToken_X1 tyX1 tyX1_ok nmX1 hown hK hP hD hS 0 rfl rfl 2 (by decide) (hts (.fieldLink RX1 25 "DiamondRows$CutText" "expected" "I") zl_X1_takeToken_25) (fun _ h9 => h9) rfl (by decide +kernel) rfl rfl (Nat.le_of_ble_eq_true rfl) dX1_takeToken_98 (fun H locs hP hD hS => ?_)
        have hP : va_P D vwCl ([((t 0), .inr (1, [.int (zi t_faultKind), .int (zi t_faultPlace), .int (zi (3 : Int)), .int (zi t_first), zpg ad t_polygon, .int (zi t_bits)])), ((q1 0), .inr (8, [.ref (q1 1), .int (zi q1_length), .int (zi q1_next), .int (zi q1_kind), .int (zi q1_place), .int (zi q1_value)])), ((q1 1), .inl (κ 0, 300, .inl (zc q1_bytes))), ((q2 0), .inr (6, [.ref (q2 1)])), ((q2 1), .inl (κ 4, 6, .inr (.inr (.inr (.inr (zmade mk ad))))))]) H := hP
        have hD : va_D A ([((t 0), .inr (1, [.int (zi t_faultKind), .int (zi t_faultPlace), .int (zi (3 : Int)), .int (zi t_first), zpg ad t_polygon, .int (zi t_bits)])), ((q1 0), .inr (8, [.ref (q1 1), .int (zi q1_length), .int (zi q1_next), .int (zi q1_kind), .int (zi q1_place), .int (zi q1_value)])), ((q1 1), .inl (κ 0, 300, .inl (zc q1_bytes))), ((q2 0), .inr (6, [.ref (q2 1)])), ((q2 1), .inl (κ 4, 6, .inr (.inr (.inr (.inr (zmade mk ad))))))]) := hD
        refine lv_aload_n hx hb dX1_takeToken_101 rfl (lv_at hl 0 rfl) ?_
        refine lv_aload_n hx hb dX1_takeToken_102 rfl (lv_at hl 1 rfl) ?_
        obtain ⟨o11, ho11, hg⟩ := Go_b hg
        refine zj_i (wr := [((q2 0), .inr (6, [.ref (q2 1)])), ((q2 1), .inl (κ 4, 6, .inr (.inr (.inr (.inr (zmade mk ad))))))]) (ws1 := [((t 0), .inr (1, [.int (zi t_faultKind), .int (zi t_faultPlace), .int (zi (3 : Int)), .int (zi (o11.2)), zpg ad t_polygon, .int (zi t_bits)])), ((q1 0), .inr (8, [.ref (q1 1), .int (zi q1_length), .int (zi q1_next), .int (zi q1_kind), .int (zi q1_place), .int (zi q1_value)])), ((q1 1), .inl (κ 0, 300, .inl (zc q1_bytes))), ((q2 0), .inr (6, [.ref (q2 1)])), ((q2 1), .inl (κ 4, 6, .inr (.inr (.inr (.inr (zmade mk ad))))))]) (va_runV (rest := []) ⟨hx, hb, hml, hown, hts⟩ (zc_X1_takeFirst l D κ t q1 mk ad H.size t_faultKind t_faultPlace (3 : Int) t_first t_polygon t_bits q1_length q1_next q1_kind q1_place q1_value q1_bytes o11 ho11) (cwV 1 hts gX1_takeToken_X1_takeFirst rfl rfl rfl (by decide +kernel) ⟨Nat.le_of_ble_eq_true rfl, Nat.le_of_ble_eq_true rfl⟩) (zpreWVa hK (hP.sub [0, 1, 2] rfl) (hD.sub [0, 1, 2] (by decide) rfl) (zamb hB hBA hS) (zapt hBA hS (va_free hD hS hA [0, 1, 2] rfl)) 1 0 rfl rfl) rfl rfl hl.1 rfl (lv_room (Nat.le_of_ble_eq_true rfl)) dX1_takeToken_103 ⟨Nat.zero_le _, Nat.zero_le _⟩) hP hD hS hA [0, 1, 2] [3, 4] [2, 3, 4, 0, 1] rfl rfl (by decide) (by decide) rfl rfl (by decide) (fun H locs hP hD hS => ?_)
        exact (Go_s hg) _ _ _ _ hP hD hS dX1_takeToken_106
      · have hg := Go_f c10 hg
        by_cases c12 : t_expected = (3 : Int)
        · have hg := Go_t c12 hg
          refine lv_tableIn (off := 103) (tgt := 107) hx hb dX1_takeToken_4 (by rw [c12]; decide) (by rw [c12]; decide) (by rw [c12]; decide) (by decide) ?_
          refine lv_aload_n hx hb dX1_takeToken_107 rfl (lv_at hl 0 rfl) ?_
          refine zv_iconst hx hb dX1_takeToken_108 ?_
          refine va_put (D := D) (ci := 1) (v := .int (zi (4 : Int))) (ty := .int) (C := RX1) (T := TX1) (N := 6) hx hb hts zi_X1_takeToken_X1 tyX1 tyX1_ok nmX1 hown hK hP hD hS 0 rfl rfl 2 (by decide) (hts (.fieldLink RX1 25 "DiamondRows$CutText" "expected" "I") zl_X1_takeToken_25) (fun _ h9 => h9) rfl (by decide +kernel) rfl rfl (Nat.le_of_ble_eq_true rfl) dX1_takeToken_109 (fun H locs hP hD hS => ?_)
          have hP : va_P D vwCl ([((t 0), .inr (1, [.int (zi t_faultKind), .int (zi t_faultPlace), .int (zi (4 : Int)), .int (zi t_first), zpg ad t_polygon, .int (zi t_bits)])), ((q1 0), .inr (8, [.ref (q1 1), .int (zi q1_length), .int (zi q1_next), .int (zi q1_kind), .int (zi q1_place), .int (zi q1_value)])), ((q1 1), .inl (κ 0, 300, .inl (zc q1_bytes))), ((q2 0), .inr (6, [.ref (q2 1)])), ((q2 1), .inl (κ 4, 6, .inr (.inr (.inr (.inr (zmade mk ad))))))]) H := hP
          have hD : va_D A ([((t 0), .inr (1, [.int (zi t_faultKind), .int (zi t_faultPlace), .int (zi (4 : Int)), .int (zi t_first), zpg ad t_polygon, .int (zi t_bits)])), ((q1 0), .inr (8, [.ref (q1 1), .int (zi q1_length), .int (zi q1_next), .int (zi q1_kind), .int (zi q1_place), .int (zi q1_value)])), ((q1 1), .inl (κ 0, 300, .inl (zc q1_bytes))), ((q2 0), .inr (6, [.ref (q2 1)])), ((q2 1), .inl (κ 4, 6, .inr (.inr (.inr (.inr (zmade mk ad))))))]) := hD
          refine lv_aload_n hx hb dX1_takeToken_112 rfl (lv_at hl 1 rfl) ?_
          obtain ⟨o13, ho13, hg⟩ := Go_b hg
          refine zc_vi (rest := []) ⟨hx, hb, hml, hown, hts⟩ (zc_X8_kind l D κ q1 q1_length q1_next q1_kind q1_place q1_value q1_bytes o13 ho13) (cwV 0 hts gX1_takeToken_X8_kind rfl rfl rfl (by decide +kernel) ⟨Nat.le_of_ble_eq_true rfl, Nat.le_of_ble_eq_true rfl⟩) (zpreV hK (hP.sub [1, 2] rfl) 8 0 rfl rfl) rfl hl.1 rfl (Nat.le_of_ble_eq_true rfl) dX1_takeToken_113 ⟨Nat.zero_le _, Nat.zero_le _⟩ ?_
          refine zv_iconst hx hb dX1_takeToken_116 ?_
          obtain ⟨b14, hg⟩ := Go_n hg
          refine zv_icmp_ne (tgt := 131) hx hb dX1_takeToken_117 (by decide) b14 (by decide) (fun c17 => ?_) (fun c17 => ?_)
          · have hg := Go_f c17 hg
            refine zv_iconst hx hb dX1_takeToken_131 ?_
            exact (Go_s hg) _ _ _ _ hP hD hS dX1_takeToken_132
          · have hg := Go_t c17 hg
            refine lv_aload_n hx hb dX1_takeToken_120 rfl (lv_at hl 0 rfl) ?_
            refine lv_aload_n hx hb dX1_takeToken_121 rfl (lv_at hl 1 rfl) ?_
            obtain ⟨o15, ho15, hg⟩ := Go_b hg
            refine zc_vi (rest := [.ref (t 0)]) ⟨hx, hb, hml, hown, hts⟩ (zc_X8_value l D κ q1 q1_length q1_next q1_kind q1_place q1_value q1_bytes o15 ho15) (cwV 0 hts gX1_takeToken_X8_value rfl rfl rfl (by decide +kernel) ⟨Nat.le_of_ble_eq_true rfl, Nat.le_of_ble_eq_true rfl⟩) (zpreV hK (hP.sub [1, 2] rfl) 8 0 rfl rfl) rfl hl.1 rfl (Nat.le_of_ble_eq_true rfl) dX1_takeToken_122 ⟨Nat.zero_le _, Nat.zero_le _⟩ ?_
            obtain ⟨o16, ho16, hg⟩ := Go_b hg
            refine zj_i (wr := [((q1 0), .inr (8, [.ref (q1 1), .int (zi q1_length), .int (zi q1_next), .int (zi q1_kind), .int (zi q1_place), .int (zi q1_value)])), ((q1 1), .inl (κ 0, 300, .inl (zc q1_bytes))), ((q2 0), .inr (6, [.ref (q2 1)])), ((q2 1), .inl (κ 4, 6, .inr (.inr (.inr (.inr (zmade mk ad))))))]) (ws1 := [((t 0), .inr (1, [.int (zi t_faultKind), .int (zi t_faultPlace), .int (zi (4 : Int)), .int (zi t_first), zpg ad t_polygon, .int (zi (o16.2))])), ((q1 0), .inr (8, [.ref (q1 1), .int (zi q1_length), .int (zi q1_next), .int (zi q1_kind), .int (zi q1_place), .int (zi q1_value)])), ((q1 1), .inl (κ 0, 300, .inl (zc q1_bytes))), ((q2 0), .inr (6, [.ref (q2 1)])), ((q2 1), .inl (κ 4, 6, .inr (.inr (.inr (.inr (zmade mk ad))))))]) (va_runV (rest := []) ⟨hx, hb, hml, hown, hts⟩ (zc_X1_takeSecond l D κ t mk ad H.size t_faultKind t_faultPlace (4 : Int) t_first t_polygon t_bits o15 o16 ho16) (cwV 1 hts gX1_takeToken_X1_takeSecond rfl rfl rfl (by decide +kernel) ⟨Nat.le_of_ble_eq_true rfl, Nat.le_of_ble_eq_true rfl⟩) (zpreWVa hK (hP.sub [0] rfl) (hD.sub [0] (by decide) rfl) (zamb hB hBA hS) (zapt hBA hS (va_free hD hS hA [0] rfl)) 1 0 rfl rfl) rfl rfl hl.1 rfl (lv_room (Nat.le_of_ble_eq_true rfl)) dX1_takeToken_125 ⟨Nat.zero_le _, Nat.zero_le _⟩) hP hD hS hA [0] [1, 2, 3, 4] [4, 0, 1, 2, 3] rfl rfl (by decide) (by decide) rfl rfl (by decide) (fun H locs hP hD hS => ?_)
            refine lv_goto (tgt := 132) hx hb dX1_takeToken_128 (by decide) ?_
            exact (Go_s hg) _ _ _ _ hP hD hS dX1_takeToken_132
        · have hg := Go_f c12 hg
          refine lv_tableOut (tgt := 133) hx hb dX1_takeToken_4 (by rw [zi_int b1]; omega) (by decide) ?_
          refine lv_aload_n hx hb dX1_takeToken_133 rfl (lv_at hl 0 rfl) ?_
          refine zv_iconst hx hb dX1_takeToken_134 ?_
          refine va_put (D := D) (ci := 1) (v := .int (zi (2 : Int))) (ty := .int) (C := RX1) (T := TX1) (N := 6) hx hb hts zi_X1_takeToken_X1 tyX1 tyX1_ok nmX1 hown hK hP hD hS 0 rfl rfl 2 (by decide) (hts (.fieldLink RX1 25 "DiamondRows$CutText" "expected" "I") zl_X1_takeToken_25) (fun _ h9 => h9) rfl (by decide +kernel) rfl rfl (Nat.le_of_ble_eq_true rfl) dX1_takeToken_135 (fun H locs hP hD hS => ?_)
          have hP : va_P D vwCl ([((t 0), .inr (1, [.int (zi t_faultKind), .int (zi t_faultPlace), .int (zi (2 : Int)), .int (zi t_first), zpg ad t_polygon, .int (zi t_bits)])), ((q1 0), .inr (8, [.ref (q1 1), .int (zi q1_length), .int (zi q1_next), .int (zi q1_kind), .int (zi q1_place), .int (zi q1_value)])), ((q1 1), .inl (κ 0, 300, .inl (zc q1_bytes))), ((q2 0), .inr (6, [.ref (q2 1)])), ((q2 1), .inl (κ 4, 6, .inr (.inr (.inr (.inr (zmade mk ad))))))]) H := hP
          have hD : va_D A ([((t 0), .inr (1, [.int (zi t_faultKind), .int (zi t_faultPlace), .int (zi (2 : Int)), .int (zi t_first), zpg ad t_polygon, .int (zi t_bits)])), ((q1 0), .inr (8, [.ref (q1 1), .int (zi q1_length), .int (zi q1_next), .int (zi q1_kind), .int (zi q1_place), .int (zi q1_value)])), ((q1 1), .inl (κ 0, 300, .inl (zc q1_bytes))), ((q2 0), .inr (6, [.ref (q2 1)])), ((q2 1), .inl (κ 4, 6, .inr (.inr (.inr (.inr (zmade mk ad))))))]) := hD
          refine lv_aload_n hx hb dX1_takeToken_138 rfl (lv_at hl 1 rfl) ?_
          obtain ⟨o19, ho19, hg⟩ := Go_b hg
          refine zc_vi (rest := []) ⟨hx, hb, hml, hown, hts⟩ (zc_X8_kind l D κ q1 q1_length q1_next q1_kind q1_place q1_value q1_bytes o19 ho19) (cwV 0 hts gX1_takeToken_X8_kind rfl rfl rfl (by decide +kernel) ⟨Nat.le_of_ble_eq_true rfl, Nat.le_of_ble_eq_true rfl⟩) (zpreV hK (hP.sub [1, 2] rfl) 8 0 rfl rfl) rfl hl.1 rfl (Nat.le_of_ble_eq_true rfl) dX1_takeToken_139 ⟨Nat.zero_le _, Nat.zero_le _⟩ ?_
          refine zv_iconst hx hb dX1_takeToken_142 ?_
          obtain ⟨b20, hg⟩ := Go_n hg
          refine zv_icmp_ne (tgt := 150) hx hb dX1_takeToken_143 (by decide) b20 (by decide) (fun c21 => ?_) (fun c21 => ?_)
          · have hg := Go_f c21 hg
            refine zv_iconst hx hb dX1_takeToken_150 ?_
            exact (Go_s hg) _ _ _ _ hP hD hS dX1_takeToken_151
          · have hg := Go_t c21 hg
            refine zv_iconst hx hb dX1_takeToken_146 ?_
            refine lv_goto (tgt := 151) hx hb dX1_takeToken_147 (by decide) ?_
            exact (Go_s hg) _ _ _ _ hP hD hS dX1_takeToken_151
set_option maxHeartbeats 4000000 in
set_option maxRecDepth 100000 in
theorem zc_X1_takeToken (l : Launch) (D : va_G) (κ : Nat → ClassId) (t : Nat → Nat) (q1 : Nat → Nat) (q2 : Nat → Nat) (str : Nat) (mk : Nat) (ad : Nat → Nat → Nat) (sz : Nat) (t_faultKind : Int) (t_faultPlace : Int) (t_expected : Int) (t_first : Int) (t_polygon : Nat) (t_bits : Int) (q1_length : Int) (q1_next : Int) (q1_kind : Int) (q1_place : Int) (q1_value : Int) (q1_bytes : Nat)  (out : Int × Int × Int × Int) (h : zf_X1_takeToken mk t_expected t_first t_polygon t_bits q1_next q1_kind q1_place q1_value  = some out) : Met l yX1_takeToken wsX1_takeToken zr_X1_takeToken (va_Pc [.ref (t 0), .ref (q1 0), .ref (q2 0)] (zWv str (zWa D κ mk ad ([((t 0), .inr (1, [.int (zi t_faultKind), .int (zi t_faultPlace), .int (zi t_expected), .int (zi t_first), zpg ad t_polygon, .int (zi t_bits)])), ((q1 0), .inr (8, [.ref (q1 1), .int (zi q1_length), .int (zi q1_next), .int (zi q1_kind), .int (zi q1_place), .int (zi q1_value)])), ((q1 1), .inl (κ 0, 300, .inl (zc q1_bytes))), ((q2 0), .inr (6, [.ref (q2 1)])), ((q2 1), .inl (κ 4, 6, .inr (.inr (.inr (.inr (zmade mk ad))))))]) sz))) (va_Qi (fun r (_ : Unit) => r = zi (out.1)) (fun _ => zB D κ (va_A ([((t 0), .inr (1, [.int (zi t_faultKind), .int (zi t_faultPlace), .int (zi t_expected), .int (zi t_first), zpg ad t_polygon, .int (zi t_bits)])), ((q1 0), .inr (8, [.ref (q1 1), .int (zi q1_length), .int (zi q1_next), .int (zi q1_kind), .int (zi q1_place), .int (zi q1_value)])), ((q1 1), .inl (κ 0, 300, .inl (zc q1_bytes))), ((q2 0), .inr (6, [.ref (q2 1)])), ((q2 1), .inl (κ 4, 6, .inr (.inr (.inr (.inr (zmade mk ad))))))]) sz) ([((t 0), .inr (1, [.int (zi t_faultKind), .int (zi t_faultPlace), .int (zi (out.2.1)), .int (zi (out.2.2.1)), zpg ad t_polygon, .int (zi (out.2.2.2))])), ((q1 0), .inr (8, [.ref (q1 1), .int (zi q1_length), .int (zi q1_next), .int (zi q1_kind), .int (zi q1_place), .int (zi q1_value)])), ((q1 1), .inl (κ 0, 300, .inl (zc q1_bytes))), ((q2 0), .inr (6, [.ref (q2 1)])), ((q2 1), .inl (κ 4, 6, .inr (.inr (.inr (.inr (zmade mk ad))))))])) (va_A ([((t 0), .inr (1, [.int (zi t_faultKind), .int (zi t_faultPlace), .int (zi t_expected), .int (zi t_first), zpg ad t_polygon, .int (zi t_bits)])), ((q1 0), .inr (8, [.ref (q1 1), .int (zi q1_length), .int (zi q1_next), .int (zi q1_kind), .int (zi q1_place), .int (zi q1_value)])), ((q1 1), .inl (κ 0, 300, .inl (zc q1_bytes))), ((q2 0), .inr (6, [.ref (q2 1)])), ((q2 1), .inl (κ 4, 6, .inr (.inr (.inr (.inr (zmade mk ad))))))]) sz)) 0 0 (va_A ([((t 0), .inr (1, [.int (zi t_faultKind), .int (zi t_faultPlace), .int (zi t_expected), .int (zi t_first), zpg ad t_polygon, .int (zi t_bits)])), ((q1 0), .inr (8, [.ref (q1 1), .int (zi q1_length), .int (zi q1_next), .int (zi q1_kind), .int (zi q1_place), .int (zi q1_value)])), ((q1 1), .inl (κ 0, 300, .inl (zc q1_bytes))), ((q2 0), .inr (6, [.ref (q2 1)])), ((q2 1), .inl (κ 4, 6, .inr (.inr (.inr (.inr (zmade mk ad))))))]) sz) := by
  refine Met.ofW (cc := cX1_takeToken) (maxL := 3) (ret := (some .int)) (by decide +kernel) rfl ?_
  intro p e s m args below meth c s₁ B hml hv
  obtain ⟨rfl, ⟨hsz, hP, hK, hD0, hB, hBA⟩, hV⟩ := hv
  have hx := B.exec
  have hb := B.bytes
  have hr := B.returns
  have hts := atoms_spec (ws := wsX1_takeToken) B.pre
  have hown : s.vm.findClass RX1 = some m.cls := findClass_of_methodNamed B.named
  have hlocks := B.notSynchronized
  subst hsz
  have hD := hD0.self (sz := s.heap.size)
  generalize hAe : va_A ([((t 0), .inr (1, [.int (zi t_faultKind), .int (zi t_faultPlace), .int (zi t_expected), .int (zi t_first), zpg ad t_polygon, .int (zi t_bits)])), ((q1 0), .inr (8, [.ref (q1 1), .int (zi q1_length), .int (zi q1_next), .int (zi q1_kind), .int (zi q1_place), .int (zi q1_value)])), ((q1 1), .inl (κ 0, 300, .inl (zc q1_bytes))), ((q2 0), .inr (6, [.ref (q2 1)])), ((q2 1), .inl (κ 4, 6, .inr (.inr (.inr (.inr (zmade mk ad))))))]) s.heap.size = A at hD hBA ⊢
  have hA : ∀ q : Nat, s.heap.size ≤ q → A q := fun q h => by rw [← hAe]; exact Or.inr h
  have hS : va_S A s.heap s.heap [] := va_S.rf
  have hl := lv_entry ([.ref (t 0), .ref (q1 0), .ref (q2 0)]) (n := 3) (Nat.le_of_ble_eq_true rfl)
  rw [lg_entry_eq]
  generalize (lg_sl ([.ref (t 0), .ref (q1 0), .ref (q2 0)]) ++ List.replicate (3 - (lg_sl ([.ref (t 0), .ref (q1 0), .ref (q2 0)])).length) Slot.unset).toArray = ls at hl ⊢
  have hl : lv_has ls 3 [(0, .ref (t 0)), (1, .ref (q1 0)), (2, .ref (q2 0))] := hl
  refine zs_X1_takeToken t q1 q2 str mk ad t_faultKind t_faultPlace t_expected t_first t_polygon t_bits q1_length q1_next q1_kind q1_place q1_value q1_bytes  hx hb hml hown hts hK hA hB hBA hV s.heap [] ls hP hD hS hl ⟨out, h, ?_⟩
  exact fun H locs ls pc hP hD hS hd => W.iret hx hb hr (fun t ht hW => ⟨⟨_, (), rfl, rfl, by rw [ht]; exact hP, va_K.moved hW.alike hK, hD⟩, hS.F ht⟩) hS.2.2 hd

/-! DiamondRows$CutText.understand(LDiamondRows$Tape;LDiamondRows$Polygons;)Z -/
abbrev zr_X1_understand : Room := { frames := 36, cells := 7, slots := 609, locals := 1000 }
abbrev zS_X1_understand : Type := Nat × Int × Int × Int × Int × Int × Nat × Int × Int × Int × Int × Int
abbrev zO_X1_understand : Type := Bool × Int × Int × Int × Int × Nat × Int × Int × Int × Int × Int
noncomputable def zg_X1_understand_0 (mk : Nat) (q1_length : Int) (q1_bytes : Nat) (i3 : Int) (t_faultKind : Int) (t_faultPlace : Int) (t_expected : Int) (t_first : Int) (t_polygon : Nat) (t_bits : Int) (q1_next : Int) (q1_kind : Int) (q1_place : Int) (q1_value : Int) : Option (zO_X1_understand ⊕ zS_X1_understand) :=
  Option.bind (zf_X8_rewind q1_next) (fun o1 =>
  some (.inr (31, (0 : Int), (0 : Int), (-1 : Int), (0 : Int), t_first, 0, (0 : Int), o1, q1_kind, q1_place, q1_value)))
noncomputable def zg_X1_understand_31 (mk : Nat) (q1_length : Int) (q1_bytes : Nat) (i3 : Int) (t_faultKind : Int) (t_faultPlace : Int) (t_expected : Int) (t_first : Int) (t_polygon : Nat) (t_bits : Int) (q1_next : Int) (q1_kind : Int) (q1_place : Int) (q1_value : Int) : Option (zO_X1_understand ⊕ zS_X1_understand) :=
  if zout i3 then none else
  if (300 : Int) < i3 then
  if t_polygon = 0 then
  some (.inl (false, t_faultKind, t_faultPlace, t_expected, t_first, t_polygon, t_bits, q1_next, q1_kind, q1_place, q1_value))
  else
  some (.inl (true, t_faultKind, t_faultPlace, t_expected, t_first, t_polygon, t_bits, q1_next, q1_kind, q1_place, q1_value))
  else
  Option.bind (zf_X8_readToken q1_length q1_next q1_kind q1_place q1_value q1_bytes) (fun o4 =>
  Option.bind (zf_X1_takeToken mk t_expected t_first t_polygon t_bits (o4.1) (o4.2.1) (o4.2.2.1) (o4.2.2.2)) (fun o5 =>
  if zout (o5.1) then none else
  if (o5.1) = 0 then
  Option.bind (zf_X8_kind (o4.2.1)) (fun o7 =>
  if zout o7 then none else
  if o7 = 0 then
  if t_polygon = 0 then
  some (.inl (false, (o5.1), t_faultPlace, (o5.2.1), (o5.2.2.1), t_polygon, (o5.2.2.2), (o4.1), (o4.2.1), (o4.2.2.1), (o4.2.2.2)))
  else
  some (.inl (true, (o5.1), t_faultPlace, (o5.2.1), (o5.2.2.1), t_polygon, (o5.2.2.2), (o4.1), (o4.2.1), (o4.2.2.1), (o4.2.2.2)))
  else
  some (.inr (31, (i3 + (1 : Int)), (o5.1), t_faultPlace, (o5.2.1), (o5.2.2.1), t_polygon, (o5.2.2.2), (o4.1), (o4.2.1), (o4.2.2.1), (o4.2.2.2))))
  else
  Option.bind (zf_X8_place (o4.2.2.1)) (fun o11 =>
  some (.inl (false, (o5.1), o11, (o5.2.1), (o5.2.2.1), t_polygon, (o5.2.2.2), (o4.1), (o4.2.1), (o4.2.2.1), (o4.2.2.2))))))
noncomputable def zg_X1_understand (mk : Nat) (q1_length : Int) (q1_bytes : Nat) (st : zS_X1_understand) : Option (zO_X1_understand ⊕ zS_X1_understand) := match st with
  | (lab, i3, t_faultKind, t_faultPlace, t_expected, t_first, t_polygon, t_bits, q1_next, q1_kind, q1_place, q1_value) => if lab = 0 then zg_X1_understand_0 mk q1_length q1_bytes i3 t_faultKind t_faultPlace t_expected t_first t_polygon t_bits q1_next q1_kind q1_place q1_value else if lab = 31 then zg_X1_understand_31 mk q1_length q1_bytes i3 t_faultKind t_faultPlace t_expected t_first t_polygon t_bits q1_next q1_kind q1_place q1_value else none
noncomputable def zf_X1_understand (mk : Nat) (t_faultKind : Int) (t_faultPlace : Int) (t_expected : Int) (t_first : Int) (t_polygon : Nat) (t_bits : Int) (q1_length : Int) (q1_next : Int) (q1_kind : Int) (q1_place : Int) (q1_value : Int) (q1_bytes : Nat)  : Option (Bool × Int × Int × Int × Int × Nat × Int × Int × Int × Int × Int) := jrun (zg_X1_understand mk q1_length q1_bytes) jfuel (0, 0, t_faultKind, t_faultPlace, t_expected, t_first, t_polygon, t_bits, q1_next, q1_kind, q1_place, q1_value)
theorem zi_X1_understand_X1 : ∀ w ∈ u_ws RX1 TX1 6, w ∈ wsX1_understand := by decide +kernel
theorem zl_X1_understand_9 : Cond.fieldLink RX1 9 "DiamondRows$CutText" "faultPlace" "I" ∈ wsX1_understand := by decide +kernel
theorem zl_X1_understand_15 : Cond.fieldLink RX1 15 "DiamondRows$CutText" "faultKind" "I" ∈ wsX1_understand := by decide +kernel
theorem zl_X1_understand_18 : Cond.fieldLink RX1 18 "DiamondRows$CutText" "polygon" "LDiamondRows$Polygon;" ∈ wsX1_understand := by decide +kernel
theorem zl_X1_understand_22 : Cond.fieldLink RX1 22 "DiamondRows$CutText" "bits" "I" ∈ wsX1_understand := by decide +kernel
theorem zl_X1_understand_25 : Cond.fieldLink RX1 25 "DiamondRows$CutText" "expected" "I" ∈ wsX1_understand := by decide +kernel
def zQ_X1_understand (p : Program) (l : Launch) (e : Env) (s : State) (m : MethodId) (args : Array Value) (below : List Frame) (meth : Method) (c : Code) (Q : State → Prop) (cells slots : Nat) (D : va_G) (κ : Nat → ClassId) (A : Nat → Prop) (H0 : Heap) (t : Nat → Nat) (q1 : Nat → Nat) (q2 : Nat → Nat) (str : Nat) (mk : Nat) (ad : Nat → Nat → Nat) (q1_length : Int) (q1_bytes : Nat) (o : Bool × Int × Int × Int × Int × Nat × Int × Int × Int × Int × Int) : Prop := ∀ (H : Heap) (locs : List Loc) (ls : Array Slot) (pc : Nat), va_P D vwCl ([((t 0), .inr (1, [.int (zi (o.2.1)), .int (zi (o.2.2.1)), .int (zi (o.2.2.2.1)), .int (zi (o.2.2.2.2.1)), zpg ad (o.2.2.2.2.2.1), .int (zi (o.2.2.2.2.2.2.1))])), ((q1 0), .inr (8, [.ref (q1 1), .int (zi q1_length), .int (zi (o.2.2.2.2.2.2.2.1)), .int (zi (o.2.2.2.2.2.2.2.2.1)), .int (zi (o.2.2.2.2.2.2.2.2.2.1)), .int (zi (o.2.2.2.2.2.2.2.2.2.2))])), ((q1 1), .inl (κ 0, 300, .inl (zc q1_bytes))), ((q2 0), .inr (6, [.ref (q2 1)])), ((q2 1), .inl (κ 4, 6, .inr (.inr (.inr (.inr (zmade mk ad))))))]) H → va_D A ([((t 0), .inr (1, [.int (zi (o.2.1)), .int (zi (o.2.2.1)), .int (zi (o.2.2.2.1)), .int (zi (o.2.2.2.2.1)), zpg ad (o.2.2.2.2.2.1), .int (zi (o.2.2.2.2.2.2.1))])), ((q1 0), .inr (8, [.ref (q1 1), .int (zi q1_length), .int (zi (o.2.2.2.2.2.2.2.1)), .int (zi (o.2.2.2.2.2.2.2.2.1)), .int (zi (o.2.2.2.2.2.2.2.2.2.1)), .int (zi (o.2.2.2.2.2.2.2.2.2.2))])), ((q1 1), .inl (κ 0, 300, .inl (zc q1_bytes))), ((q2 0), .inr (6, [.ref (q2 1)])), ((q2 1), .inl (κ 4, 6, .inr (.inr (.inr (.inr (zmade mk ad))))))]) → va_S A H0 H locs → decode cX1_understand pc = .ok (.ireturn, 1) → W p l e zr_X1_understand s m args below meth c H locs cells slots Q (F0 m pc ls [.int (zi (bI (o.1)))])
def zA_X1_understand_0 (p : Program) (l : Launch) (e : Env) (s : State) (m : MethodId) (args : Array Value) (below : List Frame) (meth : Method) (c : Code) (Q : State → Prop) (cells slots : Nat) (D : va_G) (κ : Nat → ClassId) (A : Nat → Prop) (H0 : Heap) (t : Nat → Nat) (q1 : Nat → Nat) (q2 : Nat → Nat) (str : Nat) (mk : Nat) (ad : Nat → Nat → Nat) (q1_length : Int) (q1_bytes : Nat) (i3 : Int) (t_faultKind : Int) (t_faultPlace : Int) (t_expected : Int) (t_first : Int) (t_polygon : Nat) (t_bits : Int) (q1_next : Int) (q1_kind : Int) (q1_place : Int) (q1_value : Int) : Prop := ∀ (H : Heap) (locs : List Loc) (ls : Array Slot), va_P D vwCl ([((t 0), .inr (1, [.int (zi t_faultKind), .int (zi t_faultPlace), .int (zi t_expected), .int (zi t_first), zpg ad t_polygon, .int (zi t_bits)])), ((q1 0), .inr (8, [.ref (q1 1), .int (zi q1_length), .int (zi q1_next), .int (zi q1_kind), .int (zi q1_place), .int (zi q1_value)])), ((q1 1), .inl (κ 0, 300, .inl (zc q1_bytes))), ((q2 0), .inr (6, [.ref (q2 1)])), ((q2 1), .inl (κ 4, 6, .inr (.inr (.inr (.inr (zmade mk ad))))))]) H → va_D A ([((t 0), .inr (1, [.int (zi t_faultKind), .int (zi t_faultPlace), .int (zi t_expected), .int (zi t_first), zpg ad t_polygon, .int (zi t_bits)])), ((q1 0), .inr (8, [.ref (q1 1), .int (zi q1_length), .int (zi q1_next), .int (zi q1_kind), .int (zi q1_place), .int (zi q1_value)])), ((q1 1), .inl (κ 0, 300, .inl (zc q1_bytes))), ((q2 0), .inr (6, [.ref (q2 1)])), ((q2 1), .inl (κ 4, 6, .inr (.inr (.inr (.inr (zmade mk ad))))))]) → va_S A H0 H locs → lv_has ls 4 [(0, .ref (t 0)), (1, .ref (q1 0)), (2, .ref (q2 0))] → W p l e zr_X1_understand s m args below meth c H locs cells slots Q (F0 m 0 ls [])
def zA_X1_understand_31 (p : Program) (l : Launch) (e : Env) (s : State) (m : MethodId) (args : Array Value) (below : List Frame) (meth : Method) (c : Code) (Q : State → Prop) (cells slots : Nat) (D : va_G) (κ : Nat → ClassId) (A : Nat → Prop) (H0 : Heap) (t : Nat → Nat) (q1 : Nat → Nat) (q2 : Nat → Nat) (str : Nat) (mk : Nat) (ad : Nat → Nat → Nat) (q1_length : Int) (q1_bytes : Nat) (i3 : Int) (t_faultKind : Int) (t_faultPlace : Int) (t_expected : Int) (t_first : Int) (t_polygon : Nat) (t_bits : Int) (q1_next : Int) (q1_kind : Int) (q1_place : Int) (q1_value : Int) : Prop := ∀ (H : Heap) (locs : List Loc) (ls : Array Slot), va_P D vwCl ([((t 0), .inr (1, [.int (zi t_faultKind), .int (zi t_faultPlace), .int (zi t_expected), .int (zi t_first), zpg ad t_polygon, .int (zi t_bits)])), ((q1 0), .inr (8, [.ref (q1 1), .int (zi q1_length), .int (zi q1_next), .int (zi q1_kind), .int (zi q1_place), .int (zi q1_value)])), ((q1 1), .inl (κ 0, 300, .inl (zc q1_bytes))), ((q2 0), .inr (6, [.ref (q2 1)])), ((q2 1), .inl (κ 4, 6, .inr (.inr (.inr (.inr (zmade mk ad))))))]) H → va_D A ([((t 0), .inr (1, [.int (zi t_faultKind), .int (zi t_faultPlace), .int (zi t_expected), .int (zi t_first), zpg ad t_polygon, .int (zi t_bits)])), ((q1 0), .inr (8, [.ref (q1 1), .int (zi q1_length), .int (zi q1_next), .int (zi q1_kind), .int (zi q1_place), .int (zi q1_value)])), ((q1 1), .inl (κ 0, 300, .inl (zc q1_bytes))), ((q2 0), .inr (6, [.ref (q2 1)])), ((q2 1), .inl (κ 4, 6, .inr (.inr (.inr (.inr (zmade mk ad))))))]) → va_S A H0 H locs → lv_has ls 4 [(0, .ref (t 0)), (1, .ref (q1 0)), (2, .ref (q2 0)), (3, .int (zi i3))] → W p l e zr_X1_understand s m args below meth c H locs cells slots Q (F0 m 31 ls [])
def zA_X1_understand (p : Program) (l : Launch) (e : Env) (s : State) (m : MethodId) (args : Array Value) (below : List Frame) (meth : Method) (c : Code) (Q : State → Prop) (cells slots : Nat) (D : va_G) (κ : Nat → ClassId) (A : Nat → Prop) (H0 : Heap) (t : Nat → Nat) (q1 : Nat → Nat) (q2 : Nat → Nat) (str : Nat) (mk : Nat) (ad : Nat → Nat → Nat) (q1_length : Int) (q1_bytes : Nat) (st : zS_X1_understand) : Prop := match st with
  | (lab, i3, t_faultKind, t_faultPlace, t_expected, t_first, t_polygon, t_bits, q1_next, q1_kind, q1_place, q1_value) => if lab = 0 then zA_X1_understand_0 p l e s m args below meth c Q cells slots D κ A H0 t q1 q2 str mk ad q1_length q1_bytes i3 t_faultKind t_faultPlace t_expected t_first t_polygon t_bits q1_next q1_kind q1_place q1_value else if lab = 31 then zA_X1_understand_31 p l e s m args below meth c Q cells slots D κ A H0 t q1 q2 str mk ad q1_length q1_bytes i3 t_faultKind t_faultPlace t_expected t_first t_polygon t_bits q1_next q1_kind q1_place q1_value else True
set_option maxHeartbeats 4000000 in
set_option maxRecDepth 100000 in
theorem zs_X1_understand_0 {p : Program} {l : Launch} {e : Env} {s : State} {m : MethodId} {args : Array Value} {below : List Frame} {meth : Method} {c : Code} {Q : State → Prop} {cells slots : Nat} {D : va_G} {κ : Nat → ClassId} {A : Nat → Prop} {H0 : Heap} (t : Nat → Nat) (q1 : Nat → Nat) (q2 : Nat → Nat) (str : Nat) (mk : Nat) (ad : Nat → Nat → Nat) (q1_length : Int) (q1_bytes : Nat) (hx : p.tables.exec = Jvm.exec) (hb : c.code = cX1_understand) (hml : c.maxLocals = 4) (hown : s.vm.findClass RX1 = some m.cls) (hts : ∀ w ∈ wsX1_understand, w.before args s = true) (hK : va_K D vwCl (zTY κ) s) (hA : ∀ q : Nat, H0.size ≤ q → A q) (hB : zAmb D κ mk ad H0) (hBA : zApt mk ad A H0.size) (hV : vk_R RX1 47 "corners" str s) (hroom : cells ≤ zr_X1_understand.cells ∧ slots ≤ zr_X1_understand.slots) (i3 : Int) (t_faultKind : Int) (t_faultPlace : Int) (t_expected : Int) (t_first : Int) (t_polygon : Nat) (t_bits : Int) (q1_next : Int) (q1_kind : Int) (q1_place : Int) (q1_value : Int) (hg : Go (GoE (zA_X1_understand p l e s m args below meth c Q cells slots D κ A H0 t q1 q2 str mk ad q1_length q1_bytes) (zQ_X1_understand p l e s m args below meth c Q cells slots D κ A H0 t q1 q2 str mk ad q1_length q1_bytes)) (zg_X1_understand_0 mk q1_length q1_bytes i3 t_faultKind t_faultPlace t_expected t_first t_polygon t_bits q1_next q1_kind q1_place q1_value)) : zA_X1_understand_0 p l e s m args below meth c Q cells slots D κ A H0 t q1 q2 str mk ad q1_length q1_bytes i3 t_faultKind t_faultPlace t_expected t_first t_polygon t_bits q1_next q1_kind q1_place q1_value := by
  intro H locs ls hP hD hS hl
  unfold zg_X1_understand_0 at hg
  refine lv_aload_n hx hb dX1_understand_0 rfl (lv_at hl 0 rfl) ?_
  refine zv_iconst hx hb dX1_understand_1 ?_
  refine va_put (D := D) (ci := 1) (v := .int (zi (0 : Int))) (ty := .int) (C := RX1) (T := TX1) (N := 6) hx hb hts zi_X1_understand_X1 tyX1 tyX1_ok nmX1 hown hK hP hD hS 0 rfl rfl 0 (by decide) (hts (.fieldLink RX1 15 "DiamondRows$CutText" "faultKind" "I") zl_X1_understand_15) (fun _ h9 => h9) rfl (by decide +kernel) rfl rfl (Nat.le_of_ble_eq_true rfl) dX1_understand_2 (fun H locs hP hD hS => ?_)
  have hP : va_P D vwCl ([((t 0), .inr (1, [.int (zi (0 : Int)), .int (zi t_faultPlace), .int (zi t_expected), .int (zi t_first), zpg ad t_polygon, .int (zi t_bits)])), ((q1 0), .inr (8, [.ref (q1 1), .int (zi q1_length), .int (zi q1_next), .int (zi q1_kind), .int (zi q1_place), .int (zi q1_value)])), ((q1 1), .inl (κ 0, 300, .inl (zc q1_bytes))), ((q2 0), .inr (6, [.ref (q2 1)])), ((q2 1), .inl (κ 4, 6, .inr (.inr (.inr (.inr (zmade mk ad))))))]) H := hP
  have hD : va_D A ([((t 0), .inr (1, [.int (zi (0 : Int)), .int (zi t_faultPlace), .int (zi t_expected), .int (zi t_first), zpg ad t_polygon, .int (zi t_bits)])), ((q1 0), .inr (8, [.ref (q1 1), .int (zi q1_length), .int (zi q1_next), .int (zi q1_kind), .int (zi q1_place), .int (zi q1_value)])), ((q1 1), .inl (κ 0, 300, .inl (zc q1_bytes))), ((q2 0), .inr (6, [.ref (q2 1)])), ((q2 1), .inl (κ 4, 6, .inr (.inr (.inr (.inr (zmade mk ad))))))]) := hD
  refine lv_aload_n hx hb dX1_understand_5 rfl (lv_at hl 0 rfl) ?_
  refine zv_iconst hx hb dX1_understand_6 ?_
  refine va_put (D := D) (ci := 1) (v := .int (zi (-1 : Int))) (ty := .int) (C := RX1) (T := TX1) (N := 6) hx hb hts zi_X1_understand_X1 tyX1 tyX1_ok nmX1 hown hK hP hD hS 0 rfl rfl 1 (by decide) (hts (.fieldLink RX1 9 "DiamondRows$CutText" "faultPlace" "I") zl_X1_understand_9) (fun _ h9 => h9) rfl (by decide +kernel) rfl rfl (Nat.le_of_ble_eq_true rfl) dX1_understand_7 (fun H locs hP hD hS => ?_)
  have hP : va_P D vwCl ([((t 0), .inr (1, [.int (zi (0 : Int)), .int (zi (-1 : Int)), .int (zi t_expected), .int (zi t_first), zpg ad t_polygon, .int (zi t_bits)])), ((q1 0), .inr (8, [.ref (q1 1), .int (zi q1_length), .int (zi q1_next), .int (zi q1_kind), .int (zi q1_place), .int (zi q1_value)])), ((q1 1), .inl (κ 0, 300, .inl (zc q1_bytes))), ((q2 0), .inr (6, [.ref (q2 1)])), ((q2 1), .inl (κ 4, 6, .inr (.inr (.inr (.inr (zmade mk ad))))))]) H := hP
  have hD : va_D A ([((t 0), .inr (1, [.int (zi (0 : Int)), .int (zi (-1 : Int)), .int (zi t_expected), .int (zi t_first), zpg ad t_polygon, .int (zi t_bits)])), ((q1 0), .inr (8, [.ref (q1 1), .int (zi q1_length), .int (zi q1_next), .int (zi q1_kind), .int (zi q1_place), .int (zi q1_value)])), ((q1 1), .inl (κ 0, 300, .inl (zc q1_bytes))), ((q2 0), .inr (6, [.ref (q2 1)])), ((q2 1), .inl (κ 4, 6, .inr (.inr (.inr (.inr (zmade mk ad))))))]) := hD
  refine lv_aload_n hx hb dX1_understand_10 rfl (lv_at hl 0 rfl) ?_
  refine zv_iconst hx hb dX1_understand_11 ?_
  refine va_put (D := D) (ci := 1) (v := .int (zi (0 : Int))) (ty := .int) (C := RX1) (T := TX1) (N := 6) hx hb hts zi_X1_understand_X1 tyX1 tyX1_ok nmX1 hown hK hP hD hS 0 rfl rfl 2 (by decide) (hts (.fieldLink RX1 25 "DiamondRows$CutText" "expected" "I") zl_X1_understand_25) (fun _ h9 => h9) rfl (by decide +kernel) rfl rfl (Nat.le_of_ble_eq_true rfl) dX1_understand_12 (fun H locs hP hD hS => ?_)
  have hP : va_P D vwCl ([((t 0), .inr (1, [.int (zi (0 : Int)), .int (zi (-1 : Int)), .int (zi (0 : Int)), .int (zi t_first), zpg ad t_polygon, .int (zi t_bits)])), ((q1 0), .inr (8, [.ref (q1 1), .int (zi q1_length), .int (zi q1_next), .int (zi q1_kind), .int (zi q1_place), .int (zi q1_value)])), ((q1 1), .inl (κ 0, 300, .inl (zc q1_bytes))), ((q2 0), .inr (6, [.ref (q2 1)])), ((q2 1), .inl (κ 4, 6, .inr (.inr (.inr (.inr (zmade mk ad))))))]) H := hP
  have hD : va_D A ([((t 0), .inr (1, [.int (zi (0 : Int)), .int (zi (-1 : Int)), .int (zi (0 : Int)), .int (zi t_first), zpg ad t_polygon, .int (zi t_bits)])), ((q1 0), .inr (8, [.ref (q1 1), .int (zi q1_length), .int (zi q1_next), .int (zi q1_kind), .int (zi q1_place), .int (zi q1_value)])), ((q1 1), .inl (κ 0, 300, .inl (zc q1_bytes))), ((q2 0), .inr (6, [.ref (q2 1)])), ((q2 1), .inl (κ 4, 6, .inr (.inr (.inr (.inr (zmade mk ad))))))]) := hD
  refine lv_aload_n hx hb dX1_understand_15 rfl (lv_at hl 0 rfl) ?_
  refine lv_null hx hb dX1_understand_16 ?_
  refine zv_putN (ad := ad) (D := D) (ci := 1) (C := RX1) (T := TX1) (N := 6) hx hb hts zi_X1_understand_X1 tyX1 tyX1_ok nmX1 hown hK hP hD hS 0 rfl rfl 4 (by decide) (hts (.fieldLink RX1 18 "DiamondRows$CutText" "polygon" "LDiamondRows$Polygon;") zl_X1_understand_18) (fun _ h9 => h9) rfl (by decide +kernel) (Nat.le_of_ble_eq_true rfl) dX1_understand_17 (fun H locs hP hD hS => ?_)
  have hP : va_P D vwCl ([((t 0), .inr (1, [.int (zi (0 : Int)), .int (zi (-1 : Int)), .int (zi (0 : Int)), .int (zi t_first), zpg ad 0, .int (zi t_bits)])), ((q1 0), .inr (8, [.ref (q1 1), .int (zi q1_length), .int (zi q1_next), .int (zi q1_kind), .int (zi q1_place), .int (zi q1_value)])), ((q1 1), .inl (κ 0, 300, .inl (zc q1_bytes))), ((q2 0), .inr (6, [.ref (q2 1)])), ((q2 1), .inl (κ 4, 6, .inr (.inr (.inr (.inr (zmade mk ad))))))]) H := hP
  have hD : va_D A ([((t 0), .inr (1, [.int (zi (0 : Int)), .int (zi (-1 : Int)), .int (zi (0 : Int)), .int (zi t_first), zpg ad 0, .int (zi t_bits)])), ((q1 0), .inr (8, [.ref (q1 1), .int (zi q1_length), .int (zi q1_next), .int (zi q1_kind), .int (zi q1_place), .int (zi q1_value)])), ((q1 1), .inl (κ 0, 300, .inl (zc q1_bytes))), ((q2 0), .inr (6, [.ref (q2 1)])), ((q2 1), .inl (κ 4, 6, .inr (.inr (.inr (.inr (zmade mk ad))))))]) := hD
  refine lv_aload_n hx hb dX1_understand_20 rfl (lv_at hl 0 rfl) ?_
  refine zv_iconst hx hb dX1_understand_21 ?_
  refine va_put (D := D) (ci := 1) (v := .int (zi (0 : Int))) (ty := .int) (C := RX1) (T := TX1) (N := 6) hx hb hts zi_X1_understand_X1 tyX1 tyX1_ok nmX1 hown hK hP hD hS 0 rfl rfl 5 (by decide) (hts (.fieldLink RX1 22 "DiamondRows$CutText" "bits" "I") zl_X1_understand_22) (fun _ h9 => h9) rfl (by decide +kernel) rfl rfl (Nat.le_of_ble_eq_true rfl) dX1_understand_22 (fun H locs hP hD hS => ?_)
  have hP : va_P D vwCl ([((t 0), .inr (1, [.int (zi (0 : Int)), .int (zi (-1 : Int)), .int (zi (0 : Int)), .int (zi t_first), zpg ad 0, .int (zi (0 : Int))])), ((q1 0), .inr (8, [.ref (q1 1), .int (zi q1_length), .int (zi q1_next), .int (zi q1_kind), .int (zi q1_place), .int (zi q1_value)])), ((q1 1), .inl (κ 0, 300, .inl (zc q1_bytes))), ((q2 0), .inr (6, [.ref (q2 1)])), ((q2 1), .inl (κ 4, 6, .inr (.inr (.inr (.inr (zmade mk ad))))))]) H := hP
  have hD : va_D A ([((t 0), .inr (1, [.int (zi (0 : Int)), .int (zi (-1 : Int)), .int (zi (0 : Int)), .int (zi t_first), zpg ad 0, .int (zi (0 : Int))])), ((q1 0), .inr (8, [.ref (q1 1), .int (zi q1_length), .int (zi q1_next), .int (zi q1_kind), .int (zi q1_place), .int (zi q1_value)])), ((q1 1), .inl (κ 0, 300, .inl (zc q1_bytes))), ((q2 0), .inr (6, [.ref (q2 1)])), ((q2 1), .inl (κ 4, 6, .inr (.inr (.inr (.inr (zmade mk ad))))))]) := hD
  refine lv_aload_n hx hb dX1_understand_25 rfl (lv_at hl 1 rfl) ?_
  obtain ⟨o1, ho1, hg⟩ := Go_b hg
  refine zj_v (wr := [((t 0), .inr (1, [.int (zi (0 : Int)), .int (zi (-1 : Int)), .int (zi (0 : Int)), .int (zi t_first), zpg ad 0, .int (zi (0 : Int))])), ((q2 0), .inr (6, [.ref (q2 1)])), ((q2 1), .inl (κ 4, 6, .inr (.inr (.inr (.inr (zmade mk ad))))))]) (ws1 := [((t 0), .inr (1, [.int (zi (0 : Int)), .int (zi (-1 : Int)), .int (zi (0 : Int)), .int (zi t_first), zpg ad 0, .int (zi (0 : Int))])), ((q1 0), .inr (8, [.ref (q1 1), .int (zi q1_length), .int (zi o1), .int (zi q1_kind), .int (zi q1_place), .int (zi q1_value)])), ((q1 1), .inl (κ 0, 300, .inl (zc q1_bytes))), ((q2 0), .inr (6, [.ref (q2 1)])), ((q2 1), .inl (κ 4, 6, .inr (.inr (.inr (.inr (zmade mk ad))))))]) (va_runV (rest := []) ⟨hx, hb, hml, hown, hts⟩ (zc_X8_rewind l D κ q1 H.size q1_length q1_next q1_kind q1_place q1_value q1_bytes o1 ho1) (cwV 0 hts gX1_understand_X8_rewind rfl rfl rfl (by decide +kernel) ⟨Nat.le_of_ble_eq_true rfl, Nat.le_of_ble_eq_true rfl⟩) (zpreWV hK (hP.sub [1, 2] rfl) (hD.sub [1, 2] (by decide) rfl) 8 0 rfl rfl) rfl rfl hl.1 rfl (lv_room (Nat.le_of_ble_eq_true rfl)) dX1_understand_26 hroom) hP hD hS hA [1, 2] [0, 3, 4] [0, 3, 4, 1, 2] rfl rfl (by decide) (by decide) rfl rfl (by decide) (fun H locs hP hD hS => ?_)
  refine zv_iconst hx hb dX1_understand_29 ?_
  refine lv_istore_n (lv' := [(3, .int (zi (0 : Int))), (0, .ref (t 0)), (1, .ref (q1 0)), (2, .ref (q2 0))]) hx hb dX1_understand_30 rfl hl (by decide) rfl (fun ls hl => ?_)
  exact (Go_s hg) H locs ls hP hD hS (lv_sub hl [1, 2, 3, 0] rfl)
set_option maxHeartbeats 4000000 in
set_option maxRecDepth 100000 in
theorem zs_X1_understand_31 {p : Program} {l : Launch} {e : Env} {s : State} {m : MethodId} {args : Array Value} {below : List Frame} {meth : Method} {c : Code} {Q : State → Prop} {cells slots : Nat} {D : va_G} {κ : Nat → ClassId} {A : Nat → Prop} {H0 : Heap} (t : Nat → Nat) (q1 : Nat → Nat) (q2 : Nat → Nat) (str : Nat) (mk : Nat) (ad : Nat → Nat → Nat) (q1_length : Int) (q1_bytes : Nat) (hx : p.tables.exec = Jvm.exec) (hb : c.code = cX1_understand) (hml : c.maxLocals = 4) (hown : s.vm.findClass RX1 = some m.cls) (hts : ∀ w ∈ wsX1_understand, w.before args s = true) (hK : va_K D vwCl (zTY κ) s) (hA : ∀ q : Nat, H0.size ≤ q → A q) (hB : zAmb D κ mk ad H0) (hBA : zApt mk ad A H0.size) (hV : vk_R RX1 47 "corners" str s) (hroom : cells ≤ zr_X1_understand.cells ∧ slots ≤ zr_X1_understand.slots) (i3 : Int) (t_faultKind : Int) (t_faultPlace : Int) (t_expected : Int) (t_first : Int) (t_polygon : Nat) (t_bits : Int) (q1_next : Int) (q1_kind : Int) (q1_place : Int) (q1_value : Int) (hg : Go (GoE (zA_X1_understand p l e s m args below meth c Q cells slots D κ A H0 t q1 q2 str mk ad q1_length q1_bytes) (zQ_X1_understand p l e s m args below meth c Q cells slots D κ A H0 t q1 q2 str mk ad q1_length q1_bytes)) (zg_X1_understand_31 mk q1_length q1_bytes i3 t_faultKind t_faultPlace t_expected t_first t_polygon t_bits q1_next q1_kind q1_place q1_value)) : zA_X1_understand_31 p l e s m args below meth c Q cells slots D κ A H0 t q1 q2 str mk ad q1_length q1_bytes i3 t_faultKind t_faultPlace t_expected t_first t_polygon t_bits q1_next q1_kind q1_place q1_value := by
  intro H locs ls hP hD hS hl
  unfold zg_X1_understand_31 at hg
  refine lv_iload_n hx hb dX1_understand_31 rfl (lv_at hl 3 rfl) ?_
  refine zv_sipush hx hb dX1_understand_32 (by decide) ?_
  obtain ⟨b2, hg⟩ := Go_n hg
  refine zv_icmp_gt (tgt := 85) hx hb dX1_understand_35 (by decide) b2 (by decide) (fun c13 => ?_) (fun c13 => ?_)
  · have hg := Go_t c13 hg
    refine lv_aload_n hx hb dX1_understand_85 rfl (lv_at hl 0 rfl) ?_
    by_cases c3 : t_polygon = 0
    · have hg := Go_t c3 hg
      refine va_get (D := D) (ci := 1) (v := .null) (C := RX1) (T := TX1) (N := 6) hx hb hts zi_X1_understand_X1 hown hK hP 0 rfl rfl 4 (by decide) (hts (.fieldLink RX1 18 "DiamondRows$CutText" "polygon" "LDiamondRows$Polygon;") zl_X1_understand_18) (fun _ h9 => h9) (zpg_null c3) dX1_understand_86 ?_
      refine lv_ifnullN (tgt := 96) hx hb dX1_understand_89 (by decide) ?_
      refine zv_iconst hx hb dX1_understand_96 ?_
      exact (Go_s hg) _ _ _ _ hP hD hS dX1_understand_97
    · have hg := Go_f c3 hg
      refine va_get (D := D) (ci := 1) (v := .ref (ad t_polygon 0)) (C := RX1) (T := TX1) (N := 6) hx hb hts zi_X1_understand_X1 hown hK hP 0 rfl rfl 4 (by decide) (hts (.fieldLink RX1 18 "DiamondRows$CutText" "polygon" "LDiamondRows$Polygon;") zl_X1_understand_18) (fun _ h9 => h9) (zpg_some c3) dX1_understand_86 ?_
      refine lv_ifnull hx hb dX1_understand_89 ?_
      refine zv_iconst hx hb dX1_understand_92 ?_
      refine lv_goto (tgt := 97) hx hb dX1_understand_93 (by decide) ?_
      exact (Go_s hg) _ _ _ _ hP hD hS dX1_understand_97
  · have hg := Go_f c13 hg
    refine lv_aload_n hx hb dX1_understand_38 rfl (lv_at hl 1 rfl) ?_
    obtain ⟨o4, ho4, hg⟩ := Go_b hg
    refine zj_v (wr := [((t 0), .inr (1, [.int (zi t_faultKind), .int (zi t_faultPlace), .int (zi t_expected), .int (zi t_first), zpg ad t_polygon, .int (zi t_bits)])), ((q2 0), .inr (6, [.ref (q2 1)])), ((q2 1), .inl (κ 4, 6, .inr (.inr (.inr (.inr (zmade mk ad))))))]) (ws1 := [((t 0), .inr (1, [.int (zi t_faultKind), .int (zi t_faultPlace), .int (zi t_expected), .int (zi t_first), zpg ad t_polygon, .int (zi t_bits)])), ((q1 0), .inr (8, [.ref (q1 1), .int (zi q1_length), .int (zi (o4.1)), .int (zi (o4.2.1)), .int (zi (o4.2.2.1)), .int (zi (o4.2.2.2))])), ((q1 1), .inl (κ 0, 300, .inl (zc q1_bytes))), ((q2 0), .inr (6, [.ref (q2 1)])), ((q2 1), .inl (κ 4, 6, .inr (.inr (.inr (.inr (zmade mk ad))))))]) (va_runV (rest := []) ⟨hx, hb, hml, hown, hts⟩ (zc_X8_readToken l D κ q1 H.size q1_length q1_next q1_kind q1_place q1_value q1_bytes o4 ho4) (cwV 0 hts gX1_understand_X8_readToken rfl rfl rfl (by decide +kernel) ⟨Nat.le_of_ble_eq_true rfl, Nat.le_of_ble_eq_true rfl⟩) (zpreWV hK (hP.sub [1, 2] rfl) (hD.sub [1, 2] (by decide) rfl) 8 0 rfl rfl) rfl rfl hl.1 rfl (lv_room (Nat.le_of_ble_eq_true rfl)) dX1_understand_39 hroom) hP hD hS hA [1, 2] [0, 3, 4] [0, 3, 4, 1, 2] rfl rfl (by decide) (by decide) rfl rfl (by decide) (fun H locs hP hD hS => ?_)
    refine lv_aload_n hx hb dX1_understand_42 rfl (lv_at hl 0 rfl) ?_
    refine lv_aload_n hx hb dX1_understand_43 rfl (lv_at hl 0 rfl) ?_
    refine lv_aload_n hx hb dX1_understand_44 rfl (lv_at hl 1 rfl) ?_
    refine lv_aload_n hx hb dX1_understand_45 rfl (lv_at hl 2 rfl) ?_
    obtain ⟨o5, ho5, hg⟩ := Go_b hg
    refine zj_i (wr := []) (ws1 := [((t 0), .inr (1, [.int (zi t_faultKind), .int (zi t_faultPlace), .int (zi (o5.2.1)), .int (zi (o5.2.2.1)), zpg ad t_polygon, .int (zi (o5.2.2.2))])), ((q1 0), .inr (8, [.ref (q1 1), .int (zi q1_length), .int (zi (o4.1)), .int (zi (o4.2.1)), .int (zi (o4.2.2.1)), .int (zi (o4.2.2.2))])), ((q1 1), .inl (κ 0, 300, .inl (zc q1_bytes))), ((q2 0), .inr (6, [.ref (q2 1)])), ((q2 1), .inl (κ 4, 6, .inr (.inr (.inr (.inr (zmade mk ad))))))]) (va_runV (rest := [.ref (t 0)]) ⟨hx, hb, hml, hown, hts⟩ (zc_X1_takeToken l D κ t q1 q2 str mk ad H.size t_faultKind t_faultPlace t_expected t_first t_polygon t_bits q1_length (o4.1) (o4.2.1) (o4.2.2.1) (o4.2.2.2) q1_bytes o5 ho5) (cwV 2 hts gX1_understand_X1_takeToken rfl rfl rfl (by decide +kernel) ⟨Nat.le_of_ble_eq_true rfl, Nat.le_of_ble_eq_true rfl⟩) (zpreStr hV (zpreWVa hK (hP.sub [0, 1, 2, 3, 4] rfl) (hD.sub [0, 1, 2, 3, 4] (by decide) rfl) (zamb hB hBA hS) (zapt hBA hS (va_free hD hS hA [0, 1, 2, 3, 4] rfl)) 1 0 rfl rfl)) rfl rfl hl.1 rfl (lv_room (Nat.le_of_ble_eq_true rfl)) dX1_understand_46 hroom) hP hD hS hA [0, 1, 2, 3, 4] [] [0, 1, 2, 3, 4] rfl rfl (by decide) (by decide) rfl rfl (by decide) (fun H locs hP hD hS => ?_)
    refine va_put (D := D) (ci := 1) (v := .int (zi (o5.1))) (ty := .int) (C := RX1) (T := TX1) (N := 6) hx hb hts zi_X1_understand_X1 tyX1 tyX1_ok nmX1 hown hK hP hD hS 0 rfl rfl 0 (by decide) (hts (.fieldLink RX1 15 "DiamondRows$CutText" "faultKind" "I") zl_X1_understand_15) (fun _ h9 => h9) rfl (by decide +kernel) rfl rfl (Nat.le_of_ble_eq_true rfl) dX1_understand_49 (fun H locs hP hD hS => ?_)
    have hP : va_P D vwCl ([((t 0), .inr (1, [.int (zi (o5.1)), .int (zi t_faultPlace), .int (zi (o5.2.1)), .int (zi (o5.2.2.1)), zpg ad t_polygon, .int (zi (o5.2.2.2))])), ((q1 0), .inr (8, [.ref (q1 1), .int (zi q1_length), .int (zi (o4.1)), .int (zi (o4.2.1)), .int (zi (o4.2.2.1)), .int (zi (o4.2.2.2))])), ((q1 1), .inl (κ 0, 300, .inl (zc q1_bytes))), ((q2 0), .inr (6, [.ref (q2 1)])), ((q2 1), .inl (κ 4, 6, .inr (.inr (.inr (.inr (zmade mk ad))))))]) H := hP
    have hD : va_D A ([((t 0), .inr (1, [.int (zi (o5.1)), .int (zi t_faultPlace), .int (zi (o5.2.1)), .int (zi (o5.2.2.1)), zpg ad t_polygon, .int (zi (o5.2.2.2))])), ((q1 0), .inr (8, [.ref (q1 1), .int (zi q1_length), .int (zi (o4.1)), .int (zi (o4.2.1)), .int (zi (o4.2.2.1)), .int (zi (o4.2.2.2))])), ((q1 1), .inl (κ 0, 300, .inl (zc q1_bytes))), ((q2 0), .inr (6, [.ref (q2 1)])), ((q2 1), .inl (κ 4, 6, .inr (.inr (.inr (.inr (zmade mk ad))))))]) := hD
    refine lv_aload_n hx hb dX1_understand_52 rfl (lv_at hl 0 rfl) ?_
    refine va_get (D := D) (ci := 1) (v := .int (zi (o5.1))) (C := RX1) (T := TX1) (N := 6) hx hb hts zi_X1_understand_X1 hown hK hP 0 rfl rfl 0 (by decide) (hts (.fieldLink RX1 15 "DiamondRows$CutText" "faultKind" "I") zl_X1_understand_15) (fun _ h9 => h9) rfl dX1_understand_53 ?_
    obtain ⟨b6, hg⟩ := Go_n hg
    refine zv_if_eq (tgt := 69) hx hb dX1_understand_56 (by decide) b6 (fun c12 => ?_) (fun c12 => ?_)
    · have hg := Go_t c12 hg
      refine lv_aload_n hx hb dX1_understand_69 rfl (lv_at hl 1 rfl) ?_
      obtain ⟨o7, ho7, hg⟩ := Go_b hg
      refine zc_vi (rest := []) ⟨hx, hb, hml, hown, hts⟩ (zc_X8_kind l D κ q1 q1_length (o4.1) (o4.2.1) (o4.2.2.1) (o4.2.2.2) q1_bytes o7 ho7) (cwV 0 hts gX1_understand_X8_kind rfl rfl rfl (by decide +kernel) ⟨Nat.le_of_ble_eq_true rfl, Nat.le_of_ble_eq_true rfl⟩) (zpreV hK (hP.sub [1, 2] rfl) 8 0 rfl rfl) rfl hl.1 rfl (Nat.le_of_ble_eq_true rfl) dX1_understand_70 hroom ?_
      obtain ⟨b8, hg⟩ := Go_n hg
      refine zv_if_ne (tgt := 79) hx hb dX1_understand_73 (by decide) b8 (fun c10 => ?_) (fun c10 => ?_)
      · have hg := Go_f c10 hg
        refine lv_iinc (v := zi (i3 + (1 : Int))) (lv' := [(3, .int (zi (i3 + (1 : Int)))), (0, .ref (t 0)), (1, .ref (q1 0)), (2, .ref (q2 0))]) hx hb dX1_understand_79 hl (k := 3) rfl (zi_add i3 _) (by decide) rfl (fun ls hl => ?_)
        refine lv_goto (tgt := 31) hx hb dX1_understand_82 (by decide) ?_
        exact (Go_s hg) H locs ls hP hD hS (lv_sub hl [1, 2, 3, 0] rfl)
      · have hg := Go_t c10 hg
        refine lv_goto (tgt := 85) hx hb dX1_understand_76 (by decide) ?_
        refine lv_aload_n hx hb dX1_understand_85 rfl (lv_at hl 0 rfl) ?_
        by_cases c9 : t_polygon = 0
        · have hg := Go_t c9 hg
          refine va_get (D := D) (ci := 1) (v := .null) (C := RX1) (T := TX1) (N := 6) hx hb hts zi_X1_understand_X1 hown hK hP 0 rfl rfl 4 (by decide) (hts (.fieldLink RX1 18 "DiamondRows$CutText" "polygon" "LDiamondRows$Polygon;") zl_X1_understand_18) (fun _ h9 => h9) (zpg_null c9) dX1_understand_86 ?_
          refine lv_ifnullN (tgt := 96) hx hb dX1_understand_89 (by decide) ?_
          refine zv_iconst hx hb dX1_understand_96 ?_
          exact (Go_s hg) _ _ _ _ hP hD hS dX1_understand_97
        · have hg := Go_f c9 hg
          refine va_get (D := D) (ci := 1) (v := .ref (ad t_polygon 0)) (C := RX1) (T := TX1) (N := 6) hx hb hts zi_X1_understand_X1 hown hK hP 0 rfl rfl 4 (by decide) (hts (.fieldLink RX1 18 "DiamondRows$CutText" "polygon" "LDiamondRows$Polygon;") zl_X1_understand_18) (fun _ h9 => h9) (zpg_some c9) dX1_understand_86 ?_
          refine lv_ifnull hx hb dX1_understand_89 ?_
          refine zv_iconst hx hb dX1_understand_92 ?_
          refine lv_goto (tgt := 97) hx hb dX1_understand_93 (by decide) ?_
          exact (Go_s hg) _ _ _ _ hP hD hS dX1_understand_97
    · have hg := Go_f c12 hg
      refine lv_aload_n hx hb dX1_understand_59 rfl (lv_at hl 0 rfl) ?_
      refine lv_aload_n hx hb dX1_understand_60 rfl (lv_at hl 1 rfl) ?_
      obtain ⟨o11, ho11, hg⟩ := Go_b hg
      refine zc_vi (rest := [.ref (t 0)]) ⟨hx, hb, hml, hown, hts⟩ (zc_X8_place l D κ q1 q1_length (o4.1) (o4.2.1) (o4.2.2.1) (o4.2.2.2) q1_bytes o11 ho11) (cwV 0 hts gX1_understand_X8_place rfl rfl rfl (by decide +kernel) ⟨Nat.le_of_ble_eq_true rfl, Nat.le_of_ble_eq_true rfl⟩) (zpreV hK (hP.sub [1, 2] rfl) 8 0 rfl rfl) rfl hl.1 rfl (Nat.le_of_ble_eq_true rfl) dX1_understand_61 hroom ?_
      refine va_put (D := D) (ci := 1) (v := .int (zi o11)) (ty := .int) (C := RX1) (T := TX1) (N := 6) hx hb hts zi_X1_understand_X1 tyX1 tyX1_ok nmX1 hown hK hP hD hS 0 rfl rfl 1 (by decide) (hts (.fieldLink RX1 9 "DiamondRows$CutText" "faultPlace" "I") zl_X1_understand_9) (fun _ h9 => h9) rfl (by decide +kernel) rfl rfl (Nat.le_of_ble_eq_true rfl) dX1_understand_64 (fun H locs hP hD hS => ?_)
      have hP : va_P D vwCl ([((t 0), .inr (1, [.int (zi (o5.1)), .int (zi o11), .int (zi (o5.2.1)), .int (zi (o5.2.2.1)), zpg ad t_polygon, .int (zi (o5.2.2.2))])), ((q1 0), .inr (8, [.ref (q1 1), .int (zi q1_length), .int (zi (o4.1)), .int (zi (o4.2.1)), .int (zi (o4.2.2.1)), .int (zi (o4.2.2.2))])), ((q1 1), .inl (κ 0, 300, .inl (zc q1_bytes))), ((q2 0), .inr (6, [.ref (q2 1)])), ((q2 1), .inl (κ 4, 6, .inr (.inr (.inr (.inr (zmade mk ad))))))]) H := hP
      have hD : va_D A ([((t 0), .inr (1, [.int (zi (o5.1)), .int (zi o11), .int (zi (o5.2.1)), .int (zi (o5.2.2.1)), zpg ad t_polygon, .int (zi (o5.2.2.2))])), ((q1 0), .inr (8, [.ref (q1 1), .int (zi q1_length), .int (zi (o4.1)), .int (zi (o4.2.1)), .int (zi (o4.2.2.1)), .int (zi (o4.2.2.2))])), ((q1 1), .inl (κ 0, 300, .inl (zc q1_bytes))), ((q2 0), .inr (6, [.ref (q2 1)])), ((q2 1), .inl (κ 4, 6, .inr (.inr (.inr (.inr (zmade mk ad))))))]) := hD
      refine zv_iconst hx hb dX1_understand_67 ?_
      exact (Go_s hg) _ _ _ _ hP hD hS dX1_understand_68
set_option maxHeartbeats 4000000 in
set_option maxRecDepth 100000 in
theorem zw_X1_understand {p : Program} {l : Launch} {e : Env} {s : State} {m : MethodId} {args : Array Value} {below : List Frame} {meth : Method} {c : Code} {Q : State → Prop} {cells slots : Nat} {D : va_G} {κ : Nat → ClassId} {A : Nat → Prop} {H0 : Heap} (t : Nat → Nat) (q1 : Nat → Nat) (q2 : Nat → Nat) (str : Nat) (mk : Nat) (ad : Nat → Nat → Nat) (q1_length : Int) (q1_bytes : Nat) (hx : p.tables.exec = Jvm.exec) (hb : c.code = cX1_understand) (hml : c.maxLocals = 4) (hown : s.vm.findClass RX1 = some m.cls) (hts : ∀ w ∈ wsX1_understand, w.before args s = true) (hK : va_K D vwCl (zTY κ) s) (hA : ∀ q : Nat, H0.size ≤ q → A q) (hB : zAmb D κ mk ad H0) (hBA : zApt mk ad A H0.size) (hV : vk_R RX1 47 "corners" str s) (hroom : cells ≤ zr_X1_understand.cells ∧ slots ≤ zr_X1_understand.slots) (out : Bool × Int × Int × Int × Int × Nat × Int × Int × Int × Int × Int) (n : Nat) (st : zS_X1_understand) (h : jrun (zg_X1_understand mk q1_length q1_bytes) n st = some out) (hq : zQ_X1_understand p l e s m args below meth c Q cells slots D κ A H0 t q1 q2 str mk ad q1_length q1_bytes out) : zA_X1_understand p l e s m args below meth c Q cells slots D κ A H0 t q1 q2 str mk ad q1_length q1_bytes st := by
  have hst : ∀ st : zS_X1_understand, Go (GoE (zA_X1_understand p l e s m args below meth c Q cells slots D κ A H0 t q1 q2 str mk ad q1_length q1_bytes) (zQ_X1_understand p l e s m args below meth c Q cells slots D κ A H0 t q1 q2 str mk ad q1_length q1_bytes)) (zg_X1_understand mk q1_length q1_bytes st) → zA_X1_understand p l e s m args below meth c Q cells slots D κ A H0 t q1 q2 str mk ad q1_length q1_bytes st := by
    intro st hg
    obtain ⟨lab, i3, t_faultKind, t_faultPlace, t_expected, t_first, t_polygon, t_bits, q1_next, q1_kind, q1_place, q1_value⟩ := st
    by_cases h0 : lab = 0
    · subst h0
      exact zs_X1_understand_0 t q1 q2 str mk ad q1_length q1_bytes hx hb hml hown hts hK hA hB hBA hV hroom i3 t_faultKind t_faultPlace t_expected t_first t_polygon t_bits q1_next q1_kind q1_place q1_value hg
    by_cases h31 : lab = 31
    · subst h31
      exact zs_X1_understand_31 t q1 q2 str mk ad q1_length q1_bytes hx hb hml hown hts hK hA hB hBA hV hroom i3 t_faultKind t_faultPlace t_expected t_first t_polygon t_bits q1_next q1_kind q1_place q1_value hg
    have hz : zg_X1_understand mk q1_length q1_bytes (lab, i3, t_faultKind, t_faultPlace, t_expected, t_first, t_polygon, t_bits, q1_next, q1_kind, q1_place, q1_value) = none := by simp [zg_X1_understand, h0, h31]
    rw [hz] at hg
    obtain ⟨a, h1, -⟩ := hg
    cases h1
  exact jwalk (At := zA_X1_understand p l e s m args below meth c Q cells slots D κ A H0 t q1 q2 str mk ad q1_length q1_bytes) (Ret := zQ_X1_understand p l e s m args below meth c Q cells slots D κ A H0 t q1 q2 str mk ad q1_length q1_bytes) hst n st out h hq

abbrev zTX (κ : Nat → ClassId) (t q1 q2 : Nat → Nat) (mk : Nat) (ad : Nat → Nat → Nat) (fk fp ex fi : Int) (pol : Nat) (bi len nx kd pl va : Int) (by_ : Nat) : va_W := [((t 0), .inr (1, [.int (zi fk), .int (zi fp), .int (zi ex), .int (zi fi), zpg ad pol, .int (zi bi)])), ((q1 0), .inr (8, [.ref (q1 1), .int (zi len), .int (zi nx), .int (zi kd), .int (zi pl), .int (zi va)])), ((q1 1), .inl (κ 0, 300, .inl (zc by_))), ((q2 0), .inr (6, [.ref (q2 1)])), ((q2 1), .inl (κ 4, 6, .inr (.inr (.inr (.inr (zmade mk ad))))))]
/-! a new beginning behind a call that made a polygon -/
theorem W_locs {p : Program} {l : Launch} {e : Env} {R : Room} {s : State} {m : MethodId} {args : Array Value} {below : List Frame} {meth : Method} {c : Code} {H : Heap} {locs locs' : List Loc} {cells slots : Nat} {Q : State → Prop} {g : JFrame} (h : ∀ y ∈ locs, y.base < s.heap.size → y ∈ locs') (kk : W p l e R s m args below meth c H locs' cells slots Q g) : W p l e R s m args below meth c H locs cells slots Q g :=
  fun T hT X => kk T hT { X with same := X.same.weaken (fun y hy hlt => h y hy hlt) (Nat.le_refl _) (Nat.le_refl _) }
theorem zrebase {p : Program} {l : Launch} {e : Env} {R : Room} {s : State} {m : MethodId} {args : Array Value} {below : List Frame} {meth : Method} {c : Code} {H0 H1 : Heap} {locs1 : List Loc} {cells slots : Nat} {Q : State → Prop} {g : JFrame} {A A1 : Nat → Prop} (h0 : s.heap.size = H0.size) (hS1 : va_S A H0 H1 locs1) (hA1 : ∀ q, q < H0.size → A q → A1 q) (kk : ∀ locs, va_S A1 H1 H1 locs → W p l e R s m args below meth c H1 locs cells slots Q g) : W p l e R s m args below meth c H1 locs1 cells slots Q g := by
  refine W_locs (locs' := locs1.filter (fun y => decide (y.base < s.heap.size))) (fun y hy hlt => List.mem_filter.mpr ⟨hy, decide_eq_true hlt⟩) (kk _ ⟨Nat.le_refl _, fun _ _ _ => rfl, fun l hl => ?_⟩)
  obtain ⟨h1, h2⟩ := List.mem_filter.mp hl
  exact hA1 _ (by rw [← h0]; exact of_decide_eq_true h2) (hS1.2.2 l h1)
theorem zback {A A1 : Nat → Prop} {H0 H1 H : Heap} {locs1 locs : List Loc} (hS1 : va_S A H0 H1 locs1) (hS : va_S A1 H1 H locs) (hAA : ∀ q, A1 q → A q) : va_S A H0 H locs :=
  ⟨Nat.le_trans hS1.1 hS.1, fun q hq hn => by rw [hS.2.1 q (Nat.lt_of_lt_of_le hq hS1.1) (fun z => hn (hAA q z))]; exact hS1.2.1 q hq hn, fun l hl => hAA _ (hS.2.2 l hl)⟩
theorem zA_same {w w1 : va_W} (h : w.map Prod.fst = w1.map Prod.fst) {sz sz1 : Nat} (hz : sz ≤ sz1) {q : Nat} (hq : va_A w1 sz1 q) : va_A w sz q := by
  rcases hq with ⟨k, e, hk⟩ | hq
  · have h1 : (w1.map Prod.fst)[k]? = some q := by rw [List.getElem?_map, hk]; rfl
    rw [← h, List.getElem?_map] at h1
    cases hw : w[k]? with
    | none => rw [hw] at h1; cases h1
    | some x =>
      rw [hw] at h1
      have e1 : x.1 = q := Option.some.inj h1
      exact Or.inl ⟨k, x.2, by rw [hw, ← e1]⟩
  · exact Or.inr (Nat.le_trans hz hq)
theorem zA_old {w w1 : va_W} (h : w.map Prod.fst = w1.map Prod.fst) {sz sz1 : Nat} {q : Nat} (hlt : q < sz) (hq : va_A w sz q) : va_A w1 sz1 q := by
  rcases hq with ⟨k, e, hk⟩ | hq
  · have h1 : (w.map Prod.fst)[k]? = some q := by rw [List.getElem?_map, hk]; rfl
    rw [h, List.getElem?_map] at h1
    cases hw : w1[k]? with
    | none => rw [hw] at h1; cases h1
    | some x =>
      rw [hw] at h1
      have e1 : x.1 = q := Option.some.inj h1
      exact Or.inl ⟨k, x.2, by rw [hw, ← e1]⟩
  · omega
theorem zD_A {A A' : Nat → Prop} {w : va_W} (h : va_D A w) (hA : ∀ (k : Nat) (q : Nat × va_E), w[k]? = some q → A' q.1) : va_D A' w := ⟨h.1, fun k q hk => hA k q hk⟩
theorem zA_self {w : va_W} {sz : Nat} : ∀ (k : Nat) (q : Nat × va_E), w[k]? = some q → va_A w sz q.1 := fun k q hk => Or.inl ⟨k, q.2, hk⟩
/-- with the text constant, what stands of it -/
def zWs (str sv : Nat) (A : Nat → Prop) (B : State → Prop) : State → Prop := fun U => (B U ∧ vk_R RX1 47 "corners" str U) ∧ zStv str sv A U U.heap
theorem zpreStr2 {s : State} {H : Heap} {C : String} {b str sv : Nat} {av As : List Value} {B : State → Prop} {A : Nat → Prop} (hT : zStv str sv A s H) (hp : PreV s H C b (va_Pc av (zWv str B)) As) : PreV s H C b (va_Pc av (zWs str sv A B)) As :=
  ⟨fun a U g mk q => ⟨(hp.1 a U g mk ⟨q.1, q.2.1⟩).1, (hp.1 a U g mk ⟨q.1, q.2.1⟩).2, zStv.moved (u := U) (U := U.calling g mk a) (Vm.Alike.refl U.vm) q.2.2⟩, hp.2.1, fun U hU hW => ⟨(hp.2.2 U hU hW).1, (hp.2.2 U hU hW).2, by rw [hU]; exact zStv.moved hW.alike hT⟩⟩
theorem zpreTw {s : State} {H : Heap} {D : va_G} {κ : Nat → ClassId} {wc : va_W} {str sv b : Nat} {C : String} {A : Nat → Prop} {As : List Value} (hK : va_K D vwCl (zTY κ) s) (hP : va_P D vwCl wc H) (hT : zStv str sv A s H) (ci q0 : Nat) {fs : List Value} {T : u_T} {N : Nat} (he : wc[q0]? = some (b, .inr (ci, fs))) (hc : vwCl[ci]? = some (C, T, N)) : PreV s H C b (va_Pc (.ref b :: As) (zRs D κ str sv wc)) As :=
  ⟨fun a U g mk q => ⟨q.1, ⟨q.2.1.1, va_K.moved (u := U) (U := U.calling g mk a) (Vm.Alike.refl U.vm) q.2.1.2⟩, zStv.moved (u := U) (U := U.calling g mk a) (Vm.Alike.refl U.vm) q.2.2⟩, va_recv hK hP hc he, fun U hU hW => ⟨rfl, ⟨by rw [hU]; exact hP, va_K.moved hW.alike hK⟩, by show zStv str sv zNo U U.heap; rw [hU]; exact (zStv.moved hW.alike hT).narrow (fun _ z => z.elim)⟩⟩
theorem bnf0 {b : Bool} (h : ¬ b = false) : b = true := by cases b <;> simp_all
abbrev zr_X1_takeTokenS : Room := { frames := 34, cells := 7, slots := 609, locals := 900 }
abbrev zr_X1_takeTokenR : Room := { frames := 34, cells := 0, slots := 0, locals := 900 }
set_option maxHeartbeats 4000000 in
set_option maxRecDepth 100000 in
theorem zc_X1_takeToken_0 (l : Launch) (D : va_G) (κ : Nat → ClassId) (t q1 q2 : Nat → Nat) (str sv : Nat) (mk : Nat) (ad : Nat → Nat → Nat) (sz : Nat) (fk fp fi : Int) (pol : Nat) (bi len nx kd pl va : Int) (by_ : Nat) (out : Bool) (h : zf_X8_isWordF len nx kd pl by_ = some out) : Met l yX1_takeToken wsX1_takeToken zr_X1_takeTokenR (va_Pc [.ref (t 0), .ref (q1 0), .ref (q2 0)] (zWs str sv (va_A (zTX κ t q1 q2 mk ad fk fp 0 fi pol bi len nx kd pl va by_) sz) (zWa D κ mk ad (zTX κ t q1 q2 mk ad fk fp 0 fi pol bi len nx kd pl va by_) sz))) (va_Qi (fun r (_ : Unit) => r = zi (if out = true then 0 else 1)) (fun _ => zB D κ (va_A (zTX κ t q1 q2 mk ad fk fp 0 fi pol bi len nx kd pl va by_) sz) (zTX κ t q1 q2 mk ad fk fp 1 fi pol bi len nx kd pl va by_)) (va_A (zTX κ t q1 q2 mk ad fk fp 0 fi pol bi len nx kd pl va by_) sz)) 0 0 (va_A (zTX κ t q1 q2 mk ad fk fp 0 fi pol bi len nx kd pl va by_) sz) := by
  refine Met.ofW (cc := cX1_takeToken) (maxL := 3) (ret := (some .int)) (by decide +kernel) rfl ?_
  intro p e s m args below meth cd s₁ B hml hv
  obtain ⟨rfl, ⟨⟨hsz, hP, hK, hD0, hB, hBA⟩, hV⟩, hst⟩ := hv
  have hx := B.exec
  have hb := B.bytes
  have hr := B.returns
  have hts := atoms_spec (ws := wsX1_takeToken) B.pre
  have hown : s.vm.findClass RX1 = some m.cls := findClass_of_methodNamed B.named
  have hlocks := B.notSynchronized
  subst hsz
  have hD := hD0.self (sz := s.heap.size)
  have hAe : ∃ A, A = va_A (zTX κ t q1 q2 mk ad fk fp 0 fi pol bi len nx kd pl va by_) s.heap.size := ⟨_, rfl⟩
  obtain ⟨A, hAe⟩ := hAe
  rw [← hAe] at hD hBA hst ⊢
  have hA : ∀ q : Nat, s.heap.size ≤ q → A q := fun q h => by rw [hAe]; exact Or.inr h
  have hS : va_S A s.heap s.heap [] := va_S.rf
  have hl := lv_entry ([.ref (t 0), .ref (q1 0), .ref (q2 0)]) (n := 3) (Nat.le_of_ble_eq_true rfl)
  rw [lg_entry_eq]
  generalize (lg_sl ([.ref (t 0), .ref (q1 0), .ref (q2 0)]) ++ List.replicate (3 - (lg_sl ([.ref (t 0), .ref (q1 0), .ref (q2 0)])).length) Slot.unset).toArray = ls at hl ⊢
  have hl : lv_has ls 3 [(0, .ref (t 0)), (1, .ref (q1 0)), (2, .ref (q2 0))] := hl
  refine lv_aload_n hx hb dX1_takeToken_0 rfl (lv_at hl 0 rfl) ?_
  refine va_get (D := D) (ci := 1) (v := .int (zi 0)) (C := RX1) (T := TX1) (N := 6) hx hb hts zi_X1_takeToken_X1 hown hK hP 0 rfl rfl 2 (by decide) (hts (.fieldLink RX1 25 "DiamondRows$CutText" "expected" "I") (by decide +kernel)) (fun _ h9 => h9) rfl dX1_takeToken_1 ?_
  refine lv_tableIn (off := 32) (tgt := 36) hx hb dX1_takeToken_4 (by decide) (by decide) (by decide) (by decide) ?_
  refine lv_aload_n hx hb dX1_takeToken_36 rfl (lv_at hl 0 rfl) ?_
  refine zv_iconst hx hb dX1_takeToken_37 ?_
  refine va_put (D := D) (ci := 1) (v := .int (zi (1 : Int))) (ty := .int) (C := RX1) (T := TX1) (N := 6) hx hb hts zi_X1_takeToken_X1 tyX1 tyX1_ok nmX1 hown hK hP hD hS 0 rfl rfl 2 (by decide) (hts (.fieldLink RX1 25 "DiamondRows$CutText" "expected" "I") (by decide +kernel)) (fun _ h9 => h9) rfl (by decide +kernel) rfl rfl (Nat.le_of_ble_eq_true rfl) dX1_takeToken_38 (fun H locs hP hD hS => ?_)
  have hP : va_P D vwCl (zTX κ t q1 q2 mk ad fk fp 1 fi pol bi len nx kd pl va by_) H := hP
  have hD : va_D A (zTX κ t q1 q2 mk ad fk fp 1 fi pol bi len nx kd pl va by_) := hD
  refine lv_aload_n hx hb dX1_takeToken_41 rfl (lv_at hl 1 rfl) ?_
  refine va_ldcS hx hb hown hV dX1_takeToken_42 ?_
  refine zc_vi (rest := []) ⟨hx, hb, hml, hown, hts⟩ (zc_X8_isWordF l D κ q1 str sv len nx kd pl va by_ out h) (cwV 1 hts gX1_takeToken_X8_isWord rfl rfl rfl (by decide +kernel) ⟨Nat.le_of_ble_eq_true rfl, Nat.le_of_ble_eq_true rfl⟩) (zpreTw hK (hP.sub [1, 2] rfl) (hst.kept hS.2.1) 8 0 rfl rfl) rfl hl.1 rfl (Nat.le_of_ble_eq_true rfl) dX1_takeToken_44 ⟨Nat.zero_le _, Nat.zero_le _⟩ ?_
  refine zv_ifb_eq (tgt := 54) hx hb dX1_takeToken_47 (by decide) (fun c4 => ?_) (fun c4 => ?_)
  · subst c4
    refine zv_iconst hx hb dX1_takeToken_54 ?_
    exact W.iret hx hb hr (fun T hT hW => ⟨⟨_, (), rfl, rfl, by rw [hT]; exact hP, va_K.moved hW.alike hK, hD⟩, hS.F hT⟩) hS.2.2 dX1_takeToken_55
  · have c4 : out = true := bnf0 c4
    subst c4
    refine zv_iconst hx hb dX1_takeToken_50 ?_
    refine lv_goto (tgt := 55) hx hb dX1_takeToken_51 (by decide) ?_
    exact W.iret hx hb hr (fun T hT hW => ⟨⟨_, (), rfl, rfl, by rw [hT]; exact hP, va_K.moved hW.alike hK, hD⟩, hS.F hT⟩) hS.2.2 dX1_takeToken_55
set_option maxHeartbeats 4000000 in
set_option maxRecDepth 100000 in
theorem zc_X1_takeToken_n (l : Launch) (D : va_G) (κ : Nat → ClassId) (t q1 q2 : Nat → Nat) (str sv : Nat) (mk : Nat) (ad : Nat → Nat → Nat) (sz : Nat) (fk fp fi bi len nx pl va : Int) (by_ : Nat) (hz : ¬ zout va) (hn : va < 4 ∨ 9 < va) : Met l yX1_takeToken wsX1_takeToken zr_X1_takeTokenR (va_Pc [.ref (t 0), .ref (q1 0), .ref (q2 0)] (zWv str (zWa D κ mk ad (zTX κ t q1 q2 mk ad fk fp 1 fi 0 bi len nx 2 pl va by_) sz))) (va_Qi (fun r (_ : Unit) => r = zi 2) (fun _ => zB D κ (va_A (zTX κ t q1 q2 mk ad fk fp 1 fi 0 bi len nx 2 pl va by_) sz) (zTX κ t q1 q2 mk ad fk fp 4 fi 0 bi len nx 2 pl va by_)) (va_A (zTX κ t q1 q2 mk ad fk fp 1 fi 0 bi len nx 2 pl va by_) sz)) 0 0 (va_A (zTX κ t q1 q2 mk ad fk fp 1 fi 0 bi len nx 2 pl va by_) sz) := by
  refine Met.ofW (cc := cX1_takeToken) (maxL := 3) (ret := (some .int)) (by decide +kernel) rfl ?_
  intro p e s m args below meth cd s₁ B hml hv
  obtain ⟨rfl, ⟨hsz, hP, hK, hD0, hB, hBA⟩, hV⟩ := hv
  have hx := B.exec
  have hb := B.bytes
  have hr := B.returns
  have hts := atoms_spec (ws := wsX1_takeToken) B.pre
  have hown : s.vm.findClass RX1 = some m.cls := findClass_of_methodNamed B.named
  have hlocks := B.notSynchronized
  subst hsz
  have hD := hD0.self (sz := s.heap.size)
  have hAe : ∃ A, A = va_A (zTX κ t q1 q2 mk ad fk fp 1 fi 0 bi len nx 2 pl va by_) s.heap.size := ⟨_, rfl⟩
  obtain ⟨A, hAe⟩ := hAe
  rw [← hAe] at hD hBA ⊢
  have hA : ∀ q : Nat, s.heap.size ≤ q → A q := fun q h => by rw [hAe]; exact Or.inr h
  have hS : va_S A s.heap s.heap [] := va_S.rf
  have hl := lv_entry ([.ref (t 0), .ref (q1 0), .ref (q2 0)]) (n := 3) (Nat.le_of_ble_eq_true rfl)
  rw [lg_entry_eq]
  generalize (lg_sl ([.ref (t 0), .ref (q1 0), .ref (q2 0)]) ++ List.replicate (3 - (lg_sl ([.ref (t 0), .ref (q1 0), .ref (q2 0)])).length) Slot.unset).toArray = ls at hl ⊢
  have hl : lv_has ls 3 [(0, .ref (t 0)), (1, .ref (q1 0)), (2, .ref (q2 0))] := hl
  refine lv_aload_n hx hb dX1_takeToken_0 rfl (lv_at hl 0 rfl) ?_
  refine va_get (D := D) (ci := 1) (v := .int (zi 1)) (C := RX1) (T := TX1) (N := 6) hx hb hts zi_X1_takeToken_X1 hown hK hP 0 rfl rfl 2 (by decide) (hts (.fieldLink RX1 25 "DiamondRows$CutText" "expected" "I") (by decide +kernel)) (fun _ h9 => h9) rfl dX1_takeToken_1 ?_
  refine lv_tableIn (off := 52) (tgt := 56) hx hb dX1_takeToken_4 (by decide) (by decide) (by decide) (by decide) ?_
  refine lv_aload_n hx hb dX1_takeToken_56 rfl (lv_at hl 0 rfl) ?_
  refine zv_iconst hx hb dX1_takeToken_57 ?_
  refine va_put (D := D) (ci := 1) (v := .int (zi (4 : Int))) (ty := .int) (C := RX1) (T := TX1) (N := 6) hx hb hts zi_X1_takeToken_X1 tyX1 tyX1_ok nmX1 hown hK hP hD hS 0 rfl rfl 2 (by decide) (hts (.fieldLink RX1 25 "DiamondRows$CutText" "expected" "I") (by decide +kernel)) (fun _ h9 => h9) rfl (by decide +kernel) rfl rfl (Nat.le_of_ble_eq_true rfl) dX1_takeToken_58 (fun H locs hP hD hS => ?_)
  have hP : va_P D vwCl (zTX κ t q1 q2 mk ad fk fp 4 fi 0 bi len nx 2 pl va by_) H := hP
  have hD : va_D A (zTX κ t q1 q2 mk ad fk fp 4 fi 0 bi len nx 2 pl va by_) := hD
  refine lv_aload_n hx hb dX1_takeToken_61 rfl (lv_at hl 1 rfl) ?_
  refine zc_vi (rest := []) ⟨hx, hb, hml, hown, hts⟩ (zc_X8_kind l D κ q1 len nx 2 pl va by_ 2 rfl) (cwV 0 hts gX1_takeToken_X8_kind rfl rfl rfl (by decide +kernel) ⟨Nat.le_of_ble_eq_true rfl, Nat.le_of_ble_eq_true rfl⟩) (zpreV hK (hP.sub [1, 2] rfl) 8 0 rfl rfl) rfl hl.1 rfl (Nat.le_of_ble_eq_true rfl) dX1_takeToken_62 ⟨Nat.zero_le _, Nat.zero_le _⟩ ?_
  refine zv_iconst hx hb dX1_takeToken_65 ?_
  refine zv_icmp_eq (tgt := 71) hx hb dX1_takeToken_66 (by decide) (by decide) (by decide) (fun _ => ?_) (fun c9 => absurd rfl c9)
  refine lv_aload_n hx hb dX1_takeToken_71 rfl (lv_at hl 0 rfl) ?_
  refine lv_aload_n hx hb dX1_takeToken_72 rfl (lv_at hl 2 rfl) ?_
  refine lv_aload_n hx hb dX1_takeToken_73 rfl (lv_at hl 1 rfl) ?_
  refine zc_vi (rest := [.ref (q2 0), .ref (t 0)]) ⟨hx, hb, hml, hown, hts⟩ (zc_X8_value l D κ q1 len nx 2 pl va by_ va rfl) (cwV 0 hts gX1_takeToken_X8_value rfl rfl rfl (by decide +kernel) ⟨Nat.le_of_ble_eq_true rfl, Nat.le_of_ble_eq_true rfl⟩) (zpreV hK (hP.sub [1, 2] rfl) 8 0 rfl rfl) rfl hl.1 rfl (Nat.le_of_ble_eq_true rfl) dX1_takeToken_74 ⟨Nat.zero_le _, Nat.zero_le _⟩ ?_
  refine zc_null (va_runV (rest := [.ref (t 0)]) ⟨hx, hb, hml, hown, hts⟩ (zc_X6_withCorners_nul l D κ q2 mk ad va hz hn) (cwV 1 hts gX1_takeToken_X6_withCorners rfl rfl rfl (by decide +kernel) ⟨Nat.le_of_ble_eq_true rfl, Nat.le_of_ble_eq_true rfl⟩) (zpreVa hK (hP.sub [3, 4] rfl) (zamb hB hBA hS) 6 0 rfl rfl) rfl rfl hl.1 rfl (lv_room (Nat.le_of_ble_eq_true rfl)) dX1_takeToken_77 ⟨Nat.zero_le _, Nat.zero_le _⟩) ?_
  refine zv_putN (ad := ad) (D := D) (ci := 1) (C := RX1) (T := TX1) (N := 6) hx hb hts zi_X1_takeToken_X1 tyX1 tyX1_ok nmX1 hown hK hP hD hS 0 rfl rfl 4 (by decide) (hts (.fieldLink RX1 18 "DiamondRows$CutText" "polygon" "LDiamondRows$Polygon;") (by decide +kernel)) (fun _ h9 => h9) rfl (by decide +kernel) (Nat.le_of_ble_eq_true rfl) dX1_takeToken_80 (fun H locs hP hD hS => ?_)
  have hP : va_P D vwCl (zTX κ t q1 q2 mk ad fk fp 4 fi 0 bi len nx 2 pl va by_) H := hP
  have hD : va_D A (zTX κ t q1 q2 mk ad fk fp 4 fi 0 bi len nx 2 pl va by_) := hD
  refine lv_aload_n hx hb dX1_takeToken_83 rfl (lv_at hl 0 rfl) ?_
  refine va_get (D := D) (ci := 1) (v := .null) (C := RX1) (T := TX1) (N := 6) hx hb hts zi_X1_takeToken_X1 hown hK hP 0 rfl rfl 4 (by decide) (hts (.fieldLink RX1 18 "DiamondRows$CutText" "polygon" "LDiamondRows$Polygon;") (by decide +kernel)) (fun _ h9 => h9) (zpg_null rfl) dX1_takeToken_84 ?_
  refine lv_ifnonnullN hx hb dX1_takeToken_87 ?_
  refine zv_iconst hx hb dX1_takeToken_90 ?_
  refine lv_goto (tgt := 95) hx hb dX1_takeToken_91 (by decide) ?_
  exact W.iret hx hb hr (fun T hT hW => ⟨⟨_, (), rfl, rfl, by rw [hT]; exact hP, va_K.moved hW.alike hK, hD⟩, hS.F hT⟩) hS.2.2 dX1_takeToken_95
set_option maxHeartbeats 4000000 in
set_option maxRecDepth 100000 in
theorem zc_X1_takeToken_m (l : Launch) (D : va_G) (κ : Nat → ClassId) (t q1 q2 : Nat → Nat) (str sv : Nat) (mk : Nat) (ad : Nat → Nat → Nat) (sz : Nat) (fk fp fi bi len nx pl : Int) (c : Nat) (by_ : Nat) (h4 : 4 ≤ c) (h9 : c ≤ 9) : Met l yX1_takeToken wsX1_takeToken zr_X1_takeTokenS (va_Pc [.ref (t 0), .ref (q1 0), .ref (q2 0)] (zWv str (zWa D κ mk ad (zTX κ t q1 q2 mk ad fk fp 1 fi 0 bi len nx 2 pl (c : Int) by_) sz))) (va_Qi (fun r (ad1 : Nat → Nat → Nat) => r = zi 0 ∧ (∀ n, ¬ zno mk n → ad1 n = ad n) ∧ (zno mk c → ∀ k, k < 7 → sz ≤ ad1 c k)) (fun ad1 u => zB D κ (va_A (zTX κ t q1 q2 mk ad fk fp 1 fi 0 bi len nx 2 pl (c : Int) by_) sz) (zTX κ t q1 q2 (zmk mk c) ad1 fk fp 4 fi c bi len nx 2 pl (c : Int) by_) u ∧ zAmb D κ (zmk mk c) ad1 u.heap) (va_A (zTX κ t q1 q2 mk ad fk fp 1 fi 0 bi len nx 2 pl (c : Int) by_) sz)) 7 609 (va_A (zTX κ t q1 q2 mk ad fk fp 1 fi 0 bi len nx 2 pl (c : Int) by_) sz) := by
  refine Met.ofW (cc := cX1_takeToken) (maxL := 3) (ret := (some .int)) (by decide +kernel) rfl ?_
  intro p e s m args below meth cd s₁ B hml hv
  obtain ⟨rfl, ⟨hsz, hP, hK, hD0, hB, hBA⟩, hV⟩ := hv
  have hx := B.exec
  have hb := B.bytes
  have hr := B.returns
  have hts := atoms_spec (ws := wsX1_takeToken) B.pre
  have hown : s.vm.findClass RX1 = some m.cls := findClass_of_methodNamed B.named
  have hlocks := B.notSynchronized
  subst hsz
  have hD := hD0.self (sz := s.heap.size)
  have hAe : ∃ A, A = va_A (zTX κ t q1 q2 mk ad fk fp 1 fi 0 bi len nx 2 pl (c : Int) by_) s.heap.size := ⟨_, rfl⟩
  obtain ⟨A, hAe⟩ := hAe
  rw [← hAe] at hD hBA ⊢
  have hA : ∀ q : Nat, s.heap.size ≤ q → A q := fun q h => by rw [hAe]; exact Or.inr h
  have hS : va_S A s.heap s.heap [] := va_S.rf
  have hl := lv_entry ([.ref (t 0), .ref (q1 0), .ref (q2 0)]) (n := 3) (Nat.le_of_ble_eq_true rfl)
  rw [lg_entry_eq]
  generalize (lg_sl ([.ref (t 0), .ref (q1 0), .ref (q2 0)]) ++ List.replicate (3 - (lg_sl ([.ref (t 0), .ref (q1 0), .ref (q2 0)])).length) Slot.unset).toArray = ls at hl ⊢
  have hl : lv_has ls 3 [(0, .ref (t 0)), (1, .ref (q1 0)), (2, .ref (q2 0))] := hl
  refine lv_aload_n hx hb dX1_takeToken_0 rfl (lv_at hl 0 rfl) ?_
  refine va_get (D := D) (ci := 1) (v := .int (zi 1)) (C := RX1) (T := TX1) (N := 6) hx hb hts zi_X1_takeToken_X1 hown hK hP 0 rfl rfl 2 (by decide) (hts (.fieldLink RX1 25 "DiamondRows$CutText" "expected" "I") (by decide +kernel)) (fun _ h9 => h9) rfl dX1_takeToken_1 ?_
  refine lv_tableIn (off := 52) (tgt := 56) hx hb dX1_takeToken_4 (by decide) (by decide) (by decide) (by decide) ?_
  refine lv_aload_n hx hb dX1_takeToken_56 rfl (lv_at hl 0 rfl) ?_
  refine zv_iconst hx hb dX1_takeToken_57 ?_
  refine va_put (D := D) (ci := 1) (v := .int (zi (4 : Int))) (ty := .int) (C := RX1) (T := TX1) (N := 6) hx hb hts zi_X1_takeToken_X1 tyX1 tyX1_ok nmX1 hown hK hP hD hS 0 rfl rfl 2 (by decide) (hts (.fieldLink RX1 25 "DiamondRows$CutText" "expected" "I") (by decide +kernel)) (fun _ h9 => h9) rfl (by decide +kernel) rfl rfl (Nat.le_of_ble_eq_true rfl) dX1_takeToken_58 (fun H locs hP hD hS => ?_)
  have hP : va_P D vwCl (zTX κ t q1 q2 mk ad fk fp 4 fi 0 bi len nx 2 pl (c : Int) by_) H := hP
  have hD : va_D A (zTX κ t q1 q2 mk ad fk fp 4 fi 0 bi len nx 2 pl (c : Int) by_) := hD
  refine lv_aload_n hx hb dX1_takeToken_61 rfl (lv_at hl 1 rfl) ?_
  refine zc_vi (rest := []) ⟨hx, hb, hml, hown, hts⟩ (zc_X8_kind l D κ q1 len nx 2 pl (c : Int) by_ 2 rfl) (cwV 0 hts gX1_takeToken_X8_kind rfl rfl rfl (by decide +kernel) ⟨Nat.le_of_ble_eq_true rfl, Nat.le_of_ble_eq_true rfl⟩) (zpreV hK (hP.sub [1, 2] rfl) 8 0 rfl rfl) rfl hl.1 rfl (Nat.le_of_ble_eq_true rfl) dX1_takeToken_62 ⟨Nat.zero_le _, Nat.zero_le _⟩ ?_
  refine zv_iconst hx hb dX1_takeToken_65 ?_
  refine zv_icmp_eq (tgt := 71) hx hb dX1_takeToken_66 (by decide) (by decide) (by decide) (fun _ => ?_) (fun c9 => absurd rfl c9)
  refine lv_aload_n hx hb dX1_takeToken_71 rfl (lv_at hl 0 rfl) ?_
  refine lv_aload_n hx hb dX1_takeToken_72 rfl (lv_at hl 2 rfl) ?_
  refine lv_aload_n hx hb dX1_takeToken_73 rfl (lv_at hl 1 rfl) ?_
  refine zc_vi (rest := [.ref (q2 0), .ref (t 0)]) ⟨hx, hb, hml, hown, hts⟩ (zc_X8_value l D κ q1 len nx 2 pl (c : Int) by_ (c : Int) rfl) (cwV 0 hts gX1_takeToken_X8_value rfl rfl rfl (by decide +kernel) ⟨Nat.le_of_ble_eq_true rfl, Nat.le_of_ble_eq_true rfl⟩) (zpreV hK (hP.sub [1, 2] rfl) 8 0 rfl rfl) rfl hl.1 rfl (Nat.le_of_ble_eq_true rfl) dX1_takeToken_74 ⟨Nat.zero_le _, Nat.zero_le _⟩ ?_
  have hS0 := hS
  have hFc := va_free (wc := zpl κ q2 mk ad) hD hS hA [3, 4] rfl
  refine va_callq (va_runV (rest := [.ref (t 0)]) ⟨hx, hb, hml, hown, hts⟩ (zc_X6_withCorners l D κ q2 mk ad H.size c h4 h9) (cwV 1 hts gX1_takeToken_X6_withCorners rfl rfl rfl (by decide +kernel) ⟨Nat.le_of_ble_eq_true rfl, Nat.le_of_ble_eq_true rfl⟩) (zpreWVa hK (hP.sub [3, 4] rfl) (hD.sub [3, 4] (by decide) rfl) (zamb hB hBA hS) (zapt hBA hS hFc) 6 0 rfl rfl) rfl rfl hl.1 rfl (lv_room (Nat.le_of_ble_eq_true rfl)) dX1_takeToken_77 ⟨Nat.le_of_ble_eq_true rfl, Nat.le_of_ble_eq_true rfl⟩) hS (fun q _ h => hFc q h) hFc (fun r ad1 T1 H1 locs1 hT1 hvm hpost hBB hz1 hk1 hS1 => ?_)
  obtain ⟨rfl, hag, hnew⟩ := hpost
  obtain ⟨⟨hP1, -, hD1⟩, hB1⟩ := hBB
  rw [hT1] at hP1 hB1
  have hP0 : va_P D vwCl (zTX κ t q1 q2 mk ad fk fp 4 fi 0 bi len nx 2 pl (c : Int) by_) H := hP
  have hDz : va_D A (zTX κ t q1 q2 mk ad fk fp 4 fi 0 bi len nx 2 pl (c : Int) by_) := hD
  obtain ⟨hP2, hD2⟩ := va_join (wr := (zTX κ t q1 q2 mk ad fk fp 4 fi 0 bi len nx 2 pl (c : Int) by_).take 3) (w1 := zpl κ q2 (zmk mk c) ad1) hP hD [3, 4] [0, 1, 2] rfl rfl (by decide) (by decide) hk1 hFc hP1 hD1
  have hP2 : va_P D vwCl (zTX κ t q1 q2 (zmk mk c) ad1 fk fp 4 fi 0 bi len nx 2 pl (c : Int) by_) H1 := hP2
  have hD2 : va_D A (zTX κ t q1 q2 (zmk mk c) ad1 fk fp 4 fi 0 bi len nx 2 pl (c : Int) by_) := hD2
  have hf : (zTX κ t q1 q2 mk ad fk fp 1 fi 0 bi len nx 2 pl (c : Int) by_).map Prod.fst = (zTX κ t q1 q2 (zmk mk c) ad1 fk fp 4 fi 0 bi len nx 2 pl (c : Int) by_).map Prod.fst := rfl
  have hz0 : s.heap.size ≤ H1.size := hS1.1
  have hap : zApt (zmk mk c) ad1 (va_A (zTX κ t q1 q2 (zmk mk c) ad1 fk fp 4 fi 0 bi len nx 2 pl (c : Int) by_) H1.size) H1.size := zapt_new (H := H) (κ := κ) (D := D) (fun n hn k hk => ⟨(hBA n hn k hk).1, Nat.lt_of_lt_of_le (hBA n hn k hk).2 hS.1⟩) hag (fun z => (hnew z).1) hz1 hB1 (fun q hq => zold_in (B := A) (wc := (zTX κ t q1 q2 (zmk mk c) ad1 fk fp 4 fi 0 bi len nx 2 pl (c : Int) by_)) (sz := H1.size) hP0 hDz (fun q hq => by rw [hAe]; exact zA_same hf hz0 hq) [0, 1, 2, 3, 4] rfl q hq)
  refine zrebase (A1 := va_A (zTX κ t q1 q2 (zmk mk c) ad1 fk fp 4 fi 0 bi len nx 2 pl (c : Int) by_) H1.size) rfl hS1 (fun q hq hAq => by rw [hAe] at hAq; exact zA_old hf hq hAq) (fun locs hS => ?_)
  have hDn : va_D (va_A (zTX κ t q1 q2 (zmk mk c) ad1 fk fp 4 fi 0 bi len nx 2 pl (c : Int) by_) H1.size) (zTX κ t q1 q2 (zmk mk c) ad1 fk fp 4 fi 0 bi len nx 2 pl (c : Int) by_) := zD_A hD2 zA_self
  refine zv_putP (D := D) (ci := 1) (C := RX1) (T := TX1) (N := 6) hx hb hts zi_X1_takeToken_X1 tyX1 tyX1_ok nmX1 hown hK hP2 hDn hS 0 rfl rfl 4 (by decide) (hts (.fieldLink RX1 18 "DiamondRows$CutText" "polygon" "LDiamondRows$Polygon;") (by decide +kernel)) (fun _ h9 => h9) rfl (by decide +kernel) (Nat.le_of_ble_eq_true rfl) (zmk_yes (mk := mk) h4 h9) dX1_takeToken_80 (fun H locs hP hD hS => ?_)
  have hP : va_P D vwCl (zTX κ t q1 q2 (zmk mk c) ad1 fk fp 4 fi c bi len nx 2 pl (c : Int) by_) H := hP
  have hD : va_D (va_A (zTX κ t q1 q2 (zmk mk c) ad1 fk fp 4 fi 0 bi len nx 2 pl (c : Int) by_) H1.size) (zTX κ t q1 q2 (zmk mk c) ad1 fk fp 4 fi c bi len nx 2 pl (c : Int) by_) := hD
  refine lv_aload_n hx hb dX1_takeToken_83 rfl (lv_at hl 0 rfl) ?_
  refine va_get (D := D) (ci := 1) (v := .ref (ad1 c 0)) (C := RX1) (T := TX1) (N := 6) hx hb hts zi_X1_takeToken_X1 hown hK hP 0 rfl rfl 4 (by decide) (hts (.fieldLink RX1 18 "DiamondRows$CutText" "polygon" "LDiamondRows$Polygon;") (by decide +kernel)) (fun _ h9 => h9) (zpg_some (by omega)) dX1_takeToken_84 ?_
  refine lv_ifnonnull (tgt := 94) hx hb dX1_takeToken_87 (by decide) ?_
  refine zv_iconst hx hb dX1_takeToken_94 ?_
  have hSb := zback hS1 hS (fun q hq => by rw [hAe]; exact zA_same hf hz0 hq)
  exact W.iret hx hb hr (fun T hT hW => ⟨⟨_, ad1, rfl, ⟨rfl, hag, fun z k hk => Nat.le_trans hS0.1 ((hnew z).1 k hk)⟩, ⟨by rw [hT]; exact hP, va_K.moved hW.alike hK, zD_A hD (fun k q hq => by rw [hAe]; exact zA_same hf hz0 (hD.2 k q hq))⟩, by rw [hT]; exact zamb hB1 hap hS⟩, hSb.F hT⟩) hSb.2.2 dX1_takeToken_95
