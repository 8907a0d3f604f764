/-! the text constant, and what String's own methods do with it -/
def zSB : List Int32 := [99, 111, 114, 110, 101, 114, 115]
def zSI : Nat → Int := fun k => match k with
  | 0 => 99
  | 1 => 111
  | 2 => 114
  | 3 => 110
  | 4 => 101
  | 5 => 114
  | 6 => 115
  | _ => 0
def zStv (str sv : Nat) (A : Nat → Prop) (U : State) (H : Heap) : Prop := va_O "java/lang/String" str A U H ∧ va_OF "java/lang/String" "coder" "B" (.int 0) str A U H ∧ va_OF "java/lang/String" "value" "[B" (.ref sv) str A U H ∧ va_T .byte sv 7 (fun j => .int (zSB.getD j 0)) A U H ∧ va_Z "java/lang/String" "COMPACT_STRINGS" "Z" (.int 1) A U H ∧ va_Zq "jdk/internal/util/Preconditions" "SIOOBE_FORMATTER" "Ljava/util/function/BiFunction;" A U H
theorem va_O.moved' {E : String} {t : Nat} {A : Nat → Prop} {u U : State} {H : Heap} (hvm : u.vm.Alike U.vm) (h : va_O E t A u H) : va_O E t A U H := va_O.moved hvm h
theorem zStv.moved {str sv : Nat} {A : Nat → Prop} {u U : State} {H : Heap} (hvm : u.vm.Alike U.vm) (h : zStv str sv A u H) : zStv str sv A U H := ⟨va_O.moved hvm h.1, va_OF.moved hvm h.2.1, va_OF.moved hvm h.2.2.1, va_T.moved hvm h.2.2.2.1, va_Z.moved hvm h.2.2.2.2.1, va_Zq.moved hvm h.2.2.2.2.2⟩
theorem zStv.kept {str sv : Nat} {A : Nat → Prop} {U : State} {H H1 : Heap} (h : zStv str sv A U H) (hq : ∀ a : Nat, a < H.size → ¬ A a → H1[a]? = H[a]?) : zStv str sv A U H1 := ⟨h.1.kept hq, h.2.1.kept hq, h.2.2.1.kept hq, h.2.2.2.1.kept hq, h.2.2.2.2.1.kept hq, h.2.2.2.2.2.kept hq⟩
theorem zStv.narrow {str sv : Nat} {A B : Nat → Prop} {U : State} {H : Heap} (h : zStv str sv A U H) (hAB : ∀ q, B q → A q) : zStv str sv B U H := ⟨h.1.narrow hAB, h.2.1.narrow hAB, h.2.2.1.narrow hAB, h.2.2.2.1.narrow hAB, h.2.2.2.2.1.narrow hAB, h.2.2.2.2.2.narrow hAB⟩
abbrev zNo : Nat → Prop := fun _ => False
def zSt0 (str sv : Nat) : State → Prop := fun U => zStv str sv zNo U U.heap
theorem zSt0_blind {av : List Value} {str sv : Nat} : FrameBlind (va_Pc av (zSt0 str sv)) := fun a U g mk q => ⟨q.1, zStv.moved (u := U) (U := U.calling g mk a) (Vm.Alike.refl U.vm) q.2⟩
theorem zSt0_recv {str sv : Nat} {A : Nat → Prop} {s : State} {H : Heap} (h : zStv str sv A s H) : ∃ cell : Cell, H[str]? = some cell ∧ cell.vm.isStatics = false ∧ s.vm.findClass "java/lang/String" = some cell.cls := by
  obtain ⟨cell, h1, h2, h3, -⟩ := h.1
  exact ⟨cell, h1, h2, h3⟩
theorem zpreT {s : State} {H : Heap} {str sv : Nat} {A : Nat → Prop} {As : List Value} (h : zStv str sv A s H) : PreV s H RJ0 str (va_Pc (.ref str :: As) (zSt0 str sv)) As :=
  ⟨zSt0_blind, zSt0_recv h, fun U hU hW => ⟨rfl, by show zStv str sv zNo U U.heap; rw [hU]; exact (zStv.moved hW.alike h).narrow (fun _ z => z.elim)⟩⟩
theorem zpreTs {s : State} {H : Heap} {str sv : Nat} {A : Nat → Prop} {As : List Value} (h : zStv str sv A s H) : PreS s H (va_Pc As (zSt0 str sv)) As :=
  ⟨zSt0_blind, fun U hU hW => ⟨rfl, by show zStv str sv zNo U U.heap; rw [hU]; exact (zStv.moved hW.alike h).narrow (fun _ z => z.elim)⟩⟩
def zSv : Array Value → State → Outcome → State → Prop := fun _ st o t => o = .returned none ∧ t.heap = st.heap
theorem zc_sv {p : Program} {l : Launch} {e : Env} {R : Room} {s : State} {m : MethodId} {args : Array Value} {below : List Frame} {meth : Method} {c : Code} {H : Heap} {locs : List Loc} {cells slots : Nat} {Q : State → Prop} {ls : Array Slot} {pc : Nat} {st0 rest : List Value} {a : Array Value} (hr : va_Run p l e R s m args below meth c H locs cells slots 0 0 (F0 m pc ls st0) rest (zSv a) (fun _ => False))
    (kk : W p l e R s m args below meth c H locs cells slots Q (F0 m (pc + 3) ls rest)) : W p l e R s m args below meth c H locs cells slots Q (F0 m pc ls st0) := by
  intro T hT X
  obtain ⟨v, st₀, t, T', L, h0, X', hL, e1, e2, ⟨hv, hh⟩, st⟩ := hr T hT X
  cases hv
  obtain ⟨t2, a1, b1⟩ := kk T' (by rw [e1, hh, h0]) (Stand.forget X' (fun q h => (hL q h).elim))
  exact ⟨t2, st t2 a1, b1⟩
theorem zSB_at (k : Nat) (hk : k < 7) : zSB.getD k 0 = zi (zSI k) := by
  have h : k = 0 ∨ k = 1 ∨ k = 2 ∨ k = 3 ∨ k = 4 ∨ k = 5 ∨ k = 6 := by omega
  rcases h with rfl | rfl | rfl | rfl | rfl | rfl | rfl <;> decide
theorem zSI_and (k : Nat) (hk : k < 7) : zand (zSI k) 255 = zSI k := by
  have h : k = 0 ∨ k = 1 ∨ k = 2 ∨ k = 3 ∨ k = 4 ∨ k = 5 ∨ k = 6 := by omega
  rcases h with rfl | rfl | rfl | rfl | rfl | rfl | rfl <;> decide
theorem zSI_c (k : Nat) (hk : k < 7) : ((zi (zSI k)).toUInt32 % 65536).toInt32 = zi (zSI k) := by
  have h : k = 0 ∨ k = 1 ∨ k = 2 ∨ k = 3 ∨ k = 4 ∨ k = 5 ∨ k = 6 := by omega
  rcases h with rfl | rfl | rfl | rfl | rfl | rfl | rfl <;> decide
theorem zSI_n (k : Nat) (hk : k < 7) : narrow .char (.int (zi (zSI k))) = .int (zi (zSI k)) := by
  have h : k = 0 ∨ k = 1 ∨ k = 2 ∨ k = 3 ∨ k = 4 ∨ k = 5 ∨ k = 6 := by omega
  rcases h with rfl | rfl | rfl | rfl | rfl | rfl | rfl <;> rfl
theorem zSI_in (k : Nat) : ¬ zout (zSI k) := by
  unfold zSI
  split <;> decide
abbrev zr_J0_coder_7d493 : Room := { frames := 0, cells := 0, slots := 0, locals := 0 }
set_option maxHeartbeats 4000000 in
set_option maxRecDepth 100000 in
theorem zc_J0_coder_7d493 (l : Launch) (str sv : Nat)  : Met l yJ0_coder_7d493 wsJ0_coder_7d493 zr_J0_coder_7d493 (va_Pc [.ref str] (zSt0 str sv)) (vp_Si (fun x => x = 0)) 0 0 (fun _ => False) := by
  refine zofW (cc := cJ0_coder_7d493) (maxL := 1) (ret := (some .byte)) (by decide +kernel) rfl ?_
  intro p e s m args below meth c s₁ B hml hv
  obtain ⟨rfl, hst⟩ := hv
  have hx := B.exec
  have hb := B.bytes
  have hr := B.returns
  have hts := atoms_spec (ws := wsJ0_coder_7d493) B.pre
  have hown : s.vm.findClass RJ0 = some m.cls := findClass_of_methodNamed B.named
  have hlocks := B.notSynchronized
  have hl := lv_entry ([.ref str]) (n := 1) (Nat.le_of_ble_eq_true rfl)
  rw [lg_entry_eq]
  generalize (lg_sl ([.ref str]) ++ List.replicate (1 - (lg_sl ([.ref str])).length) Slot.unset).toArray = ls at hl ⊢
  have hl : lv_has ls 1 [(0, .ref str)] := hl
  have hS : va_S zNo s.heap s.heap [] := va_S.rf
  refine va_gets (A := zNo) hx hb hst.2.2.2.2.1 hS hown (hts (.fieldLink RJ0 38 "java/lang/String" "COMPACT_STRINGS" "Z") (by decide +kernel)) (fun _ h9 => h9) dJ0_coder_7d493_0 ?_
  refine lv_if_eq (tgt := 13) hx hb dJ0_coder_7d493_3 (by decide) (fun h => absurd h (by decide)) (fun _ => ?_)
  refine lv_aload_n hx hb dJ0_coder_7d493_6 rfl (lv_at hl 0 rfl) ?_
  refine vk_getf (A := zNo) hx hb hst.2.1 hS hown (hts (.fieldLink RJ0 15 "java/lang/String" "coder" "B") (by decide +kernel)) (fun _ h9 => h9) dJ0_coder_7d493_7 ?_
  refine lv_goto (tgt := 14) hx hb dJ0_coder_7d493_10 (by decide) ?_
  exact W.zret hx hb hr rfl (fun t ht hW => ⟨_, rfl, rfl, ht⟩) (fun _ h => by cases h) dJ0_coder_7d493_14
abbrev zr_J0_isLatin1_aae02 : Room := { frames := 0, cells := 0, slots := 0, locals := 0 }
set_option maxHeartbeats 4000000 in
set_option maxRecDepth 100000 in
theorem zc_J0_isLatin1_aae02 (l : Launch) (str sv : Nat)  : Met l yJ0_isLatin1_aae02 wsJ0_isLatin1_aae02 zr_J0_isLatin1_aae02 (va_Pc [.ref str] (zSt0 str sv)) (vp_Si (fun x => x = 1)) 0 0 (fun _ => False) := by
  refine zofW (cc := cJ0_isLatin1_aae02) (maxL := 1) (ret := (some .boolean)) (by decide +kernel) rfl ?_
  intro p e s m args below meth c s₁ B hml hv
  obtain ⟨rfl, hst⟩ := hv
  have hx := B.exec
  have hb := B.bytes
  have hr := B.returns
  have hts := atoms_spec (ws := wsJ0_isLatin1_aae02) B.pre
  have hown : s.vm.findClass RJ0 = some m.cls := findClass_of_methodNamed B.named
  have hlocks := B.notSynchronized
  have hl := lv_entry ([.ref str]) (n := 1) (Nat.le_of_ble_eq_true rfl)
  rw [lg_entry_eq]
  generalize (lg_sl ([.ref str]) ++ List.replicate (1 - (lg_sl ([.ref str])).length) Slot.unset).toArray = ls at hl ⊢
  have hl : lv_has ls 1 [(0, .ref str)] := hl
  have hS : va_S zNo s.heap s.heap [] := va_S.rf
  refine va_gets (A := zNo) hx hb hst.2.2.2.2.1 hS hown (hts (.fieldLink RJ0 38 "java/lang/String" "COMPACT_STRINGS" "Z") (by decide +kernel)) (fun _ h9 => h9) dJ0_isLatin1_aae02_0 ?_
  refine lv_if_eq (tgt := 17) hx hb dJ0_isLatin1_aae02_3 (by decide) (fun h => absurd h (by decide)) (fun _ => ?_)
  refine lv_aload_n hx hb dJ0_isLatin1_aae02_6 rfl (lv_at hl 0 rfl) ?_
  refine vk_getf (A := zNo) hx hb hst.2.1 hS hown (hts (.fieldLink RJ0 15 "java/lang/String" "coder" "B") (by decide +kernel)) (fun _ h9 => h9) dJ0_isLatin1_aae02_7 ?_
  refine lv_if_ne (tgt := 17) hx hb dJ0_isLatin1_aae02_10 (by decide) (fun h => absurd rfl h) (fun _ => ?_)
  refine lv_iconst (v := 1) hx hb dJ0_isLatin1_aae02_13 (by decide) ?_
  refine lv_goto (tgt := 18) hx hb dJ0_isLatin1_aae02_14 (by decide) ?_
  exact W.zret hx hb hr rfl (fun t ht hW => ⟨_, rfl, rfl, ht⟩) (fun _ h => by cases h) dJ0_isLatin1_aae02_18
abbrev zr_J0_length_8abf5 : Room := { frames := 1, cells := 0, slots := 0, locals := 20 }
set_option maxHeartbeats 4000000 in
set_option maxRecDepth 100000 in
theorem zc_J0_length_8abf5 (l : Launch) (str sv : Nat)  : Met l yJ0_length_8abf5 wsJ0_length_8abf5 zr_J0_length_8abf5 (va_Pc [.ref str] (zSt0 str sv)) (vp_Si (fun x => x = zi 7)) 0 0 (fun _ => False) := by
  refine zofW (cc := cJ0_length_8abf5) (maxL := 1) (ret := (some .int)) (by decide +kernel) rfl ?_
  intro p e s m args below meth c s₁ B hml hv
  obtain ⟨rfl, hst⟩ := hv
  have hx := B.exec
  have hb := B.bytes
  have hr := B.returns
  have hts := atoms_spec (ws := wsJ0_length_8abf5) B.pre
  have hown : s.vm.findClass RJ0 = some m.cls := findClass_of_methodNamed B.named
  have hlocks := B.notSynchronized
  have hl := lv_entry ([.ref str]) (n := 1) (Nat.le_of_ble_eq_true rfl)
  rw [lg_entry_eq]
  generalize (lg_sl ([.ref str]) ++ List.replicate (1 - (lg_sl ([.ref str])).length) Slot.unset).toArray = ls at hl ⊢
  have hl : lv_has ls 1 [(0, .ref str)] := hl
  have hS : va_S zNo s.heap s.heap [] := va_S.rf
  refine lv_aload_n hx hb dJ0_length_8abf5_0 rfl (lv_at hl 0 rfl) ?_
  refine vk_getf (A := zNo) hx hb hst.2.2.1 hS hown (hts (.fieldLink RJ0 9 "java/lang/String" "value" "[B") (by decide +kernel)) (fun _ h9 => h9) dJ0_length_8abf5_1 ?_
  refine va_tlen (A := zNo) (v := zi 7) hx hb hst.2.2.2.1 hS (by decide) dJ0_length_8abf5_4 ?_
  refine lv_aload_n hx hb dJ0_length_8abf5_5 rfl (lv_at hl 0 rfl) ?_
  refine zc_vi (rest := [.int (zi 7)]) ⟨hx, hb, hml, hown, hts⟩ (zc_J0_coder_7d493 l str sv) (cwV 0 hts gJ0_length_8abf5_J0_coder_7d493 rfl rfl rfl (by decide +kernel) ⟨Nat.le_of_ble_eq_true rfl, Nat.le_of_ble_eq_true rfl⟩) (zpreT hst) rfl hl.1 rfl (Nat.le_of_ble_eq_true rfl) dJ0_length_8abf5_6 ⟨Nat.zero_le _, Nat.zero_le _⟩ ?_
  refine zv_ishr (x := 7) (y := 0) hx hb dJ0_length_8abf5_9 ?_
  rw [show zshr 7 0 = 7 by decide]
  exact W.iret hx hb hr (fun t ht hW => ⟨_, rfl, rfl, ht⟩) (fun _ h => by cases h) dJ0_length_8abf5_10
abbrev zr_J3_checkIndex_8e157 : Room := { frames := 0, cells := 0, slots := 0, locals := 0 }
set_option maxHeartbeats 4000000 in
set_option maxRecDepth 100000 in
theorem zc_J3_checkIndex_8e157_n (l : Launch) (str sv : Nat) (i n : Int)  (h0 : 0 ≤ i) (h1 : i < n) (h2 : n ≤ 100) : Met l yJ3_checkIndex_8e157 wsJ3_checkIndex_8e157 zr_J3_checkIndex_8e157 (va_Pc [.int (zi i), .int (zi n), .null] (zSt0 str sv)) (vp_Si (fun x => x = zi i)) 0 0 (fun _ => False) := by
  refine zofW (cc := cJ3_checkIndex_8e157) (maxL := 3) (ret := (some .int)) (by decide +kernel) rfl ?_
  intro p e s m args below meth c s₁ B hml hv
  obtain ⟨rfl, hst⟩ := hv
  have hx := B.exec
  have hb := B.bytes
  have hr := B.returns
  have hts := atoms_spec (ws := wsJ3_checkIndex_8e157) B.pre
  have hown : s.vm.findClass RJ3 = some m.cls := findClass_of_methodNamed B.named
  have hlocks := B.notSynchronized
  have hl := lv_entry ([.int (zi i), .int (zi n), .null]) (n := 3) (Nat.le_of_ble_eq_true rfl)
  rw [lg_entry_eq]
  generalize (lg_sl ([.int (zi i), .int (zi n), .null]) ++ List.replicate (3 - (lg_sl ([.int (zi i), .int (zi n), .null])).length) Slot.unset).toArray = ls at hl ⊢
  have hl : lv_has ls 3 [(0, .int (zi i)), (1, .int (zi n)), (2, .null)] := hl
  have hS : va_S zNo s.heap s.heap [] := va_S.rf
  refine lv_iload_n hx hb dJ3_checkIndex_8e157_0 rfl (lv_at hl 0 rfl) ?_
  refine zv_if_lt (tgt := 9) hx hb dJ3_checkIndex_8e157_1 (by decide) (by unfold zout; omega) (fun q => absurd q (by omega)) (fun _ => ?_)
  refine lv_iload_n hx hb dJ3_checkIndex_8e157_4 rfl (lv_at hl 0 rfl) ?_
  refine lv_iload_n hx hb dJ3_checkIndex_8e157_5 rfl (lv_at hl 1 rfl) ?_
  refine zv_icmp_lt (tgt := 16) hx hb dJ3_checkIndex_8e157_6 (by decide) (by unfold zout; omega) (by unfold zout; omega) (fun _ => ?_) (fun q => absurd q (by omega))
  refine lv_iload_n hx hb dJ3_checkIndex_8e157_16 rfl (lv_at hl 0 rfl) ?_
  exact W.iret hx hb hr (fun t ht hW => ⟨_, rfl, rfl, ht⟩) (fun _ h => by cases h) dJ3_checkIndex_8e157_17
set_option maxHeartbeats 4000000 in
set_option maxRecDepth 100000 in
theorem zc_J3_checkIndex_8e157_r (l : Launch) (str sv : Nat) (i n : Int) (q : Nat) (h0 : 0 ≤ i) (h1 : i < n) (h2 : n ≤ 100) : Met l yJ3_checkIndex_8e157 wsJ3_checkIndex_8e157 zr_J3_checkIndex_8e157 (va_Pc [.int (zi i), .int (zi n), (.ref q)] (zSt0 str sv)) (vp_Si (fun x => x = zi i)) 0 0 (fun _ => False) := by
  refine zofW (cc := cJ3_checkIndex_8e157) (maxL := 3) (ret := (some .int)) (by decide +kernel) rfl ?_
  intro p e s m args below meth c s₁ B hml hv
  obtain ⟨rfl, hst⟩ := hv
  have hx := B.exec
  have hb := B.bytes
  have hr := B.returns
  have hts := atoms_spec (ws := wsJ3_checkIndex_8e157) B.pre
  have hown : s.vm.findClass RJ3 = some m.cls := findClass_of_methodNamed B.named
  have hlocks := B.notSynchronized
  have hl := lv_entry ([.int (zi i), .int (zi n), (.ref q)]) (n := 3) (Nat.le_of_ble_eq_true rfl)
  rw [lg_entry_eq]
  generalize (lg_sl ([.int (zi i), .int (zi n), (.ref q)]) ++ List.replicate (3 - (lg_sl ([.int (zi i), .int (zi n), (.ref q)])).length) Slot.unset).toArray = ls at hl ⊢
  have hl : lv_has ls 3 [(0, .int (zi i)), (1, .int (zi n)), (2, (.ref q))] := hl
  have hS : va_S zNo s.heap s.heap [] := va_S.rf
  refine lv_iload_n hx hb dJ3_checkIndex_8e157_0 rfl (lv_at hl 0 rfl) ?_
  refine zv_if_lt (tgt := 9) hx hb dJ3_checkIndex_8e157_1 (by decide) (by unfold zout; omega) (fun q => absurd q (by omega)) (fun _ => ?_)
  refine lv_iload_n hx hb dJ3_checkIndex_8e157_4 rfl (lv_at hl 0 rfl) ?_
  refine lv_iload_n hx hb dJ3_checkIndex_8e157_5 rfl (lv_at hl 1 rfl) ?_
  refine zv_icmp_lt (tgt := 16) hx hb dJ3_checkIndex_8e157_6 (by decide) (by unfold zout; omega) (by unfold zout; omega) (fun _ => ?_) (fun q => absurd q (by omega))
  refine lv_iload_n hx hb dJ3_checkIndex_8e157_16 rfl (lv_at hl 0 rfl) ?_
  exact W.iret hx hb hr (fun t ht hW => ⟨_, rfl, rfl, ht⟩) (fun _ h => by cases h) dJ3_checkIndex_8e157_17
abbrev zr_J0_checkIndex_df160 : Room := { frames := 1, cells := 0, slots := 0, locals := 22 }
set_option maxHeartbeats 4000000 in
set_option maxRecDepth 100000 in
theorem zc_J0_checkIndex_df160 (l : Launch) (str sv : Nat) (i n : Int) (h0 : 0 ≤ i) (h1 : i < n) (h2 : n ≤ 100) : Met l yJ0_checkIndex_df160 wsJ0_checkIndex_df160 zr_J0_checkIndex_df160 (va_Pc [.int (zi i), .int (zi n)] (zSt0 str sv)) (zSv) 0 0 (fun _ => False) := by
  refine zofW (cc := cJ0_checkIndex_df160) (maxL := 2) (ret := none) (by decide +kernel) rfl ?_
  intro p e s m args below meth c s₁ B hml hv
  obtain ⟨rfl, hst⟩ := hv
  have hx := B.exec
  have hb := B.bytes
  have hr := B.returns
  have hts := atoms_spec (ws := wsJ0_checkIndex_df160) B.pre
  have hown : s.vm.findClass RJ0 = some m.cls := findClass_of_methodNamed B.named
  have hlocks := B.notSynchronized
  have hl := lv_entry ([.int (zi i), .int (zi n)]) (n := 2) (Nat.le_of_ble_eq_true rfl)
  rw [lg_entry_eq]
  generalize (lg_sl ([.int (zi i), .int (zi n)]) ++ List.replicate (2 - (lg_sl ([.int (zi i), .int (zi n)])).length) Slot.unset).toArray = ls at hl ⊢
  have hl : lv_has ls 2 [(0, .int (zi i)), (1, .int (zi n))] := hl
  have hS : va_S zNo s.heap s.heap [] := va_S.rf
  refine lv_iload_n hx hb dJ0_checkIndex_df160_0 rfl (lv_at hl 0 rfl) ?_
  refine lv_iload_n hx hb dJ0_checkIndex_df160_1 rfl (lv_at hl 1 rfl) ?_
  rcases hst.2.2.2.2.2 with hz | ⟨q, hz⟩
  · refine va_gets (A := zNo) hx hb hz hS hown (hts (.fieldLink RJ0 1053 "jdk/internal/util/Preconditions" "SIOOBE_FORMATTER" "Ljava/util/function/BiFunction;") (by decide +kernel)) (fun _ h9 => h9) dJ0_checkIndex_df160_2 ?_
    refine zc_si (rest := []) ⟨hx, hb, hml, hown, hts⟩ (zc_J3_checkIndex_8e157_n l str sv i n h0 h1 h2) (va_cwS 3 hts gJ0_checkIndex_df160_J3_checkIndex_8e157 rfl rfl rfl (by decide +kernel) ⟨Nat.le_of_ble_eq_true rfl, Nat.le_of_ble_eq_true rfl⟩) (zpreTs hst) rfl hl.1 rfl (Nat.le_of_ble_eq_true rfl) dJ0_checkIndex_df160_5 ⟨Nat.zero_le _, Nat.zero_le _⟩ ?_
    refine lv_pop hx hb dJ0_checkIndex_df160_8 rfl ?_
    exact W.vret hx hb hr (fun t ht hW => ⟨rfl, ht⟩) (fun _ h => by cases h) dJ0_checkIndex_df160_9
  · refine va_gets (A := zNo) hx hb hz hS hown (hts (.fieldLink RJ0 1053 "jdk/internal/util/Preconditions" "SIOOBE_FORMATTER" "Ljava/util/function/BiFunction;") (by decide +kernel)) (fun _ h9 => h9) dJ0_checkIndex_df160_2 ?_
    refine zc_si (rest := []) ⟨hx, hb, hml, hown, hts⟩ (zc_J3_checkIndex_8e157_r l str sv i n q h0 h1 h2) (va_cwS 3 hts gJ0_checkIndex_df160_J3_checkIndex_8e157 rfl rfl rfl (by decide +kernel) ⟨Nat.le_of_ble_eq_true rfl, Nat.le_of_ble_eq_true rfl⟩) (zpreTs hst) rfl hl.1 rfl (Nat.le_of_ble_eq_true rfl) dJ0_checkIndex_df160_5 ⟨Nat.zero_le _, Nat.zero_le _⟩ ?_
    refine lv_pop hx hb dJ0_checkIndex_df160_8 rfl ?_
    exact W.vret hx hb hr (fun t ht hW => ⟨rfl, ht⟩) (fun _ h => by cases h) dJ0_checkIndex_df160_9
abbrev zr_J1_charAt_3b067 : Room := { frames := 2, cells := 0, slots := 0, locals := 43 }
set_option maxHeartbeats 4000000 in
set_option maxRecDepth 100000 in
theorem zc_J1_charAt_3b067 (l : Launch) (str sv : Nat) (k : Nat) (hk : k < 7) : Met l yJ1_charAt_3b067 wsJ1_charAt_3b067 zr_J1_charAt_3b067 (va_Pc [.ref sv, .int (zi (k : Int))] (zSt0 str sv)) (vp_Si (fun x => x = zi (zSI k))) 0 0 (fun _ => False) := by
  refine zofW (cc := cJ1_charAt_3b067) (maxL := 2) (ret := (some .char)) (by decide +kernel) rfl ?_
  intro p e s m args below meth c s₁ B hml hv
  obtain ⟨rfl, hst⟩ := hv
  have hx := B.exec
  have hb := B.bytes
  have hr := B.returns
  have hts := atoms_spec (ws := wsJ1_charAt_3b067) B.pre
  have hown : s.vm.findClass RJ1 = some m.cls := findClass_of_methodNamed B.named
  have hlocks := B.notSynchronized
  have hl := lv_entry ([.ref sv, .int (zi (k : Int))]) (n := 2) (Nat.le_of_ble_eq_true rfl)
  rw [lg_entry_eq]
  generalize (lg_sl ([.ref sv, .int (zi (k : Int))]) ++ List.replicate (2 - (lg_sl ([.ref sv, .int (zi (k : Int))])).length) Slot.unset).toArray = ls at hl ⊢
  have hl : lv_has ls 2 [(0, .ref sv), (1, .int (zi (k : Int)))] := hl
  have hS : va_S zNo s.heap s.heap [] := va_S.rf
  refine lv_iload_n hx hb dJ1_charAt_3b067_0 rfl (lv_at hl 1 rfl) ?_
  refine lv_aload_n hx hb dJ1_charAt_3b067_1 rfl (lv_at hl 0 rfl) ?_
  refine va_tlen (A := zNo) (v := zi 7) hx hb hst.2.2.2.1 hS (by decide) dJ1_charAt_3b067_2 ?_
  refine zc_sv (va_runS (rest := []) ⟨hx, hb, hml, hown, hts⟩ (zc_J0_checkIndex_df160 l str sv (k : Int) 7 (by omega) (by omega) (by decide)) (va_cwS 2 hts gJ1_charAt_3b067_J0_checkIndex_df160 rfl rfl rfl (by decide +kernel) ⟨Nat.le_of_ble_eq_true rfl, Nat.le_of_ble_eq_true rfl⟩) (zpreTs hst) rfl rfl hl.1 rfl (lv_room (Nat.le_of_ble_eq_true rfl)) dJ1_charAt_3b067_3 ⟨Nat.zero_le _, Nat.zero_le _⟩) ?_
  refine lv_aload_n hx hb dJ1_charAt_3b067_6 rfl (lv_at hl 0 rfl) ?_
  refine lv_iload_n hx hb dJ1_charAt_3b067_7 rfl (lv_at hl 1 rfl) ?_
  refine va_tb (A := zNo) (v := .int (zi (zSI k))) hx hb hst.2.2.2.1 hS (zi_vin (n := 7) (by decide) (by omega)) (by rw [zi_clamp (n := 7) (by decide) (by omega), Int.toNat_natCast, zSB_at k hk]) dJ1_charAt_3b067_8 ?_
  refine zv_sipush hx hb dJ1_charAt_3b067_9 (by decide) ?_
  refine zv_iand hx hb dJ1_charAt_3b067_12 ?_
  rw [zSI_and k hk]
  refine lv_i2c hx hb dJ1_charAt_3b067_13 (zSI_c k hk) ?_
  exact W.zret hx hb hr (zSI_n k hk) (fun t ht hW => ⟨_, rfl, rfl, ht⟩) (fun _ h => by cases h) dJ1_charAt_3b067_14
abbrev zr_J0_charAt_5068e : Room := { frames := 3, cells := 0, slots := 0, locals := 64 }
set_option maxHeartbeats 4000000 in
set_option maxRecDepth 100000 in
theorem zc_J0_charAt_5068e (l : Launch) (str sv : Nat) (k : Nat) (hk : k < 7) : Met l yJ0_charAt_5068e wsJ0_charAt_5068e zr_J0_charAt_5068e (va_Pc [.ref str, .int (zi (k : Int))] (zSt0 str sv)) (vp_Si (fun x => x = zi (zSI k))) 0 0 (fun _ => False) := by
  refine zofW (cc := cJ0_charAt_5068e) (maxL := 2) (ret := (some .char)) (by decide +kernel) rfl ?_
  intro p e s m args below meth c s₁ B hml hv
  obtain ⟨rfl, hst⟩ := hv
  have hx := B.exec
  have hb := B.bytes
  have hr := B.returns
  have hts := atoms_spec (ws := wsJ0_charAt_5068e) B.pre
  have hown : s.vm.findClass RJ0 = some m.cls := findClass_of_methodNamed B.named
  have hlocks := B.notSynchronized
  have hl := lv_entry ([.ref str, .int (zi (k : Int))]) (n := 2) (Nat.le_of_ble_eq_true rfl)
  rw [lg_entry_eq]
  generalize (lg_sl ([.ref str, .int (zi (k : Int))]) ++ List.replicate (2 - (lg_sl ([.ref str, .int (zi (k : Int))])).length) Slot.unset).toArray = ls at hl ⊢
  have hl : lv_has ls 2 [(0, .ref str), (1, .int (zi (k : Int)))] := hl
  have hS : va_S zNo s.heap s.heap [] := va_S.rf
  refine lv_aload_n hx hb dJ0_charAt_5068e_0 rfl (lv_at hl 0 rfl) ?_
  refine zc_vi (rest := []) ⟨hx, hb, hml, hown, hts⟩ (zc_J0_isLatin1_aae02 l str sv) (cwV 0 hts gJ0_charAt_5068e_J0_isLatin1_aae02 rfl rfl rfl (by decide +kernel) ⟨Nat.le_of_ble_eq_true rfl, Nat.le_of_ble_eq_true rfl⟩) (zpreT hst) rfl hl.1 rfl (Nat.le_of_ble_eq_true rfl) dJ0_charAt_5068e_1 ⟨Nat.zero_le _, Nat.zero_le _⟩ ?_
  refine lv_if_eq (tgt := 16) hx hb dJ0_charAt_5068e_4 (by decide) (fun h => absurd h (by decide)) (fun _ => ?_)
  refine lv_aload_n hx hb dJ0_charAt_5068e_7 rfl (lv_at hl 0 rfl) ?_
  refine vk_getf (A := zNo) hx hb hst.2.2.1 hS hown (hts (.fieldLink RJ0 9 "java/lang/String" "value" "[B") (by decide +kernel)) (fun _ h9 => h9) dJ0_charAt_5068e_8 ?_
  refine lv_iload_n hx hb dJ0_charAt_5068e_11 rfl (lv_at hl 1 rfl) ?_
  refine zc_si (rest := []) ⟨hx, hb, hml, hown, hts⟩ (zc_J1_charAt_3b067 l str sv k hk) (va_cwS 2 hts gJ0_charAt_5068e_J1_charAt_3b067 rfl rfl rfl (by decide +kernel) ⟨Nat.le_of_ble_eq_true rfl, Nat.le_of_ble_eq_true rfl⟩) (zpreTs hst) rfl hl.1 rfl (Nat.le_of_ble_eq_true rfl) dJ0_charAt_5068e_12 ⟨Nat.zero_le _, Nat.zero_le _⟩ ?_
  exact W.zret hx hb hr (zSI_n k hk) (fun t ht hW => ⟨_, rfl, rfl, ht⟩) (fun _ h => by cases h) dJ0_charAt_5068e_15
/-- does the token's text go on as the constant from place i, n places more -/
noncomputable def zww (t_length t_place : Int) (t_bytes : Nat) (n : Nat) : Option Bool := Nat.rec (some true) (fun n ih => match decide (t_place + (6 - (n : Int)) < t_length) with
  | false => some true
  | true => match decide (t_place + (6 - (n : Int)) < 0 ∨ 300 ≤ t_place + (6 - (n : Int))) with
    | true => none
    | false => match decide (zget t_bytes (Int.toNat (t_place + (6 - (n : Int)))) = zSI (6 - n)) with
      | true => ih
      | false => some false) n
noncomputable def zf_X8_isWordF (t_length t_next t_kind t_place : Int) (t_bytes : Nat) : Option Bool :=
  if zout t_kind then none else
  if t_kind = 1 then
  if zout (t_next - t_place) then none else
  if t_next - t_place = 7 then
  if zout t_place ∨ zout (t_place + 7) ∨ zout t_length then none else zww t_length t_place t_bytes 7
  else some false
  else some false
theorem zww_s {t_length t_place : Int} {t_bytes n : Nat} {out : Bool} (h : zww t_length t_place t_bytes (n + 1) = some out) : (t_length ≤ t_place + (6 - (n : Int)) ∧ out = true) ∨ (t_place + (6 - (n : Int)) < t_length ∧ ¬ (t_place + (6 - (n : Int)) < 0 ∨ 300 ≤ t_place + (6 - (n : Int))) ∧ ((zget t_bytes (Int.toNat (t_place + (6 - (n : Int)))) = zSI (6 - n) ∧ zww t_length t_place t_bytes n = some out) ∨ (¬ zget t_bytes (Int.toNat (t_place + (6 - (n : Int)))) = zSI (6 - n) ∧ out = false))) := by
  replace h : (match decide (t_place + (6 - (n : Int)) < t_length) with
    | false => some true
    | true => match decide (t_place + (6 - (n : Int)) < 0 ∨ 300 ≤ t_place + (6 - (n : Int))) with
      | true => none
      | false => match decide (zget t_bytes (Int.toNat (t_place + (6 - (n : Int)))) = zSI (6 - n)) with
        | true => zww t_length t_place t_bytes n
        | false => some false) = some out := h
  by_cases a : t_place + (6 - (n : Int)) < t_length
  · rw [decide_eq_true a] at h
    by_cases b : t_place + (6 - (n : Int)) < 0 ∨ 300 ≤ t_place + (6 - (n : Int))
    · rw [decide_eq_true b] at h; cases h
    · rw [decide_eq_false b] at h
      by_cases c : zget t_bytes (Int.toNat (t_place + (6 - (n : Int)))) = zSI (6 - n)
      · rw [decide_eq_true c] at h; exact Or.inr ⟨a, b, Or.inl ⟨c, h⟩⟩
      · rw [decide_eq_false c] at h; exact Or.inr ⟨a, b, Or.inr ⟨c, (Option.some.inj h).symm⟩⟩
  · rw [decide_eq_false a] at h
    exact Or.inl ⟨by omega, (Option.some.inj h).symm⟩
abbrev zr_X8_isWordF : Room := { frames := 4, cells := 0, slots := 0, locals := 85 }
set_option maxHeartbeats 4000000 in
set_option maxRecDepth 100000 in
theorem zs_X8_isWordL {p : Program} {l : Launch} {e : Env} {s : State} {m : MethodId} {args : Array Value} {below : List Frame} {meth : Method} {c : Code} {Q : State → Prop} {D : va_G} {κ : Nat → ClassId} (t : Nat → Nat) (str sv : Nat) (t_length t_next t_kind t_place t_value : Int) (t_bytes : Nat) (hx : p.tables.exec = Jvm.exec) (hb : c.code = cX8_isWord) (hml : c.maxLocals = 3) (hown : s.vm.findClass RX8 = some m.cls) (hts : ∀ w ∈ wsX8_isWord, w.before args s = true) (hK : va_K D vwCl (zTY κ) s) (hP : va_P D vwCl ([((t 0), .inr (8, [.ref (t 1), .int (zi t_length), .int (zi t_next), .int (zi t_kind), .int (zi t_place), .int (zi t_value)])), ((t 1), .inl (κ 0, 300, .inl (zc t_bytes)))]) s.heap) (hst : zStv str sv zNo s s.heap) (out : Bool) (hz1 : ¬ zout t_place) (hz2 : ¬ zout (t_place + 7)) (hz3 : ¬ zout t_length) (hq : ∀ b, b = out → ∀ (ls : Array Slot) (pc : Nat), decode cX8_isWord pc = .ok (.ireturn, 1) → W p l e zr_X8_isWordF s m args below meth c s.heap [] 0 0 Q (F0 m pc ls [.int (zi (bI b))])) : ∀ n : Nat, n ≤ 7 → ∀ ls : Array Slot, lv_has ls 3 [(0, .ref (t 0)), (1, .ref str), (2, .int (zi (7 - (n : Int))))] → zww t_length t_place t_bytes n = some out → W p l e zr_X8_isWordF s m args below meth c s.heap [] 0 0 Q (F0 m 28 ls []) := by
  intro n
  induction n with
  | zero =>
    intro _ ls hl h
    have h : some true = some out := h
    cases h
    refine lv_iload_n hx hb dX8_isWord_28 rfl (lv_at hl 2 rfl) ?_
    refine lv_aload_n hx hb dX8_isWord_29 rfl (lv_at hl 1 rfl) ?_
    refine zc_vi (rest := [.int (zi (7 - ((0 : Nat) : Int)))]) ⟨hx, hb, hml, hown, hts⟩ (zc_J0_length_8abf5 l str sv) (cwV 0 hts gX8_isWord_J0_length_8abf5 rfl rfl rfl (by decide +kernel) ⟨Nat.le_of_ble_eq_true rfl, Nat.le_of_ble_eq_true rfl⟩) (zpreT hst) rfl hl.1 rfl (Nat.le_of_ble_eq_true rfl) dX8_isWord_30 ⟨Nat.zero_le _, Nat.zero_le _⟩ ?_
    refine zv_icmp_ge (tgt := 76) hx hb dX8_isWord_33 (by decide) (by decide) (by decide) (fun _ => ?_) (fun q => absurd q (by decide))
    refine zv_iconst hx hb dX8_isWord_76 ?_
    exact hq true rfl ls 77 dX8_isWord_77
  | succ n ih =>
    intro hn ls hl h
    have hi : (7 - ((n + 1 : Nat) : Int)) = 6 - (n : Int) := by omega
    rw [hi] at hl
    refine lv_iload_n hx hb dX8_isWord_28 rfl (lv_at hl 2 rfl) ?_
    refine lv_aload_n hx hb dX8_isWord_29 rfl (lv_at hl 1 rfl) ?_
    refine zc_vi (rest := [.int (zi (6 - (n : Int)))]) ⟨hx, hb, hml, hown, hts⟩ (zc_J0_length_8abf5 l str sv) (cwV 0 hts gX8_isWord_J0_length_8abf5 rfl rfl rfl (by decide +kernel) ⟨Nat.le_of_ble_eq_true rfl, Nat.le_of_ble_eq_true rfl⟩) (zpreT hst) rfl hl.1 rfl (Nat.le_of_ble_eq_true rfl) dX8_isWord_30 ⟨Nat.zero_le _, Nat.zero_le _⟩ ?_
    refine zv_icmp_ge (tgt := 76) hx hb dX8_isWord_33 (by decide) (by unfold zout; omega) (by decide) (fun q => absurd q (by omega)) (fun _ => ?_)
    refine lv_aload_n hx hb dX8_isWord_36 rfl (lv_at hl 0 rfl) ?_
    refine va_get (D := D) (ci := 8) (v := .int (zi t_place)) (C := RX8) (T := TX8) (N := 6) hx hb hts (by decide +kernel) hown hK hP 0 rfl rfl 4 (by decide) (hts (.fieldLink RX8 22 "DiamondRows$Tape" "place" "I") (by decide +kernel)) (fun _ h9 => h9) rfl dX8_isWord_37 ?_
    refine lv_iload_n hx hb dX8_isWord_40 rfl (lv_at hl 2 rfl) ?_
    refine zv_iadd hx hb dX8_isWord_41 ?_
    refine lv_aload_n hx hb dX8_isWord_42 rfl (lv_at hl 0 rfl) ?_
    refine va_get (D := D) (ci := 8) (v := .int (zi t_length)) (C := RX8) (T := TX8) (N := 6) hx hb hts (by decide +kernel) hown hK hP 0 rfl rfl 1 (by decide) (hts (.fieldLink RX8 15 "DiamondRows$Tape" "length" "I") (by decide +kernel)) (fun _ h9 => h9) rfl dX8_isWord_43 ?_
    refine zv_icmp_ge (tgt := 76) hx hb dX8_isWord_46 (by decide) (by unfold zout at *; omega) hz3 (fun q1 => ?_) (fun q1 => ?_)
    · rcases zww_s h with ⟨-, rfl⟩ | ⟨q2, -⟩
      · refine zv_iconst hx hb dX8_isWord_76 ?_
        exact hq true rfl ls 77 dX8_isWord_77
      · omega
    · rcases zww_s h with ⟨q2, -⟩ | ⟨-, q3, q4⟩
      · omega
      · refine lv_aload_n hx hb dX8_isWord_49 rfl (lv_at hl 0 rfl) ?_
        refine va_get (D := D) (ci := 8) (v := .ref (t 1)) (C := RX8) (T := TX8) (N := 6) hx hb hts (by decide +kernel) hown hK hP 0 rfl rfl 0 (by decide) (hts (.fieldLink RX8 11 "DiamondRows$Tape" "bytes" "[B") (by decide +kernel)) (fun _ h9 => h9) rfl dX8_isWord_50 ?_
        refine lv_aload_n hx hb dX8_isWord_53 rfl (lv_at hl 0 rfl) ?_
        refine va_get (D := D) (ci := 8) (v := .int (zi t_place)) (C := RX8) (T := TX8) (N := 6) hx hb hts (by decide +kernel) hown hK hP 0 rfl rfl 4 (by decide) (hts (.fieldLink RX8 22 "DiamondRows$Tape" "place" "I") (by decide +kernel)) (fun _ h9 => h9) rfl dX8_isWord_54 ?_
        refine lv_iload_n hx hb dX8_isWord_57 rfl (lv_at hl 2 rfl) ?_
        refine zv_iadd hx hb dX8_isWord_58 ?_
        refine zv_bald hx hb hK hP 1 0 rfl rfl (by decide) q3 dX8_isWord_59 ?_
        refine lv_aload_n hx hb dX8_isWord_60 rfl (lv_at hl 1 rfl) ?_
        refine lv_iload_n hx hb dX8_isWord_61 rfl (lv_at hl 2 rfl) ?_
        have hk7 : 6 - n < 7 := by omega
        rw [show (6 - (n : Int)) = ((6 - n : Nat) : Int) by omega]
        refine zc_vi (rest := [.int (zi (zget t_bytes (Int.toNat (t_place + ((6 - n : Nat) : Int)))))]) ⟨hx, hb, hml, hown, hts⟩ (zc_J0_charAt_5068e l str sv (6 - n) hk7) (cwV 1 hts gX8_isWord_J0_charAt_5068e rfl rfl rfl (by decide +kernel) ⟨Nat.le_of_ble_eq_true rfl, Nat.le_of_ble_eq_true rfl⟩) (zpreT hst) rfl hl.1 rfl (Nat.le_of_ble_eq_true rfl) dX8_isWord_62 ⟨Nat.zero_le _, Nat.zero_le _⟩ ?_
        refine zv_icmp_eq (tgt := 70) hx hb dX8_isWord_65 (by decide) (zget_in _ _) (zSI_in _) (fun q5 => ?_) (fun q5 => ?_)
        · rcases q4 with ⟨-, q6⟩ | ⟨q6, -⟩
          · refine lv_iinc (v := zi (7 - (n : Int))) (lv' := [(2, .int (zi (7 - (n : Int)))), (0, .ref (t 0)), (1, .ref str)]) hx hb dX8_isWord_70 hl (k := 2) rfl (by rw [show (7 : Int) - (n : Int) = 6 - (n : Int) + 1 by omega]; exact zi_add _ _) (by decide) rfl (fun ls hl => ?_)
            refine lv_goto (tgt := 28) hx hb dX8_isWord_73 (by decide) ?_
            exact ih (by omega) ls (lv_sub hl [1, 2, 0] rfl) q6
          · exact absurd (by rw [show (6 - (n : Int)) = ((6 - n : Nat) : Int) by omega]; exact q5) q6
        · rcases q4 with ⟨q6, -⟩ | ⟨-, rfl⟩
          · exact absurd (by rw [show (6 - (n : Int)) = ((6 - n : Nat) : Int) by omega] at q6; exact q6) q5
          · refine zv_iconst hx hb dX8_isWord_68 ?_
            exact hq false rfl ls 69 dX8_isWord_69
def zRs (D : va_G) (κ : Nat → ClassId) (str sv : Nat) (wc : va_W) : State → Prop := fun U => zR D κ wc U ∧ zSt0 str sv U
set_option maxHeartbeats 4000000 in
set_option maxRecDepth 100000 in
theorem zc_X8_isWordF (l : Launch) (D : va_G) (κ : Nat → ClassId) (t : Nat → Nat) (str sv : Nat) (t_length t_next t_kind t_place t_value : Int) (t_bytes : Nat) (out : Bool) (h : zf_X8_isWordF t_length t_next t_kind t_place t_bytes = some out) : Met l yX8_isWord wsX8_isWord zr_X8_isWordF (va_Pc [.ref (t 0), .ref str] (zRs D κ str sv ([((t 0), .inr (8, [.ref (t 1), .int (zi t_length), .int (zi t_next), .int (zi t_kind), .int (zi t_place), .int (zi t_value)])), ((t 1), .inl (κ 0, 300, .inl (zc t_bytes)))]))) (vp_Si (fun x => x = zi (bI out))) 0 0 (fun _ => False) := by
  refine Met.ofW (cc := cX8_isWord) (maxL := 3) (ret := (some .boolean)) (by decide +kernel) rfl ?_
  intro p e s m args below meth c s₁ B hml hv
  obtain ⟨rfl, ⟨hP, hK⟩, hst⟩ := hv
  have hx := B.exec
  have hb := B.bytes
  have hr := B.returns
  have hts := atoms_spec (ws := wsX8_isWord) B.pre
  have hown : s.vm.findClass RX8 = some m.cls := findClass_of_methodNamed B.named
  have hlocks := B.notSynchronized
  have hl := lv_entry ([.ref (t 0), .ref str]) (n := 3) (Nat.le_of_ble_eq_true rfl)
  rw [lg_entry_eq]
  generalize (lg_sl ([.ref (t 0), .ref str]) ++ List.replicate (3 - (lg_sl ([.ref (t 0), .ref str])).length) Slot.unset).toArray = ls at hl ⊢
  have hl : lv_has ls 3 [(0, .ref (t 0)), (1, .ref str)] := hl
  have hst : zStv str sv zNo s s.heap := hst
  have hq : ∀ b, b = out → ∀ (ls : Array Slot) (pc : Nat), decode cX8_isWord pc = .ok (.ireturn, 1) → W p l e zr_X8_isWordF s m #[.ref (t 0), .ref str] below meth c s.heap [] 0 0 (MQ below (vp_Si (fun x => x = zi (bI out))) #[.ref (t 0), .ref str] s 0 0 (fun _ => False)) (F0 m pc ls [.int (zi (bI b))]) := fun b hb0 ls pc hd => by subst hb0; exact W.zret hx hb hr (bI_nar _) (fun t ht hW => ⟨_, rfl, rfl, ht⟩) (fun _ h => by cases h) hd
  unfold zf_X8_isWordF at h
  refine lv_aload_n hx hb dX8_isWord_0 rfl (lv_at hl 0 rfl) ?_
  refine va_get (D := D) (ci := 8) (v := .int (zi t_kind)) (C := RX8) (T := TX8) (N := 6) hx hb hts (by decide +kernel) hown hK hP 0 rfl rfl 3 (by decide) (hts (.fieldLink RX8 19 "DiamondRows$Tape" "kind" "I") (by decide +kernel)) (fun _ h9 => h9) rfl dX8_isWord_1 ?_
  refine zv_iconst hx hb dX8_isWord_4 ?_
  by_cases z0 : zout t_kind
  · rw [if_pos z0] at h; cases h
  rw [if_neg z0] at h
  refine zv_icmp_ne (tgt := 24) hx hb dX8_isWord_5 (by decide) z0 (by decide) (fun c2 => ?_) (fun c2 => ?_)
  · rw [if_neg c2] at h
    cases h
    refine zv_iconst hx hb dX8_isWord_24 ?_
    exact hq false rfl ls 25 dX8_isWord_25
  · rw [if_pos c2] at h
    refine lv_aload_n hx hb dX8_isWord_8 rfl (lv_at hl 0 rfl) ?_
    refine va_get (D := D) (ci := 8) (v := .int (zi t_next)) (C := RX8) (T := TX8) (N := 6) hx hb hts (by decide +kernel) hown hK hP 0 rfl rfl 2 (by decide) (hts (.fieldLink RX8 28 "DiamondRows$Tape" "next" "I") (by decide +kernel)) (fun _ h9 => h9) rfl dX8_isWord_9 ?_
    refine lv_aload_n hx hb dX8_isWord_12 rfl (lv_at hl 0 rfl) ?_
    refine va_get (D := D) (ci := 8) (v := .int (zi t_place)) (C := RX8) (T := TX8) (N := 6) hx hb hts (by decide +kernel) hown hK hP 0 rfl rfl 4 (by decide) (hts (.fieldLink RX8 22 "DiamondRows$Tape" "place" "I") (by decide +kernel)) (fun _ h9 => h9) rfl dX8_isWord_13 ?_
    refine zv_isub hx hb dX8_isWord_16 ?_
    refine lv_aload_n hx hb dX8_isWord_17 rfl (lv_at hl 1 rfl) ?_
    refine zc_vi (rest := [.int (zi (t_next - t_place))]) ⟨hx, hb, hml, hown, hts⟩ (zc_J0_length_8abf5 l str sv) (cwV 0 hts gX8_isWord_J0_length_8abf5 rfl rfl rfl (by decide +kernel) ⟨Nat.le_of_ble_eq_true rfl, Nat.le_of_ble_eq_true rfl⟩) (zpreT hst) rfl hl.1 rfl (Nat.le_of_ble_eq_true rfl) dX8_isWord_18 ⟨Nat.zero_le _, Nat.zero_le _⟩ ?_
    by_cases z1 : zout (t_next - t_place)
    · rw [if_pos z1] at h; cases h
    rw [if_neg z1] at h
    refine zv_icmp_eq (tgt := 26) hx hb dX8_isWord_21 (by decide) z1 (by decide) (fun c3 => ?_) (fun c3 => ?_)
    · rw [if_pos c3] at h
      by_cases z2 : zout t_place ∨ zout (t_place + 7) ∨ zout t_length
      · rw [if_pos z2] at h; cases h
      rw [if_neg z2] at h
      refine zv_iconst hx hb dX8_isWord_26 ?_
      refine lv_istore_n (lv' := [(2, .int (zi 0)), (0, .ref (t 0)), (1, .ref str)]) hx hb dX8_isWord_27 rfl hl (by decide) rfl (fun ls hl => ?_)
      exact zs_X8_isWordL t str sv t_length t_next t_kind t_place t_value t_bytes hx hb hml hown hts hK hP hst out (fun z => z2 (Or.inl z)) (fun z => z2 (Or.inr (Or.inl z))) (fun z => z2 (Or.inr (Or.inr z))) hq 7 (Nat.le_refl _) ls (lv_sub hl [1, 2, 0] rfl) h
    · rw [if_neg c3] at h
      cases h
      refine zv_iconst hx hb dX8_isWord_24 ?_
      exact hq false rfl ls 25 dX8_isWord_25
