/-! worlds and calls -/
theorem zofW {l : Launch} {y : MethodName} {ws ws' : List Cond} {rm : Room} {Pc : Array Value → State → Prop} {Qc : Array Value → State → Outcome → State → Prop} {mc ms : Nat} {free : Addr → Prop} {cc : ByteArray} {maxL : Nat} {ret : Option FieldType}
    (hy : plainFor y = true) (hw : ws = Cond.code y cc maxL ret :: ws')
    (body : ∀ p e s m args below meth c s₁, BodyLoose p l y (headSpec ws rm) cc maxL ret e s m args below meth c s₁ → c.maxLocals = maxL → Pc args s →
      W p l e (headSpec ws rm).room s m args below meth c s.heap [] 0 0 (MQ below Qc args s mc ms free) (entryFrame m args maxL)) : Met l y ws rm Pc Qc mc ms free := by
  refine MetFree.of_bodySF (code := cc) (maxLocals := maxL) (ret := ret) hy ?_ ?_
  · intro args s m h hn
    obtain ⟨meth, c, h1, h2, h3, h4, h5, h6, -, -⟩ := Cond.code_spec hn (atoms_spec (ws := ws) h _ (by rw [hw]; exact List.mem_cons_self))
    exact ⟨meth, c, h1, h2, h3, h4, h5, h6⟩
  · intro p e s m args below meth c s₁ B hml hP _
    have hh0 : s₁.heap = s.heap := by rw [B.state]; rfl
    obtain ⟨t, a1, o, b1, b2, b3⟩ := body p e s m args below meth c s₁ B hml hP s₁ hh0 (Stand.of_body B)
    exact ⟨t, o, a1, b1, b2, ⟨b3.1, b3.2⟩⟩
abbrev zTY (κ : Nat → ClassId) : List (ClassId × FieldType) := [(κ 0, .byte), (κ 1, .int), (κ 2, .long), (κ 3, .boolean), (κ 4, .object "DiamondRows$Polygon")]
/-- the cells of the polygon of n corners -/
abbrev zpgc (κ : Nat → ClassId) (t : Nat → Nat) (n : Nat) : va_W := [(t 0, .inr (5, [.int (zi (n : Int)), .ref (t 1), .ref (t 2), .ref (t 3), .ref (t 4), .ref (t 5), .ref (t 6), .int (zi (pg7 n)), .int (zi (pg8 n))])), (t 1, .inl (κ 1, 27, .inl (zc (pg1 n)))), (t 2, .inl (κ 1, 27, .inl (zc (pg2 n)))), (t 3, .inl (κ 1, 81, .inl (zc (pg3 n)))), (t 4, .inl (κ 1, 27, .inl (zc (pg4 n)))), (t 5, .inl (κ 1, 9, .inl (zc (pg5 n)))), (t 6, .inl (κ 1, 429, .inl (zc (pg6 n))))]
theorem zpgc_at {κ : Nat → ClassId} {t : Nat → Nat} {n k : Nat} {q : Nat × va_E} (h : (zpgc κ t n)[k]? = some q) : ∃ j, j < 7 ∧ q.1 = t j := by
  match k with
  | 0 => cases h; exact ⟨0, by omega, rfl⟩
  | 1 => cases h; exact ⟨1, by omega, rfl⟩
  | 2 => cases h; exact ⟨2, by omega, rfl⟩
  | 3 => cases h; exact ⟨3, by omega, rfl⟩
  | 4 => cases h; exact ⟨4, by omega, rfl⟩
  | 5 => cases h; exact ⟨5, by omega, rfl⟩
  | 6 => cases h; exact ⟨6, by omega, rfl⟩
  | k + 7 => cases h
/-- no polygon of n corners was made -/
abbrev zno (mk n : Nat) : Prop := n < 4 ∨ 9 < n ∨ mk.testBit n = false
/-- the polygons that were made stand in the heap; they lie apart from A -/
def zAmb (D : va_G) (κ : Nat → ClassId) (mk : Nat) (ad : Nat → Nat → Nat) (H : Heap) : Prop := ∀ n, ¬ zno mk n → va_P D vwCl (zpgc κ (ad n) n) H
def zApt (mk : Nat) (ad : Nat → Nat → Nat) (A : Nat → Prop) (sz : Nat) : Prop := ∀ n, ¬ zno mk n → ∀ k, k < 7 → ¬ A (ad n k) ∧ ad n k < sz
theorem zamb {D : va_G} {κ : Nat → ClassId} {mk : Nat} {ad : Nat → Nat → Nat} {A : Nat → Prop} {H0 H : Heap} {locs : List Loc} (hB : zAmb D κ mk ad H0) (hBA : zApt mk ad A H0.size) (hS : va_S A H0 H locs) : zAmb D κ mk ad H := by
  intro n hn
  refine (hB n hn).kept (fun k q hk => ?_)
  obtain ⟨j, hj, e⟩ := zpgc_at hk
  obtain ⟨h1, h2⟩ := hBA n hn j hj
  rw [e]
  exact hS.2.1 _ h2 h1
def zR (D : va_G) (κ : Nat → ClassId) (wc : va_W) : State → Prop := fun U => va_P D vwCl wc U.heap ∧ va_K D vwCl (zTY κ) U
def zRa (D : va_G) (κ : Nat → ClassId) (mk : Nat) (ad : Nat → Nat → Nat) (wc : va_W) : State → Prop := fun U => va_P D vwCl wc U.heap ∧ va_K D vwCl (zTY κ) U ∧ zAmb D κ mk ad U.heap
theorem zR_blind {av : List Value} {D : va_G} {κ : Nat → ClassId} {wc : va_W} : FrameBlind (va_Pc av (zR D κ wc)) := fun a U g mk q => ⟨q.1, q.2.1, va_K.moved (u := U) (U := U.calling g mk a) (Vm.Alike.refl U.vm) q.2.2⟩
theorem zRa_blind {av : List Value} {D : va_G} {κ : Nat → ClassId} {mk : Nat} {ad : Nat → Nat → Nat} {wc : va_W} : FrameBlind (va_Pc av (zRa D κ mk ad wc)) := fun a U g mk q => ⟨q.1, q.2.1, va_K.moved (u := U) (U := U.calling g mk a) (Vm.Alike.refl U.vm) q.2.2.1, q.2.2.2⟩
def zW (D : va_G) (κ : Nat → ClassId) (wc : va_W) (sz : Nat) : State → Prop := fun U => U.heap.size = sz ∧ va_P D vwCl wc U.heap ∧ va_K D vwCl (zTY κ) U ∧ va_D (fun _ => True) wc
def zWa (D : va_G) (κ : Nat → ClassId) (mk : Nat) (ad : Nat → Nat → Nat) (wc : va_W) (sz : Nat) : State → Prop := fun U => U.heap.size = sz ∧ va_P D vwCl wc U.heap ∧ va_K D vwCl (zTY κ) U ∧ va_D (fun _ => True) wc ∧ zAmb D κ mk ad U.heap ∧ zApt mk ad (va_A wc sz) sz
theorem zW_blind {av : List Value} {D : va_G} {κ : Nat → ClassId} {wc : va_W} {sz : Nat} : FrameBlind (va_Pc av (zW D κ wc sz)) := fun a U g mk q => ⟨q.1, q.2.1, q.2.2.1, va_K.moved (u := U) (U := U.calling g mk a) (Vm.Alike.refl U.vm) q.2.2.2.1, q.2.2.2.2⟩
theorem zWa_blind {av : List Value} {D : va_G} {κ : Nat → ClassId} {mk : Nat} {ad : Nat → Nat → Nat} {wc : va_W} {sz : Nat} : FrameBlind (va_Pc av (zWa D κ mk ad wc sz)) := fun a U g mk q => ⟨q.1, q.2.1, q.2.2.1, va_K.moved (u := U) (U := U.calling g mk a) (Vm.Alike.refl U.vm) q.2.2.2.1, q.2.2.2.2⟩
def zB (D : va_G) (κ : Nat → ClassId) (A : Nat → Prop) (w : va_W) : State → Prop := fun t => va_P D vwCl w t.heap ∧ va_K D vwCl (zTY κ) t ∧ va_D A w
/-- a polygon's reference in a field: 0 is null -/
def zpg (ad : Nat → Nat → Nat) (n : Nat) : Value := if n = 0 then .null else .ref (ad n 0)
theorem zpg_is {ad : Nat → Nat → Nat} {mk n : Nat} (h : ¬ zno mk n) : Value.ref (ad n 0) = zpg ad n := by
  unfold zpg
  rw [if_neg (by unfold zno at h; omega)]
theorem zpg_null {ad : Nat → Nat → Nat} {n : Nat} (h : n = 0) : some (zpg ad n) = some Value.null := by
  unfold zpg
  rw [if_pos h]
theorem zpg_some {ad : Nat → Nat → Nat} {n : Nat} (h : ¬ n = 0) : some (zpg ad n) = some (Value.ref (ad n 0)) := by
  unfold zpg
  rw [if_neg h]
theorem zpg_ok {ad : Nat → Nat → Nat} {mk n : Nat} (h : ¬ zno mk n) : some (zpg ad n) = some (Value.ref (ad n 0)) := by rw [zpg_is h]
/-- the row of the polygons that were made -/
def zmade (mk : Nat) (ad : Nat → Nat → Nat) : Nat → Option Nat := fun i => if zno mk (i + 4) then none else some (ad (i + 4) 0)
section ZP
variable {p : Program} {l : Launch} {e : Env} {R : Room} {s : State} {m : MethodId} {args : Array Value} {below : List Frame} {meth : Method} {c : Code} {H H0 : Heap} {locs : List Loc} {cells slots : Nat} {Q : State → Prop} {ls : Array Slot} {pc : Nat} {rest : List Value} {cc : ByteArray} {D : va_G} {cl : List vw_C} {tys : List (ClassId × FieldType)} {ws : va_W} {a : Nat} {A : Nat → Prop} {mk : Nat} {ad : Nat → Nat → Nat}
theorem zv_putP (hexec : p.tables.exec = Jvm.exec) (hb : c.code = cc) {own ref C : String} {T : u_T} {N ci index : Nat} {Ts : List Cond} (hts : ∀ w ∈ Ts, w.before args s = true) (hin : ∀ w ∈ u_ws C T N, w ∈ Ts) (ty0 : Nat → FieldType) (hty : ∀ k, k < N → parseFieldDescriptor (T k).2.2.1 = some (ty0 k)) (hnm : ∀ a, a < N → ∀ b, b < N → a ≠ b → (T a).2.1 ≠ (T b).2.1) (hown : s.vm.findClass own = some m.cls) (hK : va_K D cl tys s) (hP : va_P D cl ws H) (hD : va_D A ws) (hS0 : va_S A H0 H locs) (q0 : Nat) {fs : List Value} (he : ws[q0]? = some (a, .inr (ci, fs))) (hc : cl[ci]? = some (C, T, N)) (k : Nat) (hk : k < N) (hlink : (Cond.fieldLink own index ref (T k).2.1 (T k).2.2.1).before args s = true) (hsame : ∀ x, s.fieldFound? (T k).1 (T k).2.1 (T k).2.2.1 = some x → s.fieldFound? ref (T k).2.1 (T k).2.2.1 = some x) (hfin : (T k).2.2.2 = false) (hd : parseFieldDescriptor (T k).2.2.1 = some (.object "DiamondRows$Polygon")) (hl : k < fs.length) {n : Nat} (hm : ¬ zno mk n)
    (hdg : decode cc pc = .ok (.putfield index, 3)) (kk : ∀ (H1 : Heap) (locs1 : List Loc), va_P D cl (ws.set q0 (a, .inr (ci, fs.set k (zpg ad n)))) H1 → va_D A (ws.set q0 (a, .inr (ci, fs.set k (zpg ad n)))) → va_S A H0 H1 locs1 → W p l e R s m args below meth c H1 locs1 cells slots Q (F0 m (pc + 3) ls rest)) : W p l e R s m args below meth c H locs cells slots Q (F0 m pc ls (.ref (ad n 0) :: .ref a :: rest)) := by
  refine va_put hexec hb hts hin ty0 hty hnm hown hK hP hD hS0 q0 he hc k hk hlink hsame hfin hd rfl rfl hl hdg ?_
  rw [zpg_is hm]
  exact kk
theorem zv_putN (hexec : p.tables.exec = Jvm.exec) (hb : c.code = cc) {own ref C : String} {T : u_T} {N ci index : Nat} {Ts : List Cond} (hts : ∀ w ∈ Ts, w.before args s = true) (hin : ∀ w ∈ u_ws C T N, w ∈ Ts) (ty0 : Nat → FieldType) (hty : ∀ k, k < N → parseFieldDescriptor (T k).2.2.1 = some (ty0 k)) (hnm : ∀ a, a < N → ∀ b, b < N → a ≠ b → (T a).2.1 ≠ (T b).2.1) (hown : s.vm.findClass own = some m.cls) (hK : va_K D cl tys s) (hP : va_P D cl ws H) (hD : va_D A ws) (hS0 : va_S A H0 H locs) (q0 : Nat) {fs : List Value} (he : ws[q0]? = some (a, .inr (ci, fs))) (hc : cl[ci]? = some (C, T, N)) (k : Nat) (hk : k < N) (hlink : (Cond.fieldLink own index ref (T k).2.1 (T k).2.2.1).before args s = true) (hsame : ∀ x, s.fieldFound? (T k).1 (T k).2.1 (T k).2.2.1 = some x → s.fieldFound? ref (T k).2.1 (T k).2.2.1 = some x) (hfin : (T k).2.2.2 = false) (hd : parseFieldDescriptor (T k).2.2.1 = some (.object "DiamondRows$Polygon")) (hl : k < fs.length)
    (hdg : decode cc pc = .ok (.putfield index, 3)) (kk : ∀ (H1 : Heap) (locs1 : List Loc), va_P D cl (ws.set q0 (a, .inr (ci, fs.set k (zpg ad 0)))) H1 → va_D A (ws.set q0 (a, .inr (ci, fs.set k (zpg ad 0)))) → va_S A H0 H1 locs1 → W p l e R s m args below meth c H1 locs1 cells slots Q (F0 m (pc + 3) ls rest)) : W p l e R s m args below meth c H locs cells slots Q (F0 m pc ls (.null :: .ref a :: rest)) :=
  va_put hexec hb hts hin ty0 hty hnm hown hK hP hD hS0 q0 he hc k hk hlink hsame hfin hd rfl rfl hl hdg kk
end ZP
section ZK
variable {p : Program} {l : Launch} {e : Env} {R : Room} {s : State} {m : MethodId} {args : Array Value} {below : List Frame} {meth : Method} {c : Code} {H : Heap} {locs : List Loc} {cells slots : Nat} {Q : State → Prop} {ls : Array Slot} {pc : Nat} {st0 rest As : List Value}
  {y : MethodName} {bytes cc : ByteArray} {maxL nL n index mc ms : Nat} {ret : Option FieldType} {ws : List Cond} {rm : Room} {Ts : List Cond} {own C : String} {b : Addr} {D : va_G} {κ : Nat → ClassId} {wc : va_W} {mk : Nat} {ad : Nat → Nat → Nat}
theorem zpreV (hK : va_K D vwCl (zTY κ) s) (hP : va_P D vwCl wc H) (ci q0 : Nat) {fs : List Value} {T : u_T} {N : Nat} (he : wc[q0]? = some (b, .inr (ci, fs))) (hc : vwCl[ci]? = some (C, T, N)) : PreV s H C b (va_Pc (.ref b :: As) (zR D κ wc)) As :=
  ⟨zR_blind, va_recv hK hP hc he, fun U hU hW => ⟨rfl, by rw [hU]; exact hP, va_K.moved hW.alike hK⟩⟩
theorem zpreVa (hK : va_K D vwCl (zTY κ) s) (hP : va_P D vwCl wc H) (hB : zAmb D κ mk ad H) (ci q0 : Nat) {fs : List Value} {T : u_T} {N : Nat} (he : wc[q0]? = some (b, .inr (ci, fs))) (hc : vwCl[ci]? = some (C, T, N)) : PreV s H C b (va_Pc (.ref b :: As) (zRa D κ mk ad wc)) As :=
  ⟨zRa_blind, va_recv hK hP hc he, fun U hU hW => ⟨rfl, by rw [hU]; exact hP, va_K.moved hW.alike hK, by rw [hU]; exact hB⟩⟩
theorem zpreS (hK : va_K D vwCl (zTY κ) s) (hP : va_P D vwCl wc H) : PreS s H (va_Pc As (zR D κ wc)) As :=
  ⟨zR_blind, fun U hU hW => ⟨rfl, by rw [hU]; exact hP, va_K.moved hW.alike hK⟩⟩
theorem zpreSa (hK : va_K D vwCl (zTY κ) s) (hP : va_P D vwCl wc H) (hB : zAmb D κ mk ad H) : PreS s H (va_Pc As (zRa D κ mk ad wc)) As :=
  ⟨zRa_blind, fun U hU hW => ⟨rfl, by rw [hU]; exact hP, va_K.moved hW.alike hK, by rw [hU]; exact hB⟩⟩
theorem zpreWV {A : Nat → Prop} (hK : va_K D vwCl (zTY κ) s) (hP : va_P D vwCl wc H) (hD : va_D A wc) (ci q0 : Nat) {fs : List Value} {T : u_T} {N : Nat} (he : wc[q0]? = some (b, .inr (ci, fs))) (hc : vwCl[ci]? = some (C, T, N)) : PreV s H C b (va_Pc (.ref b :: As) (zW D κ wc H.size)) As :=
  ⟨zW_blind, va_recv hK hP hc he, fun U hU hW => ⟨rfl, by rw [hU], by rw [hU]; exact hP, va_K.moved hW.alike hK, hD.weaken (fun _ _ _ _ => trivial)⟩⟩
theorem zapt {A : Nat → Prop} {H0 : Heap} (hBA : zApt mk ad A H0.size) (hS : va_S A H0 H locs) (hF : ∀ q, va_A wc H.size q → A q) : zApt mk ad (va_A wc H.size) H.size :=
  fun n hn k hk => ⟨fun q => (hBA n hn k hk).1 (hF _ q), Nat.lt_of_lt_of_le (hBA n hn k hk).2 hS.1⟩
theorem zpreWVa {A : Nat → Prop} (hK : va_K D vwCl (zTY κ) s) (hP : va_P D vwCl wc H) (hD : va_D A wc) (hB : zAmb D κ mk ad H) (hBA : zApt mk ad (va_A wc H.size) H.size) (ci q0 : Nat) {fs : List Value} {T : u_T} {N : Nat} (he : wc[q0]? = some (b, .inr (ci, fs))) (hc : vwCl[ci]? = some (C, T, N)) : PreV s H C b (va_Pc (.ref b :: As) (zWa D κ mk ad wc H.size)) As :=
  ⟨zWa_blind, va_recv hK hP hc he, fun U hU hW => ⟨rfl, by rw [hU], by rw [hU]; exact hP, va_K.moved hW.alike hK, hD.weaken (fun _ _ _ _ => trivial), by rw [hU]; exact hB, hBA⟩⟩
/-- a call that only reads (virtual, static; int, long) -/
theorem zc_vi {Pc : Array Value → State → Prop} {r : Int32} (S : CallFix p m c cc nL s args Ts own) (hM : Met l y ws rm Pc (vp_Si (fun x => x = r)) 0 0 (fun _ => False)) (cw : CallW R s args own C index y bytes maxL ret ws rm 0 0 n) (hp : PreV s H C b Pc As)
    (hn : As.length = n) (hsz : ls.size = nL) (hst : st0 = As.reverse ++ .ref b :: rest) (hW : (rest.map fun v => v.category).sum ≤ 8) (hdg : decode cc pc = .ok (.invokevirtual index, 3)) (hf : cells ≤ R.cells ∧ slots ≤ R.slots)
    (kk : W p l e R s m args below meth c H locs cells slots Q (F0 m (pc + 3) ls (.int r :: rest))) : W p l e R s m args below meth c H locs cells slots Q (F0 m pc ls st0) :=
  vp_callSi (W.runV S hM cw hp rfl hn hsz hst (lv_room (m := m) (pc := pc) (ls := ls) (rest := st0) hW) hdg hf) (fun x hx => by subst hx; exact kk)
theorem zc_vl {Pc : Array Value → State → Prop} {r : Int64} (S : CallFix p m c cc nL s args Ts own) (hM : Met l y ws rm Pc (vp_Sl (fun x => x = r)) 0 0 (fun _ => False)) (cw : CallW R s args own C index y bytes maxL ret ws rm 0 0 n) (hp : PreV s H C b Pc As)
    (hn : As.length = n) (hsz : ls.size = nL) (hst : st0 = As.reverse ++ .ref b :: rest) (hW : (rest.map fun v => v.category).sum ≤ 8) (hdg : decode cc pc = .ok (.invokevirtual index, 3)) (hf : cells ≤ R.cells ∧ slots ≤ R.slots)
    (kk : W p l e R s m args below meth c H locs cells slots Q (F0 m (pc + 3) ls (.long r :: rest))) : W p l e R s m args below meth c H locs cells slots Q (F0 m pc ls st0) :=
  vp_callSl (W.runV S hM cw hp rfl hn hsz hst (lv_room (m := m) (pc := pc) (ls := ls) (rest := st0) hW) hdg hf) (fun x hx => by subst hx; exact kk)
theorem zc_si {Pc : Array Value → State → Prop} {r : Int32} (S : CallFix p m c cc nL s args Ts own) (hM : Met l y ws rm Pc (vp_Si (fun x => x = r)) 0 0 (fun _ => False)) (cw : CallB R s args own index y bytes maxL ret ws rm 0 0 n ∧ (Cond.static y).before args s = true) (hp : PreS s H Pc As)
    (hn : As.length = n) (hsz : ls.size = nL) (hst : st0 = As.reverse ++ rest) (hW : (rest.map fun v => v.category).sum ≤ 8) (hdg : decode cc pc = .ok (.invokestatic index, 3)) (hf : cells ≤ R.cells ∧ slots ≤ R.slots)
    (kk : W p l e R s m args below meth c H locs cells slots Q (F0 m (pc + 3) ls (.int r :: rest))) : W p l e R s m args below meth c H locs cells slots Q (F0 m pc ls st0) :=
  vp_callSi (W.runS S hM cw hp rfl hn hsz hst (lv_room (m := m) (pc := pc) (ls := ls) (rest := st0) hW) hdg hf) (fun x hx => by subst hx; exact kk)
/-- behind a call that writes: int, void, long -/
theorem zj_i {A0 : Nat → Prop} {H0 : Heap} {a : Array Value} {o : Int32} {ws0 wr w1 ws1 : va_W} (hr : va_Run p l e R s m args below meth c H locs cells slots 0 0 (F0 m pc ls st0) rest (va_Qi (fun r (_ : Unit) => r = o) (fun _ => zB D κ (va_A wc H.size) w1) (va_A wc H.size) a) (va_A wc H.size))
    (hP : va_P D vwCl ws0 H) (hD : va_D A0 ws0) (hS : va_S A0 H0 H locs) (hA : ∀ q, H0.size ≤ q → A0 q) (isC isR pm : List Nat) (hC : isC.map (fun i => ws0[i]?) = wc.map some) (hR : isR.map (fun i => ws0[i]?) = wr.map some) (hn : va_nd isR = true) (hdis : isR.all (fun i => !isC.contains i) = true) (hp1 : pm.filterMap (fun i => (wr ++ w1)[i]?) = ws1) (hp2 : pm.map (fun i => (wr ++ w1)[i]?) = ws1.map some) (hnp : va_nd pm = true)
    (kk : ∀ (H1 : Heap) (locs1 : List Loc), va_P D vwCl ws1 H1 → va_D A0 ws1 → va_S A0 H0 H1 locs1 → W p l e R s m args below meth c H1 locs1 cells slots Q (F0 m (pc + 3) ls (.int o :: rest))) : W p l e R s m args below meth c H locs cells slots Q (F0 m pc ls st0) := by
  have hFc := va_free (wc := wc) hD hS hA isC hC
  refine va_calli hr hS (fun q _ h => hFc q h) hFc (fun r u t H1 locs1 ht hvm hw hB hz1 hk1 hS1 => ?_)
  obtain ⟨hP1, -, hD1⟩ := hB
  rw [ht] at hP1
  have hw : r = o := hw
  subst hw
  obtain ⟨hP2, hD2⟩ := va_join (wr := wr) (w1 := w1) hP hD isC isR hC hR hn (fun i hi hc => by have := List.all_eq_true.mp hdis i hi; simp [List.contains_iff_mem, hc] at this) hk1 hFc hP1 hD1
  exact kk H1 locs1 (hP2.sub pm hp1) (hD2.sub pm hnp hp2) hS1
theorem zj_l {A0 : Nat → Prop} {H0 : Heap} {a : Array Value} {o : Int64} {ws0 wr w1 ws1 : va_W} (hr : va_Run p l e R s m args below meth c H locs cells slots 0 0 (F0 m pc ls st0) rest (va_Ql (fun r (_ : Unit) => r = o) (fun _ => zB D κ (va_A wc H.size) w1) (va_A wc H.size) a) (va_A wc H.size))
    (hP : va_P D vwCl ws0 H) (hD : va_D A0 ws0) (hS : va_S A0 H0 H locs) (hA : ∀ q, H0.size ≤ q → A0 q) (isC isR pm : List Nat) (hC : isC.map (fun i => ws0[i]?) = wc.map some) (hR : isR.map (fun i => ws0[i]?) = wr.map some) (hn : va_nd isR = true) (hdis : isR.all (fun i => !isC.contains i) = true) (hp1 : pm.filterMap (fun i => (wr ++ w1)[i]?) = ws1) (hp2 : pm.map (fun i => (wr ++ w1)[i]?) = ws1.map some) (hnp : va_nd pm = true)
    (kk : ∀ (H1 : Heap) (locs1 : List Loc), va_P D vwCl ws1 H1 → va_D A0 ws1 → va_S A0 H0 H1 locs1 → W p l e R s m args below meth c H1 locs1 cells slots Q (F0 m (pc + 3) ls (.long o :: rest))) : W p l e R s m args below meth c H locs cells slots Q (F0 m pc ls st0) := by
  have hFc := va_free (wc := wc) hD hS hA isC hC
  refine va_calll hr hS (fun q _ h => hFc q h) hFc (fun r u t H1 locs1 ht hvm hw hB hz1 hk1 hS1 => ?_)
  obtain ⟨hP1, -, hD1⟩ := hB
  rw [ht] at hP1
  have hw : r = o := hw
  subst hw
  obtain ⟨hP2, hD2⟩ := va_join (wr := wr) (w1 := w1) hP hD isC isR hC hR hn (fun i hi hc => by have := List.all_eq_true.mp hdis i hi; simp [List.contains_iff_mem, hc] at this) hk1 hFc hP1 hD1
  exact kk H1 locs1 (hP2.sub pm hp1) (hD2.sub pm hnp hp2) hS1
theorem zj_v {A0 : Nat → Prop} {H0 : Heap} {a : Array Value} {ws0 wr w1 ws1 : va_W} (hr : va_Run p l e R s m args below meth c H locs cells slots 0 0 (F0 m pc ls st0) rest (va_Qv (fun (_ : Unit) => True) (fun _ => zB D κ (va_A wc H.size) w1) (va_A wc H.size) a) (va_A wc H.size))
    (hP : va_P D vwCl ws0 H) (hD : va_D A0 ws0) (hS : va_S A0 H0 H locs) (hA : ∀ q, H0.size ≤ q → A0 q) (isC isR pm : List Nat) (hC : isC.map (fun i => ws0[i]?) = wc.map some) (hR : isR.map (fun i => ws0[i]?) = wr.map some) (hn : va_nd isR = true) (hdis : isR.all (fun i => !isC.contains i) = true) (hp1 : pm.filterMap (fun i => (wr ++ w1)[i]?) = ws1) (hp2 : pm.map (fun i => (wr ++ w1)[i]?) = ws1.map some) (hnp : va_nd pm = true)
    (kk : ∀ (H1 : Heap) (locs1 : List Loc), va_P D vwCl ws1 H1 → va_D A0 ws1 → va_S A0 H0 H1 locs1 → W p l e R s m args below meth c H1 locs1 cells slots Q (F0 m (pc + 3) ls rest)) : W p l e R s m args below meth c H locs cells slots Q (F0 m pc ls st0) := by
  have hFc := va_free (wc := wc) hD hS hA isC hC
  refine va_callv hr hS (fun q _ h => hFc q h) hFc (fun u t H1 locs1 ht hvm hw hB hz1 hk1 hS1 => ?_)
  obtain ⟨hP1, -, hD1⟩ := hB
  rw [ht] at hP1
  obtain ⟨hP2, hD2⟩ := va_join (wr := wr) (w1 := w1) hP hD isC isR hC hR hn (fun i hi hc => by have := List.all_eq_true.mp hdis i hi; simp [List.contains_iff_mem, hc] at this) hk1 hFc hP1 hD1
  exact kk H1 locs1 (hP2.sub pm hp1) (hD2.sub pm hnp hp2) hS1
end ZK
