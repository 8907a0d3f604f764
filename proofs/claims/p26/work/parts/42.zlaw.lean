/-! the law's own rows -/
def zSep (mk : Nat) (ad : Nat → Nat → Nat) (ws : va_W) (sz : Nat) : Prop := ∀ n, ¬ zno mk n → ∀ k, k < 7 → ad n k < sz ∧ ∀ (i : Nat) (q : Nat × va_E), ws[i]? = some q → q.1 ≠ ad n k
theorem zSep.apt {mk : Nat} {ad : Nat → Nat → Nat} {ws wc : va_W} {sz : Nat} (h : zSep mk ad ws sz) (isC : List Nat) (hC : isC.map (fun i => ws[i]?) = wc.map some) : zApt mk ad (va_A wc sz) sz := by
  intro n hn k hk
  obtain ⟨h1, h2⟩ := h n hn k hk
  refine ⟨?_, h1⟩
  rintro (⟨j, e, hj⟩ | hs)
  · have h3 : (wc.map some)[j]? = some (some (ad n k, e)) := by rw [List.getElem?_map, hj]; rfl
    rw [← hC, List.getElem?_map] at h3
    cases hi : isC[j]? with
    | none => rw [hi] at h3; cases h3
    | some i =>
      rw [hi] at h3
      have h4 : ws[i]? = some (ad n k, e) := Option.some.inj h3
      exact h2 i _ h4 rfl
  · omega
theorem zSep.same {mk : Nat} {ad : Nat → Nat → Nat} {ws ws1 : va_W} {sz sz1 : Nat} (h : zSep mk ad ws sz) (hz : sz ≤ sz1) (e : ws1.map Prod.fst = ws.map Prod.fst) : zSep mk ad ws1 sz1 := by
  intro n hn k hk
  obtain ⟨h1, h2⟩ := h n hn k hk
  refine ⟨Nat.lt_of_lt_of_le h1 hz, fun i q hq => ?_⟩
  have h3 : (ws1.map Prod.fst)[i]? = some q.1 := by rw [List.getElem?_map, hq]; rfl
  rw [e, List.getElem?_map] at h3
  cases hw : ws[i]? with
  | none => rw [hw] at h3; cases h3
  | some w =>
    rw [hw] at h3
    have h4 : w.1 = q.1 := Option.some.inj h3
    rw [← h4]
    exact h2 i w hw
theorem zAmb.keep {D : va_G} {κ : Nat → ClassId} {mk : Nat} {ad : Nat → Nat → Nat} {A1 : Nat → Prop} {H H1 : Heap} (hB : zAmb D κ mk ad H) (hap : zApt mk ad A1 H.size) (hk1 : ∀ q : Nat, q < H.size → ¬ A1 q → H1[q]? = H[q]?) : zAmb D κ mk ad H1 := by
  intro n hn
  refine (hB n hn).kept (fun k q hk => ?_)
  obtain ⟨j, hj, e⟩ := zpgc_at hk
  obtain ⟨h1, h2⟩ := hap n hn j hj
  rw [e]
  exact hk1 _ h2 h1
def zX (xs : Nat → Int32) (k : Nat) : Int := (xs k).toInt
theorem zX_in (xs : Nat → Int32) (k : Nat) : ¬ zout (zX xs k) := zi_rng _
theorem zX_zi (xs : Nat → Int32) (k : Nat) : zi (zX xs k) = xs k := zi_of _
section ZLA
variable {p : Program} {l : Launch} {e : Env} {R : Room} {s : State} {m : MethodId} {args : Array Value} {below : List Frame} {meth : Method} {c : Code} {H H0 : Heap} {locs : List Loc} {cells slots : Nat} {Q : State → Prop} {ls : Array Slot} {pc : Nat} {st0 rest As : List Value}
  {cc : ByteArray} {D : va_G} {κ : Nat → ClassId} {wc : va_W} {mk : Nat} {ad : Nat → Nat → Nat} {A0 : Nat → Prop}
theorem zv_sld (hexec : p.tables.exec = Jvm.exec) (hb : c.code = cc) {b L : Nat} {xs : Nat → Int32} (hX : va_X b L xs s H0) (hbl : b < H0.size) (hbA : ¬ A0 b) (hS : va_S A0 H0 H locs) {i : Int} (k : Nat) (hi : i = (k : Int)) (hk : k < L) (hL : L ≤ 3072) (hdg : decode cc pc = .ok (.iaload, 1))
    (kk : W p l e R s m args below meth c H locs cells slots Q (F0 m (pc + 1) ls (.int (zi (zX xs k)) :: rest))) : W p l e R s m args below meth c H locs cells slots Q (F0 m pc ls (.int (zi i) :: .ref b :: rest)) := by
  have hin : ¬ (i < 0 ∨ (L : Int) ≤ i) := by omega
  refine va_sld hexec hb hX hbl hbA hS (zi_vin (n := L) (by omega) hin) hdg ?_
  rw [zi_clamp (n := L) (by omega) hin, show i.toNat = k by omega, ← zX_zi xs k]
  exact kk
theorem zv_slen (hexec : p.tables.exec = Jvm.exec) (hb : c.code = cc) {b L : Nat} {xs : Nat → Int32} (hX : va_X b L xs s H0) (hbl : b < H0.size) (hbA : ¬ A0 b) (hS : va_S A0 H0 H locs) (hdg : decode cc pc = .ok (.arraylength, 1))
    (kk : W p l e R s m args below meth c H locs cells slots Q (F0 m (pc + 1) ls (.int (zi (L : Int)) :: rest))) : W p l e R s m args below meth c H locs cells slots Q (F0 m pc ls (.ref b :: rest)) := va_slen hexec hb hX hbl hbA hS hdg kk
theorem zjl_i {a : Array Value} {o : Int32} {ws0 wr w1 ws1 : va_W} (hr : va_Run p l e R s m args below meth c H locs cells slots 0 0 (F0 m pc ls st0) rest (va_Qi (fun r (_ : Unit) => r = o) (fun _ => zB D κ (va_A wc H.size) w1) (va_A wc H.size) a) (va_A wc H.size))
    (hP : va_P D vwCl ws0 H) (hD : va_D A0 ws0) (hS : va_S A0 H0 H locs) (hB : zAmb D κ mk ad H) (hZ : zSep mk ad ws0 H.size) (hA : ∀ q, H0.size ≤ q → A0 q) (isC isR pm : List Nat) (hC : isC.map (fun i => ws0[i]?) = wc.map some) (hR : isR.map (fun i => ws0[i]?) = wr.map some) (hn : va_nd isR = true) (hdis : isR.all (fun i => !isC.contains i) = true) (hp1 : pm.filterMap (fun i => (wr ++ w1)[i]?) = ws1) (hp2 : pm.map (fun i => (wr ++ w1)[i]?) = ws1.map some) (hnp : va_nd pm = true) (hf : ws1.map Prod.fst = ws0.map Prod.fst)
    (kk : ∀ (H1 : Heap) (locs1 : List Loc), va_P D vwCl ws1 H1 → va_D A0 ws1 → va_S A0 H0 H1 locs1 → zAmb D κ mk ad H1 → zSep mk ad ws1 H1.size → W p l e R s m args below meth c H1 locs1 cells slots Q (F0 m (pc + 3) ls (.int o :: rest))) : W p l e R s m args below meth c H locs cells slots Q (F0 m pc ls st0) := by
  have hFc := va_free (wc := wc) hD hS hA isC hC
  refine va_calli hr hS (fun q _ h => hFc q h) hFc (fun r u t H1 locs1 ht hvm hw hBB hz1 hk1 hS1 => ?_)
  obtain ⟨hP1, -, hD1⟩ := hBB
  rw [ht] at hP1
  have hw : r = o := hw
  subst hw
  obtain ⟨hP2, hD2⟩ := va_join (wr := wr) (w1 := w1) hP hD isC isR hC hR hn (fun i hi hc => by have := List.all_eq_true.mp hdis i hi; simp [List.contains_iff_mem, hc] at this) hk1 hFc hP1 hD1
  exact kk H1 locs1 (hP2.sub pm hp1) (hD2.sub pm hnp hp2) hS1 (hB.keep (hZ.apt isC hC) hk1) (hZ.same hz1 hf)
theorem zjl_l {a : Array Value} {o : Int64} {ws0 wr w1 ws1 : va_W} (hr : va_Run p l e R s m args below meth c H locs cells slots 0 0 (F0 m pc ls st0) rest (va_Ql (fun r (_ : Unit) => r = o) (fun _ => zB D κ (va_A wc H.size) w1) (va_A wc H.size) a) (va_A wc H.size))
    (hP : va_P D vwCl ws0 H) (hD : va_D A0 ws0) (hS : va_S A0 H0 H locs) (hB : zAmb D κ mk ad H) (hZ : zSep mk ad ws0 H.size) (hA : ∀ q, H0.size ≤ q → A0 q) (isC isR pm : List Nat) (hC : isC.map (fun i => ws0[i]?) = wc.map some) (hR : isR.map (fun i => ws0[i]?) = wr.map some) (hn : va_nd isR = true) (hdis : isR.all (fun i => !isC.contains i) = true) (hp1 : pm.filterMap (fun i => (wr ++ w1)[i]?) = ws1) (hp2 : pm.map (fun i => (wr ++ w1)[i]?) = ws1.map some) (hnp : va_nd pm = true) (hf : ws1.map Prod.fst = ws0.map Prod.fst)
    (kk : ∀ (H1 : Heap) (locs1 : List Loc), va_P D vwCl ws1 H1 → va_D A0 ws1 → va_S A0 H0 H1 locs1 → zAmb D κ mk ad H1 → zSep mk ad ws1 H1.size → W p l e R s m args below meth c H1 locs1 cells slots Q (F0 m (pc + 3) ls (.long o :: rest))) : W p l e R s m args below meth c H locs cells slots Q (F0 m pc ls st0) := by
  have hFc := va_free (wc := wc) hD hS hA isC hC
  refine va_calll hr hS (fun q _ h => hFc q h) hFc (fun r u t H1 locs1 ht hvm hw hBB hz1 hk1 hS1 => ?_)
  obtain ⟨hP1, -, hD1⟩ := hBB
  rw [ht] at hP1
  have hw : r = o := hw
  subst hw
  obtain ⟨hP2, hD2⟩ := va_join (wr := wr) (w1 := w1) hP hD isC isR hC hR hn (fun i hi hc => by have := List.all_eq_true.mp hdis i hi; simp [List.contains_iff_mem, hc] at this) hk1 hFc hP1 hD1
  exact kk H1 locs1 (hP2.sub pm hp1) (hD2.sub pm hnp hp2) hS1 (hB.keep (hZ.apt isC hC) hk1) (hZ.same hz1 hf)
end ZLA
/-- with the text constant of the class CutText -/
def zWv (str : Nat) (B : State → Prop) : State → Prop := fun U => B U ∧ vk_R RX1 47 "corners" str U
theorem zpreStr {s : State} {H : Heap} {C : String} {b str : Nat} {av As : List Value} {B : State → Prop} (hV : vk_R RX1 47 "corners" str s) (hp : PreV s H C b (va_Pc av B) As) : PreV s H C b (va_Pc av (zWv str B)) As :=
  ⟨fun a U g mk q => ⟨(hp.1 a U g mk ⟨q.1, q.2.1⟩).1, (hp.1 a U g mk ⟨q.1, q.2.1⟩).2, vk_R.same rfl q.2.2⟩, hp.2.1, fun U hU hW => ⟨(hp.2.2 U hU hW).1, (hp.2.2 U hU hW).2, vk_R.warm hW hV⟩⟩
