abbrev zr_X10_kinds : Room := { frames := 34, cells := 7, slots := 609, locals := 870 }
theorem zi_X10_kinds_X10 : ∀ w ∈ u_ws RX10 TX10 13, w ∈ wsX10_kinds := by decide +kernel
theorem zl_X10_kinds_19 : Cond.fieldLink RX10 19 "DiamondRows" "polygons" "LDiamondRows$Polygons;" ∈ wsX10_kinds := by decide +kernel
abbrev zr_X10_greatest : Room := { frames := 34, cells := 7, slots := 609, locals := 870 }
theorem zi_X10_greatest_X10 : ∀ w ∈ u_ws RX10 TX10 13, w ∈ wsX10_greatest := by decide +kernel
theorem zl_X10_greatest_19 : Cond.fieldLink RX10 19 "DiamondRows" "polygons" "LDiamondRows$Polygons;" ∈ wsX10_greatest := by decide +kernel
abbrev zr_X10_take : Room := { frames := 34, cells := 7, slots := 609, locals := 870 }
theorem zi_X10_take_X10 : ∀ w ∈ u_ws RX10 TX10 13, w ∈ wsX10_take := by decide +kernel
theorem zl_X10_take_19 : Cond.fieldLink RX10 19 "DiamondRows" "polygons" "LDiamondRows$Polygons;" ∈ wsX10_take := by decide +kernel
theorem zpg_agree {mk n : Nat} {ad ad1 : Nat → Nat → Nat} (h : n = 0 ∨ ¬ zno mk n) (hag : ∀ n, ¬ zno mk n → ad1 n = ad n) : zpg ad n = zpg ad1 n := by
  unfold zpg
  rcases h with h | h
  · rw [if_pos h, if_pos h]
  · rw [hag n h]
theorem zold_in {D : va_G} {A B : Nat → Prop} {ws wc : va_W} {H : Heap} {sz : Nat} (hP : va_P D vwCl ws H) (hD : va_D A ws) (hF : ∀ q, va_A wc sz q → B q) (is : List Nat) (hs : is.map (fun i => (ws[i]?).map Prod.fst) = wc.map (fun q => some q.1)) (q : Nat) (hq : ∃ (k : Nat) (e : va_E), wc[k]? = some (q, e)) : q < H.size ∧ A q := by
  obtain ⟨k, e, hk⟩ := hq
  have h1 : (wc.map (fun q => some q.1))[k]? = some (some q) := by rw [List.getElem?_map, hk]; rfl
  rw [← hs, List.getElem?_map] at h1
  cases hi : is[k]? with
  | none => rw [hi] at h1; cases h1
  | some i =>
    rw [hi] at h1
    have h2 : (ws[i]?).map Prod.fst = some q := Option.some.inj h1
    cases hw : ws[i]? with
    | none => rw [hw] at h2; cases h2
    | some w =>
      rw [hw] at h2
      have h3 : w.1 = q := Option.some.inj h2
      rw [← h3]
      exact ⟨(hP i w hw).lt, hD.2 i w hw⟩
theorem zapt_new {D : va_G} {κ : Nat → ClassId} {mk c : Nat} {ad ad1 : Nat → Nat → Nat} {A : Nat → Prop} {wc : va_W} {H H1 : Heap} (hBA : zApt mk ad A H.size) (hag : ∀ n, ¬ zno mk n → ad1 n = ad n) (hnew : zno mk c → ∀ k, k < 7 → H.size ≤ ad1 c k) (hz : H.size ≤ H1.size) (hB1 : zAmb D κ (zmk mk c) ad1 H1) (hin : ∀ q, (∃ (k : Nat) (e : va_E), wc[k]? = some (q, e)) → q < H.size ∧ A q) : zApt (zmk mk c) ad1 (va_A wc H1.size) H1.size := by
  intro n hn k hk
  have hlt : ad1 n k < H1.size := by
    have h7 : ∃ q : Nat × va_E, (zpgc κ (ad1 n) n)[k]? = some q ∧ q.1 = ad1 n k := by
      match k, hk with
      | 0, _ => exact ⟨_, rfl, rfl⟩
      | 1, _ => exact ⟨_, rfl, rfl⟩
      | 2, _ => exact ⟨_, rfl, rfl⟩
      | 3, _ => exact ⟨_, rfl, rfl⟩
      | 4, _ => exact ⟨_, rfl, rfl⟩
      | 5, _ => exact ⟨_, rfl, rfl⟩
      | 6, _ => exact ⟨_, rfl, rfl⟩
    obtain ⟨q, hq, e⟩ := h7
    rw [← e]
    exact (hB1 n hn k q hq).lt
  refine ⟨?_, hlt⟩
  rintro (h | h)
  · obtain ⟨h1, h2⟩ := hin _ h
    by_cases hm : zno mk n
    · have e : n = c := Classical.byContradiction (fun q => hn ((zmk_ne q).mpr hm))
      subst e
      have := hnew hm k hk
      omega
    · rw [hag n hm] at h2
      exact (hBA n hm k hk).1 h2
  · omega
set_option maxHeartbeats 4000000 in
set_option maxRecDepth 100000 in
theorem zc_X10_kinds (l : Launch) (D : va_G) (κ : Nat → ClassId) (t : Nat → Nat) (mk : Nat) (ad : Nat → Nat → Nat) (sz : Nat) (t_polygon : Nat) (t_bits : Int) (t_mendedNumber : Int) (c : Nat) (h4 : 4 ≤ c) (h9 : c ≤ 9) (hpol : t_polygon = 0 ∨ ¬ zno mk t_polygon) (i2 : Bool) (o : Int) (ho : zf_X5_countKinds c i2 = some o) (out : Int) (hout : out = o) : Met l yX10_kinds wsX10_kinds zr_X10_kinds (va_Pc [.ref (t 0), .int (zi (c : Int)), .int (zi (bI i2))] (zWa D κ mk ad ([((t 0), .inr (10, [.ref (t 1), .ref (t 3), .ref (t 5), .ref (t 6), .ref (t 9), .ref (t 11), .ref (t 15), .ref (t 17), .ref (t 27), .ref (t 30), zpg ad t_polygon, .int (zi t_bits), .int (zi t_mendedNumber)])), ((t 3), .inr (6, [.ref (t 4)])), ((t 4), .inl (κ 4, 6, .inr (.inr (.inr (.inr (zmade mk ad))))))]) sz)) (va_Qi (fun r (ad' : Nat → Nat → Nat) => r = zi out ∧ (∀ n, ¬ zno mk n → ad' n = ad n) ∧ (zno mk c → ∀ k, k < 7 → sz ≤ ad' c k)) (fun ad' u => zB D κ (va_A ([((t 0), .inr (10, [.ref (t 1), .ref (t 3), .ref (t 5), .ref (t 6), .ref (t 9), .ref (t 11), .ref (t 15), .ref (t 17), .ref (t 27), .ref (t 30), zpg ad t_polygon, .int (zi t_bits), .int (zi t_mendedNumber)])), ((t 3), .inr (6, [.ref (t 4)])), ((t 4), .inl (κ 4, 6, .inr (.inr (.inr (.inr (zmade mk ad))))))]) sz) ([((t 0), .inr (10, [.ref (t 1), .ref (t 3), .ref (t 5), .ref (t 6), .ref (t 9), .ref (t 11), .ref (t 15), .ref (t 17), .ref (t 27), .ref (t 30), zpg ad' t_polygon, .int (zi t_bits), .int (zi t_mendedNumber)])), ((t 3), .inr (6, [.ref (t 4)])), ((t 4), .inl (κ 4, 6, .inr (.inr (.inr (.inr (zmade (zmk mk c) ad'))))))]) u ∧ zAmb D κ (zmk mk c) ad' u.heap) (va_A ([((t 0), .inr (10, [.ref (t 1), .ref (t 3), .ref (t 5), .ref (t 6), .ref (t 9), .ref (t 11), .ref (t 15), .ref (t 17), .ref (t 27), .ref (t 30), zpg ad t_polygon, .int (zi t_bits), .int (zi t_mendedNumber)])), ((t 3), .inr (6, [.ref (t 4)])), ((t 4), .inl (κ 4, 6, .inr (.inr (.inr (.inr (zmade mk ad))))))]) sz)) 7 609 (va_A ([((t 0), .inr (10, [.ref (t 1), .ref (t 3), .ref (t 5), .ref (t 6), .ref (t 9), .ref (t 11), .ref (t 15), .ref (t 17), .ref (t 27), .ref (t 30), zpg ad t_polygon, .int (zi t_bits), .int (zi t_mendedNumber)])), ((t 3), .inr (6, [.ref (t 4)])), ((t 4), .inl (κ 4, 6, .inr (.inr (.inr (.inr (zmade mk ad))))))]) sz) := by
  refine Met.ofW (cc := cX10_kinds) (maxL := 4) (ret := (some .int)) (by decide +kernel) rfl ?_
  intro p e s m args below meth cd s₁ B hml hv
  obtain ⟨rfl, hsz, hP, hK, hD0, hB, hBA⟩ := hv
  have hx := B.exec
  have hb := B.bytes
  have hr := B.returns
  have hts := atoms_spec (ws := wsX10_kinds) B.pre
  have hown : s.vm.findClass RX10 = some m.cls := findClass_of_methodNamed B.named
  have hlocks := B.notSynchronized
  subst hsz
  have hD := hD0.self (sz := s.heap.size)
  generalize hAe : va_A ([((t 0), .inr (10, [.ref (t 1), .ref (t 3), .ref (t 5), .ref (t 6), .ref (t 9), .ref (t 11), .ref (t 15), .ref (t 17), .ref (t 27), .ref (t 30), zpg ad t_polygon, .int (zi t_bits), .int (zi t_mendedNumber)])), ((t 3), .inr (6, [.ref (t 4)])), ((t 4), .inl (κ 4, 6, .inr (.inr (.inr (.inr (zmade mk ad))))))]) s.heap.size = A at hD hBA ⊢
  have hA : ∀ q : Nat, s.heap.size ≤ q → A q := fun q h => by rw [← hAe]; exact Or.inr h
  have hS : va_S A s.heap s.heap [] := va_S.rf
  have hl := lv_entry ([.ref (t 0), .int (zi (c : Int)), .int (zi (bI i2))]) (n := 4) (Nat.le_of_ble_eq_true rfl)
  rw [lg_entry_eq]
  generalize (lg_sl ([.ref (t 0), .int (zi (c : Int)), .int (zi (bI i2))]) ++ List.replicate (4 - (lg_sl ([.ref (t 0), .int (zi (c : Int)), .int (zi (bI i2))])).length) Slot.unset).toArray = ls at hl ⊢
  have hl : lv_has ls 4 [(0, .ref (t 0)), (1, .int (zi (c : Int))), (2, .int (zi (bI i2)))] := hl
  refine lv_aload_n hx hb dX10_kinds_0 rfl (lv_at hl 0 rfl) ?_
  refine va_get (D := D) (ci := 10) (v := .ref (t 3)) (C := RX10) (T := TX10) (N := 13) hx hb hts zi_X10_kinds_X10 hown hK hP 0 rfl rfl 1 (by decide) (hts (.fieldLink RX10 19 "DiamondRows" "polygons" "LDiamondRows$Polygons;") zl_X10_kinds_19) (fun _ h9 => h9) rfl dX10_kinds_1 ?_
  refine lv_iload_n hx hb dX10_kinds_4 rfl (lv_at hl 1 rfl) ?_
  have hFc := va_free (wc := zpl κ (fun i => t (i + 3)) mk ad) hD hS hA [1, 2] rfl
  refine va_callq (va_runV (rest := []) ⟨hx, hb, hml, hown, hts⟩ (zc_X6_withCorners l D κ (fun i => t (i + 3)) mk ad s.heap.size c h4 h9) (cwV 1 hts gX10_kinds_X6_withCorners rfl rfl rfl (by decide +kernel) ⟨Nat.le_of_ble_eq_true rfl, Nat.le_of_ble_eq_true rfl⟩) (zpreWVa hK (hP.sub [1, 2] rfl) (hD.sub [1, 2] (by decide) rfl) hB (zapt hBA hS hFc) 6 0 rfl rfl) rfl rfl hl.1 rfl (lv_room (Nat.le_of_ble_eq_true rfl)) dX10_kinds_5 ⟨Nat.le_of_ble_eq_true rfl, Nat.le_of_ble_eq_true rfl⟩) hS (fun q _ h => hFc q h) hFc (fun r ad1 T1 H1 locs1 hT1 hvm hpost hBB hz1 hk1 hS1 => ?_)
  obtain ⟨rfl, hag, hnew⟩ := hpost
  obtain ⟨⟨hP1, -, hD1⟩, hB1⟩ := hBB
  rw [hT1] at hP1 hB1
  have epg : zpg ad t_polygon = zpg ad1 t_polygon := zpg_agree hpol hag
  have hP0 : va_P D vwCl ([((t 0), .inr (10, [.ref (t 1), .ref (t 3), .ref (t 5), .ref (t 6), .ref (t 9), .ref (t 11), .ref (t 15), .ref (t 17), .ref (t 27), .ref (t 30), zpg ad t_polygon, .int (zi t_bits), .int (zi t_mendedNumber)])), ((t 3), .inr (6, [.ref (t 4)])), ((t 4), .inl (κ 4, 6, .inr (.inr (.inr (.inr (zmade mk ad))))))]) s.heap := hP
  have hDz : va_D A ([((t 0), .inr (10, [.ref (t 1), .ref (t 3), .ref (t 5), .ref (t 6), .ref (t 9), .ref (t 11), .ref (t 15), .ref (t 17), .ref (t 27), .ref (t 30), zpg ad t_polygon, .int (zi t_bits), .int (zi t_mendedNumber)])), ((t 3), .inr (6, [.ref (t 4)])), ((t 4), .inl (κ 4, 6, .inr (.inr (.inr (.inr (zmade mk ad))))))]) := hD
  obtain ⟨hP2, hD2⟩ := va_join (wr := [((t 0), .inr (10, [.ref (t 1), .ref (t 3), .ref (t 5), .ref (t 6), .ref (t 9), .ref (t 11), .ref (t 15), .ref (t 17), .ref (t 27), .ref (t 30), zpg ad t_polygon, .int (zi t_bits), .int (zi t_mendedNumber)]))]) (w1 := zpl κ (fun i => t (i + 3)) (zmk mk c) ad1) hP hD [1, 2] [0] rfl rfl (by decide) (by decide) hk1 hFc hP1 hD1
  rw [epg] at hP2 hD2
  have hP : va_P D vwCl ([((t 0), .inr (10, [.ref (t 1), .ref (t 3), .ref (t 5), .ref (t 6), .ref (t 9), .ref (t 11), .ref (t 15), .ref (t 17), .ref (t 27), .ref (t 30), zpg ad1 t_polygon, .int (zi t_bits), .int (zi t_mendedNumber)])), ((t 3), .inr (6, [.ref (t 4)])), ((t 4), .inl (κ 4, 6, .inr (.inr (.inr (.inr (zmade (zmk mk c) ad1))))))]) H1 := hP2.sub [0, 1, 2] rfl
  have hD : va_D A ([((t 0), .inr (10, [.ref (t 1), .ref (t 3), .ref (t 5), .ref (t 6), .ref (t 9), .ref (t 11), .ref (t 15), .ref (t 17), .ref (t 27), .ref (t 30), zpg ad1 t_polygon, .int (zi t_bits), .int (zi t_mendedNumber)])), ((t 3), .inr (6, [.ref (t 4)])), ((t 4), .inl (κ 4, 6, .inr (.inr (.inr (.inr (zmade (zmk mk c) ad1))))))]) := hD2.sub [0, 1, 2] (by decide) rfl
  have hS := hS1
  clear hP2 hD2 hS1
  refine W.widen (k := 7) (n := 609) (Nat.le_of_ble_eq_true rfl) (Nat.le_of_ble_eq_true rfl) ?_
  refine lv_astore_n (lv' := [(3, .ref (ad1 c 0)), (0, .ref (t 0)), (1, .int (zi (c : Int))), (2, .int (zi (bI i2)))]) hx hb dX10_kinds_8 rfl hl (by decide) rfl (fun ls hl => ?_)
  refine lv_aload_n hx hb dX10_kinds_9 rfl (lv_at hl 0 rfl) ?_
  refine lv_ifnonnull (tgt := 18) hx hb dX10_kinds_10 (by decide) ?_
  refine lv_aload_n hx hb dX10_kinds_18 rfl (lv_at hl 0 rfl) ?_
  refine lv_iload_n hx hb dX10_kinds_19 rfl (lv_at hl 3 rfl) ?_
  refine zc_vi (rest := []) ⟨hx, hb, hml, hown, hts⟩ (zc_X5_countKinds l D κ (ad1 c) c i2 o ho) (cwV 1 hts gX10_kinds_X5_countKinds rfl rfl rfl (by decide +kernel) ⟨Nat.le_of_ble_eq_true rfl, Nat.le_of_ble_eq_true rfl⟩) (zpreV hK (hB1 c (zmk_yes h4 h9)) 5 0 rfl rfl) rfl hl.1 rfl (Nat.le_of_ble_eq_true rfl) dX10_kinds_20 ⟨Nat.le_of_ble_eq_true rfl, Nat.le_of_ble_eq_true rfl⟩ ?_
  exact W.iret hx hb hr (fun T hT hW => ⟨⟨_, ad1, rfl, ⟨by rw [hout], hag, fun z => (hnew z).1⟩, ⟨by rw [hT]; exact hP, va_K.moved hW.alike hK, hD⟩, by rw [hT]; exact hB1⟩, hS.F hT⟩) hS.2.2 dX10_kinds_23
set_option maxHeartbeats 4000000 in
set_option maxRecDepth 100000 in
theorem zc_X10_greatest (l : Launch) (D : va_G) (κ : Nat → ClassId) (t : Nat → Nat) (mk : Nat) (ad : Nat → Nat → Nat) (sz : Nat) (t_polygon : Nat) (t_bits : Int) (t_mendedNumber : Int) (c : Nat) (h4 : 4 ≤ c) (h9 : c ≤ 9) (hpol : t_polygon = 0 ∨ ¬ zno mk t_polygon) (i2 : Int) (hi2 : ¬ zout i2) (o : Int) (ho : zf_X5_numberOfGreatest c = some o) (oc : Int) (hoc : zf_X5_cutAt c o = some oc) (og : Int) (hog : zf_X5_greatestIn c oc = some og) (out : Int) (hout : out = (if i2 < 0 ∨ 1 < i2 then (-2 : Int) else if i2 = 1 then o else og)) : Met l yX10_greatest wsX10_greatest zr_X10_greatest (va_Pc [.ref (t 0), .int (zi (c : Int)), .int (zi i2)] (zWa D κ mk ad ([((t 0), .inr (10, [.ref (t 1), .ref (t 3), .ref (t 5), .ref (t 6), .ref (t 9), .ref (t 11), .ref (t 15), .ref (t 17), .ref (t 27), .ref (t 30), zpg ad t_polygon, .int (zi t_bits), .int (zi t_mendedNumber)])), ((t 3), .inr (6, [.ref (t 4)])), ((t 4), .inl (κ 4, 6, .inr (.inr (.inr (.inr (zmade mk ad))))))]) sz)) (va_Qi (fun r (ad' : Nat → Nat → Nat) => r = zi out ∧ (∀ n, ¬ zno mk n → ad' n = ad n) ∧ (zno mk c → ∀ k, k < 7 → sz ≤ ad' c k)) (fun ad' u => zB D κ (va_A ([((t 0), .inr (10, [.ref (t 1), .ref (t 3), .ref (t 5), .ref (t 6), .ref (t 9), .ref (t 11), .ref (t 15), .ref (t 17), .ref (t 27), .ref (t 30), zpg ad t_polygon, .int (zi t_bits), .int (zi t_mendedNumber)])), ((t 3), .inr (6, [.ref (t 4)])), ((t 4), .inl (κ 4, 6, .inr (.inr (.inr (.inr (zmade mk ad))))))]) sz) ([((t 0), .inr (10, [.ref (t 1), .ref (t 3), .ref (t 5), .ref (t 6), .ref (t 9), .ref (t 11), .ref (t 15), .ref (t 17), .ref (t 27), .ref (t 30), zpg ad' t_polygon, .int (zi t_bits), .int (zi t_mendedNumber)])), ((t 3), .inr (6, [.ref (t 4)])), ((t 4), .inl (κ 4, 6, .inr (.inr (.inr (.inr (zmade (zmk mk c) ad'))))))]) u ∧ zAmb D κ (zmk mk c) ad' u.heap) (va_A ([((t 0), .inr (10, [.ref (t 1), .ref (t 3), .ref (t 5), .ref (t 6), .ref (t 9), .ref (t 11), .ref (t 15), .ref (t 17), .ref (t 27), .ref (t 30), zpg ad t_polygon, .int (zi t_bits), .int (zi t_mendedNumber)])), ((t 3), .inr (6, [.ref (t 4)])), ((t 4), .inl (κ 4, 6, .inr (.inr (.inr (.inr (zmade mk ad))))))]) sz)) 7 609 (va_A ([((t 0), .inr (10, [.ref (t 1), .ref (t 3), .ref (t 5), .ref (t 6), .ref (t 9), .ref (t 11), .ref (t 15), .ref (t 17), .ref (t 27), .ref (t 30), zpg ad t_polygon, .int (zi t_bits), .int (zi t_mendedNumber)])), ((t 3), .inr (6, [.ref (t 4)])), ((t 4), .inl (κ 4, 6, .inr (.inr (.inr (.inr (zmade mk ad))))))]) sz) := by
  refine Met.ofW (cc := cX10_greatest) (maxL := 5) (ret := (some .int)) (by decide +kernel) rfl ?_
  intro p e s m args below meth cd s₁ B hml hv
  obtain ⟨rfl, hsz, hP, hK, hD0, hB, hBA⟩ := hv
  have hx := B.exec
  have hb := B.bytes
  have hr := B.returns
  have hts := atoms_spec (ws := wsX10_greatest) B.pre
  have hown : s.vm.findClass RX10 = some m.cls := findClass_of_methodNamed B.named
  have hlocks := B.notSynchronized
  subst hsz
  have hD := hD0.self (sz := s.heap.size)
  generalize hAe : va_A ([((t 0), .inr (10, [.ref (t 1), .ref (t 3), .ref (t 5), .ref (t 6), .ref (t 9), .ref (t 11), .ref (t 15), .ref (t 17), .ref (t 27), .ref (t 30), zpg ad t_polygon, .int (zi t_bits), .int (zi t_mendedNumber)])), ((t 3), .inr (6, [.ref (t 4)])), ((t 4), .inl (κ 4, 6, .inr (.inr (.inr (.inr (zmade mk ad))))))]) s.heap.size = A at hD hBA ⊢
  have hA : ∀ q : Nat, s.heap.size ≤ q → A q := fun q h => by rw [← hAe]; exact Or.inr h
  have hS : va_S A s.heap s.heap [] := va_S.rf
  have hl := lv_entry ([.ref (t 0), .int (zi (c : Int)), .int (zi i2)]) (n := 5) (Nat.le_of_ble_eq_true rfl)
  rw [lg_entry_eq]
  generalize (lg_sl ([.ref (t 0), .int (zi (c : Int)), .int (zi i2)]) ++ List.replicate (5 - (lg_sl ([.ref (t 0), .int (zi (c : Int)), .int (zi i2)])).length) Slot.unset).toArray = ls at hl ⊢
  have hl : lv_has ls 5 [(0, .ref (t 0)), (1, .int (zi (c : Int))), (2, .int (zi i2))] := hl
  refine lv_aload_n hx hb dX10_greatest_0 rfl (lv_at hl 0 rfl) ?_
  refine va_get (D := D) (ci := 10) (v := .ref (t 3)) (C := RX10) (T := TX10) (N := 13) hx hb hts zi_X10_greatest_X10 hown hK hP 0 rfl rfl 1 (by decide) (hts (.fieldLink RX10 19 "DiamondRows" "polygons" "LDiamondRows$Polygons;") zl_X10_greatest_19) (fun _ h9 => h9) rfl dX10_greatest_1 ?_
  refine lv_iload_n hx hb dX10_greatest_4 rfl (lv_at hl 1 rfl) ?_
  have hFc := va_free (wc := zpl κ (fun i => t (i + 3)) mk ad) hD hS hA [1, 2] rfl
  refine va_callq (va_runV (rest := []) ⟨hx, hb, hml, hown, hts⟩ (zc_X6_withCorners l D κ (fun i => t (i + 3)) mk ad s.heap.size c h4 h9) (cwV 1 hts gX10_greatest_X6_withCorners rfl rfl rfl (by decide +kernel) ⟨Nat.le_of_ble_eq_true rfl, Nat.le_of_ble_eq_true rfl⟩) (zpreWVa hK (hP.sub [1, 2] rfl) (hD.sub [1, 2] (by decide) rfl) hB (zapt hBA hS hFc) 6 0 rfl rfl) rfl rfl hl.1 rfl (lv_room (Nat.le_of_ble_eq_true rfl)) dX10_greatest_5 ⟨Nat.le_of_ble_eq_true rfl, Nat.le_of_ble_eq_true rfl⟩) hS (fun q _ h => hFc q h) hFc (fun r ad1 T1 H1 locs1 hT1 hvm hpost hBB hz1 hk1 hS1 => ?_)
  obtain ⟨rfl, hag, hnew⟩ := hpost
  obtain ⟨⟨hP1, -, hD1⟩, hB1⟩ := hBB
  rw [hT1] at hP1 hB1
  have epg : zpg ad t_polygon = zpg ad1 t_polygon := zpg_agree hpol hag
  have hP0 : va_P D vwCl ([((t 0), .inr (10, [.ref (t 1), .ref (t 3), .ref (t 5), .ref (t 6), .ref (t 9), .ref (t 11), .ref (t 15), .ref (t 17), .ref (t 27), .ref (t 30), zpg ad t_polygon, .int (zi t_bits), .int (zi t_mendedNumber)])), ((t 3), .inr (6, [.ref (t 4)])), ((t 4), .inl (κ 4, 6, .inr (.inr (.inr (.inr (zmade mk ad))))))]) s.heap := hP
  have hDz : va_D A ([((t 0), .inr (10, [.ref (t 1), .ref (t 3), .ref (t 5), .ref (t 6), .ref (t 9), .ref (t 11), .ref (t 15), .ref (t 17), .ref (t 27), .ref (t 30), zpg ad t_polygon, .int (zi t_bits), .int (zi t_mendedNumber)])), ((t 3), .inr (6, [.ref (t 4)])), ((t 4), .inl (κ 4, 6, .inr (.inr (.inr (.inr (zmade mk ad))))))]) := hD
  obtain ⟨hP2, hD2⟩ := va_join (wr := [((t 0), .inr (10, [.ref (t 1), .ref (t 3), .ref (t 5), .ref (t 6), .ref (t 9), .ref (t 11), .ref (t 15), .ref (t 17), .ref (t 27), .ref (t 30), zpg ad t_polygon, .int (zi t_bits), .int (zi t_mendedNumber)]))]) (w1 := zpl κ (fun i => t (i + 3)) (zmk mk c) ad1) hP hD [1, 2] [0] rfl rfl (by decide) (by decide) hk1 hFc hP1 hD1
  rw [epg] at hP2 hD2
  have hP : va_P D vwCl ([((t 0), .inr (10, [.ref (t 1), .ref (t 3), .ref (t 5), .ref (t 6), .ref (t 9), .ref (t 11), .ref (t 15), .ref (t 17), .ref (t 27), .ref (t 30), zpg ad1 t_polygon, .int (zi t_bits), .int (zi t_mendedNumber)])), ((t 3), .inr (6, [.ref (t 4)])), ((t 4), .inl (κ 4, 6, .inr (.inr (.inr (.inr (zmade (zmk mk c) ad1))))))]) H1 := hP2.sub [0, 1, 2] rfl
  have hD : va_D A ([((t 0), .inr (10, [.ref (t 1), .ref (t 3), .ref (t 5), .ref (t 6), .ref (t 9), .ref (t 11), .ref (t 15), .ref (t 17), .ref (t 27), .ref (t 30), zpg ad1 t_polygon, .int (zi t_bits), .int (zi t_mendedNumber)])), ((t 3), .inr (6, [.ref (t 4)])), ((t 4), .inl (κ 4, 6, .inr (.inr (.inr (.inr (zmade (zmk mk c) ad1))))))]) := hD2.sub [0, 1, 2] (by decide) rfl
  have hS := hS1
  clear hP2 hD2 hS1
  refine W.widen (k := 7) (n := 609) (Nat.le_of_ble_eq_true rfl) (Nat.le_of_ble_eq_true rfl) ?_
  refine lv_astore_n (lv' := [(3, .ref (ad1 c 0)), (0, .ref (t 0)), (1, .int (zi (c : Int))), (2, .int (zi i2))]) hx hb dX10_greatest_8 rfl hl (by decide) rfl (fun ls hl => ?_)
  refine lv_aload_n hx hb dX10_greatest_9 rfl (lv_at hl 0 rfl) ?_
  refine lv_ifnull hx hb dX10_greatest_10 ?_
  refine lv_iload_n hx hb dX10_greatest_13 rfl (lv_at hl 3 rfl) ?_
  refine zv_if_lt (tgt := 22) hx hb dX10_greatest_14 (by decide) hi2 (fun q => ?_) (fun q => ?_)
  · refine zv_bipush hx hb dX10_greatest_22 (by decide) ?_
    rw [if_pos (Or.inl q)] at hout
    exact W.iret hx hb hr (fun T hT hW => ⟨⟨_, ad1, rfl, ⟨by rw [hout], hag, fun z => (hnew z).1⟩, ⟨by rw [hT]; exact hP, va_K.moved hW.alike hK, hD⟩, by rw [hT]; exact hB1⟩, hS.F hT⟩) hS.2.2 dX10_greatest_24
  · refine lv_iload_n hx hb dX10_greatest_17 rfl (lv_at hl 3 rfl) ?_
    refine zv_iconst hx hb dX10_greatest_18 ?_
    refine zv_icmp_le (tgt := 25) hx hb dX10_greatest_19 (by decide) hi2 (by decide) (fun q2 => ?_) (fun q2 => ?_)
    · rw [if_neg (by omega)] at hout
      refine lv_aload_n hx hb dX10_greatest_25 rfl (lv_at hl 0 rfl) ?_
      refine zc_vi (rest := []) ⟨hx, hb, hml, hown, hts⟩ (zc_X5_numberOfGreatest l D κ (ad1 c) c  o ho) (cwV 0 hts gX10_greatest_X5_numberOfGreatest rfl rfl rfl (by decide +kernel) ⟨Nat.le_of_ble_eq_true rfl, Nat.le_of_ble_eq_true rfl⟩) (zpreV hK (hB1 c (zmk_yes h4 h9)) 5 0 rfl rfl) rfl hl.1 rfl (Nat.le_of_ble_eq_true rfl) dX10_greatest_26 ⟨Nat.le_of_ble_eq_true rfl, Nat.le_of_ble_eq_true rfl⟩ ?_
      refine lv_istore (lv' := [(4, .int (zi o)), (3, .ref (ad1 c 0)), (0, .ref (t 0)), (1, .int (zi (c : Int))), (2, .int (zi i2))]) hx hb dX10_greatest_29 hl (by decide) rfl (fun ls hl => ?_)
      refine lv_iload_n hx hb dX10_greatest_31 rfl (lv_at hl 4 rfl) ?_
      refine zv_iconst hx hb dX10_greatest_32 ?_
      refine zv_icmp_ne (tgt := 41) hx hb dX10_greatest_33 (by decide) hi2 (by decide) (fun q3 => ?_) (fun q3 => ?_)
      · rw [if_neg q3] at hout
        refine lv_aload_n hx hb dX10_greatest_41 rfl (lv_at hl 1 rfl) ?_
        refine lv_aload_n hx hb dX10_greatest_42 rfl (lv_at hl 1 rfl) ?_
        refine lv_iload hx hb dX10_greatest_43 (lv_at hl 0 rfl) ?_
        refine zc_vi (rest := [.ref (ad1 c 0)]) ⟨hx, hb, hml, hown, hts⟩ (zc_X5_cutAt l D κ (ad1 c) c o oc hoc) (cwV 1 hts gX10_greatest_X5_cutAt rfl rfl rfl (by decide +kernel) ⟨Nat.le_of_ble_eq_true rfl, Nat.le_of_ble_eq_true rfl⟩) (zpreV hK (hB1 c (zmk_yes h4 h9)) 5 0 rfl rfl) rfl hl.1 rfl (Nat.le_of_ble_eq_true rfl) dX10_greatest_45 ⟨Nat.le_of_ble_eq_true rfl, Nat.le_of_ble_eq_true rfl⟩ ?_
        refine zc_vi (rest := []) ⟨hx, hb, hml, hown, hts⟩ (zc_X5_greatestIn l D κ (ad1 c) c oc og hog) (cwV 1 hts gX10_greatest_X5_greatestIn rfl rfl rfl (by decide +kernel) ⟨Nat.le_of_ble_eq_true rfl, Nat.le_of_ble_eq_true rfl⟩) (zpreV hK (hB1 c (zmk_yes h4 h9)) 5 0 rfl rfl) rfl hl.1 rfl (Nat.le_of_ble_eq_true rfl) dX10_greatest_48 ⟨Nat.le_of_ble_eq_true rfl, Nat.le_of_ble_eq_true rfl⟩ ?_
        exact W.iret hx hb hr (fun T hT hW => ⟨⟨_, ad1, rfl, ⟨by rw [hout], hag, fun z => (hnew z).1⟩, ⟨by rw [hT]; exact hP, va_K.moved hW.alike hK, hD⟩, by rw [hT]; exact hB1⟩, hS.F hT⟩) hS.2.2 dX10_greatest_51
      · rw [if_pos q3] at hout
        refine lv_iload hx hb dX10_greatest_36 (lv_at hl 0 rfl) ?_
        refine lv_goto (tgt := 51) hx hb dX10_greatest_38 (by decide) ?_
        exact W.iret hx hb hr (fun T hT hW => ⟨⟨_, ad1, rfl, ⟨by rw [hout], hag, fun z => (hnew z).1⟩, ⟨by rw [hT]; exact hP, va_K.moved hW.alike hK, hD⟩, by rw [hT]; exact hB1⟩, hS.F hT⟩) hS.2.2 dX10_greatest_51
    · rw [if_pos (by omega)] at hout
      refine zv_bipush hx hb dX10_greatest_22 (by decide) ?_
      exact W.iret hx hb hr (fun T hT hW => ⟨⟨_, ad1, rfl, ⟨by rw [hout], hag, fun z => (hnew z).1⟩, ⟨by rw [hT]; exact hP, va_K.moved hW.alike hK, hD⟩, by rw [hT]; exact hB1⟩, hS.F hT⟩) hS.2.2 dX10_greatest_24
set_option maxHeartbeats 4000000 in
set_option maxRecDepth 100000 in
theorem zc_X10_take (l : Launch) (D : va_G) (κ : Nat → ClassId) (t : Nat → Nat) (mk : Nat) (ad : Nat → Nat → Nat) (sz : Nat) (t_polygon : Nat) (t_bits : Int) (t_mendedNumber : Int) (sightings_size : Int) (sightings_rights : Int) (sightings_latest : Int) (sightings_seenStep : Nat) (sightings_seenFrom : Nat) (sightings_seenTo : Nat) (sightings_seenValue : Nat) (sightings_timesRight : Nat) (sightings_rightStep : Nat) (sightings_rightOf : Nat) (sightings_rightValue : Nat) (sightings_knownValue : Nat) (c : Nat) (h4 : 4 ≤ c) (h9 : c ≤ 9) (hpol : t_polygon = 0 ∨ ¬ zno mk t_polygon) (i2 : Int) (oh : Bool) (hoh : zf_X5_hasCut c i2 = some oh) (oc : Int) (hoc : zf_X5_cutAt c i2 = some oc) (ob : Nat × Int × Int × Int × Int) (q_ob : ¬ oh = false → zf_X10_become (zmk mk c) t_polygon t_bits sightings_size sightings_rights sightings_latest c oc = some ob) (out : Int) (hout : out = (if oh = false then (-2 : Int) else i2)) : Met l yX10_take wsX10_take zr_X10_take (va_Pc [.ref (t 0), .int (zi (c : Int)), .int (zi i2)] (zWa D κ mk ad ([((t 0), .inr (10, [.ref (t 1), .ref (t 3), .ref (t 5), .ref (t 6), .ref (t 9), .ref (t 11), .ref (t 15), .ref (t 17), .ref (t 27), .ref (t 30), zpg ad t_polygon, .int (zi t_bits), .int (zi t_mendedNumber)])), ((t 3), .inr (6, [.ref (t 4)])), ((t 4), .inl (κ 4, 6, .inr (.inr (.inr (.inr (zmade mk ad)))))), ((t 17), .inr (7, [.ref (t 18), .ref (t 19), .ref (t 20), .ref (t 21), .ref (t 22), .ref (t 23), .ref (t 24), .ref (t 25), .ref (t 26), .int (zi sightings_size), .int (zi sightings_rights), .int (zi sightings_latest)])), ((t 18), .inl (κ 1, 20, .inl (zc sightings_seenStep))), ((t 19), .inl (κ 1, 20, .inl (zc sightings_seenFrom))), ((t 20), .inl (κ 1, 20, .inl (zc sightings_seenTo))), ((t 21), .inl (κ 1, 20, .inl (zc sightings_seenValue))), ((t 22), .inl (κ 1, 20, .inl (zc sightings_timesRight))), ((t 23), .inl (κ 1, 20, .inl (zc sightings_rightStep))), ((t 24), .inl (κ 1, 20, .inl (zc sightings_rightOf))), ((t 25), .inl (κ 1, 20, .inl (zc sightings_rightValue))), ((t 26), .inl (κ 1, 20, .inl (zc sightings_knownValue)))]) sz)) (va_Qi (fun r (ad' : Nat → Nat → Nat) => r = zi out ∧ (∀ n, ¬ zno mk n → ad' n = ad n) ∧ (zno mk c → ∀ k, k < 7 → sz ≤ ad' c k)) (fun ad' u => zB D κ (va_A ([((t 0), .inr (10, [.ref (t 1), .ref (t 3), .ref (t 5), .ref (t 6), .ref (t 9), .ref (t 11), .ref (t 15), .ref (t 17), .ref (t 27), .ref (t 30), zpg ad t_polygon, .int (zi t_bits), .int (zi t_mendedNumber)])), ((t 3), .inr (6, [.ref (t 4)])), ((t 4), .inl (κ 4, 6, .inr (.inr (.inr (.inr (zmade mk ad)))))), ((t 17), .inr (7, [.ref (t 18), .ref (t 19), .ref (t 20), .ref (t 21), .ref (t 22), .ref (t 23), .ref (t 24), .ref (t 25), .ref (t 26), .int (zi sightings_size), .int (zi sightings_rights), .int (zi sightings_latest)])), ((t 18), .inl (κ 1, 20, .inl (zc sightings_seenStep))), ((t 19), .inl (κ 1, 20, .inl (zc sightings_seenFrom))), ((t 20), .inl (κ 1, 20, .inl (zc sightings_seenTo))), ((t 21), .inl (κ 1, 20, .inl (zc sightings_seenValue))), ((t 22), .inl (κ 1, 20, .inl (zc sightings_timesRight))), ((t 23), .inl (κ 1, 20, .inl (zc sightings_rightStep))), ((t 24), .inl (κ 1, 20, .inl (zc sightings_rightOf))), ((t 25), .inl (κ 1, 20, .inl (zc sightings_rightValue))), ((t 26), .inl (κ 1, 20, .inl (zc sightings_knownValue)))]) sz) (if oh = false then [((t 0), .inr (10, [.ref (t 1), .ref (t 3), .ref (t 5), .ref (t 6), .ref (t 9), .ref (t 11), .ref (t 15), .ref (t 17), .ref (t 27), .ref (t 30), zpg ad' t_polygon, .int (zi t_bits), .int (zi t_mendedNumber)])), ((t 3), .inr (6, [.ref (t 4)])), ((t 4), .inl (κ 4, 6, .inr (.inr (.inr (.inr (zmade (zmk mk c) ad')))))), ((t 17), .inr (7, [.ref (t 18), .ref (t 19), .ref (t 20), .ref (t 21), .ref (t 22), .ref (t 23), .ref (t 24), .ref (t 25), .ref (t 26), .int (zi sightings_size), .int (zi sightings_rights), .int (zi sightings_latest)])), ((t 18), .inl (κ 1, 20, .inl (zc sightings_seenStep))), ((t 19), .inl (κ 1, 20, .inl (zc sightings_seenFrom))), ((t 20), .inl (κ 1, 20, .inl (zc sightings_seenTo))), ((t 21), .inl (κ 1, 20, .inl (zc sightings_seenValue))), ((t 22), .inl (κ 1, 20, .inl (zc sightings_timesRight))), ((t 23), .inl (κ 1, 20, .inl (zc sightings_rightStep))), ((t 24), .inl (κ 1, 20, .inl (zc sightings_rightOf))), ((t 25), .inl (κ 1, 20, .inl (zc sightings_rightValue))), ((t 26), .inl (κ 1, 20, .inl (zc sightings_knownValue)))] else [((t 0), .inr (10, [.ref (t 1), .ref (t 3), .ref (t 5), .ref (t 6), .ref (t 9), .ref (t 11), .ref (t 15), .ref (t 17), .ref (t 27), .ref (t 30), zpg ad' (ob.1), .int (zi (ob.2.1)), .int (zi t_mendedNumber)])), ((t 3), .inr (6, [.ref (t 4)])), ((t 4), .inl (κ 4, 6, .inr (.inr (.inr (.inr (zmade (zmk mk c) ad')))))), ((t 17), .inr (7, [.ref (t 18), .ref (t 19), .ref (t 20), .ref (t 21), .ref (t 22), .ref (t 23), .ref (t 24), .ref (t 25), .ref (t 26), .int (zi (ob.2.2.1)), .int (zi (ob.2.2.2.1)), .int (zi (ob.2.2.2.2))])), ((t 18), .inl (κ 1, 20, .inl (zc sightings_seenStep))), ((t 19), .inl (κ 1, 20, .inl (zc sightings_seenFrom))), ((t 20), .inl (κ 1, 20, .inl (zc sightings_seenTo))), ((t 21), .inl (κ 1, 20, .inl (zc sightings_seenValue))), ((t 22), .inl (κ 1, 20, .inl (zc sightings_timesRight))), ((t 23), .inl (κ 1, 20, .inl (zc sightings_rightStep))), ((t 24), .inl (κ 1, 20, .inl (zc sightings_rightOf))), ((t 25), .inl (κ 1, 20, .inl (zc sightings_rightValue))), ((t 26), .inl (κ 1, 20, .inl (zc sightings_knownValue)))]) u ∧ zAmb D κ (zmk mk c) ad' u.heap) (va_A ([((t 0), .inr (10, [.ref (t 1), .ref (t 3), .ref (t 5), .ref (t 6), .ref (t 9), .ref (t 11), .ref (t 15), .ref (t 17), .ref (t 27), .ref (t 30), zpg ad t_polygon, .int (zi t_bits), .int (zi t_mendedNumber)])), ((t 3), .inr (6, [.ref (t 4)])), ((t 4), .inl (κ 4, 6, .inr (.inr (.inr (.inr (zmade mk ad)))))), ((t 17), .inr (7, [.ref (t 18), .ref (t 19), .ref (t 20), .ref (t 21), .ref (t 22), .ref (t 23), .ref (t 24), .ref (t 25), .ref (t 26), .int (zi sightings_size), .int (zi sightings_rights), .int (zi sightings_latest)])), ((t 18), .inl (κ 1, 20, .inl (zc sightings_seenStep))), ((t 19), .inl (κ 1, 20, .inl (zc sightings_seenFrom))), ((t 20), .inl (κ 1, 20, .inl (zc sightings_seenTo))), ((t 21), .inl (κ 1, 20, .inl (zc sightings_seenValue))), ((t 22), .inl (κ 1, 20, .inl (zc sightings_timesRight))), ((t 23), .inl (κ 1, 20, .inl (zc sightings_rightStep))), ((t 24), .inl (κ 1, 20, .inl (zc sightings_rightOf))), ((t 25), .inl (κ 1, 20, .inl (zc sightings_rightValue))), ((t 26), .inl (κ 1, 20, .inl (zc sightings_knownValue)))]) sz)) 7 609 (va_A ([((t 0), .inr (10, [.ref (t 1), .ref (t 3), .ref (t 5), .ref (t 6), .ref (t 9), .ref (t 11), .ref (t 15), .ref (t 17), .ref (t 27), .ref (t 30), zpg ad t_polygon, .int (zi t_bits), .int (zi t_mendedNumber)])), ((t 3), .inr (6, [.ref (t 4)])), ((t 4), .inl (κ 4, 6, .inr (.inr (.inr (.inr (zmade mk ad)))))), ((t 17), .inr (7, [.ref (t 18), .ref (t 19), .ref (t 20), .ref (t 21), .ref (t 22), .ref (t 23), .ref (t 24), .ref (t 25), .ref (t 26), .int (zi sightings_size), .int (zi sightings_rights), .int (zi sightings_latest)])), ((t 18), .inl (κ 1, 20, .inl (zc sightings_seenStep))), ((t 19), .inl (κ 1, 20, .inl (zc sightings_seenFrom))), ((t 20), .inl (κ 1, 20, .inl (zc sightings_seenTo))), ((t 21), .inl (κ 1, 20, .inl (zc sightings_seenValue))), ((t 22), .inl (κ 1, 20, .inl (zc sightings_timesRight))), ((t 23), .inl (κ 1, 20, .inl (zc sightings_rightStep))), ((t 24), .inl (κ 1, 20, .inl (zc sightings_rightOf))), ((t 25), .inl (κ 1, 20, .inl (zc sightings_rightValue))), ((t 26), .inl (κ 1, 20, .inl (zc sightings_knownValue)))]) sz) := by
  refine Met.ofW (cc := cX10_take) (maxL := 4) (ret := (some .int)) (by decide +kernel) rfl ?_
  intro p e s m args below meth cd s₁ B hml hv
  obtain ⟨rfl, hsz, hP, hK, hD0, hB, hBA⟩ := hv
  have hx := B.exec
  have hb := B.bytes
  have hr := B.returns
  have hts := atoms_spec (ws := wsX10_take) B.pre
  have hown : s.vm.findClass RX10 = some m.cls := findClass_of_methodNamed B.named
  have hlocks := B.notSynchronized
  subst hsz
  have hD := hD0.self (sz := s.heap.size)
  generalize hAe : va_A ([((t 0), .inr (10, [.ref (t 1), .ref (t 3), .ref (t 5), .ref (t 6), .ref (t 9), .ref (t 11), .ref (t 15), .ref (t 17), .ref (t 27), .ref (t 30), zpg ad t_polygon, .int (zi t_bits), .int (zi t_mendedNumber)])), ((t 3), .inr (6, [.ref (t 4)])), ((t 4), .inl (κ 4, 6, .inr (.inr (.inr (.inr (zmade mk ad)))))), ((t 17), .inr (7, [.ref (t 18), .ref (t 19), .ref (t 20), .ref (t 21), .ref (t 22), .ref (t 23), .ref (t 24), .ref (t 25), .ref (t 26), .int (zi sightings_size), .int (zi sightings_rights), .int (zi sightings_latest)])), ((t 18), .inl (κ 1, 20, .inl (zc sightings_seenStep))), ((t 19), .inl (κ 1, 20, .inl (zc sightings_seenFrom))), ((t 20), .inl (κ 1, 20, .inl (zc sightings_seenTo))), ((t 21), .inl (κ 1, 20, .inl (zc sightings_seenValue))), ((t 22), .inl (κ 1, 20, .inl (zc sightings_timesRight))), ((t 23), .inl (κ 1, 20, .inl (zc sightings_rightStep))), ((t 24), .inl (κ 1, 20, .inl (zc sightings_rightOf))), ((t 25), .inl (κ 1, 20, .inl (zc sightings_rightValue))), ((t 26), .inl (κ 1, 20, .inl (zc sightings_knownValue)))]) s.heap.size = A at hD hBA ⊢
  have hA : ∀ q : Nat, s.heap.size ≤ q → A q := fun q h => by rw [← hAe]; exact Or.inr h
  have hS : va_S A s.heap s.heap [] := va_S.rf
  have hl := lv_entry ([.ref (t 0), .int (zi (c : Int)), .int (zi i2)]) (n := 4) (Nat.le_of_ble_eq_true rfl)
  rw [lg_entry_eq]
  generalize (lg_sl ([.ref (t 0), .int (zi (c : Int)), .int (zi i2)]) ++ List.replicate (4 - (lg_sl ([.ref (t 0), .int (zi (c : Int)), .int (zi i2)])).length) Slot.unset).toArray = ls at hl ⊢
  have hl : lv_has ls 4 [(0, .ref (t 0)), (1, .int (zi (c : Int))), (2, .int (zi i2))] := hl
  refine lv_aload_n hx hb dX10_take_0 rfl (lv_at hl 0 rfl) ?_
  refine va_get (D := D) (ci := 10) (v := .ref (t 3)) (C := RX10) (T := TX10) (N := 13) hx hb hts zi_X10_take_X10 hown hK hP 0 rfl rfl 1 (by decide) (hts (.fieldLink RX10 19 "DiamondRows" "polygons" "LDiamondRows$Polygons;") zl_X10_take_19) (fun _ h9 => h9) rfl dX10_take_1 ?_
  refine lv_iload_n hx hb dX10_take_4 rfl (lv_at hl 1 rfl) ?_
  have hFc := va_free (wc := zpl κ (fun i => t (i + 3)) mk ad) hD hS hA [1, 2] rfl
  refine va_callq (va_runV (rest := []) ⟨hx, hb, hml, hown, hts⟩ (zc_X6_withCorners l D κ (fun i => t (i + 3)) mk ad s.heap.size c h4 h9) (cwV 1 hts gX10_take_X6_withCorners rfl rfl rfl (by decide +kernel) ⟨Nat.le_of_ble_eq_true rfl, Nat.le_of_ble_eq_true rfl⟩) (zpreWVa hK (hP.sub [1, 2] rfl) (hD.sub [1, 2] (by decide) rfl) hB (zapt hBA hS hFc) 6 0 rfl rfl) rfl rfl hl.1 rfl (lv_room (Nat.le_of_ble_eq_true rfl)) dX10_take_5 ⟨Nat.le_of_ble_eq_true rfl, Nat.le_of_ble_eq_true rfl⟩) hS (fun q _ h => hFc q h) hFc (fun r ad1 T1 H1 locs1 hT1 hvm hpost hBB hz1 hk1 hS1 => ?_)
  obtain ⟨rfl, hag, hnew⟩ := hpost
  obtain ⟨⟨hP1, -, hD1⟩, hB1⟩ := hBB
  rw [hT1] at hP1 hB1
  have epg : zpg ad t_polygon = zpg ad1 t_polygon := zpg_agree hpol hag
  have hP0 : va_P D vwCl ([((t 0), .inr (10, [.ref (t 1), .ref (t 3), .ref (t 5), .ref (t 6), .ref (t 9), .ref (t 11), .ref (t 15), .ref (t 17), .ref (t 27), .ref (t 30), zpg ad t_polygon, .int (zi t_bits), .int (zi t_mendedNumber)])), ((t 3), .inr (6, [.ref (t 4)])), ((t 4), .inl (κ 4, 6, .inr (.inr (.inr (.inr (zmade mk ad)))))), ((t 17), .inr (7, [.ref (t 18), .ref (t 19), .ref (t 20), .ref (t 21), .ref (t 22), .ref (t 23), .ref (t 24), .ref (t 25), .ref (t 26), .int (zi sightings_size), .int (zi sightings_rights), .int (zi sightings_latest)])), ((t 18), .inl (κ 1, 20, .inl (zc sightings_seenStep))), ((t 19), .inl (κ 1, 20, .inl (zc sightings_seenFrom))), ((t 20), .inl (κ 1, 20, .inl (zc sightings_seenTo))), ((t 21), .inl (κ 1, 20, .inl (zc sightings_seenValue))), ((t 22), .inl (κ 1, 20, .inl (zc sightings_timesRight))), ((t 23), .inl (κ 1, 20, .inl (zc sightings_rightStep))), ((t 24), .inl (κ 1, 20, .inl (zc sightings_rightOf))), ((t 25), .inl (κ 1, 20, .inl (zc sightings_rightValue))), ((t 26), .inl (κ 1, 20, .inl (zc sightings_knownValue)))]) s.heap := hP
  have hDz : va_D A ([((t 0), .inr (10, [.ref (t 1), .ref (t 3), .ref (t 5), .ref (t 6), .ref (t 9), .ref (t 11), .ref (t 15), .ref (t 17), .ref (t 27), .ref (t 30), zpg ad t_polygon, .int (zi t_bits), .int (zi t_mendedNumber)])), ((t 3), .inr (6, [.ref (t 4)])), ((t 4), .inl (κ 4, 6, .inr (.inr (.inr (.inr (zmade mk ad)))))), ((t 17), .inr (7, [.ref (t 18), .ref (t 19), .ref (t 20), .ref (t 21), .ref (t 22), .ref (t 23), .ref (t 24), .ref (t 25), .ref (t 26), .int (zi sightings_size), .int (zi sightings_rights), .int (zi sightings_latest)])), ((t 18), .inl (κ 1, 20, .inl (zc sightings_seenStep))), ((t 19), .inl (κ 1, 20, .inl (zc sightings_seenFrom))), ((t 20), .inl (κ 1, 20, .inl (zc sightings_seenTo))), ((t 21), .inl (κ 1, 20, .inl (zc sightings_seenValue))), ((t 22), .inl (κ 1, 20, .inl (zc sightings_timesRight))), ((t 23), .inl (κ 1, 20, .inl (zc sightings_rightStep))), ((t 24), .inl (κ 1, 20, .inl (zc sightings_rightOf))), ((t 25), .inl (κ 1, 20, .inl (zc sightings_rightValue))), ((t 26), .inl (κ 1, 20, .inl (zc sightings_knownValue)))]) := hD
  obtain ⟨hP2, hD2⟩ := va_join (wr := [((t 0), .inr (10, [.ref (t 1), .ref (t 3), .ref (t 5), .ref (t 6), .ref (t 9), .ref (t 11), .ref (t 15), .ref (t 17), .ref (t 27), .ref (t 30), zpg ad t_polygon, .int (zi t_bits), .int (zi t_mendedNumber)])), ((t 17), .inr (7, [.ref (t 18), .ref (t 19), .ref (t 20), .ref (t 21), .ref (t 22), .ref (t 23), .ref (t 24), .ref (t 25), .ref (t 26), .int (zi sightings_size), .int (zi sightings_rights), .int (zi sightings_latest)])), ((t 18), .inl (κ 1, 20, .inl (zc sightings_seenStep))), ((t 19), .inl (κ 1, 20, .inl (zc sightings_seenFrom))), ((t 20), .inl (κ 1, 20, .inl (zc sightings_seenTo))), ((t 21), .inl (κ 1, 20, .inl (zc sightings_seenValue))), ((t 22), .inl (κ 1, 20, .inl (zc sightings_timesRight))), ((t 23), .inl (κ 1, 20, .inl (zc sightings_rightStep))), ((t 24), .inl (κ 1, 20, .inl (zc sightings_rightOf))), ((t 25), .inl (κ 1, 20, .inl (zc sightings_rightValue))), ((t 26), .inl (κ 1, 20, .inl (zc sightings_knownValue)))]) (w1 := zpl κ (fun i => t (i + 3)) (zmk mk c) ad1) hP hD [1, 2] [0, 3, 4, 5, 6, 7, 8, 9, 10, 11, 12] rfl rfl (by decide) (by decide) hk1 hFc hP1 hD1
  rw [epg] at hP2 hD2
  have hP : va_P D vwCl ([((t 0), .inr (10, [.ref (t 1), .ref (t 3), .ref (t 5), .ref (t 6), .ref (t 9), .ref (t 11), .ref (t 15), .ref (t 17), .ref (t 27), .ref (t 30), zpg ad1 t_polygon, .int (zi t_bits), .int (zi t_mendedNumber)])), ((t 3), .inr (6, [.ref (t 4)])), ((t 4), .inl (κ 4, 6, .inr (.inr (.inr (.inr (zmade (zmk mk c) ad1)))))), ((t 17), .inr (7, [.ref (t 18), .ref (t 19), .ref (t 20), .ref (t 21), .ref (t 22), .ref (t 23), .ref (t 24), .ref (t 25), .ref (t 26), .int (zi sightings_size), .int (zi sightings_rights), .int (zi sightings_latest)])), ((t 18), .inl (κ 1, 20, .inl (zc sightings_seenStep))), ((t 19), .inl (κ 1, 20, .inl (zc sightings_seenFrom))), ((t 20), .inl (κ 1, 20, .inl (zc sightings_seenTo))), ((t 21), .inl (κ 1, 20, .inl (zc sightings_seenValue))), ((t 22), .inl (κ 1, 20, .inl (zc sightings_timesRight))), ((t 23), .inl (κ 1, 20, .inl (zc sightings_rightStep))), ((t 24), .inl (κ 1, 20, .inl (zc sightings_rightOf))), ((t 25), .inl (κ 1, 20, .inl (zc sightings_rightValue))), ((t 26), .inl (κ 1, 20, .inl (zc sightings_knownValue)))]) H1 := hP2.sub [0, 11, 12, 1, 2, 3, 4, 5, 6, 7, 8, 9, 10] rfl
  have hD : va_D A ([((t 0), .inr (10, [.ref (t 1), .ref (t 3), .ref (t 5), .ref (t 6), .ref (t 9), .ref (t 11), .ref (t 15), .ref (t 17), .ref (t 27), .ref (t 30), zpg ad1 t_polygon, .int (zi t_bits), .int (zi t_mendedNumber)])), ((t 3), .inr (6, [.ref (t 4)])), ((t 4), .inl (κ 4, 6, .inr (.inr (.inr (.inr (zmade (zmk mk c) ad1)))))), ((t 17), .inr (7, [.ref (t 18), .ref (t 19), .ref (t 20), .ref (t 21), .ref (t 22), .ref (t 23), .ref (t 24), .ref (t 25), .ref (t 26), .int (zi sightings_size), .int (zi sightings_rights), .int (zi sightings_latest)])), ((t 18), .inl (κ 1, 20, .inl (zc sightings_seenStep))), ((t 19), .inl (κ 1, 20, .inl (zc sightings_seenFrom))), ((t 20), .inl (κ 1, 20, .inl (zc sightings_seenTo))), ((t 21), .inl (κ 1, 20, .inl (zc sightings_seenValue))), ((t 22), .inl (κ 1, 20, .inl (zc sightings_timesRight))), ((t 23), .inl (κ 1, 20, .inl (zc sightings_rightStep))), ((t 24), .inl (κ 1, 20, .inl (zc sightings_rightOf))), ((t 25), .inl (κ 1, 20, .inl (zc sightings_rightValue))), ((t 26), .inl (κ 1, 20, .inl (zc sightings_knownValue)))]) := hD2.sub [0, 11, 12, 1, 2, 3, 4, 5, 6, 7, 8, 9, 10] (by decide) rfl
  have hS := hS1
  clear hP2 hD2 hS1
  refine W.widen (k := 7) (n := 609) (Nat.le_of_ble_eq_true rfl) (Nat.le_of_ble_eq_true rfl) ?_
  refine lv_astore_n (lv' := [(3, .ref (ad1 c 0)), (0, .ref (t 0)), (1, .int (zi (c : Int))), (2, .int (zi i2))]) hx hb dX10_take_8 rfl hl (by decide) rfl (fun ls hl => ?_)
  refine lv_aload_n hx hb dX10_take_9 rfl (lv_at hl 0 rfl) ?_
  refine lv_ifnull hx hb dX10_take_10 ?_
  refine lv_aload_n hx hb dX10_take_13 rfl (lv_at hl 0 rfl) ?_
  refine lv_iload_n hx hb dX10_take_14 rfl (lv_at hl 3 rfl) ?_
  refine zc_vi (rest := []) ⟨hx, hb, hml, hown, hts⟩ (zc_X5_hasCut l D κ (ad1 c) c i2 oh hoh) (cwV 1 hts gX10_take_X5_hasCut rfl rfl rfl (by decide +kernel) ⟨Nat.le_of_ble_eq_true rfl, Nat.le_of_ble_eq_true rfl⟩) (zpreV hK (hB1 c (zmk_yes h4 h9)) 5 0 rfl rfl) rfl hl.1 rfl (Nat.le_of_ble_eq_true rfl) dX10_take_15 ⟨Nat.le_of_ble_eq_true rfl, Nat.le_of_ble_eq_true rfl⟩ ?_
  refine zv_ifb_ne (tgt := 24) hx hb dX10_take_18 (by decide) (fun q => ?_) (fun q => ?_)
  · rw [if_neg q] at hout
    refine lv_aload_n hx hb dX10_take_24 rfl (lv_at hl 1 rfl) ?_
    refine lv_aload_n hx hb dX10_take_25 rfl (lv_at hl 0 rfl) ?_
    refine lv_aload_n hx hb dX10_take_26 rfl (lv_at hl 0 rfl) ?_
    refine lv_iload_n hx hb dX10_take_27 rfl (lv_at hl 3 rfl) ?_
    refine zc_vi (rest := [.ref (ad1 c 0), .ref (t 0)]) ⟨hx, hb, hml, hown, hts⟩ (zc_X5_cutAt l D κ (ad1 c) c i2 oc hoc) (cwV 1 hts gX10_take_X5_cutAt rfl rfl rfl (by decide +kernel) ⟨Nat.le_of_ble_eq_true rfl, Nat.le_of_ble_eq_true rfl⟩) (zpreV hK (hB1 c (zmk_yes h4 h9)) 5 0 rfl rfl) rfl hl.1 rfl (Nat.le_of_ble_eq_true rfl) dX10_take_28 ⟨Nat.le_of_ble_eq_true rfl, Nat.le_of_ble_eq_true rfl⟩ ?_
    have hFb := va_free (wc := [((t 0), .inr (10, [.ref (t 1), .ref (t 3), .ref (t 5), .ref (t 6), .ref (t 9), .ref (t 11), .ref (t 15), .ref (t 17), .ref (t 27), .ref (t 30), zpg ad1 t_polygon, .int (zi t_bits), .int (zi t_mendedNumber)])), ((t 17), .inr (7, [.ref (t 18), .ref (t 19), .ref (t 20), .ref (t 21), .ref (t 22), .ref (t 23), .ref (t 24), .ref (t 25), .ref (t 26), .int (zi sightings_size), .int (zi sightings_rights), .int (zi sightings_latest)])), ((t 18), .inl (κ 1, 20, .inl (zc sightings_seenStep))), ((t 19), .inl (κ 1, 20, .inl (zc sightings_seenFrom))), ((t 20), .inl (κ 1, 20, .inl (zc sightings_seenTo))), ((t 21), .inl (κ 1, 20, .inl (zc sightings_seenValue))), ((t 22), .inl (κ 1, 20, .inl (zc sightings_timesRight))), ((t 23), .inl (κ 1, 20, .inl (zc sightings_rightStep))), ((t 24), .inl (κ 1, 20, .inl (zc sightings_rightOf))), ((t 25), .inl (κ 1, 20, .inl (zc sightings_rightValue))), ((t 26), .inl (κ 1, 20, .inl (zc sightings_knownValue)))]) hD hS hA [0, 3, 4, 5, 6, 7, 8, 9, 10, 11, 12] rfl
    have hap : zApt (zmk mk c) ad1 (va_A ([((t 0), .inr (10, [.ref (t 1), .ref (t 3), .ref (t 5), .ref (t 6), .ref (t 9), .ref (t 11), .ref (t 15), .ref (t 17), .ref (t 27), .ref (t 30), zpg ad1 t_polygon, .int (zi t_bits), .int (zi t_mendedNumber)])), ((t 17), .inr (7, [.ref (t 18), .ref (t 19), .ref (t 20), .ref (t 21), .ref (t 22), .ref (t 23), .ref (t 24), .ref (t 25), .ref (t 26), .int (zi sightings_size), .int (zi sightings_rights), .int (zi sightings_latest)])), ((t 18), .inl (κ 1, 20, .inl (zc sightings_seenStep))), ((t 19), .inl (κ 1, 20, .inl (zc sightings_seenFrom))), ((t 20), .inl (κ 1, 20, .inl (zc sightings_seenTo))), ((t 21), .inl (κ 1, 20, .inl (zc sightings_seenValue))), ((t 22), .inl (κ 1, 20, .inl (zc sightings_timesRight))), ((t 23), .inl (κ 1, 20, .inl (zc sightings_rightStep))), ((t 24), .inl (κ 1, 20, .inl (zc sightings_rightOf))), ((t 25), .inl (κ 1, 20, .inl (zc sightings_rightValue))), ((t 26), .inl (κ 1, 20, .inl (zc sightings_knownValue)))]) H1.size) H1.size := zapt_new hBA hag (fun z => (hnew z).1) hz1 hB1 (fun q hq => zold_in hP0 hDz hFb [0, 3, 4, 5, 6, 7, 8, 9, 10, 11, 12] rfl q hq)
    refine va_callv (va_runV (rest := []) ⟨hx, hb, hml, hown, hts⟩ (zc_X10_become l D κ t (zmk mk c) ad1 H1.size t_polygon t_bits t_mendedNumber sightings_size sightings_rights sightings_latest sightings_seenStep sightings_seenFrom sightings_seenTo sightings_seenValue sightings_timesRight sightings_rightStep sightings_rightOf sightings_rightValue sightings_knownValue c oc ob (q_ob q)) (cwV 2 hts gX10_take_X10_become rfl rfl rfl (by decide +kernel) ⟨Nat.le_of_ble_eq_true rfl, Nat.le_of_ble_eq_true rfl⟩) (zpreWVa hK (hP.sub [0, 3, 4, 5, 6, 7, 8, 9, 10, 11, 12] rfl) (hD.sub [0, 3, 4, 5, 6, 7, 8, 9, 10, 11, 12] (by decide) rfl) hB1 hap 10 0 rfl rfl) rfl rfl hl.1 rfl (lv_room (Nat.le_of_ble_eq_true rfl)) dX10_take_31 ⟨Nat.le_of_ble_eq_true rfl, Nat.le_of_ble_eq_true rfl⟩) hS (fun q _ h => hFb q h) hFb (fun u T2 H2 locs2 hT2 hvm2 hw hBB2 hz2 hk2 hS2 => ?_)
    obtain ⟨hP3, -, hD3⟩ := hBB2
    rw [hT2] at hP3
    obtain ⟨hP4, hD4⟩ := va_join (wr := [((t 3), .inr (6, [.ref (t 4)])), ((t 4), .inl (κ 4, 6, .inr (.inr (.inr (.inr (zmade (zmk mk c) ad1))))))]) hP hD [0, 3, 4, 5, 6, 7, 8, 9, 10, 11, 12] [1, 2] rfl rfl (by decide) (by decide) hk2 hFb hP3 hD3
    have hP : va_P D vwCl ([((t 0), .inr (10, [.ref (t 1), .ref (t 3), .ref (t 5), .ref (t 6), .ref (t 9), .ref (t 11), .ref (t 15), .ref (t 17), .ref (t 27), .ref (t 30), zpg ad1 (ob.1), .int (zi (ob.2.1)), .int (zi t_mendedNumber)])), ((t 3), .inr (6, [.ref (t 4)])), ((t 4), .inl (κ 4, 6, .inr (.inr (.inr (.inr (zmade (zmk mk c) ad1)))))), ((t 17), .inr (7, [.ref (t 18), .ref (t 19), .ref (t 20), .ref (t 21), .ref (t 22), .ref (t 23), .ref (t 24), .ref (t 25), .ref (t 26), .int (zi (ob.2.2.1)), .int (zi (ob.2.2.2.1)), .int (zi (ob.2.2.2.2))])), ((t 18), .inl (κ 1, 20, .inl (zc sightings_seenStep))), ((t 19), .inl (κ 1, 20, .inl (zc sightings_seenFrom))), ((t 20), .inl (κ 1, 20, .inl (zc sightings_seenTo))), ((t 21), .inl (κ 1, 20, .inl (zc sightings_seenValue))), ((t 22), .inl (κ 1, 20, .inl (zc sightings_timesRight))), ((t 23), .inl (κ 1, 20, .inl (zc sightings_rightStep))), ((t 24), .inl (κ 1, 20, .inl (zc sightings_rightOf))), ((t 25), .inl (κ 1, 20, .inl (zc sightings_rightValue))), ((t 26), .inl (κ 1, 20, .inl (zc sightings_knownValue)))]) H2 := hP4.sub [2, 0, 1, 3, 4, 5, 6, 7, 8, 9, 10, 11, 12] rfl
    have hD : va_D A ([((t 0), .inr (10, [.ref (t 1), .ref (t 3), .ref (t 5), .ref (t 6), .ref (t 9), .ref (t 11), .ref (t 15), .ref (t 17), .ref (t 27), .ref (t 30), zpg ad1 (ob.1), .int (zi (ob.2.1)), .int (zi t_mendedNumber)])), ((t 3), .inr (6, [.ref (t 4)])), ((t 4), .inl (κ 4, 6, .inr (.inr (.inr (.inr (zmade (zmk mk c) ad1)))))), ((t 17), .inr (7, [.ref (t 18), .ref (t 19), .ref (t 20), .ref (t 21), .ref (t 22), .ref (t 23), .ref (t 24), .ref (t 25), .ref (t 26), .int (zi (ob.2.2.1)), .int (zi (ob.2.2.2.1)), .int (zi (ob.2.2.2.2))])), ((t 18), .inl (κ 1, 20, .inl (zc sightings_seenStep))), ((t 19), .inl (κ 1, 20, .inl (zc sightings_seenFrom))), ((t 20), .inl (κ 1, 20, .inl (zc sightings_seenTo))), ((t 21), .inl (κ 1, 20, .inl (zc sightings_seenValue))), ((t 22), .inl (κ 1, 20, .inl (zc sightings_timesRight))), ((t 23), .inl (κ 1, 20, .inl (zc sightings_rightStep))), ((t 24), .inl (κ 1, 20, .inl (zc sightings_rightOf))), ((t 25), .inl (κ 1, 20, .inl (zc sightings_rightValue))), ((t 26), .inl (κ 1, 20, .inl (zc sightings_knownValue)))]) := hD4.sub [2, 0, 1, 3, 4, 5, 6, 7, 8, 9, 10, 11, 12] (by decide) rfl
    have hB1 := hB1.keep hap hk2
    have hS := hS2
    refine lv_iload_n hx hb dX10_take_34 rfl (lv_at hl 3 rfl) ?_
    exact W.iret hx hb hr (fun T hT hW => ⟨⟨_, ad1, rfl, ⟨by rw [hout], hag, fun z => (hnew z).1⟩, ⟨by rw [hT]; rw [if_neg q]; exact hP, va_K.moved hW.alike hK, by rw [if_neg q]; exact hD⟩, by rw [hT]; exact hB1⟩, hS.F hT⟩) hS.2.2 dX10_take_35
  · rw [if_pos q] at hout
    refine zv_bipush hx hb dX10_take_21 (by decide) ?_
    exact W.iret hx hb hr (fun T hT hW => ⟨⟨_, ad1, rfl, ⟨by rw [hout], hag, fun z => (hnew z).1⟩, ⟨by rw [hT]; rw [if_pos q]; exact hP, va_K.moved hW.alike hK, by rw [if_pos q]; exact hD⟩, by rw [hT]; exact hB1⟩, hS.F hT⟩) hS.2.2 dX10_take_23
