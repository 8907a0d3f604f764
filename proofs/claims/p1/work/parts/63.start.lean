theorem z_tail {p : Program} {l : Launch} {e : Env} {s : State} {m : MethodId} {below : List Frame} {meth : Method} {c : Code} {A : Nat → Prop} {b L : Nat} {xs : Nat → Int32} {cells slots : Nat} (hx : p.tables.exec = Jvm.exec) (hb : c.code = cL_law) (hr : meth.sig.returnType = ret) (hlocks : meth.locks = false) (hS0 : ∀ q, A q → s.heap.size ≤ q) (hc : cells ≤ 600000) (hs : slots ≤ 7302250) (H : Heap) (locs : List Loc) (ls : Array Slot) (hS : va_S A s.heap H locs) : W p l e room_1 s m #[Value.ref b] below meth c H locs cells slots (lw_Z below #[Value.ref b] s) (F0 m 1314 ls []) := by
  refine lv_iconst (v := 1) hx hb dL_law_1314 (by decide) ?_
  refine va_forget (fun q hq => hS0 _ (hS.2.2 q hq)) ?_
  refine W.widen (k := 600000) (n := 7302250) hc hs ?_
  exact lw_ret hx hb hr hlocks dL_law_1315
theorem z_test {p : Program} {l : Launch} {e : Env} {s : State} {m : MethodId} {below : List Frame} {meth : Method} {c : Code} {A : Nat → Prop} {b L : Nat} {xs : Nat → Int32} {cells slots : Nat} (hx : p.tables.exec = Jvm.exec) (hb : c.code = cL_law) (hr : meth.sig.returnType = ret) (hlocks : meth.locks = false) (hX : va_X b L xs s s.heap) (hbl : b < s.heap.size) (hbA : ¬ A b) (hS0 : ∀ q, A q → s.heap.size ≤ q) (hL : L ≤ 6) (i : Int) (h0 : 0 ≤ i) (h6 : i ≤ 6) (hc : cells ≤ 600000) (hs : slots ≤ 7302250) (H : Heap) (locs : List Loc) (ls : Array Slot) {lv : List (Nat × Value)} (hl : lv_has ls 4 ((0, .ref b) :: (3, .int (zi i)) :: lv)) (hS : va_S A s.heap H locs)
    (kk : i + 6 ≤ L → W p l e room_1 s m #[Value.ref b] below meth c H locs cells slots (lw_Z below #[Value.ref b] s) (F0 m 27 ls [])) : W p l e room_1 s m #[Value.ref b] below meth c H locs cells slots (lw_Z below #[Value.ref b] s) (F0 m 18 ls []) := by
  refine lv_iload_n hx hb dL_law_18 rfl (lv_at hl 1 rfl) ?_
  refine lv_aload_n hx hb dL_law_19 rfl (lv_at hl 0 rfl) ?_
  refine zv_slen hx hb hX hbl hbA hS dL_law_20 ?_
  refine zv_bipush hx hb dL_law_21 (by decide) ?_
  refine zv_isub hx hb dL_law_23 ?_
  refine zv_icmp_gt (tgt := 1314) hx hb dL_law_24 (by decide) (by unfold zout; omega) (by unfold zout; omega) (fun _ => ?_) (fun q => ?_)
  · exact z_tail (L := L) (xs := xs) hx hb hr hlocks hS0 hc hs H locs ls hS
  · exact kk (by omega)
theorem z_and (a : Int) : 0 ≤ zand a 63 ∧ zand a 63 ≤ 63 := by
  have h1 : zu a &&& zu 63 ≤ 63 := by
    have h2 : zu 63 = 63 := by decide
    rw [h2]
    exact Nat.and_le_right
  unfold zand zs
  generalize zu a &&& zu 63 = q at h1 ⊢
  split <;> omega
set_option maxHeartbeats 4000000 in
set_option maxRecDepth 100000 in
theorem whole_start {p : Program} {e : Env} {s : State} {m : MethodId} {below : List Frame} {meth : Method} {c : Code} (l : Launch) {b L : Nat} {xs : Nat → Int32} (hL : L ≤ 6) (C0 : lw_At p s m meth c b L xs) : W p l e room_1 s m #[Value.ref b] below meth c s.heap [] 0 0 (lw_Z below #[Value.ref b] s) (entryFrame m ([Value.ref b] : List Value).toArray 4) := by
  obtain ⟨hx, hb, hr, hml, hown, hts0, hX, hbl, hlocks, hgv⟩ := id C0
  have hown : s.vm.findClass RL = some m.cls := hown
  have hts : ∀ w ∈ wsL_law, w.before #[Value.ref b] s = true := fun w h => hts0 w (wsL_law_in w h)
  have hN : zNest s := z_nest hts0
  obtain ⟨str, hV⟩ := z_str hts0 hgv
  obtain ⟨D, κ, hK⟩ := z_known hts0
  obtain ⟨A, hAe⟩ : ∃ A : Nat → Prop, A = fun q : Nat => s.heap.size ≤ q := ⟨_, rfl⟩
  have hA : ∀ q : Nat, s.heap.size ≤ q → A q := fun q h => by rw [hAe]; exact h
  have hS0 : ∀ q : Nat, A q → s.heap.size ≤ q := fun q h => by rw [hAe] at h; exact h
  have hbA : ¬ A b := fun h => absurd (hS0 _ h) (by omega)
  have hS : va_S A s.heap s.heap [] := va_S.rf
  have hP : va_P D vwCl [] s.heap := fun k q h => by simp at h
  have hD : va_D A [] := ⟨fun i j p q h => by simp at h, fun k q h => by simp at h⟩
  have hl := lv_entry ([.ref b]) (n := 4) (Nat.le_of_ble_eq_true rfl)
  rw [lg_entry_eq]
  generalize (lg_sl ([.ref b]) ++ List.replicate (4 - (lg_sl ([.ref b])).length) Slot.unset).toArray = ls at hl ⊢
  have hl : lv_has ls 4 [(0, .ref b)] := hl
  refine va_new (ci := 10) (fs := [.null, .null, .null, .null, .null, .null, .null, .null, .null, .null, .null, .int (zi 0), .int (zi 0)]) (C := RX10) (T := TX10) (N := 13) hx hb hts inlX10 tyX10 tyX10_ok hown (hts (.classLink RL 7 RX10) (by decide +kernel)) (hts (.instantiable RX10 13) (by decide +kernel)) (hts (.initialized RX10) (by decide +kernel)) hK hP hD hS hA rfl (by decide) (Nat.le_of_ble_eq_true rfl) (Nat.le_of_ble_eq_true rfl) dL_law_0 (fun q0 H hP hD hS => ?_)
  have hP : va_P D vwCl [(q0, .inr (10, [.null, .null, .null, .null, .null, .null, .null, .null, .null, .null, .null, .int (zi 0), .int (zi 0)]))] H := hP
  have hD : va_D A [(q0, .inr (10, [.null, .null, .null, .null, .null, .null, .null, .null, .null, .null, .null, .int (zi 0), .int (zi 0)]))] := hD
  refine W.widen (k := 1) (n := 13) (Nat.le_of_ble_eq_true rfl) (Nat.le_of_ble_eq_true rfl) ?_
  refine lv_dup hx hb dL_law_3 rfl ?_
  refine zj_initU (wr := []) (va_runI (As := []) (rest := [.ref q0]) ⟨hx, hb, hml, hown, hts⟩ (zc_X10_init l D κ q0 H.size) (cwI 0 hts gL_law_X10_init rfl rfl rfl (hts (.initialized RX10) (by decide +kernel)) (hts (.methodLink RL 9 yX10_init) (by decide +kernel)) (hts (.instanceMethod yX10_init) (by decide +kernel)) rfl (by decide +kernel) ⟨Nat.le_of_ble_eq_true rfl, Nat.le_of_ble_eq_true rfl⟩) (zpreIN hK (hP.sub [0] rfl) (hD.sub [0] (by decide) rfl) hN) rfl rfl hl.1 rfl (lv_room (Nat.le_of_ble_eq_true rfl)) dL_law_4 ⟨Nat.le_of_ble_eq_true rfl, Nat.le_of_ble_eq_true rfl⟩) hP hD hS hA [0] [] rfl rfl (by decide) (by decide) (fun u H2 locs2 hu hP2 hD2 hS2 => ?_)
  obtain ⟨x, ad⟩ := u
  have hu : x 0 = q0 := hu
  subst hu
  have hP : va_P D vwCl (zwf_X10_init κ x ad ++ zpgc κ (ad 4) 4) H2 := hP2
  have hD : va_D A (zwf_X10_init κ x ad ++ zpgc κ (ad 4) 4) := hD2
  have hS := hS2
  clear hP2 hD2 hS2
  generalize H2 = H at hP hS ⊢
  generalize locs2 = locs at hS ⊢
  refine W.widen (k := 38) (n := 2965) (Nat.le_of_ble_eq_true rfl) (Nat.le_of_ble_eq_true rfl) ?_
  refine lv_astore_n (lv' := [(1, .ref (x 0)), (0, .ref b)]) hx hb dL_law_7 rfl hl (by decide) rfl (fun ls hl => ?_)
  rw [zwx] at hP hD
  generalize hXe : (zLX κ x 16 ad 4 1 (-1) 0 0 0 0 0 0 0 (-1) 0 0 0 0 0 0 0 0 0 0 0 0 0 0 0 0 0 0 1 1 0 0 0 0 0 0 0 0 0 0 0 0 0 0 0 0) = X at hP hD
  refine va_new (ci := 11) (fs := [.null, .int (zi 0), .int (zi 0), .int (zi 0), .int (zi 0), .int (zi 0), .int (zi 0), .int (zi 0), .int (zi 0), .long (zl 0), .int (zi 0), .null, .null, .null, .int (zi 0), .int (zi 0), .null, .int (zi 0), .int (zi 0), .long (zl 0), .int (zi 0), .long (zl 0), .null, .null, .null, .null, .int (zi 0), .null, .int (zi 0), .int (zi 0), .null, .null, .int (zi 0), .null, .int (zi 0), .null, .int (zi 0), .int (zi 0), .null, .null, .int (zi 0), .null, .int (zi 0), .int (zi 0), .int (zi 0), .null, .null, .null, .null, .null, .null, .null, .null, .null]) (C := RX11) (T := TX11) (N := 54) hx hb hts inlX11 tyX11 tyX11_ok hown (hts (.classLink RL 10 RX11) (by decide +kernel)) (hts (.instantiable RX11 54) (by decide +kernel)) (hts (.initialized RX11) (by decide +kernel)) hK hP hD hS hA rfl (by decide) (Nat.le_of_ble_eq_true rfl) (Nat.le_of_ble_eq_true rfl) dL_law_8 (fun q1 H hP hD hS => ?_)
  subst hXe
  have hP : va_P D vwCl ((zLX κ x 16 ad 4 1 (-1) 0 0 0 0 0 0 0 (-1) 0 0 0 0 0 0 0 0 0 0 0 0 0 0 0 0 0 0 1 1 0 0 0 0 0 0 0 0 0 0 0 0 0 0 0 0) ++ zpgc κ (ad 4) 4 ++ [(q1, .inr (11, [.null, .int (zi 0), .int (zi 0), .int (zi 0), .int (zi 0), .int (zi 0), .int (zi 0), .int (zi 0), .int (zi 0), .long (zl 0), .int (zi 0), .null, .null, .null, .int (zi 0), .int (zi 0), .null, .int (zi 0), .int (zi 0), .long (zl 0), .int (zi 0), .long (zl 0), .null, .null, .null, .null, .int (zi 0), .null, .int (zi 0), .int (zi 0), .null, .null, .int (zi 0), .null, .int (zi 0), .null, .int (zi 0), .int (zi 0), .null, .null, .int (zi 0), .null, .int (zi 0), .int (zi 0), .int (zi 0), .null, .null, .null, .null, .null, .null, .null, .null, .null]))]) H := hP
  have hD : va_D A ((zLX κ x 16 ad 4 1 (-1) 0 0 0 0 0 0 0 (-1) 0 0 0 0 0 0 0 0 0 0 0 0 0 0 0 0 0 0 1 1 0 0 0 0 0 0 0 0 0 0 0 0 0 0 0 0) ++ zpgc κ (ad 4) 4 ++ [(q1, .inr (11, [.null, .int (zi 0), .int (zi 0), .int (zi 0), .int (zi 0), .int (zi 0), .int (zi 0), .int (zi 0), .int (zi 0), .long (zl 0), .int (zi 0), .null, .null, .null, .int (zi 0), .int (zi 0), .null, .int (zi 0), .int (zi 0), .long (zl 0), .int (zi 0), .long (zl 0), .null, .null, .null, .null, .int (zi 0), .null, .int (zi 0), .int (zi 0), .null, .null, .int (zi 0), .null, .int (zi 0), .null, .int (zi 0), .int (zi 0), .null, .null, .int (zi 0), .null, .int (zi 0), .int (zi 0), .int (zi 0), .null, .null, .null, .null, .null, .null, .null, .null, .null]))]) := hD
  refine W.widen (k := 39) (n := 3019) (Nat.le_of_ble_eq_true rfl) (Nat.le_of_ble_eq_true rfl) ?_
  refine lv_dup hx hb dL_law_11 rfl ?_
  refine zj_initU (wr := (zLX κ x 16 ad 4 1 (-1) 0 0 0 0 0 0 0 (-1) 0 0 0 0 0 0 0 0 0 0 0 0 0 0 0 0 0 0 1 1 0 0 0 0 0 0 0 0 0 0 0 0 0 0 0 0) ++ zpgc κ (ad 4) 4) (va_runI (As := []) (rest := [.ref q1]) ⟨hx, hb, hml, hown, hts⟩ (zc_X11_init l D κ q1 H.size _ lf04) (cwI 0 hts gL_law_X11_init rfl rfl rfl (hts (.initialized RX11) (by decide +kernel)) (hts (.methodLink RL 12 yX11_init) (by decide +kernel)) (hts (.instanceMethod yX11_init) (by decide +kernel)) rfl (by decide +kernel) ⟨Nat.le_of_ble_eq_true rfl, Nat.le_of_ble_eq_true rfl⟩) (zpreI hK (hP.sub [38] rfl) (hD.sub [38] (by decide) rfl)) rfl rfl hl.1 rfl (lv_room (Nat.le_of_ble_eq_true rfl)) dL_law_12 ⟨Nat.le_of_ble_eq_true rfl, Nat.le_of_ble_eq_true rfl⟩) hP hD hS hA [38] [0, 1, 2, 3, 4, 5, 6, 7, 8, 9, 10, 11, 12, 13, 14, 15, 16, 17, 18, 19, 20, 21, 22, 23, 24, 25, 26, 27, 28, 29, 30, 31, 32, 33, 34, 35, 36, 37] rfl rfl (by decide) (by decide) (fun y H2 locs2 hu hP2 hD2 hS2 => ?_)
  have hu : y 0 = q1 := hu
  subst hu
  have hP2 : va_P D vwCl ((zLX κ x 16 ad 4 1 (-1) 0 0 0 0 0 0 0 (-1) 0 0 0 0 0 0 0 0 0 0 0 0 0 0 0 0 0 0 1 1 0 0 0 0 0 0 0 0 0 0 0 0 0 0 0 0) ++ zpgc κ (ad 4) 4 ++ zwf_X11_init κ (2, 4, 2, 4, 0xffffffff00000001ffffffff000000000000000000000000000000000000000000000000ffffffff00000000ffffffff0000000000000000000000000000000000000000000000000000000000000001ffffffff00000000ffffffff000000000000000000000000000000000000000000000000ffffffff00000000ffffffff00000000, 0x100000000, 0x300000002, 0x20000000000000001) y) H2 := hP2
  have hD2 : va_D A ((zLX κ x 16 ad 4 1 (-1) 0 0 0 0 0 0 0 (-1) 0 0 0 0 0 0 0 0 0 0 0 0 0 0 0 0 0 0 1 1 0 0 0 0 0 0 0 0 0 0 0 0 0 0 0 0) ++ zpgc κ (ad 4) 4 ++ zwf_X11_init κ (2, 4, 2, 4, 0xffffffff00000001ffffffff000000000000000000000000000000000000000000000000ffffffff00000000ffffffff0000000000000000000000000000000000000000000000000000000000000001ffffffff00000000ffffffff000000000000000000000000000000000000000000000000ffffffff00000000ffffffff00000000, 0x100000000, 0x300000002, 0x20000000000000001) y) := hD2
  rw [zwy] at hP2 hD2
  have hP : va_P D vwCl ((zLX κ x 16 ad 4 1 (-1) 0 0 0 0 0 0 0 (-1) 0 0 0 0 0 0 0 0 0 0 0 0 0 0 0 0 0 0 1 1 0 0 0 0 0 0 0 0 0 0 0 0 0 0 0 0) ++ zpgc κ (ad 4) 4 ++ (zLY κ y 0 0 0 0 0 0 0 (-1) 0 4 2 4 2 4 1 0 0 0 0 0 0 0 (-1) 0 1 0 0 0 0 0xffffffff00000001ffffffff000000000000000000000000000000000000000000000000ffffffff00000000ffffffff0000000000000000000000000000000000000000000000000000000000000001ffffffff00000000ffffffff000000000000000000000000000000000000000000000000ffffffff00000000ffffffff00000000 0x100000000 0x300000002 0x20000000000000001 0 0 0 0 0 0 0 0 0 0 0 1 0 0 0 0 0 0 0 0 0)) H2 := hP2
  have hD : va_D A ((zLX κ x 16 ad 4 1 (-1) 0 0 0 0 0 0 0 (-1) 0 0 0 0 0 0 0 0 0 0 0 0 0 0 0 0 0 0 1 1 0 0 0 0 0 0 0 0 0 0 0 0 0 0 0 0) ++ zpgc κ (ad 4) 4 ++ (zLY κ y 0 0 0 0 0 0 0 (-1) 0 4 2 4 2 4 1 0 0 0 0 0 0 0 (-1) 0 1 0 0 0 0 0xffffffff00000001ffffffff000000000000000000000000000000000000000000000000ffffffff00000000ffffffff0000000000000000000000000000000000000000000000000000000000000001ffffffff00000000ffffffff000000000000000000000000000000000000000000000000ffffffff00000000ffffffff00000000 0x100000000 0x300000002 0x20000000000000001 0 0 0 0 0 0 0 0 0 0 0 1 0 0 0 0 0 0 0 0 0)) := hD2
  have hS := hS2
  clear hP2 hD2 hS2
  generalize H2 = H at hP hS ⊢
  generalize locs2 = locs at hS ⊢
  refine W.widen (k := 65) (n := 11888) (Nat.le_of_ble_eq_true rfl) (Nat.le_of_ble_eq_true rfl) ?_
  refine lv_astore_n (lv' := [(2, .ref (y 0)), (1, .ref (x 0)), (0, .ref b)]) hx hb dL_law_15 rfl hl (by decide) rfl (fun ls hl => ?_)
  have hPx : va_P D vwCl (zLX κ x 16 ad 4 1 (-1) 0 0 0 0 0 0 0 (-1) 0 0 0 0 0 0 0 0 0 0 0 0 0 0 0 0 0 0 1 1 0 0 0 0 0 0 0 0 0 0 0 0 0 0 0 0) H := hP.sub [0, 1, 2, 3, 4, 5, 6, 7, 8, 9, 10, 11, 12, 13, 14, 15, 16, 17, 18, 19, 20, 21, 22, 23, 24, 25, 26, 27, 28, 29, 30] rfl
  have hPq : va_P D vwCl (zpgc κ (ad 4) 4) H := hP.sub [31, 32, 33, 34, 35, 36, 37] rfl
  have hPy : va_P D vwCl (zLY κ y 0 0 0 0 0 0 0 (-1) 0 4 2 4 2 4 1 0 0 0 0 0 0 0 (-1) 0 1 0 0 0 0 0xffffffff00000001ffffffff000000000000000000000000000000000000000000000000ffffffff00000000ffffffff0000000000000000000000000000000000000000000000000000000000000001ffffffff00000000ffffffff000000000000000000000000000000000000000000000000ffffffff00000000ffffffff00000000 0x100000000 0x300000002 0x20000000000000001 0 0 0 0 0 0 0 0 0 0 0 1 0 0 0 0 0 0 0 0 0) H := hP.sub [38, 39, 40, 41, 42, 43, 44, 45, 46, 47, 48, 49, 50, 51, 52, 53, 54, 55, 56, 57, 58, 59, 60, 61, 62, 63, 64] rfl
  have hDx : va_D A ((zLX κ x 16 ad 4 1 (-1) 0 0 0 0 0 0 0 (-1) 0 0 0 0 0 0 0 0 0 0 0 0 0 0 0 0 0 0 1 1 0 0 0 0 0 0 0 0 0 0 0 0 0 0 0 0) ++ zpgc κ (ad 4) 4) := hD.sub [0, 1, 2, 3, 4, 5, 6, 7, 8, 9, 10, 11, 12, 13, 14, 15, 16, 17, 18, 19, 20, 21, 22, 23, 24, 25, 26, 27, 28, 29, 30, 31, 32, 33, 34, 35, 36, 37] (by decide) rfl
  have hDy : va_D A ((zLY κ y 0 0 0 0 0 0 0 (-1) 0 4 2 4 2 4 1 0 0 0 0 0 0 0 (-1) 0 1 0 0 0 0 0xffffffff00000001ffffffff000000000000000000000000000000000000000000000000ffffffff00000000ffffffff0000000000000000000000000000000000000000000000000000000000000001ffffffff00000000ffffffff000000000000000000000000000000000000000000000000ffffffff00000000ffffffff00000000 0x100000000 0x300000002 0x20000000000000001 0 0 0 0 0 0 0 0 0 0 0 1 0 0 0 0 0 0 0 0 0) ++ zpgc κ (ad 4) 4) := hD.sub [38, 39, 40, 41, 42, 43, 44, 45, 46, 47, 48, 49, 50, 51, 52, 53, 54, 55, 56, 57, 58, 59, 60, 61, 62, 63, 64, 31, 32, 33, 34, 35, 36, 37] (by decide) rfl
  have hDxy : va_D A ((zLX κ x 16 ad 4 1 (-1) 0 0 0 0 0 0 0 (-1) 0 0 0 0 0 0 0 0 0 0 0 0 0 0 0 0 0 0 1 1 0 0 0 0 0 0 0 0 0 0 0 0 0 0 0 0) ++ (zLY κ y 0 0 0 0 0 0 0 (-1) 0 4 2 4 2 4 1 0 0 0 0 0 0 0 (-1) 0 1 0 0 0 0 0xffffffff00000001ffffffff000000000000000000000000000000000000000000000000ffffffff00000000ffffffff0000000000000000000000000000000000000000000000000000000000000001ffffffff00000000ffffffff000000000000000000000000000000000000000000000000ffffffff00000000ffffffff00000000 0x100000000 0x300000002 0x20000000000000001 0 0 0 0 0 0 0 0 0 0 0 1 0 0 0 0 0 0 0 0 0)) := hD.sub [0, 1, 2, 3, 4, 5, 6, 7, 8, 9, 10, 11, 12, 13, 14, 15, 16, 17, 18, 19, 20, 21, 22, 23, 24, 25, 26, 27, 28, 29, 30, 38, 39, 40, 41, 42, 43, 44, 45, 46, 47, 48, 49, 50, 51, 52, 53, 54, 55, 56, 57, 58, 59, 60, 61, 62, 63, 64] (by decide) rfl
  have hZx := zsep4 hPq hDx
  have hZy := zsep4 hPq hDy
  have hB := zamb4 hPq
  refine zv_iconst hx hb dL_law_16 ?_
  refine lv_istore_n (lv' := [(3, .int (zi 0)), (2, .ref (y 0)), (1, .ref (x 0)), (0, .ref b)]) hx hb dL_law_17 rfl hl (by decide) rfl (fun ls hl => ?_)
  have hl : lv_has ls 4 [(0, .ref b), (3, .int (zi 0)), (1, .ref (x 0)), (2, .ref (y 0))] := lv_sub hl [3, 0, 2, 1] rfl
  refine z_test hx hb hr hlocks hX hbl hbA hS0 hL 0 (by decide) (by decide) (Nat.le_of_ble_eq_true rfl) (Nat.le_of_ble_eq_true rfl) H locs ls hl hS (fun h6 => ?_)
  have hi : 0 + 6 ≤ L := by omega
  have kk : ∀ (H : Heap) (locs : List Loc) (cells slots : Nat), cells ≤ 600000 → slots ≤ 7302250 → va_S A s.heap H locs → W p l e room_1 s m #[Value.ref b] below meth c H locs cells slots (lw_Z below #[Value.ref b] s) (F0 m 1308 ls []) := by
    intro H locs cells slots hc hs hS
    refine lv_iinc (v := zi (0 + 6)) (lv' := [(3, .int (zi (0 + 6))), (0, .ref b), (1, .ref (x 0)), (2, .ref (y 0))]) hx hb dL_law_1308 hl (k := 1) rfl (zi_add 0 _) (by decide) rfl (fun ls hl => ?_)
    refine lv_goto (tgt := 18) hx hb dL_law_1311 (by decide) ?_
    have hl : lv_has ls 4 [(0, .ref b), (3, .int (zi (0 + 6))), (1, .ref (x 0)), (2, .ref (y 0))] := lv_sub hl [1, 0, 2, 3] rfl
    exact z_test hx hb hr hlocks hX hbl hbA hS0 hL (0 + 6) (by decide) (by decide) hc hs H locs ls hl hS (fun h => absurd h (by omega))
  refine lv_aload_n hx hb dL_law_27 rfl (lv_at hl 0 rfl) ?_
  refine lv_iload_n hx hb dL_law_28 rfl (lv_at hl 1 rfl) ?_
  refine zv_sld hx hb hX hbl hbA hS 0 (by rfl) (by omega) (by omega) dL_law_29 ?_
  refine zv_bipush hx hb dL_law_30 (by decide) ?_
  refine zv_iand hx hb dL_law_32 ?_
  obtain ⟨v1, v2⟩ := z_and (zX xs 0)
  generalize zand (zX xs 0) 63 = v at v1 v2 ⊢
  have hl : lv_has ls 4 [(0, .ref b), (1, .ref (x 0)), (2, .ref (y 0)), (3, .int (zi ((0 : Nat) : Int)))] := lv_sub hl [0, 2, 3, 1] rfl
  by_cases v3 : 37 < v
  · refine lv_tableOut (tgt := 1308) hx hb dL_law_33 (Or.inr (by rw [zi_int (by unfold zout; omega)]; exact v3)) (by decide) ?_
    exact kk _ _ _ _ (Nat.le_of_ble_eq_true rfl) (Nat.le_of_ble_eq_true rfl) hS
  have hv9 : v = 0 ∨ v = 1 ∨ v = 2 ∨ v = 3 ∨ v = 4 ∨ v = 5 ∨ v = 6 ∨ v = 7 ∨ v = 8 ∨ v = 9 ∨ v = 10 ∨ v = 11 ∨ v = 12 ∨ v = 13 ∨ v = 14 ∨ v = 15 ∨ v = 16 ∨ v = 17 ∨ v = 18 ∨ v = 19 ∨ v = 20 ∨ v = 21 ∨ v = 22 ∨ v = 23 ∨ v = 24 ∨ v = 25 ∨ v = 26 ∨ v = 27 ∨ v = 28 ∨ v = 29 ∨ v = 30 ∨ v = 31 ∨ v = 32 ∨ v = 33 ∨ v = 34 ∨ v = 35 ∨ v = 36 ∨ v = 37 := by omega
  rcases hv9 with rfl | rfl | rfl | rfl | rfl | rfl | rfl | rfl | rfl | rfl | rfl | rfl | rfl | rfl | rfl | rfl | rfl | rfl | rfl | rfl | rfl | rfl | rfl | rfl | rfl | rfl | rfl | rfl | rfl | rfl | rfl | rfl | rfl | rfl | rfl | rfl | rfl | rfl
  · refine lv_tableIn (off := 167) (tgt := 200) hx hb dL_law_33 (by decide) (by decide) (by first | rfl | decide) (by decide) ?_
    exact st_0 x y ad hx hb hml hown hts hK hA hX hbl hbA (by omega) hi H locs ls hPx hPy hDxy hS hB hZx hZy hl kk
  · refine lv_tableIn (off := 230) (tgt := 263) hx hb dL_law_33 (by decide) (by decide) (by first | rfl | decide) (by decide) ?_
    exact st_1 x y ad hx hb hml hown hts hK hA hX hbl hbA (by omega) hi H locs ls hPx hPy hDxy hS hB hZx hZy hl kk
  · refine lv_tableIn (off := 253) (tgt := 286) hx hb dL_law_33 (by decide) (by decide) (by first | rfl | decide) (by decide) ?_
    exact st_2 x y ad hx hb hml hown hts hK hA hX hbl hbA (by omega) hi H locs ls hPx hPy hDxy hS hB hZx hZy hl str hV kk
  · refine lv_tableIn (off := 266) (tgt := 299) hx hb dL_law_33 (by decide) (by decide) (by first | rfl | decide) (by decide) ?_
    exact st_3 x y ad hx hb hml hown hts hK hA hX hbl hbA (by omega) hi H locs ls hPx hPy hDxy hS hB hZx hZy hl kk
  · refine lv_tableIn (off := 289) (tgt := 322) hx hb dL_law_33 (by decide) (by decide) (by first | rfl | decide) (by decide) ?_
    exact st_4 x y ad hx hb hml hown hts hK hA hX hbl hbA (by omega) hi H locs ls hPx hPy hDxy hS hB hZx hZy hl kk
  · refine lv_tableIn (off := 322) (tgt := 355) hx hb dL_law_33 (by decide) (by decide) (by first | rfl | decide) (by decide) ?_
    exact st_5 x y ad hx hb hml hown hts hK hA hX hbl hbA (by omega) hi H locs ls hPx hPy hDxy hS hB hZx hZy hl kk
  · refine lv_tableIn (off := 345) (tgt := 378) hx hb dL_law_33 (by decide) (by decide) (by first | rfl | decide) (by decide) ?_
    exact st_6 x y ad hx hb hml hown hts hK hA hX hbl hbA (by omega) hi H locs ls hPx hPy hDxy hS hB hZx hZy hl kk
  · refine lv_tableIn (off := 378) (tgt := 411) hx hb dL_law_33 (by decide) (by decide) (by first | rfl | decide) (by decide) ?_
    exact st_7 x y ad hx hb hml hown hts hK hA hX hbl hbA (by omega) hi H locs ls hPx hPy hDxy hS hB hZx hZy hl kk
  · refine lv_tableIn (off := 411) (tgt := 444) hx hb dL_law_33 (by decide) (by decide) (by first | rfl | decide) (by decide) ?_
    exact st_8 x y ad hx hb hml hown hts hK hA hX hbl hbA (by omega) hi H locs ls hPx hPy hDxy hS hB hZx hZy hl kk
  · refine lv_tableIn (off := 434) (tgt := 467) hx hb dL_law_33 (by decide) (by decide) (by first | rfl | decide) (by decide) ?_
    exact st_9 x y ad hx hb hml hown hts hK hA hX hbl hbA (by omega) hi H locs ls hPx hPy hDxy hS hB hZx hZy hl kk
  · refine lv_tableIn (off := 487) (tgt := 520) hx hb dL_law_33 (by decide) (by decide) (by first | rfl | decide) (by decide) ?_
    exact st_10 x y ad hx hb hml hown hts hK hA hX hbl hbA (by omega) hi H locs ls hPx hPy hDxy hS hB hZx hZy hl kk
  · refine lv_tableIn (off := 520) (tgt := 553) hx hb dL_law_33 (by decide) (by decide) (by first | rfl | decide) (by decide) ?_
    exact st_11 x y ad hx hb hml hown hts hK hA hX hbl hbA (by omega) hi H locs ls hPx hPy hDxy hS hB hZx hZy hl kk
  · refine lv_tableIn (off := 543) (tgt := 576) hx hb dL_law_33 (by decide) (by decide) (by first | rfl | decide) (by decide) ?_
    exact st_12 x y ad hx hb hml hown hts hK hA hX hbl hbA (by omega) hi H locs ls hPx hPy hDxy hS hB hZx hZy hl kk
  · refine lv_tableIn (off := 566) (tgt := 599) hx hb dL_law_33 (by decide) (by decide) (by first | rfl | decide) (by decide) ?_
    exact st_13 x y ad hx hb hml hown hts hK hA hX hbl hbA (by omega) hi H locs ls hPx hPy hDxy hS hB hZx hZy hl kk
  · refine lv_tableIn (off := 589) (tgt := 622) hx hb dL_law_33 (by decide) (by decide) (by first | rfl | decide) (by decide) ?_
    exact st_14 x y ad hx hb hml hown hts hK hA hX hbl hbA (by omega) hi H locs ls hPx hPy hDxy hS hB hZx hZy hl kk
  · refine lv_tableIn (off := 628) (tgt := 661) hx hb dL_law_33 (by decide) (by decide) (by first | rfl | decide) (by decide) ?_
    exact st_15 x y ad hx hb hml hown hts hK hA hX hbl hbA (by omega) hi H locs ls hPx hPy hDxy hS hB hZx hZy hl kk
  · refine lv_tableIn (off := 677) (tgt := 710) hx hb dL_law_33 (by decide) (by decide) (by first | rfl | decide) (by decide) ?_
    exact st_16 x y ad hx hb hml hown hts hK hA hX hbl hbA (by omega) hi H locs ls hPx hPy hDxy hS hB hZx hZy hl kk
  · refine lv_tableIn (off := 690) (tgt := 723) hx hb dL_law_33 (by decide) (by decide) (by first | rfl | decide) (by decide) ?_
    exact st_17 x y ad hx hb hml hown hts hK hA hX hbl hbA (by omega) hi H locs ls hPx hPy hDxy hS hB hZx hZy hl kk
  · refine lv_tableIn (off := 703) (tgt := 736) hx hb dL_law_33 (by decide) (by decide) (by first | rfl | decide) (by decide) ?_
    exact st_18 x y ad hx hb hml hown hts hK hA hX hbl hbA (by omega) hi H locs ls hPx hPy hDxy hS hB hZx hZy hl kk
  · refine lv_tableIn (off := 716) (tgt := 749) hx hb dL_law_33 (by decide) (by decide) (by first | rfl | decide) (by decide) ?_
    exact st_19 x y ad hx hb hml hown hts hK hA hX hbl hbA (by omega) hi H locs ls hPx hPy hDxy hS hB hZx hZy hl kk
  · refine lv_tableIn (off := 759) (tgt := 792) hx hb dL_law_33 (by decide) (by decide) (by first | rfl | decide) (by decide) ?_
    exact st_20 x y ad hx hb hml hown hts hK hA hX hbl hbA (by omega) hi H locs ls hPx hPy hDxy hS hB hZx hZy hl kk
  · refine lv_tableIn (off := 802) (tgt := 835) hx hb dL_law_33 (by decide) (by decide) (by first | rfl | decide) (by decide) ?_
    exact st_21 x y ad hx hb hml hown hts hK hA hX hbl hbA (by omega) hi H locs ls hPx hPy hDxy hS hB hZx hZy hl kk
  · refine lv_tableIn (off := 835) (tgt := 868) hx hb dL_law_33 (by decide) (by decide) (by first | rfl | decide) (by decide) ?_
    exact st_22 x y ad hx hb hml hown hts hK hA hX hbl hbA (by omega) hi H locs ls hPx hPy hDxy hS hB hZx hZy hl kk
  · refine lv_tableIn (off := 878) (tgt := 911) hx hb dL_law_33 (by decide) (by decide) (by first | rfl | decide) (by decide) ?_
    exact st_23 x y ad hx hb hml hown hts hK hA hX hbl hbA (by omega) hi H locs ls hPx hPy hDxy hS hB hZx hZy hl kk
  · refine lv_tableIn (off := 891) (tgt := 924) hx hb dL_law_33 (by decide) (by decide) (by first | rfl | decide) (by decide) ?_
    exact st_24 x y ad hx hb hml hown hts hK hA hX hbl hbA (by omega) hi H locs ls hPx hPy hDxy hS hB hZx hZy hl kk
  · refine lv_tableIn (off := 904) (tgt := 937) hx hb dL_law_33 (by decide) (by decide) (by first | rfl | decide) (by decide) ?_
    exact st_25 x y ad hx hb hml hown hts hK hA hX hbl hbA (by omega) hi H locs ls hPx hPy hDxy hS hB hZx hZy hl kk
  · refine lv_tableIn (off := 927) (tgt := 960) hx hb dL_law_33 (by decide) (by decide) (by first | rfl | decide) (by decide) ?_
    exact st_26 x y ad hx hb hml hown hts hK hA hX hbl hbA (by omega) hi H locs ls hPx hPy hDxy hS hB hZx hZy hl kk
  · refine lv_tableIn (off := 961) (tgt := 994) hx hb dL_law_33 (by decide) (by decide) (by first | rfl | decide) (by decide) ?_
    exact st_27 x y ad hx hb hml hown hts hK hA hX hbl hbA (by omega) hi H locs ls hPx hPy hDxy hS hB hZx hZy hl kk
  · refine lv_tableIn (off := 984) (tgt := 1017) hx hb dL_law_33 (by decide) (by decide) (by first | rfl | decide) (by decide) ?_
    exact st_28 x y ad hx hb hml hown hts hK hA hX hbl hbA (by omega) hi H locs ls hPx hPy hDxy hS hB hZx hZy hl kk
  · refine lv_tableIn (off := 998) (tgt := 1031) hx hb dL_law_33 (by decide) (by decide) (by first | rfl | decide) (by decide) ?_
    exact st_29 x y ad hx hb hml hown hts hK hA hX hbl hbA (by omega) hi H locs ls hPx hPy hDxy hS hB hZx hZy hl kk
  · refine lv_tableIn (off := 1021) (tgt := 1054) hx hb dL_law_33 (by decide) (by decide) (by first | rfl | decide) (by decide) ?_
    exact st_30 x y ad hx hb hml hown hts hK hA hX hbl hbA (by omega) hi H locs ls hPx hPy hDxy hS hB hZx hZy hl kk
  · refine lv_tableIn (off := 1044) (tgt := 1077) hx hb dL_law_33 (by decide) (by decide) (by first | rfl | decide) (by decide) ?_
    exact st_31 x y ad hx hb hml hown hts hK hA hX hbl hbA (by omega) hi H locs ls hPx hPy hDxy hS hB hZx hZy hl kk
  · refine lv_tableIn (off := 1057) (tgt := 1090) hx hb dL_law_33 (by decide) (by decide) (by first | rfl | decide) (by decide) ?_
    exact st_32 x y ad hx hb hml hown hts hK hA hX hbl hbA (by omega) hi H locs ls hPx hPy hDxy hS hB hZx hZy hl kk
  · refine lv_tableIn (off := 1110) (tgt := 1143) hx hb dL_law_33 (by decide) (by decide) (by first | rfl | decide) (by decide) ?_
    exact st_33 x y ad hx hb hml hown hts hK hA hX hbl hbA (by omega) hi H locs ls hPx hPy hDxy hS hB hZx hZy hl kk
  · refine lv_tableIn (off := 1153) (tgt := 1186) hx hb dL_law_33 (by decide) (by decide) (by first | rfl | decide) (by decide) ?_
    exact st_34 x y ad hx hb hml hown hts hK hA hX hbl hbA (by omega) hi H locs ls hPx hPy hDxy hS hB hZx hZy hl kk
  · refine lv_tableIn (off := 1186) (tgt := 1219) hx hb dL_law_33 (by decide) (by decide) (by first | rfl | decide) (by decide) ?_
    exact st_35 x y ad hx hb hml hown hts hK hA hX hbl hbA (by omega) hi H locs ls hPx hPy hDxy hS hB hZx hZy hl kk
  · refine lv_tableIn (off := 1229) (tgt := 1262) hx hb dL_law_33 (by decide) (by decide) (by first | rfl | decide) (by decide) ?_
    exact st_36 x y ad hx hb hml hown hts hK hA hX hbl hbA (by omega) hi H locs ls hPx hPy hDxy hS hB hZx hZy hl kk
  · refine lv_tableIn (off := 1252) (tgt := 1285) hx hb dL_law_33 (by decide) (by decide) (by first | rfl | decide) (by decide) ?_
    exact st_37 x y ad hx hb hml hown hts hK hA hX hbl hbA (by omega) hi H locs ls hPx hPy hDxy hS hB hZx hZy hl kk
