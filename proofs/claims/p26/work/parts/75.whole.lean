noncomputable def az (A lo hi c : Nat) : Bool := tabR A (lo : Int) (hi : Int) c
theorem z0X : zIX 16 4 1 (-1) 0 0 0 0 0 0 0 (-1) 0 0 0 0 0 0 0 0 0 0 0 0 0 0 0 0 0 0 1 1 0 0 0 0 0 0 0 0 0 0 0 0 0 0 0 0 := by
  refine ⟨?_, ⟨0, by decide, by decide +kernel⟩, by decide, by decide, Or.inl rfl, Or.inl rfl, by decide, by decide, by decide, by decide, by decide, by decide, by decide, by decide, tabR_ok _ (by decide +kernel), tabR_ok _ (by decide +kernel), by decide, by decide, by decide, by decide, by decide, by decide, fun k hk => absurd hk (by omega), fun k hk => absurd hk (by omega), by decide, by decide⟩
  intro z
  rcases z with z | z | z <;> revert z <;> decide
theorem z0T : TL 4 2 0xffffffff00000001ffffffff000000000000000000000000000000000000000000000000ffffffff00000000ffffffff0000000000000000000000000000000000000000000000000000000000000001ffffffff00000000ffffffff000000000000000000000000000000000000000000000000ffffffff00000000ffffffff00000000 0x100000000 0x300000002 := by
  obtain ⟨o, ho, q1, q2, q3, q4, q5⟩ := ok_lf 4 (by decide) (by decide) 0 0 0 0 0 0 0 0 (by decide) (by decide) (by decide) (by decide) (fun h => absurd h (by decide)) (fun h => absurd h (by decide))
  have e : zf_X11_listFor 0 0 0 0 0 0 0 0 ((4 : Nat) : Int) = _ := lf04
  rw [ho] at e
  cases e
  exact ⟨by decide, by decide, q2⟩
theorem z0L : LK 4 2 0x20000000000000001 := ⟨by decide, by decide, rfl, LI_k (c := 2) (by decide +kernel) rfl⟩
theorem z0Y : zIY 0 0 0 0 0 0 0 (-1) 0 4 2 4 2 4 1 0 0 0 0 0 0 0 (-1) 0 1 0 0 0 0 0xffffffff00000001ffffffff000000000000000000000000000000000000000000000000ffffffff00000000ffffffff0000000000000000000000000000000000000000000000000000000000000001ffffffff00000000ffffffff000000000000000000000000000000000000000000000000ffffffff00000000ffffffff00000000 0x100000000 0x300000002 0x20000000000000001 0 0 0 0 0 0 0 0 0 0 0 1 0 0 0 0 0 0 0 0 0 := ⟨by decide, by decide, z0T, z0L, by decide, by decide, ⟨by decide, by decide, 0, by decide, by decide +kernel⟩, by decide, by decide, by decide, by decide, by decide, by decide, fun k hk => absurd hk (by omega), fun k hk => absurd hk (by omega), by decide, by decide, tabR_ok _ (by decide +kernel), tabR_ok _ (by decide +kernel), by decide, by decide⟩
set_option maxHeartbeats 4000000 in
set_option maxRecDepth 100000 in
theorem whole_start {p : Program} {e : Env} {s : State} {m : MethodId} {below : List Frame} {meth : Method} {c : Code} (l : Launch) {b L : Nat} {xs : Nat → Int32} (hL : L ≤ 3072) (C0 : lw_At p s m meth c b L xs) : W p l e room_1 s m #[Value.ref b] below meth c s.heap [] 0 0 (lw_Z below #[Value.ref b] s) (entryFrame m ([Value.ref b] : List Value).toArray 4) := by
  obtain ⟨hx, hb, hr, hml, hown, hts0, hX, hbl, hlocks, hgv⟩ := id C0
  have hown : s.vm.findClass RL = some m.cls := hown
  have hts : ∀ w ∈ wsL_law, w.before #[Value.ref b] s = true := fun w h => hts0 w (wsL_law_in w h)
  have hN : zNest s := z_nest hts0
  obtain ⟨D, κ, hK⟩ := z_known hts0
  obtain ⟨A, hAe⟩ : ∃ A : Nat → Prop, A = fun q : Nat => s.heap.size ≤ q := ⟨_, rfl⟩
  have hA : ∀ q : Nat, s.heap.size ≤ q → A q := fun q h => by rw [hAe]; exact h
  have hS0 : ∀ q : Nat, A q → s.heap.size ≤ q := fun q h => by rw [hAe] at h; exact h
  have hbA : ¬ A b := fun h => absurd (hS0 _ h) (by omega)
  obtain ⟨str, sv, hV, hst⟩ := z_stv (A := A) hts0 hgv (fun a ha h => absurd (hS0 _ h) (by omega))
  have hS : va_S A s.heap s.heap [] := va_S.rf
  have hP : va_P D vwCl [] s.heap := fun k q h => by simp at h
  have hD : va_D A [] := ⟨fun i j p q h => by simp at h, fun k q h => by simp at h⟩
  have hl := lv_entry ([.ref b]) (n := 4) (Nat.le_of_ble_eq_true rfl)
  rw [lg_entry_eq]
  generalize (lg_sl ([.ref b]) ++ List.replicate (4 - (lg_sl ([.ref b])).length) Slot.unset).toArray = ls at hl ⊢
  have hl : lv_has ls 4 [(0, .ref b)] := hl
  refine va_new (ci := 10) (fs := [.null, .null, .null, .null, .null, .null, .null, .null, .null, .null, .null, .int (zi 0), .int (zi 0)]) (C := RX10) (T := TX10) (N := 13) hx hb hts inlX10 tyX10 tyX10_ok hown (hts (.classLink RL 7 RX10) (by decide +kernel)) (hts (.instantiable RX10 13) (by decide +kernel)) (hts (.initialized RX10) (by decide +kernel)) hK hP hD hS hA rfl (by decide) (Nat.le_of_ble_eq_true rfl) (Nat.le_of_ble_eq_true rfl) dL_law_0 (fun q0 H hP hD hS => ?_)
  have hP : va_P D vwCl [(q0, .inr (10, [.null, .null, .null, .null, .null, .null, .null, .null, .null, .null, .null, .int (zi 0), .int (zi 0)]))] H := hP
  have hD : va_D A [(q0, .inr (10, [.null, .null, .null, .null, .null, .null, .null, .null, .null, .null, .null, .int (zi 0), .int (zi 0)]))] := hD
  refine W.widen (k := 1) (n := 13) (Nat.le_of_ble_eq_true rfl) (Nat.le_of_ble_eq_true rfl) ?_
  refine lv_dup hx hb dL_law_3 rfl ?_
  refine zj_initU (wr := []) (va_runI (As := []) (rest := [.ref q0]) ⟨hx, hb, hml, hown, hts⟩ (zc_X10_init l D κ q0 H.size) (cwI 0 hts gL_law_X10_init rfl rfl rfl (hts (.initialized RX10) (by decide +kernel)) (hts (.methodLink RL 9 yX10_init) (by decide +kernel)) (hts (.instanceMethod yX10_init) (by decide +kernel)) rfl (by decide +kernel) ⟨Nat.le_of_ble_eq_true rfl, Nat.le_of_ble_eq_true rfl⟩) (zpreIN hK (hP.sub [0] rfl) (hD.sub [0] (by decide) rfl) hN) rfl rfl hl.1 rfl (lv_room (Nat.le_of_ble_eq_true rfl)) dL_law_4 ⟨Nat.le_of_ble_eq_true rfl, Nat.le_of_ble_eq_true rfl⟩) hP hD hS hA [0] [] rfl rfl (by decide) (by decide) (fun u H2 locs2 hu hP2 hD2 hS2 => ?_)
  obtain ⟨x, ad⟩ := u
  have hu : x 0 = q0 := hu
  subst hu
  have hP : va_P D vwCl (zwf_X10_init κ x ad ++ zpgc κ (ad 4) 4) H2 := hP2
  have hD : va_D A (zwf_X10_init κ x ad ++ zpgc κ (ad 4) 4) := hD2
  have hS := hS2
  clear hP2 hD2 hS2
  generalize H2 = H at hP hS ⊢
  generalize locs2 = locs at hS ⊢
  refine W.widen (k := 38) (n := 2965) (Nat.le_of_ble_eq_true rfl) (Nat.le_of_ble_eq_true rfl) ?_
  refine lv_astore_n (lv' := [(1, .ref (x 0)), (0, .ref b)]) hx hb dL_law_7 rfl hl (by decide) rfl (fun ls hl => ?_)
  rw [zwx] at hP hD
  generalize hXe : (zLX κ x 16 ad 4 1 (-1) 0 0 0 0 0 0 0 (-1) 0 0 0 0 0 0 0 0 0 0 0 0 0 0 0 0 0 0 1 1 0 0 0 0 0 0 0 0 0 0 0 0 0 0 0 0) = X at hP hD
  refine va_new (ci := 11) (fs := [.null, .int (zi 0), .int (zi 0), .int (zi 0), .int (zi 0), .int (zi 0), .int (zi 0), .int (zi 0), .int (zi 0), .long (zl 0), .int (zi 0), .null, .null, .null, .int (zi 0), .int (zi 0), .null, .int (zi 0), .int (zi 0), .long (zl 0), .int (zi 0), .long (zl 0), .null, .null, .null, .null, .int (zi 0), .null, .int (zi 0), .int (zi 0), .null, .null, .int (zi 0), .null, .int (zi 0), .null, .int (zi 0), .int (zi 0), .null, .null, .int (zi 0), .null, .int (zi 0), .int (zi 0), .int (zi 0), .null, .null, .null, .null, .null, .null, .null, .null, .null]) (C := RX11) (T := TX11) (N := 54) hx hb hts inlX11 tyX11 tyX11_ok hown (hts (.classLink RL 10 RX11) (by decide +kernel)) (hts (.instantiable RX11 54) (by decide +kernel)) (hts (.initialized RX11) (by decide +kernel)) hK hP hD hS hA rfl (by decide) (Nat.le_of_ble_eq_true rfl) (Nat.le_of_ble_eq_true rfl) dL_law_8 (fun q1 H hP hD hS => ?_)
  subst hXe
  have hP : va_P D vwCl ((zLX κ x 16 ad 4 1 (-1) 0 0 0 0 0 0 0 (-1) 0 0 0 0 0 0 0 0 0 0 0 0 0 0 0 0 0 0 1 1 0 0 0 0 0 0 0 0 0 0 0 0 0 0 0 0) ++ zpgc κ (ad 4) 4 ++ [(q1, .inr (11, [.null, .int (zi 0), .int (zi 0), .int (zi 0), .int (zi 0), .int (zi 0), .int (zi 0), .int (zi 0), .int (zi 0), .long (zl 0), .int (zi 0), .null, .null, .null, .int (zi 0), .int (zi 0), .null, .int (zi 0), .int (zi 0), .long (zl 0), .int (zi 0), .long (zl 0), .null, .null, .null, .null, .int (zi 0), .null, .int (zi 0), .int (zi 0), .null, .null, .int (zi 0), .null, .int (zi 0), .null, .int (zi 0), .int (zi 0), .null, .null, .int (zi 0), .null, .int (zi 0), .int (zi 0), .int (zi 0), .null, .null, .null, .null, .null, .null, .null, .null, .null]))]) H := hP
  have hD : va_D A ((zLX κ x 16 ad 4 1 (-1) 0 0 0 0 0 0 0 (-1) 0 0 0 0 0 0 0 0 0 0 0 0 0 0 0 0 0 0 1 1 0 0 0 0 0 0 0 0 0 0 0 0 0 0 0 0) ++ zpgc κ (ad 4) 4 ++ [(q1, .inr (11, [.null, .int (zi 0), .int (zi 0), .int (zi 0), .int (zi 0), .int (zi 0), .int (zi 0), .int (zi 0), .int (zi 0), .long (zl 0), .int (zi 0), .null, .null, .null, .int (zi 0), .int (zi 0), .null, .int (zi 0), .int (zi 0), .long (zl 0), .int (zi 0), .long (zl 0), .null, .null, .null, .null, .int (zi 0), .null, .int (zi 0), .int (zi 0), .null, .null, .int (zi 0), .null, .int (zi 0), .null, .int (zi 0), .int (zi 0), .null, .null, .int (zi 0), .null, .int (zi 0), .int (zi 0), .int (zi 0), .null, .null, .null, .null, .null, .null, .null, .null, .null]))]) := hD
  refine W.widen (k := 39) (n := 3019) (Nat.le_of_ble_eq_true rfl) (Nat.le_of_ble_eq_true rfl) ?_
  refine lv_dup hx hb dL_law_11 rfl ?_
  refine zj_initU (wr := (zLX κ x 16 ad 4 1 (-1) 0 0 0 0 0 0 0 (-1) 0 0 0 0 0 0 0 0 0 0 0 0 0 0 0 0 0 0 1 1 0 0 0 0 0 0 0 0 0 0 0 0 0 0 0 0) ++ zpgc κ (ad 4) 4) (va_runI (As := []) (rest := [.ref q1]) ⟨hx, hb, hml, hown, hts⟩ (zc_X11_init l D κ q1 H.size _ lf04) (cwI 0 hts gL_law_X11_init rfl rfl rfl (hts (.initialized RX11) (by decide +kernel)) (hts (.methodLink RL 12 yX11_init) (by decide +kernel)) (hts (.instanceMethod yX11_init) (by decide +kernel)) rfl (by decide +kernel) ⟨Nat.le_of_ble_eq_true rfl, Nat.le_of_ble_eq_true rfl⟩) (zpreI hK (hP.sub [38] rfl) (hD.sub [38] (by decide) rfl)) rfl rfl hl.1 rfl (lv_room (Nat.le_of_ble_eq_true rfl)) dL_law_12 ⟨Nat.le_of_ble_eq_true rfl, Nat.le_of_ble_eq_true rfl⟩) hP hD hS hA [38] [0, 1, 2, 3, 4, 5, 6, 7, 8, 9, 10, 11, 12, 13, 14, 15, 16, 17, 18, 19, 20, 21, 22, 23, 24, 25, 26, 27, 28, 29, 30, 31, 32, 33, 34, 35, 36, 37] rfl rfl (by decide) (by decide) (fun y H2 locs2 hu hP2 hD2 hS2 => ?_)
  have hu : y 0 = q1 := hu
  subst hu
  have hP2 : va_P D vwCl ((zLX κ x 16 ad 4 1 (-1) 0 0 0 0 0 0 0 (-1) 0 0 0 0 0 0 0 0 0 0 0 0 0 0 0 0 0 0 1 1 0 0 0 0 0 0 0 0 0 0 0 0 0 0 0 0) ++ zpgc κ (ad 4) 4 ++ zwf_X11_init κ (2, 4, 2, 4, 0xffffffff00000001ffffffff000000000000000000000000000000000000000000000000ffffffff00000000ffffffff0000000000000000000000000000000000000000000000000000000000000001ffffffff00000000ffffffff000000000000000000000000000000000000000000000000ffffffff00000000ffffffff00000000, 0x100000000, 0x300000002, 0x20000000000000001) y) H2 := hP2
  have hD2 : va_D A ((zLX κ x 16 ad 4 1 (-1) 0 0 0 0 0 0 0 (-1) 0 0 0 0 0 0 0 0 0 0 0 0 0 0 0 0 0 0 1 1 0 0 0 0 0 0 0 0 0 0 0 0 0 0 0 0) ++ zpgc κ (ad 4) 4 ++ zwf_X11_init κ (2, 4, 2, 4, 0xffffffff00000001ffffffff000000000000000000000000000000000000000000000000ffffffff00000000ffffffff0000000000000000000000000000000000000000000000000000000000000001ffffffff00000000ffffffff000000000000000000000000000000000000000000000000ffffffff00000000ffffffff00000000, 0x100000000, 0x300000002, 0x20000000000000001) y) := hD2
  rw [zwy] at hP2 hD2
  have hP : va_P D vwCl ((zLX κ x 16 ad 4 1 (-1) 0 0 0 0 0 0 0 (-1) 0 0 0 0 0 0 0 0 0 0 0 0 0 0 0 0 0 0 1 1 0 0 0 0 0 0 0 0 0 0 0 0 0 0 0 0) ++ zpgc κ (ad 4) 4 ++ (zLY κ y 0 0 0 0 0 0 0 (-1) 0 4 2 4 2 4 1 0 0 0 0 0 0 0 (-1) 0 1 0 0 0 0 0xffffffff00000001ffffffff000000000000000000000000000000000000000000000000ffffffff00000000ffffffff0000000000000000000000000000000000000000000000000000000000000001ffffffff00000000ffffffff000000000000000000000000000000000000000000000000ffffffff00000000ffffffff00000000 0x100000000 0x300000002 0x20000000000000001 0 0 0 0 0 0 0 0 0 0 0 1 0 0 0 0 0 0 0 0 0)) H2 := hP2
  have hD : va_D A ((zLX κ x 16 ad 4 1 (-1) 0 0 0 0 0 0 0 (-1) 0 0 0 0 0 0 0 0 0 0 0 0 0 0 0 0 0 0 1 1 0 0 0 0 0 0 0 0 0 0 0 0 0 0 0 0) ++ zpgc κ (ad 4) 4 ++ (zLY κ y 0 0 0 0 0 0 0 (-1) 0 4 2 4 2 4 1 0 0 0 0 0 0 0 (-1) 0 1 0 0 0 0 0xffffffff00000001ffffffff000000000000000000000000000000000000000000000000ffffffff00000000ffffffff0000000000000000000000000000000000000000000000000000000000000001ffffffff00000000ffffffff000000000000000000000000000000000000000000000000ffffffff00000000ffffffff00000000 0x100000000 0x300000002 0x20000000000000001 0 0 0 0 0 0 0 0 0 0 0 1 0 0 0 0 0 0 0 0 0)) := hD2
  have hS := hS2
  clear hP2 hD2 hS2
  generalize H2 = H at hP hS ⊢
  generalize locs2 = locs at hS ⊢
  refine W.widen (k := 65) (n := 11888) (Nat.le_of_ble_eq_true rfl) (Nat.le_of_ble_eq_true rfl) ?_
  refine lv_astore_n (lv' := [(2, .ref (y 0)), (1, .ref (x 0)), (0, .ref b)]) hx hb dL_law_15 rfl hl (by decide) rfl (fun ls hl => ?_)
  have hPx : va_P D vwCl (zLX κ x 16 ad 4 1 (-1) 0 0 0 0 0 0 0 (-1) 0 0 0 0 0 0 0 0 0 0 0 0 0 0 0 0 0 0 1 1 0 0 0 0 0 0 0 0 0 0 0 0 0 0 0 0) H := hP.sub [0, 1, 2, 3, 4, 5, 6, 7, 8, 9, 10, 11, 12, 13, 14, 15, 16, 17, 18, 19, 20, 21, 22, 23, 24, 25, 26, 27, 28, 29, 30] rfl
  have hPq : va_P D vwCl (zpgc κ (ad 4) 4) H := hP.sub [31, 32, 33, 34, 35, 36, 37] rfl
  have hPy : va_P D vwCl (zLY κ y 0 0 0 0 0 0 0 (-1) 0 4 2 4 2 4 1 0 0 0 0 0 0 0 (-1) 0 1 0 0 0 0 0xffffffff00000001ffffffff000000000000000000000000000000000000000000000000ffffffff00000000ffffffff0000000000000000000000000000000000000000000000000000000000000001ffffffff00000000ffffffff000000000000000000000000000000000000000000000000ffffffff00000000ffffffff00000000 0x100000000 0x300000002 0x20000000000000001 0 0 0 0 0 0 0 0 0 0 0 1 0 0 0 0 0 0 0 0 0) H := hP.sub [38, 39, 40, 41, 42, 43, 44, 45, 46, 47, 48, 49, 50, 51, 52, 53, 54, 55, 56, 57, 58, 59, 60, 61, 62, 63, 64] rfl
  have hDx : va_D A ((zLX κ x 16 ad 4 1 (-1) 0 0 0 0 0 0 0 (-1) 0 0 0 0 0 0 0 0 0 0 0 0 0 0 0 0 0 0 1 1 0 0 0 0 0 0 0 0 0 0 0 0 0 0 0 0) ++ zpgc κ (ad 4) 4) := hD.sub [0, 1, 2, 3, 4, 5, 6, 7, 8, 9, 10, 11, 12, 13, 14, 15, 16, 17, 18, 19, 20, 21, 22, 23, 24, 25, 26, 27, 28, 29, 30, 31, 32, 33, 34, 35, 36, 37] (by decide) rfl
  have hDy : va_D A ((zLY κ y 0 0 0 0 0 0 0 (-1) 0 4 2 4 2 4 1 0 0 0 0 0 0 0 (-1) 0 1 0 0 0 0 0xffffffff00000001ffffffff000000000000000000000000000000000000000000000000ffffffff00000000ffffffff0000000000000000000000000000000000000000000000000000000000000001ffffffff00000000ffffffff000000000000000000000000000000000000000000000000ffffffff00000000ffffffff00000000 0x100000000 0x300000002 0x20000000000000001 0 0 0 0 0 0 0 0 0 0 0 1 0 0 0 0 0 0 0 0 0) ++ zpgc κ (ad 4) 4) := hD.sub [38, 39, 40, 41, 42, 43, 44, 45, 46, 47, 48, 49, 50, 51, 52, 53, 54, 55, 56, 57, 58, 59, 60, 61, 62, 63, 64, 31, 32, 33, 34, 35, 36, 37] (by decide) rfl
  have hDxy : va_D A ((zLX κ x 16 ad 4 1 (-1) 0 0 0 0 0 0 0 (-1) 0 0 0 0 0 0 0 0 0 0 0 0 0 0 0 0 0 0 1 1 0 0 0 0 0 0 0 0 0 0 0 0 0 0 0 0) ++ (zLY κ y 0 0 0 0 0 0 0 (-1) 0 4 2 4 2 4 1 0 0 0 0 0 0 0 (-1) 0 1 0 0 0 0 0xffffffff00000001ffffffff000000000000000000000000000000000000000000000000ffffffff00000000ffffffff0000000000000000000000000000000000000000000000000000000000000001ffffffff00000000ffffffff000000000000000000000000000000000000000000000000ffffffff00000000ffffffff00000000 0x100000000 0x300000002 0x20000000000000001 0 0 0 0 0 0 0 0 0 0 0 1 0 0 0 0 0 0 0 0 0)) := hD.sub [0, 1, 2, 3, 4, 5, 6, 7, 8, 9, 10, 11, 12, 13, 14, 15, 16, 17, 18, 19, 20, 21, 22, 23, 24, 25, 26, 27, 28, 29, 30, 38, 39, 40, 41, 42, 43, 44, 45, 46, 47, 48, 49, 50, 51, 52, 53, 54, 55, 56, 57, 58, 59, 60, 61, 62, 63, 64] (by decide) rfl
  have hZx := zsep4 hPq hDx
  have hZy := zsep4 hPq hDy
  have hB := zamb4 hPq
  refine zv_iconst hx hb dL_law_16 ?_
  refine lv_istore_n (lv' := [(3, .int (zi 0)), (2, .ref (y 0)), (1, .ref (x 0)), (0, .ref b)]) hx hb dL_law_17 rfl hl (by decide) rfl (fun ls hl => ?_)
  have hl : lv_has ls 4 [(0, .ref b), (3, .int (zi 0)), (1, .ref (x 0)), (2, .ref (y 0))] := lv_sub hl [3, 0, 2, 1] rfl
  have hl : lv_has ls 4 [(0, .ref b), (1, .ref (x 0)), (2, .ref (y 0)), (3, .int (zi ((0 : Nat) : Int)))] := lv_sub hl [0, 2, 3, 1] rfl
  exact z_loop (D := D) (κ := κ) hx hb hr hlocks hml hown hts hK hA hS0 hX hbl hbA hL str sv hV hst x y 513 0 (by omega) (by omega) 65 11888 16 ad ⟨4, 1, (-1), 0, 0, 0, 0, 0, 0, 0, (-1), 0, 0, 0, 0, 0, 0, 0, 0, 0, 0, 0, 0, 0, 0, 0, 0, 0, 0, 1, 1, 0, 0, 0, 0, 0, 0, 0, 0, 0, 0, 0, 0, 0, 0, 0, 0⟩ ⟨0, 0, 0, 0, 0, 0, 0, (-1), 0, 4, 2, 4, 2, 4, 1, 0, 0, 0, 0, 0, 0, 0, (-1), 0, 1, 0, 0, 0, 0, 0xffffffff00000001ffffffff000000000000000000000000000000000000000000000000ffffffff00000000ffffffff0000000000000000000000000000000000000000000000000000000000000001ffffffff00000000ffffffff000000000000000000000000000000000000000000000000ffffffff00000000ffffffff00000000, 0x100000000, 0x300000002, 0x20000000000000001, 0, 0, 0, 0, 0, 0, 0, 0, 0, 0, 0, 1, 0, 0, 0, 0, 0, 0, 0, 0, 0⟩ H locs ls (by omega) (by omega) z0X z0Y ⟨rfl, rfl, BR_0, rfl, rfl, rfl, rfl, rfl, rfl, rfl⟩ hPx hPy hDxy hS hB hZx hZy hl
