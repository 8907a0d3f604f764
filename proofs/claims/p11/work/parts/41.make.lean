/-! the polygons' tables are what the constructor makes -/
theorem ev_nl : ∀ c : Nat, 4 ≤ c → c ≤ 9 → zf_X5_numberLines (c : Int) 0 0 0 0 0 = some (pg7 c, pg1 c, pg2 c, pg3 c, pg5 c) := by
  intro c h4 h9
  match c, h4, h9 with
  | 4, _, _ => decide +kernel
  | 5, _, _ => decide +kernel
  | 6, _, _ => decide +kernel
  | 7, _, _ => decide +kernel
  | 8, _, _ => decide +kernel
  | 9, _, _ => decide +kernel
theorem ev_fc : ∀ c : Nat, 4 ≤ c → c ≤ 9 → zf_X5_findCrossers (pg7 c) (pg1 c) (pg2 c) 0 = some (pg4 c) := by
  intro c h4 h9
  match c, h4, h9 with
  | 4, _, _ => decide +kernel
  | 5, _, _ => decide +kernel
  | 6, _, _ => decide +kernel
  | 7, _, _ => decide +kernel
  | 8, _, _ => decide +kernel
  | 9, _, _ => decide +kernel
theorem ev_gc : ∀ c : Nat, 4 ≤ c → c ≤ 9 → zf_X5_gatherCuts 30 0 (pg4 c) 0 (pg7 c - (1 : Int)) (0 : Int) (zshl (1 : Int) (pg7 c) - (1 : Int)) ((c : Int) - (3 : Int)) = some (pg8 c, pg6 c) := by
  intro c h4 h9
  match c, h4, h9 with
  | 4, _, _ => decide +kernel
  | 5, _, _ => decide +kernel
  | 6, _, _ => decide +kernel
  | 7, _, _ => decide +kernel
  | 8, _, _ => decide +kernel
  | 9, _, _ => decide +kernel
/-! withCorners -/
def zmk (mk c : Nat) : Nat := mk ||| 2 ^ c
theorem zmk_bit (mk c n : Nat) : (zmk mk c).testBit n = (mk.testBit n || decide (c = n)) := by
  unfold zmk
  rw [Nat.testBit_or, Nat.testBit_two_pow]
theorem zmk_ne {mk c n : Nat} (h : n ≠ c) : zno (zmk mk c) n ↔ zno mk n := by
  unfold zno
  rw [zmk_bit, decide_eq_false (fun e => h e.symm), Bool.or_false]
theorem zmk_yes {mk c : Nat} (h4 : 4 ≤ c) (h9 : c ≤ 9) : ¬ zno (zmk mk c) c := by
  unfold zno
  rw [zmk_bit, decide_eq_true rfl, Bool.or_true]
  simp
  omega
theorem zmk_old {mk c n : Nat} (h : ¬ zno mk n) : ¬ zno (zmk mk c) n := by
  unfold zno at h ⊢
  rw [zmk_bit]
  intro q
  rcases q with q | q | q
  · exact h (Or.inl q)
  · exact h (Or.inr (Or.inl q))
  · exact h (Or.inr (Or.inr (Bool.or_eq_false_iff.mp q).1))
theorem zmk_same {mk c : Nat} (h : ¬ zno mk c) : zmk mk c = mk := by
  apply Nat.eq_of_testBit_eq
  intro i
  rw [zmk_bit]
  by_cases e : c = i
  · subst e
    have h2 : mk.testBit c = true := by
      cases hb : mk.testBit c with
      | true => rfl
      | false => exact absurd (Or.inr (Or.inr hb)) h
    rw [h2]; rfl
  · rw [decide_eq_false e, Bool.or_false]
abbrev zput (ad : Nat → Nat → Nat) (c : Nat) (u : Nat → Nat) : Nat → Nat → Nat := fun n => if n = c then u else ad n
theorem zput_self {ad : Nat → Nat → Nat} {c : Nat} {u : Nat → Nat} : zput ad c u c = u := if_pos rfl
theorem zput_ne {ad : Nat → Nat → Nat} {c n : Nat} {u : Nat → Nat} (h : n ≠ c) : zput ad c u n = ad n := if_neg h
theorem zmade_new {mk : Nat} {ad : Nat → Nat → Nat} {c : Nat} {u : Nat → Nat} (h4 : 4 ≤ c) (h9 : c ≤ 9) : va_up (zmade mk ad) (c - 4) (some (u 0)) = zmade (zmk mk c) (zput ad c u) := by
  funext i
  unfold va_up zmade
  by_cases e : i = c - 4
  · subst e
    rw [if_pos rfl, show c - 4 + 4 = c by omega, if_neg (zmk_yes h4 h9), zput_self]
  · rw [if_neg e, zput_ne (show i + 4 ≠ c by omega)]
    by_cases q : zno mk (i + 4)
    · rw [if_pos q, if_pos ((zmk_ne (show i + 4 ≠ c by omega)).mpr q)]
    · rw [if_neg q, if_neg (fun z => q ((zmk_ne (show i + 4 ≠ c by omega)).mp z))]
abbrev zpl (κ : Nat → ClassId) (t : Nat → Nat) (mk : Nat) (ad : Nat → Nat → Nat) : va_W := [((t 0), .inr (6, [.ref (t 1)])), ((t 1), .inl (κ 4, 6, .inr (.inr (.inr (.inr (zmade mk ad))))))]
abbrev zr_X6_withCorners : Room := { frames := 33, cells := 7, slots := 609, locals := 848 }
theorem zi_X6_withCorners_X6 : ∀ w ∈ u_ws RX6 TX6 1, w ∈ wsX6_withCorners := fun w h => (List.mem_cons_of_mem _ (List.mem_append_right _ (List.mem_append_left _ h)))
theorem zi_X6_withCorners_X5 : ∀ w ∈ u_ws RX5 TX5 9, w ∈ wsX6_withCorners := fun w h => (List.mem_cons_of_mem _ (List.mem_append_right _ (List.mem_append_right _ (List.mem_append_left _ h))))
theorem zl_X6_withCorners_11 : Cond.fieldLink RX6 11 "DiamondRows$Polygons" "made" "[LDiamondRows$Polygon;" ∈ wsX6_withCorners := (List.mem_cons_of_mem _ (List.mem_append_left _ (List.mem_of_getElem? (i := 0) rfl)))
/-- where cells of A that are none of the first two lie -/
theorem zfresh {κ : Nat → ClassId} {t : Nat → Nat} {mk : Nat} {ad : Nat → Nat → Nat} {sz : Nat} {w0 ws : va_W} {x0 x1 : va_E} (hD : va_D (va_A (zpl κ t mk ad) sz) ((t 0, x0) :: (t 1, x1) :: ws)) {k : Nat} {q : Nat × va_E} (h : ws[k]? = some q) : sz ≤ q.1 := by
  have h2 : ((t 0, x0) :: (t 1, x1) :: ws)[k + 2]? = some q := h
  rcases hD.2 (k + 2) q h2 with ⟨j, e, hj⟩ | hs
  · match j, hj with
    | 0, hj =>
      have e0 : q.1 = t 0 := (congrArg Prod.fst (Option.some.inj hj)).symm
      have := hD.1 (k + 2) 0 q (t 0, x0) h2 rfl e0
      omega
    | 1, hj =>
      have e0 : q.1 = t 1 := (congrArg Prod.fst (Option.some.inj hj)).symm
      have := hD.1 (k + 2) 1 q (t 1, x1) h2 rfl e0
      omega
    | j + 2, hj => cases hj
  · exact hs
set_option maxHeartbeats 4000000 in
set_option maxRecDepth 100000 in
theorem zc_X6_withCorners (l : Launch) (D : va_G) (κ : Nat → ClassId) (t : Nat → Nat) (mk : Nat) (ad : Nat → Nat → Nat) (sz : Nat) (c : Nat) (h4 : 4 ≤ c) (h9 : c ≤ 9) : Met l yX6_withCorners wsX6_withCorners zr_X6_withCorners (va_Pc [.ref (t 0), .int (zi (c : Int))] (zWa D κ mk ad (zpl κ t mk ad) sz)) (va_Qq (fun r (ad' : Nat → Nat → Nat) => r = some (ad' c 0) ∧ (∀ n, ¬ zno mk n → ad' n = ad n) ∧ (zno mk c → (∀ k, k < 7 → sz ≤ ad' c k) ∧ va_D (fun q => sz ≤ q) (zpgc κ (ad' c) c))) (fun ad' u => zB D κ (va_A (zpl κ t mk ad) sz) (zpl κ t (zmk mk c) ad') u ∧ zAmb D κ (zmk mk c) ad' u.heap) (va_A (zpl κ t mk ad) sz)) 7 609 (va_A (zpl κ t mk ad) sz) := by
  refine Met.ofW (cc := cX6_withCorners) (maxL := 3) (ret := (some (.object "DiamondRows$Polygon"))) (by decide +kernel) rfl ?_
  intro p e s m args below meth cd s₁ B hml hv
  obtain ⟨rfl, hsz, hP, hK, hD0, hB, hBA⟩ := hv
  have hx := B.exec
  have hb := B.bytes
  have hr := B.returns
  have hts := atoms_spec (ws := wsX6_withCorners) B.pre
  have hown : s.vm.findClass RX6 = some m.cls := findClass_of_methodNamed B.named
  have hlocks := B.notSynchronized
  subst hsz
  have hD := hD0.self (sz := s.heap.size)
  have hA : ∀ q : Nat, s.heap.size ≤ q → va_A (zpl κ t mk ad) s.heap.size q := fun q h => Or.inr h
  have hS : va_S (va_A (zpl κ t mk ad) s.heap.size) s.heap s.heap [] := va_S.rf
  have hl := lv_entry ([.ref (t 0), .int (zi (c : Int))]) (n := 3) (Nat.le_of_ble_eq_true rfl)
  rw [lg_entry_eq]
  generalize (lg_sl ([.ref (t 0), .int (zi (c : Int))]) ++ List.replicate (3 - (lg_sl ([.ref (t 0), .int (zi (c : Int))])).length) Slot.unset).toArray = ls at hl ⊢
  have hl : lv_has ls 3 [(0, .ref (t 0)), (1, .int (zi (c : Int)))] := hl
  have hcz : ¬ zout (c : Int) := by unfold zout; omega
  have hin : ¬ (((c : Int) - 4) < 0 ∨ ((6 : Nat) : Int) ≤ ((c : Int) - 4)) := by omega
  have hcl : (zi ((c : Int) - 4)).toNatClampNeg = c - 4 := by rw [zi_clamp (n := 6) (by decide) hin]; omega
  have hvi : vp_in (zi ((c : Int) - 4)) 6 := zi_vin (by decide) hin
  refine lv_iload_n hx hb dX6_withCorners_0 rfl (lv_at hl 1 rfl) ?_
  refine zv_iconst hx hb dX6_withCorners_1 ?_
  refine zv_icmp_lt (tgt := 11) hx hb dX6_withCorners_2 (by decide) hcz (by decide) (fun q => absurd q (by omega)) (fun _ => ?_)
  refine lv_iload_n hx hb dX6_withCorners_5 rfl (lv_at hl 1 rfl) ?_
  refine zv_bipush hx hb dX6_withCorners_6 (by decide) ?_
  refine zv_icmp_le (tgt := 13) hx hb dX6_withCorners_8 (by decide) hcz (by decide) (fun _ => ?_) (fun q => absurd (show (c : Int) ≤ 9 by omega) q)
  refine lv_iload_n hx hb dX6_withCorners_13 rfl (lv_at hl 1 rfl) ?_
  refine zv_iconst hx hb dX6_withCorners_14 ?_
  refine zv_isub hx hb dX6_withCorners_15 ?_
  refine lv_istore_n (lv' := [(2, .int (zi ((c : Int) - 4))), (0, .ref (t 0)), (1, .int (zi (c : Int)))]) hx hb dX6_withCorners_16 rfl hl (by decide) rfl (fun ls hl => ?_)
  refine lv_aload_n hx hb dX6_withCorners_17 rfl (lv_at hl 1 rfl) ?_
  refine va_get (D := D) (ci := 6) (v := .ref (t 1)) (C := RX6) (T := TX6) (N := 1) hx hb hts zi_X6_withCorners_X6 hown hK hP 0 rfl rfl 0 (by decide) (hts (.fieldLink RX6 11 "DiamondRows$Polygons" "made" "[LDiamondRows$Polygon;") zl_X6_withCorners_11) (fun _ h9 => h9) rfl dX6_withCorners_18 ?_
  refine lv_iload_n hx hb dX6_withCorners_21 rfl (lv_at hl 0 rfl) ?_
  refine va_aldq hx hb hK hP 1 4 rfl rfl hvi dX6_withCorners_22 ?_
  rw [hcl]
  by_cases hm : zno mk c
  · have e0 : zmade mk ad (c - 4) = none := by
      unfold zmade
      rw [show c - 4 + 4 = c by omega, if_pos hm]
    rw [e0]
    refine lv_ifnonnullN hx hb dX6_withCorners_23 ?_
    refine lv_aload_n hx hb dX6_withCorners_26 rfl (lv_at hl 1 rfl) ?_
    refine va_get (D := D) (ci := 6) (v := .ref (t 1)) (C := RX6) (T := TX6) (N := 1) hx hb hts zi_X6_withCorners_X6 hown hK hP 0 rfl rfl 0 (by decide) (hts (.fieldLink RX6 11 "DiamondRows$Polygons" "made" "[LDiamondRows$Polygon;") zl_X6_withCorners_11) (fun _ h9 => h9) rfl dX6_withCorners_27 ?_
    refine lv_iload_n hx hb dX6_withCorners_30 rfl (lv_at hl 0 rfl) ?_
    refine va_new (ci := 5) (fs := [.int (zi 0), .null, .null, .null, .null, .null, .null, .int (zi 0), .int (zi 0)]) (C := RX5) (T := TX5) (N := 9) hx hb hts zi_X6_withCorners_X5 tyX5 tyX5_ok hown (hts (.classLink RX6 9 RX5) (List.mem_cons_of_mem _ (List.mem_append_left _ (List.mem_of_getElem? (i := 1) rfl)))) (hts (.instantiable RX5 9) (List.mem_cons_of_mem _ (List.mem_append_left _ (List.mem_of_getElem? (i := 2) rfl)))) (hts (.initialized RX5) (by decide +kernel)) hK hP hD hS hA rfl (by decide) (Nat.le_of_ble_eq_true rfl) (Nat.le_of_ble_eq_true rfl) dX6_withCorners_31 (fun q31 H hP hD hS => ?_)
    have hP : va_P D vwCl ([((t 0), .inr (6, [.ref (t 1)])), ((t 1), .inl (κ 4, 6, .inr (.inr (.inr (.inr (zmade mk ad)))))), (q31, .inr (5, [.int (zi 0), .null, .null, .null, .null, .null, .null, .int (zi 0), .int (zi 0)]))]) H := hP
    have hD : va_D (va_A (zpl κ t mk ad) s.heap.size) ([((t 0), .inr (6, [.ref (t 1)])), ((t 1), .inl (κ 4, 6, .inr (.inr (.inr (.inr (zmade mk ad)))))), (q31, .inr (5, [.int (zi 0), .null, .null, .null, .null, .null, .null, .int (zi 0), .int (zi 0)]))]) := hD
    refine lv_dup hx hb dX6_withCorners_34 rfl ?_
    refine lv_iload_n hx hb dX6_withCorners_35 rfl (lv_at hl 2 rfl) ?_
    refine zj_init (wr := [((t 0), .inr (6, [.ref (t 1)])), ((t 1), .inl (κ 4, 6, .inr (.inr (.inr (.inr (zmade mk ad))))))]) (va_runI (As := [.int (zi (c : Int))]) (rest := [.ref q31, .int (zi ((c : Int) - 4)), .ref (t 1)]) ⟨hx, hb, hml, hown, hts⟩ (zc_X5_init l D κ q31 H.size (c : Int) _ (ev_nl c h4 h9) _ (ev_fc c h4 h9) _ (ev_gc c h4 h9)) (cwI 1 hts gX6_withCorners_X5_init rfl rfl rfl (hts (.initialized RX5) (by decide +kernel)) (hts (.methodLink RX6 17 yX5_init) (List.mem_cons_of_mem _ (List.mem_append_left _ (List.mem_of_getElem? (i := 3) rfl)))) (hts (.instanceMethod yX5_init) (List.mem_cons_of_mem _ (List.mem_append_left _ (List.mem_of_getElem? (i := 4) rfl)))) rfl (by decide +kernel) ⟨Nat.le_of_ble_eq_true rfl, Nat.le_of_ble_eq_true rfl⟩) (zpreI hK (hP.sub [2] rfl) (hD.sub [2] (by decide) rfl)) rfl rfl hl.1 rfl (lv_room (Nat.le_of_ble_eq_true rfl)) dX6_withCorners_36 ⟨Nat.le_of_ble_eq_true rfl, Nat.le_of_ble_eq_true rfl⟩) hP hD hS hA [2] [0, 1] rfl rfl (by decide) (by decide) (fun u H2 locs2 hu hP2 hD2 hS2 => ?_)
    subst hu
    have hP : va_P D vwCl (((t 0), .inr (6, [.ref (t 1)])) :: ((t 1), .inl (κ 4, 6, .inr (.inr (.inr (.inr (zmade mk ad)))))) :: zpgc κ u c) H2 := hP2
    have hS := hS2
    have hD : va_D (va_A (zpl κ t mk ad) s.heap.size) (((t 0), .inr (6, [.ref (t 1)])) :: ((t 1), .inl (κ 4, 6, .inr (.inr (.inr (.inr (zmade mk ad)))))) :: zpgc κ u c) := hD2
    refine va_astq hx hb hK hP hD hS 1 4 2 5 (r := (RX5, TX5, 9)) rfl rfl rfl rfl hvi dX6_withCorners_39 (fun H locs hP hD hS => ?_)
    rw [hcl, zmade_new h4 h9] at hP hD
    have hP : va_P D vwCl (((t 0), .inr (6, [.ref (t 1)])) :: ((t 1), .inl (κ 4, 6, .inr (.inr (.inr (.inr (zmade (zmk mk c) (zput ad c u))))))) :: zpgc κ u c) H := hP
    have hD : va_D (va_A (zpl κ t mk ad) s.heap.size) (((t 0), .inr (6, [.ref (t 1)])) :: ((t 1), .inl (κ 4, 6, .inr (.inr (.inr (.inr (zmade (zmk mk c) (zput ad c u))))))) :: zpgc κ u c) := hD
    refine lv_aload_n hx hb dX6_withCorners_40 rfl (lv_at hl 1 rfl) ?_
    refine va_get (D := D) (ci := 6) (v := .ref (t 1)) (C := RX6) (T := TX6) (N := 1) hx hb hts zi_X6_withCorners_X6 hown hK hP 0 rfl rfl 0 (by decide) (hts (.fieldLink RX6 11 "DiamondRows$Polygons" "made" "[LDiamondRows$Polygon;") zl_X6_withCorners_11) (fun _ h9 => h9) rfl dX6_withCorners_41 ?_
    refine lv_iload_n hx hb dX6_withCorners_44 rfl (lv_at hl 0 rfl) ?_
    refine va_aldq hx hb hK hP 1 4 rfl rfl hvi dX6_withCorners_45 ?_
    have e1 : zmade (zmk mk c) (zput ad c u) (zi ((c : Int) - 4)).toNatClampNeg = some (zput ad c u c 0) := by
      rw [hcl]
      unfold zmade
      rw [show c - 4 + 4 = c by omega, if_neg (zmk_yes h4 h9)]
    rw [e1]
    refine W.widen (k := 7) (n := 609) (Nat.le_of_ble_eq_true rfl) (Nat.le_of_ble_eq_true rfl) ?_
    refine W.aret hx hb hr (Or.inl ⟨_, rfl⟩) (Or.inr ⟨_, rfl⟩) (fun T hT hW => ⟨⟨_, zput ad c u, rfl, ⟨rfl, fun n hn => zput_ne (fun e => hn (e ▸ hm)), fun _ => ⟨fun k hk => ?_, ?_⟩⟩, ⟨by rw [hT]; exact hP.sub [0, 1] rfl, va_K.moved hW.alike hK, hD.sub [0, 1] (by decide) rfl⟩, ?_⟩, hS.F hT⟩) hS.2.2 dX6_withCorners_46
    · rw [zput_self]
      have hk7 : ∃ q : Nat × va_E, (zpgc κ u c)[k]? = some q ∧ q.1 = u k := by
        match k, hk with
        | 0, _ => exact ⟨_, rfl, rfl⟩
        | 1, _ => exact ⟨_, rfl, rfl⟩
        | 2, _ => exact ⟨_, rfl, rfl⟩
        | 3, _ => exact ⟨_, rfl, rfl⟩
        | 4, _ => exact ⟨_, rfl, rfl⟩
        | 5, _ => exact ⟨_, rfl, rfl⟩
        | 6, _ => exact ⟨_, rfl, rfl⟩
      obtain ⟨q, hq, e⟩ := hk7
      rw [← e]
      exact zfresh (w0 := []) hD hq
    · rw [zput_self]
      exact (hD.sub (ws' := zpgc κ u c) [2, 3, 4, 5, 6, 7, 8] (by decide) rfl).weaken (fun k q hq _ => zfresh (w0 := []) hD hq)
    · rw [hT]
      intro n hn
      by_cases e : n = c
      · subst e
        rw [zput_self]
        exact hP.sub [2, 3, 4, 5, 6, 7, 8] rfl
      · rw [zput_ne e]
        exact (zamb hB hBA hS) n (fun z => hn ((zmk_ne e).mpr z))
  · have e0 : zmade mk ad (c - 4) = some (ad c 0) := by
      unfold zmade
      rw [show c - 4 + 4 = c by omega, if_neg hm]
    rw [e0]
    refine lv_ifnonnull (tgt := 40) hx hb dX6_withCorners_23 (by decide) ?_
    refine lv_aload_n hx hb dX6_withCorners_40 rfl (lv_at hl 1 rfl) ?_
    refine va_get (D := D) (ci := 6) (v := .ref (t 1)) (C := RX6) (T := TX6) (N := 1) hx hb hts zi_X6_withCorners_X6 hown hK hP 0 rfl rfl 0 (by decide) (hts (.fieldLink RX6 11 "DiamondRows$Polygons" "made" "[LDiamondRows$Polygon;") zl_X6_withCorners_11) (fun _ h9 => h9) rfl dX6_withCorners_41 ?_
    refine lv_iload_n hx hb dX6_withCorners_44 rfl (lv_at hl 0 rfl) ?_
    refine va_aldq hx hb hK hP 1 4 rfl rfl hvi dX6_withCorners_45 ?_
    rw [hcl, e0]
    refine W.widen (k := 7) (n := 609) (Nat.le_of_ble_eq_true rfl) (Nat.le_of_ble_eq_true rfl) ?_
    refine W.aret hx hb hr (Or.inl ⟨_, rfl⟩) (Or.inr ⟨_, rfl⟩) (fun T hT hW => ⟨⟨_, ad, rfl, ⟨rfl, fun n _ => rfl, fun z => absurd z hm⟩, ⟨by rw [hT, zmk_same hm]; exact hP, va_K.moved hW.alike hK, by rw [zmk_same hm]; exact hD⟩, by rw [hT, zmk_same hm]; exact hB⟩, hS.F hT⟩) hS.2.2 dX6_withCorners_46
/-- no such polygon: null -/
def zQnull : Array Value → State → Outcome → State → Prop := fun _ st o t => o = .returned (some .null) ∧ t.heap = st.heap
set_option maxHeartbeats 4000000 in
set_option maxRecDepth 100000 in
theorem zc_X6_withCorners_no (l : Launch) (D : va_G) (κ : Nat → ClassId) (t : Nat → Nat) (mk : Nat) (ad : Nat → Nat → Nat) (i1 : Int) (hz : ¬ zout i1) (hn : i1 < 4 ∨ 9 < i1) : Met l yX6_withCorners wsX6_withCorners zr_X6_withCorners (va_Pc [.ref (t 0), .int (zi i1)] (zRa D κ mk ad (zpl κ t mk ad))) zQnull 7 609 (fun _ => False) := by
  refine Met.ofW (cc := cX6_withCorners) (maxL := 3) (ret := (some (.object "DiamondRows$Polygon"))) (by decide +kernel) rfl ?_
  intro p e s m args below meth cd s₁ B hml hv
  obtain ⟨rfl, hP, hK, hB⟩ := hv
  have hx := B.exec
  have hb := B.bytes
  have hr := B.returns
  have hts := atoms_spec (ws := wsX6_withCorners) B.pre
  have hown : s.vm.findClass RX6 = some m.cls := findClass_of_methodNamed B.named
  have hlocks := B.notSynchronized
  have hl := lv_entry ([.ref (t 0), .int (zi i1)]) (n := 3) (Nat.le_of_ble_eq_true rfl)
  rw [lg_entry_eq]
  generalize (lg_sl ([.ref (t 0), .int (zi i1)]) ++ List.replicate (3 - (lg_sl ([.ref (t 0), .int (zi i1)])).length) Slot.unset).toArray = ls at hl ⊢
  have hl : lv_has ls 3 [(0, .ref (t 0)), (1, .int (zi i1))] := hl
  refine lv_iload_n hx hb dX6_withCorners_0 rfl (lv_at hl 1 rfl) ?_
  refine zv_iconst hx hb dX6_withCorners_1 ?_
  refine zv_icmp_lt (tgt := 11) hx hb dX6_withCorners_2 (by decide) hz (by decide) (fun q => ?_) (fun q => ?_)
  · refine lv_null hx hb dX6_withCorners_11 ?_
    refine W.widen (k := 7) (n := 609) (Nat.le_of_ble_eq_true rfl) (Nat.le_of_ble_eq_true rfl) ?_
    exact W.aret hx hb hr (Or.inl ⟨_, rfl⟩) (Or.inl rfl) (fun T hT hW => ⟨rfl, hT⟩) (fun _ h => by cases h) dX6_withCorners_12
  · refine lv_iload_n hx hb dX6_withCorners_5 rfl (lv_at hl 1 rfl) ?_
    refine zv_bipush hx hb dX6_withCorners_6 (by decide) ?_
    refine zv_icmp_le (tgt := 13) hx hb dX6_withCorners_8 (by decide) hz (by decide) (fun q2 => ?_) (fun q2 => ?_)
    · exact absurd q2 (by omega)
    · refine lv_null hx hb dX6_withCorners_11 ?_
      refine W.widen (k := 7) (n := 609) (Nat.le_of_ble_eq_true rfl) (Nat.le_of_ble_eq_true rfl) ?_
      exact W.aret hx hb hr (Or.inl ⟨_, rfl⟩) (Or.inl rfl) (fun T hT hW => ⟨rfl, hT⟩) (fun _ h => by cases h) dX6_withCorners_12
