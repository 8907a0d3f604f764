theorem z_tail {p : Program} {l : Launch} {e : Env} {s : State} {m : MethodId} {below : List Frame} {meth : Method} {c : Code} {D : va_G} {κ : Nat → ClassId} {A : Nat → Prop} {b L : Nat} {xs : Nat → Int32} {cells slots : Nat} (hx : p.tables.exec = Jvm.exec) (hb : c.code = cL_law) (hr : meth.sig.returnType = ret) (hlocks : meth.locks = false) (hS0 : ∀ q, A q → s.heap.size ≤ q) (hc : cells ≤ 600000) (hs : slots ≤ 7302250) (H : Heap) (locs : List Loc) (ls : Array Slot) (hS : va_S A s.heap H locs) : W p l e room_1 s m #[Value.ref b] below meth c H locs cells slots (lw_Z below #[Value.ref b] s) (F0 m 1312 ls []) := by
  refine lv_iconst (v := 1) hx hb dL_law_1312 (by decide) ?_
  refine va_forget (fun q hq => hS0 _ (hS.2.2 q hq)) ?_
  refine W.widen (k := 600000) (n := 7302250) hc hs ?_
  exact lw_ret hx hb hr hlocks dL_law_1313
theorem z_and (a : Int) : 0 ≤ zand a 63 ∧ zand a 63 ≤ 63 := rand63 a
/-- the text constant and the statics as they stand at the entry -/
theorem z_stv {args : Array Value} {s : State} {A : Nat → Prop} (hts : ∀ w ∈ lw_tbl, w.before args s = true) (hgv : (Jvm.Cond.and given_1 narrow_1).before args s = true) (hA : ∀ a : Nat, a < s.heap.size → ¬ A a) : ∃ str sv : Nat, vk_R RX1 47 "corners" str s ∧ zStv str sv A s s.heap := by
  have hs := flat_of_before _ hgv
  have hex := hs (.exactly (.string "DiamondRows$CutText" 47) "java/lang/String") (by decide +kernel)
  have hco := hs (.eq (.field (.string "DiamondRows$CutText" 47) "java/lang/String" "coder" "B") (.int 0)) (by decide +kernel)
  have har := hs (.arrayOf (.field (.string "DiamondRows$CutText" 47) "java/lang/String" "value" "[B") .byte) (by decide +kernel)
  have hle := hs (.eq (.length (.field (.string "DiamondRows$CutText" 47) "java/lang/String" "value" "[B")) (.int 7)) (by decide +kernel)
  have hel : ∀ j : Nat, j < 7 → (Cond.eq (.elem (.field (.string "DiamondRows$CutText" 47) "java/lang/String" "value" "[B") (.int (Int32.ofNat j))) (.int (zSB.getD j 0))).before args s = true := by
    intro j hj
    have h : j = 0 ∨ j = 1 ∨ j = 2 ∨ j = 3 ∨ j = 4 ∨ j = 5 ∨ j = 6 := by omega
    rcases h with rfl | rfl | rfl | rfl | rfl | rfl | rfl
    · exact hs (.eq (.elem (.field (.string "DiamondRows$CutText" 47) "java/lang/String" "value" "[B") (.int 0)) (.int 99)) (by decide +kernel)
    · exact hs (.eq (.elem (.field (.string "DiamondRows$CutText" 47) "java/lang/String" "value" "[B") (.int 1)) (.int 111)) (by decide +kernel)
    · exact hs (.eq (.elem (.field (.string "DiamondRows$CutText" 47) "java/lang/String" "value" "[B") (.int 2)) (.int 114)) (by decide +kernel)
    · exact hs (.eq (.elem (.field (.string "DiamondRows$CutText" 47) "java/lang/String" "value" "[B") (.int 3)) (.int 110)) (by decide +kernel)
    · exact hs (.eq (.elem (.field (.string "DiamondRows$CutText" 47) "java/lang/String" "value" "[B") (.int 4)) (.int 101)) (by decide +kernel)
    · exact hs (.eq (.elem (.field (.string "DiamondRows$CutText" 47) "java/lang/String" "value" "[B") (.int 5)) (.int 114)) (by decide +kernel)
    · exact hs (.eq (.elem (.field (.string "DiamondRows$CutText" 47) "java/lang/String" "value" "[B") (.int 6)) (.int 115)) (by decide +kernel)
  obtain ⟨a, c, cA, kA, q1, q2, q3, q4, q5, q6, -⟩ := Cond.exactly_spec (args := args) (first := s) (o := none) (s := s) (idx := []) hex
  obtain ⟨t, ht, hT⟩ := va_Tof (f := fun j => .int (zSB.getD j 0)) (A := A) (N := 7) (by decide) har (va_eqt hle) (fun j hj => va_eqt (hel j hj)) hA
  have hcs := hs (.eq (.static "java/lang/String" "COMPACT_STRINGS" "Z") (.int 1)) (by decide +kernel)
  have hsi := hs (.isRef (.static "jdk/internal/util/Preconditions" "SIOOBE_FORMATTER" "Ljava/util/function/BiFunction;")) (by decide +kernel)
  exact ⟨a, t, vk_R.of (A := args) (hts (.stringRef RX1 47 "corners") (by decide +kernel)) q1, ⟨cA, q3, q5, by rw [q6]; exact q2, hA a (Array.getElem?_eq_some_iff.mp q3).1⟩, vk_OFof q1 (va_eqt hco) hA, vk_OFof q1 ht hA, hT, va_Zof (hts (.laysStatic "java/lang/String" "COMPACT_STRINGS" "Z") (by decide +kernel)) (hts (.initialized "java/lang/String") (by decide +kernel)) (va_eqt hcs) hA, va_Zqof (hts (.laysStatic "jdk/internal/util/Preconditions" "SIOOBE_FORMATTER" "Ljava/util/function/BiFunction;") (by decide +kernel)) (hts (.initialized "jdk/internal/util/Preconditions") (by decide +kernel)) hsi hA⟩
set_option maxHeartbeats 4000000 in
set_option maxRecDepth 100000 in
theorem z_loop {p : Program} {l : Launch} {e : Env} {s : State} {m : MethodId} {below : List Frame} {meth : Method} {c : Code} {D : va_G} {κ : Nat → ClassId} {A : Nat → Prop} {b L : Nat} {xs : Nat → Int32} (hx : p.tables.exec = Jvm.exec) (hb : c.code = cL_law) (hr : meth.sig.returnType = ret) (hlocks : meth.locks = false) (hml : c.maxLocals = 4) (hown : s.vm.findClass RL = some m.cls) (hts : ∀ w ∈ wsL_law, w.before #[Value.ref b] s = true) (hK : va_K D vwCl (zTY κ) s) (hA : ∀ q : Nat, s.heap.size ≤ q → A q) (hS0 : ∀ q, A q → s.heap.size ≤ q) (hX : va_X b L xs s s.heap) (hbl : b < s.heap.size) (hbA : ¬ A b) (hL : L ≤ 3072) (str sv : Nat) (hV : vk_R RX1 47 "corners" str s) (hst : zStv str sv A s s.heap) (x y : Nat → Nat) : ∀ (n i : Nat), L < i + 6 * n → i ≤ 6144 → ∀ (cells slots mk : Nat) (ad : Nat → Nat → Nat) (S : zSX) (T : zSY) (H : Heap) (locs : List Loc) (ls : Array Slot), cells + 7 * n ≤ 600000 → slots + 609 * n ≤ 7302250 → zIXs mk S → zIYs T → zRel S T → va_P D vwCl (zLXs κ x mk ad S) H → va_P D vwCl (zLYs κ y T) H → va_D A (zLXs κ x mk ad S ++ zLYs κ y T) → va_S A s.heap H locs → zAmb D κ mk ad H → zSep mk ad (zLXs κ x mk ad S) H.size → zSep mk ad (zLYs κ y T) H.size → lv_has ls 4 [(0, .ref b), (1, .ref (x 0)), (2, .ref (y 0)), (3, .int (zi (i : Int)))] → W p l e room_1 s m #[Value.ref b] below meth c H locs cells slots (lw_Z below #[Value.ref b] s) (F0 m 18 ls []) := by
  intro n
  induction n with
  | zero =>
    intro i hn hi0 cells slots mk ad S T H locs ls hc hs hIX hIY hR hPx hPy hD hS hB hZx hZy hl
    refine lv_iload_n hx hb dL_law_18 rfl (lv_at hl 3 rfl) ?_
    refine lv_aload_n hx hb dL_law_19 rfl (lv_at hl 0 rfl) ?_
    refine zv_slen hx hb hX hbl hbA hS dL_law_20 ?_
    refine zv_bipush hx hb dL_law_21 (by decide) ?_
    refine zv_isub hx hb dL_law_23 ?_
    refine zv_icmp_gt (tgt := 1312) hx hb dL_law_24 (by decide) (by unfold zout; omega) (by unfold zout; omega) (fun _ => ?_) (fun q => ?_)
    · exact z_tail (L := L) (xs := xs) (D := D) (κ := κ) hx hb hr hlocks hS0 (by omega) (by omega) H locs ls hS
    · exact absurd q (by omega)
  | succ n ih =>
    intro i hn hi0 cells slots mk ad S T H locs ls hc hs hIX hIY hR hPx hPy hD hS hB hZx hZy hl
    refine lv_iload_n hx hb dL_law_18 rfl (lv_at hl 3 rfl) ?_
    refine lv_aload_n hx hb dL_law_19 rfl (lv_at hl 0 rfl) ?_
    refine zv_slen hx hb hX hbl hbA hS dL_law_20 ?_
    refine zv_bipush hx hb dL_law_21 (by decide) ?_
    refine zv_isub hx hb dL_law_23 ?_
    refine zv_icmp_gt (tgt := 1312) hx hb dL_law_24 (by decide) (by unfold zout; omega) (by unfold zout; omega) (fun _ => ?_) (fun q => ?_)
    · exact z_tail (L := L) (xs := xs) (D := D) (κ := κ) hx hb hr hlocks hS0 (by omega) (by omega) H locs ls hS
    · have hi : i + 6 ≤ L := by omega
      have hroom : cells + 7 ≤ room_1.cells ∧ slots + 609 ≤ room_1.slots := ⟨by show cells + 7 ≤ 600000; omega, by show slots + 609 ≤ 7302250; omega⟩
      have kk : zKK p l e s m #[Value.ref b] below meth c (lw_Z below #[Value.ref b] s) D κ A s.heap x y ls (cells + 7) (slots + 609) 1306 := by
        intro mk ad S T H locs hIX hIY hR hPx hPy hD hS hB hZx hZy
        refine lv_iinc (v := zi (((i + 6 : Nat) : Nat) : Int)) (lv' := [(3, .int (zi ((i + 6 : Nat) : Int))), (0, .ref b), (1, .ref (x 0)), (2, .ref (y 0))]) hx hb dL_law_1306 hl (k := 3) rfl (by rw [show ((i + 6 : Nat) : Int) = (i : Int) + 6 by omega]; exact zi_add (i : Int) 6) (by decide) rfl (fun ls hl => ?_)
        refine lv_goto (tgt := 18) hx hb dL_law_1309 (by decide) ?_
        exact ih (i + 6) (by omega) (by omega) (cells + 7) (slots + 609) mk ad S T H locs ls (by omega) (by omega) hIX hIY hR hPx hPy hD hS hB hZx hZy (lv_sub hl [1, 2, 3, 0] rfl)
      refine lv_aload_n hx hb dL_law_27 rfl (lv_at hl 0 rfl) ?_
      refine lv_iload_n hx hb dL_law_28 rfl (lv_at hl 3 rfl) ?_
      refine zv_sld hx hb hX hbl hbA hS i (by rfl) (by omega) (by omega) dL_law_29 ?_
      refine zv_bipush hx hb dL_law_30 (by decide) ?_
      refine zv_iand hx hb dL_law_32 ?_
      obtain ⟨v1, v2⟩ := z_and (zX xs i)
      generalize zand (zX xs i) 63 = v at v1 v2 ⊢
      by_cases v3 : 37 < v
      · refine lv_tableOut (tgt := 1306) hx hb dL_law_33 (Or.inr (by rw [zi_int (by unfold zout; omega)]; exact v3)) (by decide) ?_
        refine W.widen (k := cells + 7) (n := slots + 609) (Nat.le_add_right _ _) (Nat.le_add_right _ _) ?_
        exact kk mk ad S T H locs hIX hIY hR hPx hPy hD hS hB hZx hZy
      have hv9 : v = 0 ∨ v = 1 ∨ v = 2 ∨ v = 3 ∨ v = 4 ∨ v = 5 ∨ v = 6 ∨ v = 7 ∨ v = 8 ∨ v = 9 ∨ v = 10 ∨ v = 11 ∨ v = 12 ∨ v = 13 ∨ v = 14 ∨ v = 15 ∨ v = 16 ∨ v = 17 ∨ v = 18 ∨ v = 19 ∨ v = 20 ∨ v = 21 ∨ v = 22 ∨ v = 23 ∨ v = 24 ∨ v = 25 ∨ v = 26 ∨ v = 27 ∨ v = 28 ∨ v = 29 ∨ v = 30 ∨ v = 31 ∨ v = 32 ∨ v = 33 ∨ v = 34 ∨ v = 35 ∨ v = 36 ∨ v = 37 := by omega
      rcases hv9 with rfl | rfl | rfl | rfl | rfl | rfl | rfl | rfl | rfl | rfl | rfl | rfl | rfl | rfl | rfl | rfl | rfl | rfl | rfl | rfl | rfl | rfl | rfl | rfl | rfl | rfl | rfl | rfl | rfl | rfl | rfl | rfl | rfl | rfl | rfl | rfl | rfl | rfl
      · refine lv_tableIn (off := 167) (tgt := 200) hx hb dL_law_33 (by decide) (by decide) (by first | rfl | decide) (by decide) ?_
        exact zp_0 x y mk ad S T hx hb hml hown hts hK hA hX hbl hbA hL hroom i hi H locs ls hIX hIY hR hPx hPy hD hS hB hZx hZy hl kk
      · refine lv_tableIn (off := 230) (tgt := 263) hx hb dL_law_33 (by decide) (by decide) (by first | rfl | decide) (by decide) ?_
        exact zp_1 x y mk ad S T hx hb hml hown hts hK hA hX hbl hbA hL hroom i hi H locs ls hIX hIY hR hPx hPy hD hS hB hZx hZy hl kk
      · refine lv_tableIn (off := 253) (tgt := 286) hx hb dL_law_33 (by decide) (by decide) (by first | rfl | decide) (by decide) ?_
        exact zp_2 x y mk ad S T hx hb hml hown hts hK hA hX hbl hbA hL hroom i hi H locs ls hIX hIY hR hPx hPy hD hS hB hZx hZy hl str sv hV hst kk
      · refine lv_tableIn (off := 266) (tgt := 299) hx hb dL_law_33 (by decide) (by decide) (by first | rfl | decide) (by decide) ?_
        exact zp_3 x y mk ad S T hx hb hml hown hts hK hA hX hbl hbA hL hroom i hi H locs ls hIX hIY hR hPx hPy hD hS hB hZx hZy hl kk
      · refine lv_tableIn (off := 289) (tgt := 322) hx hb dL_law_33 (by decide) (by decide) (by first | rfl | decide) (by decide) ?_
        exact zp_4 x y mk ad S T hx hb hml hown hts hK hA hX hbl hbA hL hroom i hi H locs ls hIX hIY hR hPx hPy hD hS hB hZx hZy hl kk
      · refine lv_tableIn (off := 322) (tgt := 355) hx hb dL_law_33 (by decide) (by decide) (by first | rfl | decide) (by decide) ?_
        exact zp_5 x y mk ad S T hx hb hml hown hts hK hA hX hbl hbA hL hroom i hi H locs ls hIX hIY hR hPx hPy hD hS hB hZx hZy hl kk
      · refine lv_tableIn (off := 345) (tgt := 378) hx hb dL_law_33 (by decide) (by decide) (by first | rfl | decide) (by decide) ?_
        exact zp_6 x y mk ad S T hx hb hml hown hts hK hA hX hbl hbA hL hroom i hi H locs ls hIX hIY hR hPx hPy hD hS hB hZx hZy hl kk
      · refine lv_tableIn (off := 378) (tgt := 411) hx hb dL_law_33 (by decide) (by decide) (by first | rfl | decide) (by decide) ?_
        exact zp_7 x y mk ad S T hx hb hml hown hts hK hA hX hbl hbA hL hroom i hi H locs ls hIX hIY hR hPx hPy hD hS hB hZx hZy hl kk
      · refine lv_tableIn (off := 411) (tgt := 444) hx hb dL_law_33 (by decide) (by decide) (by first | rfl | decide) (by decide) ?_
        exact zp_8 x y mk ad S T hx hb hml hown hts hK hA hX hbl hbA hL hroom i hi H locs ls hIX hIY hR hPx hPy hD hS hB hZx hZy hl kk
      · refine lv_tableIn (off := 434) (tgt := 467) hx hb dL_law_33 (by decide) (by decide) (by first | rfl | decide) (by decide) ?_
        exact zp_9 x y mk ad S T hx hb hml hown hts hK hA hX hbl hbA hL hroom i hi H locs ls hIX hIY hR hPx hPy hD hS hB hZx hZy hl kk
      · refine lv_tableIn (off := 487) (tgt := 520) hx hb dL_law_33 (by decide) (by decide) (by first | rfl | decide) (by decide) ?_
        exact zp_10 x y mk ad S T hx hb hml hown hts hK hA hX hbl hbA hL hroom i hi H locs ls hIX hIY hR hPx hPy hD hS hB hZx hZy hl kk
      · refine lv_tableIn (off := 520) (tgt := 553) hx hb dL_law_33 (by decide) (by decide) (by first | rfl | decide) (by decide) ?_
        exact zp_11 x y mk ad S T hx hb hml hown hts hK hA hX hbl hbA hL hroom i hi H locs ls hIX hIY hR hPx hPy hD hS hB hZx hZy hl kk
      · refine lv_tableIn (off := 543) (tgt := 576) hx hb dL_law_33 (by decide) (by decide) (by first | rfl | decide) (by decide) ?_
        exact zp_12 x y mk ad S T hx hb hml hown hts hK hA hX hbl hbA hL hroom i hi H locs ls hIX hIY hR hPx hPy hD hS hB hZx hZy hl kk
      · refine lv_tableIn (off := 566) (tgt := 599) hx hb dL_law_33 (by decide) (by decide) (by first | rfl | decide) (by decide) ?_
        exact zp_13 x y mk ad S T hx hb hml hown hts hK hA hX hbl hbA hL hroom i hi H locs ls hIX hIY hR hPx hPy hD hS hB hZx hZy hl kk
      · refine lv_tableIn (off := 589) (tgt := 622) hx hb dL_law_33 (by decide) (by decide) (by first | rfl | decide) (by decide) ?_
        exact zp_14 x y mk ad S T hx hb hml hown hts hK hA hX hbl hbA hL hroom i hi H locs ls hIX hIY hR hPx hPy hD hS hB hZx hZy hl kk
      · refine lv_tableIn (off := 628) (tgt := 661) hx hb dL_law_33 (by decide) (by decide) (by first | rfl | decide) (by decide) ?_
        exact zp_15 x y mk ad S T hx hb hml hown hts hK hA hX hbl hbA hL hroom i hi H locs ls hIX hIY hR hPx hPy hD hS hB hZx hZy hl kk
      · refine lv_tableIn (off := 677) (tgt := 710) hx hb dL_law_33 (by decide) (by decide) (by first | rfl | decide) (by decide) ?_
        exact zp_16 x y mk ad S T hx hb hml hown hts hK hA hX hbl hbA hL hroom i hi H locs ls hIX hIY hR hPx hPy hD hS hB hZx hZy hl kk
      · refine lv_tableIn (off := 690) (tgt := 723) hx hb dL_law_33 (by decide) (by decide) (by first | rfl | decide) (by decide) ?_
        exact zp_17 x y mk ad S T hx hb hml hown hts hK hA hX hbl hbA hL hroom i hi H locs ls hIX hIY hR hPx hPy hD hS hB hZx hZy hl kk
      · refine lv_tableIn (off := 703) (tgt := 736) hx hb dL_law_33 (by decide) (by decide) (by first | rfl | decide) (by decide) ?_
        exact zp_18 x y mk ad S T hx hb hml hown hts hK hA hX hbl hbA hL hroom i hi H locs ls hIX hIY hR hPx hPy hD hS hB hZx hZy hl kk
      · refine lv_tableIn (off := 716) (tgt := 749) hx hb dL_law_33 (by decide) (by decide) (by first | rfl | decide) (by decide) ?_
        exact zp_19 x y mk ad S T hx hb hml hown hts hK hA hX hbl hbA hL hroom i hi H locs ls hIX hIY hR hPx hPy hD hS hB hZx hZy hl kk
      · refine lv_tableIn (off := 759) (tgt := 792) hx hb dL_law_33 (by decide) (by decide) (by first | rfl | decide) (by decide) ?_
        exact zp_20 x y mk ad S T hx hb hml hown hts hK hA hX hbl hbA hL hroom i hi H locs ls hIX hIY hR hPx hPy hD hS hB hZx hZy hl kk
      · refine lv_tableIn (off := 802) (tgt := 835) hx hb dL_law_33 (by decide) (by decide) (by first | rfl | decide) (by decide) ?_
        exact zp_21 x y mk ad S T hx hb hml hown hts hK hA hX hbl hbA hL hroom i hi H locs ls hIX hIY hR hPx hPy hD hS hB hZx hZy hl kk
      · refine lv_tableIn (off := 835) (tgt := 868) hx hb dL_law_33 (by decide) (by decide) (by first | rfl | decide) (by decide) ?_
        exact zp_22 x y mk ad S T hx hb hml hown hts hK hA hX hbl hbA hL hroom i hi H locs ls hIX hIY hR hPx hPy hD hS hB hZx hZy hl kk
      · refine lv_tableIn (off := 878) (tgt := 911) hx hb dL_law_33 (by decide) (by decide) (by first | rfl | decide) (by decide) ?_
        exact zp_23 x y mk ad S T hx hb hml hown hts hK hA hX hbl hbA hL hroom i hi H locs ls hIX hIY hR hPx hPy hD hS hB hZx hZy hl kk
      · refine lv_tableIn (off := 891) (tgt := 924) hx hb dL_law_33 (by decide) (by decide) (by first | rfl | decide) (by decide) ?_
        exact zp_24 x y mk ad S T hx hb hml hown hts hK hA hX hbl hbA hL hroom i hi H locs ls hIX hIY hR hPx hPy hD hS hB hZx hZy hl kk
      · refine lv_tableIn (off := 904) (tgt := 937) hx hb dL_law_33 (by decide) (by decide) (by first | rfl | decide) (by decide) ?_
        exact zp_25 x y mk ad S T hx hb hml hown hts hK hA hX hbl hbA hL hroom i hi H locs ls hIX hIY hR hPx hPy hD hS hB hZx hZy hl kk
      · refine lv_tableIn (off := 927) (tgt := 960) hx hb dL_law_33 (by decide) (by decide) (by first | rfl | decide) (by decide) ?_
        exact zp_26 x y mk ad S T hx hb hml hown hts hK hA hX hbl hbA hL hroom i hi H locs ls hIX hIY hR hPx hPy hD hS hB hZx hZy hl kk
      · refine lv_tableIn (off := 960) (tgt := 993) hx hb dL_law_33 (by decide) (by decide) (by first | rfl | decide) (by decide) ?_
        exact zp_27 x y mk ad S T hx hb hml hown hts hK hA hX hbl hbA hL hroom i hi H locs ls hIX hIY hR hPx hPy hD hS hB hZx hZy hl kk
      · refine lv_tableIn (off := 983) (tgt := 1016) hx hb dL_law_33 (by decide) (by decide) (by first | rfl | decide) (by decide) ?_
        exact zp_28 x y mk ad S T hx hb hml hown hts hK hA hX hbl hbA hL hroom i hi H locs ls hIX hIY hR hPx hPy hD hS hB hZx hZy hl kk
      · refine lv_tableIn (off := 996) (tgt := 1029) hx hb dL_law_33 (by decide) (by decide) (by first | rfl | decide) (by decide) ?_
        exact zp_29 x y mk ad S T hx hb hml hown hts hK hA hX hbl hbA hL hroom i hi H locs ls hIX hIY hR hPx hPy hD hS hB hZx hZy hl kk
      · refine lv_tableIn (off := 1019) (tgt := 1052) hx hb dL_law_33 (by decide) (by decide) (by first | rfl | decide) (by decide) ?_
        exact zp_30 x y mk ad S T hx hb hml hown hts hK hA hX hbl hbA hL hroom i hi H locs ls hIX hIY hR hPx hPy hD hS hB hZx hZy hl kk
      · refine lv_tableIn (off := 1042) (tgt := 1075) hx hb dL_law_33 (by decide) (by decide) (by first | rfl | decide) (by decide) ?_
        exact zp_31 x y mk ad S T hx hb hml hown hts hK hA hX hbl hbA hL hroom i hi H locs ls hIX hIY hR hPx hPy hD hS hB hZx hZy hl kk
      · refine lv_tableIn (off := 1055) (tgt := 1088) hx hb dL_law_33 (by decide) (by decide) (by first | rfl | decide) (by decide) ?_
        exact zp_32 x y mk ad S T hx hb hml hown hts hK hA hX hbl hbA hL hroom i hi H locs ls hIX hIY hR hPx hPy hD hS hB hZx hZy hl kk
      · refine lv_tableIn (off := 1108) (tgt := 1141) hx hb dL_law_33 (by decide) (by decide) (by first | rfl | decide) (by decide) ?_
        exact zp_33 x y mk ad S T hx hb hml hown hts hK hA hX hbl hbA hL hroom i hi H locs ls hIX hIY hR hPx hPy hD hS hB hZx hZy hl kk
      · refine lv_tableIn (off := 1151) (tgt := 1184) hx hb dL_law_33 (by decide) (by decide) (by first | rfl | decide) (by decide) ?_
        exact zp_34 x y mk ad S T hx hb hml hown hts hK hA hX hbl hbA hL hroom i hi H locs ls hIX hIY hR hPx hPy hD hS hB hZx hZy hl kk
      · refine lv_tableIn (off := 1184) (tgt := 1217) hx hb dL_law_33 (by decide) (by decide) (by first | rfl | decide) (by decide) ?_
        exact zp_35 x y mk ad S T hx hb hml hown hts hK hA hX hbl hbA hL hroom i hi H locs ls hIX hIY hR hPx hPy hD hS hB hZx hZy hl kk
      · refine lv_tableIn (off := 1227) (tgt := 1260) hx hb dL_law_33 (by decide) (by decide) (by first | rfl | decide) (by decide) ?_
        exact zp_36 x y mk ad S T hx hb hml hown hts hK hA hX hbl hbA hL hroom i hi H locs ls hIX hIY hR hPx hPy hD hS hB hZx hZy hl kk
      · refine lv_tableIn (off := 1250) (tgt := 1283) hx hb dL_law_33 (by decide) (by decide) (by first | rfl | decide) (by decide) ?_
        exact zp_37 x y mk ad S T hx hb hml hown hts hK hA hX hbl hbA hL hroom i hi H locs ls hIX hIY hR hPx hPy hD hS hB hZx hZy hl kk
