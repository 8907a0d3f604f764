/-! what the tables give at the law's entry -/
theorem z_arr {args : Array Value} {s : State} {ty : FieldType} (h : (Cond.arrayClass ty).before args s = true) : ∃ cA : ClassId, ArrOfT s cA ty ∧ s.vm.findClass ("[" ++ ty.toString) = some cA := by
  obtain ⟨cA, kA, comp, h1, h2, h3⟩ := Cond.arrayClass_spec (args := args) (first := s) (o := none) (s := s) (idx := []) h
  exact ⟨cA, fun n z => ⟨fun k h => (by cases h), kA, h2, comp, h3⟩, h1⟩
theorem z_arrP {s : State} (h : va_AO "DiamondRows$Polygon" s) : ∃ cA : ClassId, ArrOfT s cA (.object "DiamondRows$Polygon") ∧ va_RA s cA (.object "DiamondRows$Polygon") := by
  obtain ⟨comp, c, k, h1, h2, h3, h4, h5⟩ := Cond.arrayOver_spec h
  exact ⟨c, fun n z => ⟨fun k h => (by cases h), k, h3, comp, h4⟩, k, comp, h3, h4, h1, h5⟩
theorem z_nest {args : Array Value} {s : State} (hts : ∀ w ∈ lw_tbl, w.before args s = true) : zNest s :=
  ⟨va_AO.of (hts (.arrayOver (.object "DiamondRows$Polygon")) (by decide +kernel)), va_Nw.of rfl (hts (.methodLinkNest RX10 9 yX8_init RX10) (by decide +kernel)), va_Nw.of rfl (hts (.methodLinkNest RX10 18 yX6_init RX10) (by decide +kernel)), va_Nw.of rfl (hts (.methodLinkNest RX10 25 yX1_init RX10) (by decide +kernel)), va_Nw.of rfl (hts (.methodLinkNest RX10 32 yX9_init RX10) (by decide +kernel)), va_Nw.of rfl (hts (.methodLinkNest RX10 39 yX0_init RX10) (by decide +kernel)), va_Nw.of rfl (hts (.methodLinkNest RX10 46 yX4_init RX10) (by decide +kernel)), va_Nw.of rfl (hts (.methodLinkNest RX10 60 yX7_init RX10) (by decide +kernel)), va_Nw.of rfl (hts (.methodLinkNest RX10 67 yX3_init RX10) (by decide +kernel))⟩
theorem z_str {args : Array Value} {s : State} (hts : ∀ w ∈ lw_tbl, w.before args s = true) (hgv : (Jvm.Cond.and given_1 narrow_1).before args s = true) : ∃ str : Nat, vk_R RX1 47 "corners" str s := by
  have hs := flat_of_before _ hgv
  have h1 := hs (.exactly (.string "DiamondRows$CutText" 47) "java/lang/String") (by decide +kernel)
  obtain ⟨a, c, cell, k, q1, -⟩ := Cond.exactly_spec (args := args) (first := s) (o := none) (s := s) (idx := []) h1
  exact ⟨a, vk_R.of (A := args) (hts (.stringRef RX1 47 "corners") (by decide +kernel)) q1⟩
theorem z_known {args : Array Value} {s : State} (hts : ∀ w ∈ lw_tbl, w.before args s = true) : ∃ (D : va_G) (κ : Nat → ClassId), va_K D vwCl (zTY κ) s := by
  obtain ⟨c0, i0, k0⟩ := u_known (C := RX0) (T := TX0) (N := 2) (n := 2) hts inX0 (hts (.instantiable RX0 2) (by decide +kernel))
  obtain ⟨c1, i1, k1⟩ := u_known (C := RX1) (T := TX1) (N := 6) (n := 6) hts inX1 (hts (.instantiable RX1 6) (by decide +kernel))
  obtain ⟨c2, i2, k2⟩ := u_known (C := RX2) (T := TX2) (N := 2) (n := 2) hts inX2 (hts (.instantiable RX2 2) (by decide +kernel))
  obtain ⟨c3, i3, k3⟩ := u_known (C := RX3) (T := TX3) (N := 3) (n := 3) hts inX3 (hts (.instantiable RX3 3) (by decide +kernel))
  obtain ⟨c4, i4, k4⟩ := u_known (C := RX4) (T := TX4) (N := 5) (n := 5) hts inX4 (hts (.instantiable RX4 5) (by decide +kernel))
  obtain ⟨c5, i5, k5⟩ := u_known (C := RX5) (T := TX5) (N := 9) (n := 9) hts inX5 (hts (.instantiable RX5 9) (by decide +kernel))
  obtain ⟨c6, i6, k6⟩ := u_known (C := RX6) (T := TX6) (N := 1) (n := 1) hts inX6 (hts (.instantiable RX6 1) (by decide +kernel))
  obtain ⟨c7, i7, k7⟩ := u_known (C := RX7) (T := TX7) (N := 12) (n := 12) hts inX7 (hts (.instantiable RX7 12) (by decide +kernel))
  obtain ⟨c8, i8, k8⟩ := u_known (C := RX8) (T := TX8) (N := 6) (n := 6) hts inX8 (hts (.instantiable RX8 6) (by decide +kernel))
  obtain ⟨c9, i9, k9⟩ := u_known (C := RX9) (T := TX9) (N := 7) (n := 7) hts inX9 (hts (.instantiable RX9 7) (by decide +kernel))
  obtain ⟨c10, i10, k10⟩ := u_known (C := RX10) (T := TX10) (N := 13) (n := 13) hts inX10 (hts (.instantiable RX10 13) (by decide +kernel))
  obtain ⟨c11, i11, k11⟩ := u_known (C := RX11) (T := TX11) (N := 54) (n := 54) hts inX11 (hts (.instantiable RX11 54) (by decide +kernel))
  obtain ⟨a0, ha0, hb0⟩ := z_arr (hts (.arrayClass .byte) (by decide +kernel))
  obtain ⟨a1, ha1, hb1⟩ := z_arr (hts (.arrayClass .int) (by decide +kernel))
  obtain ⟨a2, ha2, hb2⟩ := z_arr (hts (.arrayClass .long) (by decide +kernel))
  obtain ⟨a3, ha3, hb3⟩ := z_arr (hts (.arrayClass .boolean) (by decide +kernel))
  obtain ⟨a4, ha4, hb4⟩ := z_arrP (z_nest hts).1
  refine ⟨(fun k => [c0, c1, c2, c3, c4, c5, c6, c7, c8, c9, c10, c11].getD k c0, fun k => [i0, i1, i2, i3, i4, i5, i6, i7, i8, i9, i10, i11].getD k i0), fun k => [a0, a1, a2, a3, a4].getD k a0, ?_, ?_⟩
  · intro k q hq
    match k, hq with
    | 0, hq => cases hq; exact k0
    | 1, hq => cases hq; exact k1
    | 2, hq => cases hq; exact k2
    | 3, hq => cases hq; exact k3
    | 4, hq => cases hq; exact k4
    | 5, hq => cases hq; exact k5
    | 6, hq => cases hq; exact k6
    | 7, hq => cases hq; exact k7
    | 8, hq => cases hq; exact k8
    | 9, hq => cases hq; exact k9
    | 10, hq => cases hq; exact k10
    | 11, hq => cases hq; exact k11
    | k + 12, hq => cases hq
  · intro k q hq
    match k, hq with
    | 0, hq => cases hq; exact ⟨ha0, hb0⟩
    | 1, hq => cases hq; exact ⟨ha1, hb1⟩
    | 2, hq => cases hq; exact ⟨ha2, hb2⟩
    | 3, hq => cases hq; exact ⟨ha3, hb3⟩
    | 4, hq => cases hq; exact ⟨ha4, hb4⟩
    | k + 5, hq => cases hq
