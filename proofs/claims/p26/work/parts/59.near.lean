/-! the nearest cut, both sides: the first of those that differ least -/
theorem zabs_0 (x : Int) : 0 ≤ zabs x := by unfold zabs; split <;> omega
theorem difN_0 (m : Nat) (b : Int) (q : Nat) : ∀ k : Nat, 0 ≤ difN m b q k := by
  intro k
  induction k with
  | zero => exact Int.le_refl 0
  | succ k ih => rw [difN_s]; have := zabs_0 (zget q k - rowN m b k m); omega
noncomputable def dfc (m q k : Nat) : Int := difN m (zget (pg6 m) k) q m
def FM (m q : Nat) (o : Int) : Prop := 0 ≤ o ∧ o < pg8 m ∧ (∀ j : Nat, (j : Int) < pg8 m → dfc m q o.toNat ≤ dfc m q j) ∧ (∀ j : Nat, (j : Int) < o → dfc m q o.toNat < dfc m q j)
theorem FM_u {m q : Nat} {a b : Int} (ha : FM m q a) (hb : FM m q b) : a = b := by
  obtain ⟨a0, a1, a2, a3⟩ := ha
  obtain ⟨b0, b1, b2, b3⟩ := hb
  by_cases c : a < b
  · have x := b3 a.toNat (by omega)
    have y := a2 b.toNat (by omega)
    omega
  · by_cases d : b < a
    · have x := a3 b.toNat (by omega)
      have y := b2 a.toNat (by omega)
      omega
    · omega
theorem FM_c {m q t : Nat} {a : Int} (h : FM m q a) (hqt : ∀ j : Nat, j < m → zget q j = zget t j) : FM m t a := by
  have e : ∀ k, dfc m q k = dfc m t k := fun k => difN_c m hqt
  obtain ⟨a0, a1, a2, a3⟩ := h
  refine ⟨a0, a1, fun j hj => ?_, fun j hj => ?_⟩
  · rw [← e, ← e]; exact a2 j hj
  · rw [← e, ← e]; exact a3 j hj
def nrI (m q : Nat) (best least k : Int) : Prop := 0 ≤ best ∧ best < k ∧ 1 ≤ k ∧ k ≤ pg8 m ∧ least = dfc m q best.toNat ∧ (∀ j : Nat, (j : Int) < k → least ≤ dfc m q j) ∧ (∀ j : Nat, (j : Int) < best → least < dfc m q j)
theorem nrI_end {m q : Nat} {best least k : Int} (h : nrI m q best least k) (hk : pg8 m ≤ k) : FM m q best := by
  obtain ⟨h0, h1, h2, h3, rfl, h5, h6⟩ := h
  exact ⟨h0, by omega, fun j hj => h5 j (by omega), h6⟩
theorem nrI_zero {m q : Nat} {best least k : Int} (h : nrI m q best least k) (hk : least ≤ 0) : FM m q best := by
  obtain ⟨h0, h1, h2, h3, rfl, h5, h6⟩ := h
  refine ⟨h0, by omega, fun j hj => ?_, h6⟩
  have := difN_0 m (zget (pg6 m) j) q m
  unfold dfc
  unfold dfc at hk
  omega
theorem nrI_keep {m q : Nat} {best least k : Int} (h : nrI m q best least k) (hk : k < pg8 m) (hd : least ≤ dfc m q k.toNat) : nrI m q best least (k + 1) := by
  obtain ⟨h0, h1, h2, h3, h4, h5, h6⟩ := h
  refine ⟨h0, by omega, by omega, by omega, h4, fun j hj => ?_, h6⟩
  by_cases e : (j : Int) = k
  · rw [show j = k.toNat by omega]; exact hd
  · exact h5 j (by omega)
theorem nrI_new {m q : Nat} {best least k : Int} (h : nrI m q best least k) (hk : k < pg8 m) (hd : dfc m q k.toNat < least) : nrI m q k (dfc m q k.toNat) (k + 1) := by
  obtain ⟨h0, h1, h2, h3, h4, h5, h6⟩ := h
  refine ⟨by omega, by omega, by omega, by omega, rfl, fun j hj => ?_, fun j hj => ?_⟩
  · by_cases e : (j : Int) = k
    · rw [show j = k.toNat by omega]; exact Int.le_refl _
    · have := h5 j (by omega); omega
  · have := h5 j hj; omega
theorem nrI_0 {m q : Nat} (h4 : 4 ≤ m) (h9 : m ≤ 9) : nrI m q 0 (dfc m q 0) 1 := by
  have r8 := rpg8 h4 h9
  refine ⟨Int.le_refl 0, by decide, by decide, by omega, rfl, fun j hj => ?_, fun j hj => absurd hj (by omega)⟩
  rw [show j = 0 by omega]
  exact Int.le_refl _
theorem cutAt_e {m : Nat} (h4 : 4 ≤ m) (h9 : m ≤ 9) {k : Int} (k0 : 0 ≤ k) (k1 : k < pg8 m) : zf_X5_cutAt m k = some (zget (pg6 m) k.toNat) := by
  have r8 := rpg8 h4 h9
  unfold zf_X5_cutAt zf_X5_hasCut
  rw [if_neg (by unfold zout; omega), if_neg (by omega), if_neg (by unfold zout; omega), if_neg (by omega)]
  simp only [Option.bind_some]
  rw [if_neg (by decide), if_neg (by omega)]
theorem pg6_cut {m k : Nat} (hk : (k : Int) < pg8 m) : isCut m (zget (pg6 m) k) := ⟨k, hk, rfl⟩
theorem e_nearX {m : Nat} (h4 : 4 ≤ m) (h9 : m ≤ 9) {q : Nat} (hq : ∀ k : Nat, k < 10 → 0 ≤ zget q k ∧ zget q k ≤ 999) : Go (fun o => FM m q o) (zf_X5_nearestTo m q) := by
  have r8 := rpg8 h4 h9
  have dr : ∀ k : Nat, (k : Int) < pg8 m → zf_X5_differenceFrom m q (zget (pg6 m) k) = some (dfc m q k) ∧ 0 ≤ dfc m q k ∧ dfc m q k ≤ 20000 := by
    intro k hk
    have e := e_dif h4 h9 (pg6_cut hk) hq
    obtain ⟨o, ho, h1, h2⟩ := ok_X5_differenceFrom m q (zget (pg6 m) k) h4 h9 hq
    rw [e] at ho
    cases ho
    exact ⟨e, h1, h2⟩
  refine jok (fun (s : zS_X5_nearestTo) => match s with | (lab, best, least, k) => lab = 0 ∨ (lab = 16 ∧ nrI m q best least k)) (fun (s : zS_X5_nearestTo) => match s with | (lab, best, least, k) => if lab = 0 then 1000 else (pg8 m - k).toNat) _ ?_ _ ?_ ?_
  · intro s hI
    obtain ⟨lab, best, least, k⟩ := s
    rcases hI with rfl | ⟨rfl, hI⟩
    · show Go _ (zg_X5_nearestTo_0 m q best least k)
      unfold zg_X5_nearestTo_0
      rw [cutAt_e h4 h9 (Int.le_refl 0) (by omega)]
      simp only [Option.bind_some]
      rw [show Int.toNat 0 = 0 from rfl, (dr 0 (by omega)).1]
      simp only [Option.bind_some]
      refine Go_i ⟨Or.inr ⟨rfl, nrI_0 h4 h9⟩, ?_⟩
      show (if (16 : Nat) = 0 then 1000 else (pg8 m - 1).toNat) < (if (0 : Nat) = 0 then 1000 else (pg8 m - k).toNat)
      rw [if_neg (by decide), if_pos rfl]
      omega
    · show Go _ (zg_X5_nearestTo_16 m q best least k)
      unfold zg_X5_nearestTo_16
      have hI' := hI
      obtain ⟨h0, h1, h2, h3, h4', h5, h6⟩ := hI'
      have dk := dr best.toNat (by omega)
      refine Go_chk (by unfold zout; omega) ?_
      refine Go_chk (by unfold zout; omega) ?_
      refine Go_ite (fun c => ?_) (fun c => ?_)
      · exact Go_i (nrI_end hI c)
      refine Go_chk (by rw [h4']; unfold zout; omega) ?_
      refine Go_ite (fun c1 => ?_) (fun c1 => ?_)
      · exact Go_i (nrI_zero hI c1)
      refine Go_chk (by omega) ?_
      have d := dr k.toNat (by omega)
      rw [d.1]
      simp only [Option.bind_some]
      refine Go_chk (by unfold zout; omega) ?_
      refine Go_ite (fun c2 => ?_) (fun c2 => ?_)
      · refine Go_i ⟨Or.inr ⟨rfl, nrI_keep hI (by omega) c2⟩, ?_⟩
        show (if (16 : Nat) = 0 then 1000 else (pg8 m - (k + 1)).toNat) < (if (16 : Nat) = 0 then 1000 else (pg8 m - k).toNat)
        rw [if_neg (by decide), if_neg (by decide)]
        omega
      · refine Go_i ⟨Or.inr ⟨rfl, nrI_new (best := best) (least := least) (k := k) hI (by omega) (by omega)⟩, ?_⟩
        show (if (16 : Nat) = 0 then 1000 else (pg8 m - (k + 1)).toNat) < (if (16 : Nat) = 0 then 1000 else (pg8 m - k).toNat)
        rw [if_neg (by decide), if_neg (by decide)]
        omega
  · exact Or.inl rfl
  · show (if (0 : Nat) = 0 then 1000 else (pg8 m - 0).toNat) < jfuel
    rw [if_pos rfl]
    unfold jfuel
    decide
theorem e_nearY {m : Nat} (h4 : 4 ≤ m) (h9 : m ≤ 9) {ln lf lm lc : Int} {nf ls gr li q : Nat} (hT : TL lf ln nf ls gr) (hK : LK lc lm li) (hq : ∀ k : Nat, k < 10 → 0 ≤ zget q k ∧ zget q k ≤ 999) : Go (fun (o : zO_X11_nearest) => FM m q o.1) (zf_X11_nearest (m : Int) ln lf lm lc nf ls gr li q) := by
  have r8 := rpg8 h4 h9
  have dr : ∀ (nf : Nat), LN m nf m 0 → ∀ k : Nat, (k : Int) < pg8 m → zf_X11_apart (m : Int) nf q (zget (pg6 m) k) = some (dfc m q k) ∧ 0 ≤ dfc m q k ∧ dfc m q k ≤ 20000 := by
    intro nf hn k hk
    have e := e_apart (b := zget (pg6 m) k) h4 h9 hn hq
    obtain ⟨o, ho, h1, h2⟩ := ok_X11_apart (m : Int) nf q (zget (pg6 m) k) (by omega) (by omega) hq
    rw [e] at ho
    cases ho
    exact ⟨e, h1, h2⟩
  refine jok (fun (s : zS_X11_nearest) => match s with | (lab, best, least, k, ln, lf, lm, lc, nf, ls, gr, li) => (lab = 0 ∧ TL lf ln nf ls gr ∧ LK lc lm li) ∨ (lab = 23 ∧ nrI m q best least k ∧ LN m nf m 0 ∧ LI m lm li)) (fun (s : zS_X11_nearest) => match s with | (lab, best, least, k, ln, lf, lm, lc, nf, ls, gr, li) => if lab = 0 then 1000 else (pg8 m - k).toNat) _ ?_ _ ?_ ?_
  · intro s hI
    obtain ⟨lab, best, least, k, ln, lf, lm, lc, nf, ls, gr, li⟩ := s
    rcases hI with ⟨rfl, hT, hK⟩ | ⟨rfl, hI, hN, hL⟩
    · show Go _ (zg_X11_nearest_0 (m : Int) q best least k ln lf lm lc nf ls gr li)
      unfold zg_X11_nearest_0
      refine Go_bindP (oy_listFor ln lf lm lc nf ls gr li (m : Int) hT hK (by omega) (by omega)) (fun o1 z => ?_)
      obtain ⟨z0, z1, z2, z3, z4, z5, z6, z7, z8, z9⟩ := z
      have hN : LN m o1.2.2.2.2.1 m 0 := by have := z1.2.2.2.1; rw [Int.toNat_natCast] at this; exact this
      have hL : LI m o1.2.2.1 o1.2.2.2.2.2.2.2 := by have := z6.2.2; rw [Int.toNat_natCast] at this; exact this
      have d0 := dr _ hN 0 (by omega)
      rw [show Int.toNat (0 : Int) = 0 from rfl, hL.2 0 (by omega), d0.1]
      simp only [Option.bind_some]
      refine Go_i ⟨Or.inr ⟨rfl, nrI_0 h4 h9, hN, hL⟩, ?_⟩
      show (if (23 : Nat) = 0 then 1000 else (pg8 m - 1).toNat) < (if (0 : Nat) = 0 then 1000 else (pg8 m - k).toNat)
      rw [if_neg (by decide), if_pos rfl]
      omega
    · show Go _ (zg_X11_nearest_23 (m : Int) q best least k ln lf lm lc nf ls gr li)
      unfold zg_X11_nearest_23
      have hI' := hI
      obtain ⟨h0, h1, h2, h3, h4', h5, h6⟩ := hI'
      have dk := dr nf hN best.toNat (by omega)
      have hlm := hL.1
      refine Go_chk (by unfold zout; omega) ?_
      refine Go_chk (by unfold zout; omega) ?_
      refine Go_ite (fun c => ?_) (fun c => ?_)
      · exact Go_i (nrI_end hI (by omega))
      refine Go_chk (by omega) ?_
      have d := dr nf hN k.toNat (by omega)
      rw [hL.2 k.toNat (by omega), d.1]
      simp only [Option.bind_some]
      refine Go_chk (by unfold zout; omega) ?_
      refine Go_chk (by rw [h4']; unfold zout; omega) ?_
      refine Go_ite (fun c2 => ?_) (fun c2 => ?_)
      · refine Go_i ⟨Or.inr ⟨rfl, nrI_new (best := best) (least := least) (k := k) hI (by omega) c2, hN, hL⟩, ?_⟩
        show (if (23 : Nat) = 0 then 1000 else (pg8 m - (k + 1)).toNat) < (if (23 : Nat) = 0 then 1000 else (pg8 m - k).toNat)
        rw [if_neg (by decide), if_neg (by decide)]
        omega
      · refine Go_i ⟨Or.inr ⟨rfl, nrI_keep (best := best) (least := least) (k := k) hI (by omega) (by omega), hN, hL⟩, ?_⟩
        show (if (23 : Nat) = 0 then 1000 else (pg8 m - (k + 1)).toNat) < (if (23 : Nat) = 0 then 1000 else (pg8 m - k).toNat)
        rw [if_neg (by decide), if_neg (by decide)]
        omega
  · exact Or.inl ⟨rfl, hT, hK⟩
  · show (if (0 : Nat) = 0 then 1000 else (pg8 m - 0).toNat) < jfuel
    rw [if_pos rfl]
    unfold jfuel
    decide
