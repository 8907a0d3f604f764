/-! placeOf of a cut is its number -/
theorem pg6_adj : ∀ m : Nat, 4 ≤ m → m ≤ 9 → allF (fun k => decide (((k : Int) + 1 < pg8 m) → zget (pg6 m) k < zget (pg6 m) (k + 1))) 0 429 = true := pg_cases (by decide +kernel) (by decide +kernel) (by decide +kernel) (by decide +kernel) (by decide +kernel) (by decide +kernel)
theorem pg6_lt {m : Nat} (h4 : 4 ≤ m) (h9 : m ≤ 9) (a : Nat) : ∀ d : Nat, ((a + d + 1 : Nat) : Int) < pg8 m → zget (pg6 m) a < zget (pg6 m) (a + d + 1) := by
  have r := rpg8 h4 h9
  intro d
  induction d with
  | zero => intro h; exact of_decide_eq_true (allF_at (pg6_adj m h4 h9) (m := a) (by omega)) (by omega)
  | succ d ih =>
    intro h
    have x := ih (by omega)
    have y := of_decide_eq_true (allF_at (pg6_adj m h4 h9) (m := a + d + 1) (by omega)) (by omega)
    rw [show a + (d + 1) + 1 = a + d + 1 + 1 by omega]
    omega
theorem pg6_mono {m : Nat} (h4 : 4 ≤ m) (h9 : m ≤ 9) {a b : Nat} (hab : a < b) (hb : (b : Int) < pg8 m) : zget (pg6 m) a < zget (pg6 m) b := by
  have := pg6_lt h4 h9 a (b - a - 1) (by omega)
  rwa [show a + (b - a - 1) + 1 = b by omega] at this
theorem pg6_inj {m : Nat} (h4 : 4 ≤ m) (h9 : m ≤ 9) {a b : Nat} (ha : (a : Int) < pg8 m) (hb : (b : Int) < pg8 m) (h : zget (pg6 m) a = zget (pg6 m) b) : a = b := by
  rcases Nat.lt_trichotomy a b with x | x | x
  · have := pg6_mono h4 h9 x hb; omega
  · exact x
  · have := pg6_mono h4 h9 x ha; omega
theorem pl_ok {m : Nat} (h4 : 4 ≤ m) (h9 : m ≤ 9) {lm : Int} {li : Nat} (hI : LI m lm li) {k : Nat} (hk : (k : Int) < pg8 m) : zf_X11_placeOf lm li (zget (pg6 m) k) = some (k : Int) := by
  have r := rpg8 h4 h9
  obtain ⟨rfl, hI⟩ := hI
  have rc := rget (pg6 m) k
  have g : Go (fun o => o = (k : Int)) (zf_X11_placeOf (pg8 m) li (zget (pg6 m) k)) := by
    unfold zf_X11_placeOf
    refine jok (fun (s : zS_X11_placeOf) => match s with | (lab, i1', i3', i4') => (lab = 0 ∧ i1' = zget (pg6 m) k) ∨ (lab = 10 ∧ i1' = zget (pg6 m) k ∧ 0 ≤ i3' ∧ i3' ≤ (k : Int) ∧ (k : Int) ≤ i4' ∧ i4' < pg8 m)) (fun (s : zS_X11_placeOf) => match s with | (lab, i1', i3', i4') => if lab = 0 then 1000 else if lab = 10 then (i4' - i3').toNat else 0) (fun (o : zO_X11_placeOf) => o = (k : Int)) ?_ _ ?_ ?_
    · intro s hI'
      obtain ⟨lab, i1', i3', i4'⟩ := s
      replace hI' : (lab = 0 ∧ i1' = zget (pg6 m) k) ∨ (lab = 10 ∧ i1' = zget (pg6 m) k ∧ 0 ≤ i3' ∧ i3' ≤ (k : Int) ∧ (k : Int) ≤ i4' ∧ i4' < pg8 m) := hI'
      rcases hI' with ⟨rfl, rfl⟩ | ⟨rfl, rfl, v2, v3, v4, v5⟩
      · show Go _ (zg_X11_placeOf_0 (pg8 m) li (zget (pg6 m) k) i3' i4')
        unfold zg_X11_placeOf_0
        exact Go_i ⟨Or.inr ⟨rfl, rfl, by omega, by omega, by omega, by omega⟩, by show (pg8 m - 1 - 0).toNat < 1000; omega⟩
      · show Go _ (zg_X11_placeOf_10 (pg8 m) li (zget (pg6 m) k) i3' i4')
        unfold zg_X11_placeOf_10
        refine Go_chk (by unfold zout; omega) ?_
        refine Go_chk (by unfold zout; omega) ?_
        refine Go_ite (fun c1 => ?_) (fun c1 => ?_)
        · exact Go_i (show i3' = (k : Int) by omega)
        · refine Go_chk (by unfold zout; omega) ?_
          have a2 := rtdiv2 (a := (i3' + i4')) (by omega)
          have e : ∃ j : Nat, Int.tdiv (i3' + i4') (2 : Int) = (j : Int) ∧ i3' ≤ (j : Int) ∧ (j : Int) < i4' := ⟨(Int.tdiv (i3' + i4') (2 : Int)).toNat, by omega, by omega, by omega⟩
          obtain ⟨j, ej, j1, j2⟩ := e
          rw [ej]
          refine Go_chk (by omega) ?_
          refine Go_chk (by unfold zoutL; omega) ?_
          rw [Int.toNat_natCast, hI j (by omega)]
          refine Go_ite (fun c4 => ?_) (fun c4 => ?_)
          · have : ¬ j < k := fun x => by have := pg6_mono h4 h9 x hk; omega
            exact Go_i ⟨Or.inr ⟨rfl, rfl, by omega, by omega, by omega, by omega⟩, by show ((j : Int) - i3').toNat < (i4' - i3').toNat; omega⟩
          · have : ¬ k ≤ j := fun x => by
              rcases Nat.lt_or_eq_of_le x with y | y
              · have := pg6_mono h4 h9 y (by omega); omega
              · subst y; omega
            exact Go_i ⟨Or.inr ⟨rfl, rfl, by omega, by omega, by omega, by omega⟩, by show (i4' - ((j : Int) + 1)).toNat < (i4' - i3').toNat; omega⟩
    · exact Or.inl ⟨rfl, rfl⟩
    · show 1000 < jfuel
      unfold jfuel
      omega
  obtain ⟨o, ho, rfl⟩ := g
  exact ho
