/-! flipped: what the reference comes to -/
noncomputable def flC (m : Nat) (c : Int) (p q k : Nat) : Bool := !(decide (k = p)) && (!(decide (k = q)) && (nearB m c k p && nearB m c k q))
noncomputable def flN (m : Nat) (c : Int) (p q : Nat) (k : Nat) : Int × Int := Nat.rec (-1, -1) (fun k r => match flC m c p q k with
  | true => match decide (r.1 = -1) with
    | true => ((k : Int), (k : Int))
    | false => (r.1, (k : Int))
  | false => r) k
theorem flN_0 (m : Nat) (c : Int) (p q : Nat) : flN m c p q 0 = (-1, -1) := rfl
theorem flN_f {m : Nat} {c : Int} {p q k : Nat} (h : flC m c p q k = false) : flN m c p q (k + 1) = flN m c p q k := by
  show (match flC m c p q k with | true => _ | false => _) = _
  rw [h]
  rfl
theorem flN_1 {m : Nat} {c : Int} {p q k : Nat} (h : flC m c p q k = true) (h1 : (flN m c p q k).1 = -1) : flN m c p q (k + 1) = ((k : Int), (k : Int)) := by
  show (match flC m c p q k with | true => (match decide ((flN m c p q k).1 = -1) with | true => _ | false => _) | false => _) = _
  rw [h, decide_eq_true h1]
theorem flN_2 {m : Nat} {c : Int} {p q k : Nat} (h : flC m c p q k = true) (h1 : ¬ (flN m c p q k).1 = -1) : flN m c p q (k + 1) = ((flN m c p q k).1, (k : Int)) := by
  show (match flC m c p q k with | true => (match decide ((flN m c p q k).1 = -1) with | true => _ | false => _) | false => _) = _
  rw [h, decide_eq_false h1]
  rfl
theorem flN_rng {m : Nat} {c : Int} {p q : Nat} : ∀ k : Nat, -1 ≤ (flN m c p q k).1 ∧ (flN m c p q k).1 < (k : Int) ∧ (flN m c p q k).2 < (k : Int) := by
  intro k
  induction k with
  | zero => rw [flN_0]; decide
  | succ k ih =>
    cases h : flC m c p q k with
    | false => rw [flN_f h]; omega
    | true =>
      by_cases h1 : (flN m c p q k).1 = -1
      · rw [flN_1 h h1]; exact ⟨by omega, by omega, by omega⟩
      · rw [flN_2 h h1]; exact ⟨by omega, by omega, by omega⟩
/-- the loop -/
theorem fl_run (m : Nat) (h4 : 4 ≤ m) (h9 : m ≤ 9) {nf : Nat} (hn : LN m nf m 0) (c : Int) {p q : Nat} (hp : p < m) (hq : q < m) (f1 f2 : Int) (hA : 0 ≤ (flN m c p q m).1) (hB : 0 ≤ (flN m c p q m).2) (hAB : ¬ (flN m c p q m).1 = (flN m c p q m).2) :
    Go (fun o => o = (zorL (zandL c (zxorL (zshlL 1 (zget nf (10 * p + q))) (-1))) (zshlL 1 (zget (pg3 m) (9 * (flN m c p q m).1.toNat + (flN m c p q m).2.toNat))), (flN m c p q m).1, (flN m c p q m).2)) (zf_X11_flipped f1 f2 nf (m : Int) c (p : Int) (q : Int)) := by
  unfold zf_X11_flipped
  refine jok (fun (s : zS_X11_flipped) => match s with | (lab, i1', i2', i4', i5', i6', one, two) => (lab = 0 ∧ i1' = (m : Int) ∧ i2' = c ∧ i4' = (p : Int) ∧ i5' = (q : Int)) ∨ (lab = 8 ∧ i1' = (m : Int) ∧ i2' = c ∧ i4' = (p : Int) ∧ i5' = (q : Int) ∧ ∃ k : Nat, i6' = (k : Int) ∧ k ≤ m ∧ one = (flN m c p q k).1 ∧ (¬ (flN m c p q k).1 = -1 → two = (flN m c p q k).2))) (fun (s : zS_X11_flipped) => match s with | (lab, i1', i2', i4', i5', i6', one, two) => if lab = 0 then 1000 else ((m : Int) - i6').toNat) _ ?_ _ ?_ ?_
  · intro s hI
    obtain ⟨lab, i1', i2', i4', i5', i6', one, two⟩ := s
    replace hI : (lab = 0 ∧ i1' = (m : Int) ∧ i2' = c ∧ i4' = (p : Int) ∧ i5' = (q : Int)) ∨ (lab = 8 ∧ i1' = (m : Int) ∧ i2' = c ∧ i4' = (p : Int) ∧ i5' = (q : Int) ∧ ∃ k : Nat, i6' = (k : Int) ∧ k ≤ m ∧ one = (flN m c p q k).1 ∧ (¬ (flN m c p q k).1 = -1 → two = (flN m c p q k).2)) := hI
    rcases hI with ⟨rfl, rfl, rfl, rfl, rfl⟩ | ⟨rfl, rfl, rfl, rfl, rfl, k, rfl, hk, rfl, h2⟩
    · show Go _ (zg_X11_flipped_0 nf (m : Int) i2' (p : Int) (q : Int) i6' one two)
      unfold zg_X11_flipped_0
      exact Go_i ⟨Or.inr ⟨rfl, rfl, rfl, rfl, rfl, 0, rfl, by omega, rfl, fun h => absurd rfl h⟩, by show ((m : Int) - 0).toNat < 1000; omega⟩
    · have hr := flN_rng (m := m) (c := i2') (p := p) (q := q) k
      show Go _ (zg_X11_flipped_8 nf (m : Int) i2' (p : Int) (q : Int) (k : Int) (flN m i2' p q k).1 two)
      unfold zg_X11_flipped_8
      refine Go_chk (by unfold zout; omega) ?_
      refine Go_chk (by unfold zout; omega) ?_
      refine Go_ite (fun c1 => ?_) (fun c1 => ?_)
      · have e : k = m := by omega
        subst e
        have h2 := h2 (by omega)
        subst h2
        refine Go_chk (by omega) ?_
        refine Go_chk (by omega) ?_
        refine Go_i ?_
        show (_, _, _) = (_, _, _)
        have e1 : Int.toNat ((10 : Int) * (p : Int) + (q : Int)) = 10 * p + q := by omega
        have e2 : Int.toNat ((10 : Int) * (flN k i2' p q k).1 + (flN k i2' p q k).2) = 10 * (flN k i2' p q k).1.toNat + (flN k i2' p q k).2.toNat := by omega
        have e3 : zget nf (10 * (flN k i2' p q k).1.toNat + (flN k i2' p q k).2.toNat) = zget (pg3 k) (9 * (flN k i2' p q k).1.toNat + (flN k i2' p q k).2.toNat) := LN_get hn (by omega) (by omega) (by omega)
        rw [e1, e2, e3]
      · have hkm : k < m := by omega
        have st : ∀ (a b : Int), a = (flN m i2' p q (k + 1)).1 → (¬ (flN m i2' p q (k + 1)).1 = -1 → b = (flN m i2' p q (k + 1)).2) → Go (GoE (fun (s' : zS_X11_flipped) => (match s' with | (lab, i1', i2'', i4', i5', i6', one, two) => (lab = 0 ∧ i1' = (m : Int) ∧ i2'' = i2' ∧ i4' = (p : Int) ∧ i5' = (q : Int)) ∨ (lab = 8 ∧ i1' = (m : Int) ∧ i2'' = i2' ∧ i4' = (p : Int) ∧ i5' = (q : Int) ∧ ∃ k : Nat, i6' = (k : Int) ∧ k ≤ m ∧ one = (flN m i2' p q k).1 ∧ (¬ (flN m i2' p q k).1 = -1 → two = (flN m i2' p q k).2))) ∧ (match s' with | (lab, i1', i2', i4', i5', i6', one, two) => if lab = 0 then 1000 else ((m : Int) - i6').toNat) < ((m : Int) - (k : Int)).toNat) (fun (o : zO_X11_flipped) => o = (zorL (zandL i2' (zxorL (zshlL 1 (zget nf (10 * p + q))) (-1))) (zshlL 1 (zget (pg3 m) (9 * (flN m i2' p q m).1.toNat + (flN m i2' p q m).2.toNat))), (flN m i2' p q m).1, (flN m i2' p q m).2))) (some (.inr ((8 : Nat), (m : Int), i2', (p : Int), (q : Int), ((k : Int) + (1 : Int)), a, b))) := fun a b ha hb => Go_i ⟨Or.inr ⟨rfl, rfl, rfl, rfl, rfl, k + 1, by omega, by omega, ha, hb⟩, by show ((m : Int) - ((k : Int) + 1)).toNat < _; omega⟩
        refine Go_chk (by unfold zout; omega) ?_
        have nf_ : flC m i2' p q k = false → (flN m i2' p q k).1 = (flN m i2' p q (k + 1)).1 ∧ (¬ (flN m i2' p q (k + 1)).1 = -1 → two = (flN m i2' p q (k + 1)).2) := fun h => by rw [flN_f h]; exact ⟨rfl, h2⟩
        refine Go_ite (fun c2 => ?_) (fun c2 => ?_)
        · have h : flC m i2' p q k = false := by unfold flC; rw [decide_eq_true (show k = p by omega)]; rfl
          exact st _ _ (nf_ h).1 (nf_ h).2
        · refine Go_chk (by unfold zout; omega) ?_
          refine Go_ite (fun c3 => ?_) (fun c3 => ?_)
          · have h : flC m i2' p q k = false := by unfold flC; rw [decide_eq_true (show k = q by omega)]; cases (!decide (k = p)) <;> rfl
            exact st _ _ (nf_ h).1 (nf_ h).2
          · have d1 : decide (k = p) = false := decide_eq_false (by omega)
            have d2 : decide (k = q) = false := decide_eq_false (by omega)
            have n1 := near_eq h4 h9 hn i2' (i := (k : Int)) (j := (p : Int)) (by omega) (by omega) (by omega) (by omega)
            have n2 := near_eq h4 h9 hn i2' (i := (k : Int)) (j := (q : Int)) (by omega) (by omega) (by omega) (by omega)
            rw [n1]
            simp only [Int.toNat_natCast, Option.bind_some]
            refine Go_ite (fun c4 => ?_) (fun c4 => ?_)
            · have h : flC m i2' p q k = false := by unfold flC; rw [d1, d2, c4]; rfl
              exact st _ _ (nf_ h).1 (nf_ h).2
            · rw [n2]
              simp only [Int.toNat_natCast, Option.bind_some]
              refine Go_ite (fun c5 => ?_) (fun c5 => ?_)
              · have h : flC m i2' p q k = false := by unfold flC; rw [d1, d2, bnf c4, c5]; rfl
                exact st _ _ (nf_ h).1 (nf_ h).2
              · have h : flC m i2' p q k = true := by unfold flC; rw [d1, d2, bnf c4, bnf c5]; rfl
                refine Go_chk (by unfold zout; omega) ?_
                refine Go_ite (fun c6 => ?_) (fun c6 => ?_)
                · have e := flN_1 h c6
                  exact st _ _ (by rw [e]) (fun _ => by rw [e])
                · have e := flN_2 h c6
                  exact st _ _ (by rw [e]) (fun _ => by rw [e])
  · exact Or.inl ⟨rfl, rfl, rfl, rfl, rfl⟩
  · show 1000 < jfuel
    unfold jfuel
    omega
