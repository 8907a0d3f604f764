set_option maxRecDepth 20000 in
set_option maxHeartbeats 4000000 in
theorem ef_run {m : Nat} (h4 : 4 ≤ m) (h9 : m ≤ 9) {ln lf ln0 lf0 : Int} {nf ls gr tA tB tC nf0 ls0 gr0 tA0 tB0 tC0 : Nat} (hN : LN m nf m 0) (hN0 : LN m nf0 m 0) (hT : ∀ t : Nat, (t : Int) < (m : Int) - 2 → zget tA t = zget tA0 t ∧ zget tB t = zget tB0 t ∧ zget tC t = zget tC0 t) (hV : ∀ t : Nat, (t : Int) < (m : Int) - 2 → (0 ≤ zget tA0 t ∧ zget tA0 t < (m : Int)) ∧ (0 ≤ zget tB0 t ∧ zget tB0 t < (m : Int)) ∧ (0 ≤ zget tC0 t ∧ zget tC0 t < (m : Int))) : ∀ (n lab : Nat) (i2 i4 i5 i6 : Int) (fr fr0 : Nat) (o0 : zO_X11_entriesFrom), ((lab = 9 ∧ (0 ≤ i5 ∧ i5 ≤ (m : Int) ∧ 0 ≤ i4 ∧ i4 < (m : Int)) ∧ (∀ k : Nat, (k : Int) < i5 → zget fr k = zget fr0 k)) ∨ (lab = 60 ∧ (∀ k : Nat, (k : Int) < (m : Int) → zget fr k = zget fr0 k)) ∨ (lab = 71 ∧ 0 ≤ i6 ∧ (∀ k : Nat, (k : Int) < (m : Int) → zget fr k = zget fr0 k))) → jrun zg_X11_entriesFrom n (lab, (m : Int), i2, i4, i5, i6, ln0, lf0, nf0, ls0, gr0, tA0, tB0, tC0, fr0) = some o0 → ∃ fr1, jrun zg_X11_entriesFrom n (lab, (m : Int), i2, i4, i5, i6, ln, lf, nf, ls, gr, tA, tB, tC, fr) = some (ln, lf, nf, ls, gr, tA, tB, tC, fr1) ∧ (∀ k : Nat, (k : Int) < (m : Int) → zget fr1 k = zget o0.2.2.2.2.2.2.2.2 k) := by
  intro n
  induction n with
  | zero => intro lab i2 i4 i5 i6 fr fr0 o0 _ h; rw [jrun_0] at h; cases h
  | succ n ih =>
    intro lab i2 i4 i5 i6 fr fr0 o0 hR h
    rw [jrun_s] at h
    rcases hR with ⟨rfl, ⟨a1, a2, a3, a4⟩, hA⟩ | ⟨rfl, hA⟩ | ⟨rfl, a1, hA⟩
    · cases hg : zg_X11_entriesFrom (9, (m : Int), i2, i4, i5, i6, ln0, lf0, nf0, ls0, gr0, tA0, tB0, tC0, fr0) with
      | none => rw [hg] at h; cases h
      | some x0 =>
        obtain ⟨lab', j2, j4, j5, j6, fr1, fr2, e1, e2, e3⟩ := ef_s9 h4 h9 hN hN0 hT hV i2 i4 i5 i6 fr fr0 a1 a2 a3 a4 hA x0 hg
        rw [hg, e1] at h
        have e2 : zg_X11_entriesFrom (9, (m : Int), i2, i4, i5, i6, ln, lf, nf, ls, gr, tA, tB, tC, fr) = _ := e2
        rw [jrun_s, e2]
        exact ih lab' j2 j4 j5 j6 fr1 fr2 o0 e3 h
    · have hz : ∀ (a b c e f : Int) (q1 q2 q3 q4 q5 q6 q7 : Nat), zg_X11_entriesFrom (60, (m : Int), i2, i4, i5, a, b, c, q1, q2, q3, q4, q5, q6, q7) = zg_X11_entriesFrom_60 (m : Int) i2 i4 i5 a b c q1 q2 q3 q4 q5 q6 q7 := fun _ _ _ _ _ _ _ _ _ _ _ _ => rfl
      rw [hz i6 ln0 lf0 0 0] at h
      rw [jrun_s, hz i6 ln lf 0 0]
      unfold zg_X11_entriesFrom_60 at h ⊢
      by_cases z : zout i5
      · rw [if_pos z] at h; cases h
      · rw [if_neg z] at h ⊢
        by_cases q : i5 = 0
        · rw [if_pos q] at h ⊢
          have h : some _ = some o0 := h
          cases h
          exact ⟨fr, rfl, hA⟩
        · rw [if_neg q] at h ⊢
          exact ih 71 0 0 0 0 fr fr0 o0 (Or.inr (Or.inr ⟨rfl, by omega, hA⟩)) h
    · cases hg : zg_X11_entriesFrom (71, (m : Int), i2, i4, i5, i6, ln0, lf0, nf0, ls0, gr0, tA0, tB0, tC0, fr0) with
      | none => rw [hg] at h; cases h
      | some x0 =>
        obtain ⟨lab', j2, j4, j5, j6, fr1, fr2, e1, e2, e3⟩ := ef_s71 h4 h9 hN hN0 hT hV i2 i4 i5 i6 fr fr0 a1 hA x0 hg
        rw [hg, e1] at h
        have e2 : zg_X11_entriesFrom (71, (m : Int), i2, i4, i5, i6, ln, lf, nf, ls, gr, tA, tB, tC, fr) = _ := e2
        rw [jrun_s, e2]
        exact ih lab' j2 j4 j5 j6 fr1 fr2 o0 e3 h
theorem tcn_hit {m : Nat} {c : Int} : ∀ (p t : Nat), t < tcn m c p → ∃ q, q < p ∧ goodQ m c q = true ∧ tcn m c q = t := by
  intro p
  induction p with
  | zero => intro t ht; exact absurd ht (Nat.not_lt_zero _)
  | succ p ih =>
    intro t ht
    cases hg : goodQ m c p with
    | false =>
      rw [tcn_f hg] at ht
      obtain ⟨q, h1, h2, h3⟩ := ih t ht
      exact ⟨q, by omega, h2, h3⟩
    | true =>
      rw [tcn_t hg] at ht
      by_cases e : t = tcn m c p
      · exact ⟨p, by omega, hg, e.symm⟩
      · obtain ⟨q, h1, h2, h3⟩ := ih t (by omega)
        exact ⟨q, by omega, h2, h3⟩
theorem goodQ_v {m : Nat} {c : Int} {q : Nat} (h : goodQ m c q = true) : q / 81 < q / 9 % 9 ∧ q / 9 % 9 < q % 9 ∧ q % 9 < m := by
  by_cases z : q / 81 < q / 9 % 9 ∧ q / 9 % 9 < q % 9 ∧ q % 9 < m
  · exact z
  · rw [goodQ_no z] at h; cases h
theorem TAI_two {m : Nat} {c : Int} {tA tB tC tA0 tB0 tC0 : Nat} (h : TAI m c tA tB tC 729) (h0 : TAI m c tA0 tB0 tC0 729) {t : Nat} (ht : t < tcn m c 729) : (zget tA t = zget tA0 t ∧ zget tB t = zget tB0 t ∧ zget tC t = zget tC0 t) ∧ ((0 ≤ zget tA0 t ∧ zget tA0 t < (m : Int)) ∧ (0 ≤ zget tB0 t ∧ zget tB0 t < (m : Int)) ∧ (0 ≤ zget tC0 t ∧ zget tC0 t < (m : Int))) := by
  obtain ⟨q, h1, h2, rfl⟩ := tcn_hit 729 t ht
  obtain ⟨a1, a2, a3⟩ := h q h1 h2
  obtain ⟨b1, b2, b3⟩ := h0 q h1 h2
  have v := goodQ_v h2
  rw [a1, a2, a3, b1, b2, b3]
  exact ⟨⟨rfl, rfl, rfl⟩, by omega⟩
