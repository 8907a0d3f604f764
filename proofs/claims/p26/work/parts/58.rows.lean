/-! rows of a cut: how many triangles meet at each corner, both sides -/
noncomputable def rowN (m : Nat) (b : Int) (i : Nat) (k : Nat) : Int := Nat.rec 1 (fun k ih => match decide (0 ≤ zget (pg3 m) (9 * i + k)) && nearB m b i k with
  | true => ih + 1
  | false => ih) k
theorem rowN_t {m : Nat} {b : Int} {i k : Nat} (h1 : 0 ≤ zget (pg3 m) (9 * i + k)) (h2 : nearB m b i k = true) : rowN m b i (k + 1) = rowN m b i k + 1 := by
  show (match decide (0 ≤ zget (pg3 m) (9 * i + k)) && nearB m b i k with
    | true => rowN m b i k + 1
    | false => rowN m b i k) = _
  rw [decide_eq_true h1, h2]
  rfl
theorem rowN_f {m : Nat} {b : Int} {i k : Nat} (h : ¬ (0 ≤ zget (pg3 m) (9 * i + k) ∧ nearB m b i k = true)) : rowN m b i (k + 1) = rowN m b i k := by
  show (match decide (0 ≤ zget (pg3 m) (9 * i + k)) && nearB m b i k with
    | true => rowN m b i k + 1
    | false => rowN m b i k) = _
  by_cases h1 : 0 ≤ zget (pg3 m) (9 * i + k)
  · cases e : nearB m b i k with
    | true => exact absurd ⟨h1, e⟩ h
    | false => rw [Bool.and_false]
  · rw [decide_eq_false h1]
    rfl
theorem e_rowAt {m nf : Nat} (h4 : 4 ≤ m) (h9 : m ≤ 9) (h : LN m nf m 0) (b : Int) {i : Int} (i0 : 0 ≤ i) (i1 : i < (m : Int)) : zf_X11_rowAt nf (m : Int) b i = some (rowN m b i.toNat m) := by
  have run : ∀ d k : Nat, k + d = m → JE (zg_X11_rowAt nf) (6, (m : Int), b, i, rowN m b i.toNat k, (k : Int)) (rowN m b i.toNat m) := by
    intro d
    induction d with
    | zero =>
      intro k hk
      have hk : k = m := by omega
      subst hk
      refine JE_in ?_
      show zg_X11_rowAt_6 nf (k : Int) b i (rowN k b i.toNat k) (k : Int) = _
      unfold zg_X11_rowAt_6
      rw [if_neg (by unfold zout; omega), if_neg (by unfold zout; omega), if_pos (Int.le_refl _)]
    | succ d ih =>
      intro k hk
      have hl : zf_X11_isLine (m : Int) i (k : Int) = some (decide (0 ≤ zget (pg3 m) (9 * i.toNat + k))) := by
        have := isLine_c (c := m) h4 h9 i0 i1 (show 0 ≤ (k : Int) by omega) (by omega)
        unfold lnO at this
        rw [Int.toNat_natCast] at this
        exact this
      have hn : zf_X11_near nf (m : Int) b i (k : Int) = some (nearB m b i.toNat k) := by
        have := near_eq h4 h9 h b i0 i1 (show 0 ≤ (k : Int) by omega) (by omega)
        rw [Int.toNat_natCast] at this
        exact this
      have ih := ih (k + 1) (by omega)
      rw [show (((k + 1 : Nat) : Nat) : Int) = (k : Int) + 1 by omega] at ih
      by_cases c1 : 0 ≤ zget (pg3 m) (9 * i.toNat + k)
      · cases c2 : nearB m b i.toNat k with
        | true =>
          rw [rowN_t c1 c2] at ih
          refine JE_up ?_ ih
          show zg_X11_rowAt_6 nf (m : Int) b i (rowN m b i.toNat k) (k : Int) = _
          unfold zg_X11_rowAt_6
          rw [if_neg (by unfold zout; omega), if_neg (by unfold zout; omega), if_neg (by omega), hl, hn, c2, decide_eq_true c1]
          rfl
        | false =>
          rw [rowN_f (by rw [c2]; exact fun q => by cases q.2)] at ih
          refine JE_up ?_ ih
          show zg_X11_rowAt_6 nf (m : Int) b i (rowN m b i.toNat k) (k : Int) = _
          unfold zg_X11_rowAt_6
          rw [if_neg (by unfold zout; omega), if_neg (by unfold zout; omega), if_neg (by omega), hl, hn, c2, decide_eq_true c1]
          show some (Sum.inr (6, (m : Int), b, i, rowN m b i.toNat k + 0, (k : Int) + 1)) = _
          rw [Int.add_zero]
      · rw [rowN_f (fun q => c1 q.1)] at ih
        refine JE_up ?_ ih
        show zg_X11_rowAt_6 nf (m : Int) b i (rowN m b i.toNat k) (k : Int) = _
        unfold zg_X11_rowAt_6
        rw [if_neg (by unfold zout; omega), if_neg (by unfold zout; omega), if_neg (by omega), hl, decide_eq_false c1]
        show some (Sum.inr (6, (m : Int), b, i, rowN m b i.toNat k + 0, (k : Int) + 1)) = _
        rw [Int.add_zero]
  obtain ⟨o, ho, -⟩ := ok_X11_rowAt nf (m : Int) b i (by omega) (by omega) i0 i1
  have e := JE_det (JE_of ho) (JE_up (s' := (6, (m : Int), b, i, 1, 0)) rfl (run m 0 (by omega)))
  rw [ho, e]
noncomputable def rowF (m T i : Nat) (k : Nat) : Nat := Nat.rec (motive := fun _ => Nat) 1 (fun k ih => frN (bt m i k) (fun B => match Nat.beq B 0 with
  | true => ih
  | false => match Nat.beq (T &&& B) B with
    | true => ih + 1
    | false => ih)) k
theorem rowF_e {m T i : Nat} (h4 : 4 ≤ m) (h9 : m ≤ 9) (hT : T < 134217728) (hi : i < m) : ∀ k : Nat, k ≤ m → rowN m (T : Int) i k = ((rowF m T i k : Nat) : Int) := by
  intro k
  induction k with
  | zero => intro _; rfl
  | succ k ih =>
    intro hk
    have ih := ih (by omega)
    have e : rowF m T i (k + 1) = (match Nat.beq (bt m i k) 0 with
      | true => rowF m T i k
      | false => match Nat.beq (T &&& bt m i k) (bt m i k) with
        | true => rowF m T i k + 1
        | false => rowF m T i k) := by
      show frN (bt m i k) (fun B => match Nat.beq B 0 with
        | true => rowF m T i k
        | false => match Nat.beq (T &&& B) B with
          | true => rowF m T i k + 1
          | false => rowF m T i k) = _
      rw [frN_e]
    rw [e]
    by_cases q : zget (pg3 m) (9 * i + k) < 0
    · have b0 : bt m i k = 0 := by
        unfold bt
        rw [decide_eq_true q]
      rw [b0, rowN_f (fun h => absurd h.1 (by omega))]
      exact ih
    · have hik : ¬ i = k := by
        intro z
        subst z
        exact q (of_decide_eq_true (allF_at (diag_tab m h4 h9) (m := i) (by omega)) (by omega))
      have b1 : bt m i k = 2 ^ (zget (pg3 m) (9 * i + k)).toNat := by
        unfold bt
        rw [decide_eq_false q]
      have nz : Nat.beq (bt m i k) 0 = false := beqF (by
        rw [b1]
        have := Nat.two_pow_pos (zget (pg3 m) (9 * i + k)).toNat
        omega)
      have nb := near_b h4 h9 hT (show i < 9 by omega) (show k < 9 by omega) hik
      rw [nz]
      cases c : Nat.beq (T &&& bt m i k) (bt m i k) with
      | true =>
        rw [c] at nb
        rw [rowN_t (by omega) nb, ih]
        show ((rowF m T i k : Nat) : Int) + 1 = ((rowF m T i k + 1 : Nat) : Int)
        omega
      | false =>
        rw [c] at nb
        rw [rowN_f (fun h => by rw [nb] at h; exact absurd h.2 (by decide))]
        exact ih
noncomputable def rowK (m k : Nat) : Bool := frN (zslot (pg6 m) k) (fun T => frN (sE m k) (fun E => allF (fun i => Nat.ble m i || Nat.beq (rowF m T i m) (tE m E i)) 0 9))
theorem row_tab : ∀ m : Nat, 4 ≤ m → m ≤ 9 → allF (fun k => rowK m k) 0 (pg8 m).toNat = true := pg_cases (by decide +kernel) (by decide +kernel) (by decide +kernel) (by decide +kernel) (by decide +kernel) (by decide +kernel)
theorem e_tri {m : Nat} (h4 : 4 ≤ m) (h9 : m ≤ 9) {b : Int} (hb : isCut m b) {i : Int} (i0 : 0 ≤ i) (i1 : i < (m : Int)) : zf_X5_trianglesAt m b i = some (rowN m b i.toNat m) := by
  obtain ⟨k, hk, rfl⟩ := hb
  obtain ⟨ec, hT⟩ := cut_n h4 h9 hk
  have t := allF_at (row_tab m h4 h9) (m := k) (by omega)
  replace t : rowK m k = true := t
  unfold rowK at t
  rw [frN_e, frN_e] at t
  have q := allF_at t (m := i.toNat) (by omega)
  replace q : (Nat.ble m i.toNat || Nat.beq (rowF m (zslot (pg6 m) k) i.toNat m) (tE m (sE m k) i.toNat)) = true := q
  have q := beqE (orF q (bleF (by omega)))
  have c := (ck_at h4 h9 hk (show i.toNat < m by omega)).2
  rw [show ((i.toNat : Nat) : Int) = i by omega] at c
  have r := rowF_e h4 h9 hT (show i.toNat < m by omega) m (Nat.le_refl m)
  rw [← ec] at r
  rw [c, r, q]
/-- how far a row is from a cut -/
noncomputable def difN (m : Nat) (b : Int) (q : Nat) (k : Nat) : Int := Nat.rec 0 (fun k ih => ih + zabs (zget q k - rowN m b k m)) k
theorem difN_s (m : Nat) (b : Int) (q k : Nat) : difN m b q (k + 1) = difN m b q k + zabs (zget q k - rowN m b k m) := rfl
theorem difN_c {m : Nat} {b : Int} {q t : Nat} : ∀ k : Nat, (∀ j : Nat, j < k → zget q j = zget t j) → difN m b q k = difN m b t k := by
  intro k
  induction k with
  | zero => intro _; rfl
  | succ k ih => intro h; rw [difN_s, difN_s, ih (fun j hj => h j (by omega)), h k (by omega)]
theorem e_dif {m : Nat} (h4 : 4 ≤ m) (h9 : m ≤ 9) {b : Int} (hb : isCut m b) {q : Nat} (hq : ∀ k : Nat, k < 10 → 0 ≤ zget q k ∧ zget q k ≤ 999) : zf_X5_differenceFrom m q b = some (difN m b q m) := by
  have run : ∀ d k : Nat, k + d = m → JE (zg_X5_differenceFrom m q) (5, b, difN m b q k, (k : Int)) (difN m b q m) := by
    intro d
    induction d with
    | zero =>
      intro k hk
      have hk : k = m := by omega
      subst hk
      refine JE_in ?_
      show zg_X5_differenceFrom_5 k q b (difN k b q k) (k : Int) = _
      unfold zg_X5_differenceFrom_5
      rw [if_neg (by unfold zout; omega), if_neg (by unfold zout; omega), if_pos (Int.le_refl _)]
    | succ d ih =>
      intro k hk
      have ih := ih (k + 1) (by omega)
      rw [show (((k + 1 : Nat) : Nat) : Int) = (k : Int) + 1 by omega, difN_s] at ih
      have ht := e_tri h4 h9 hb (i := (k : Int)) (by omega) (by omega)
      rw [Int.toNat_natCast] at ht
      obtain ⟨o, ho, h0, h64, -⟩ := ok_X5_trianglesAt m b (k : Int) h4 h9 (by omega) (by omega)
      rw [ht] at ho
      cases ho
      have hqk := hq k (by omega)
      refine JE_up ?_ ih
      show zg_X5_differenceFrom_5 m q b (difN m b q k) (k : Int) = _
      unfold zg_X5_differenceFrom_5
      rw [if_neg (by unfold zout; omega), if_neg (by unfold zout; omega), if_neg (by omega), if_neg (by omega), if_neg (by omega), ht]
      simp only [Option.bind_some]
      rw [Int.toNat_natCast, if_neg (by unfold zout; omega)]
  obtain ⟨o, ho, -⟩ := ok_X5_differenceFrom m q b h4 h9 hq
  have e := JE_det (JE_of ho) (JE_up (s' := (5, b, 0, 0)) rfl (run m 0 (by omega)))
  rw [ho, e]
theorem e_apart {m : Nat} (h4 : 4 ≤ m) (h9 : m ≤ 9) {nf : Nat} (h : LN m nf m 0) {b : Int} {q : Nat} (hq : ∀ k : Nat, k < 10 → 0 ≤ zget q k ∧ zget q k ≤ 999) : zf_X11_apart (m : Int) nf q b = some (difN m b q m) := by
  have run : ∀ d k : Nat, k + d = m → JE (zg_X11_apart (m : Int) nf q) (5, b, difN m b q k, (k : Int)) (difN m b q m) := by
    intro d
    induction d with
    | zero =>
      intro k hk
      have hk : k = m := by omega
      subst hk
      refine JE_in ?_
      show zg_X11_apart_5 (k : Int) nf q b (difN k b q k) (k : Int) = _
      unfold zg_X11_apart_5
      rw [if_neg (by unfold zout; omega), if_neg (by unfold zout; omega), if_pos (Int.le_refl _)]
    | succ d ih =>
      intro k hk
      have ih := ih (k + 1) (by omega)
      rw [show (((k + 1 : Nat) : Nat) : Int) = (k : Int) + 1 by omega, difN_s] at ih
      have ht := e_rowAt h4 h9 h b (i := (k : Int)) (by omega) (by omega)
      rw [Int.toNat_natCast] at ht
      obtain ⟨o, ho, h1, h10⟩ := ok_X11_rowAt nf (m : Int) b (k : Int) (by omega) (by omega) (by omega) (by omega)
      rw [ht] at ho
      cases ho
      have hqk := hq k (by omega)
      refine JE_up ?_ ih
      show zg_X11_apart_5 (m : Int) nf q b (difN m b q k) (k : Int) = _
      unfold zg_X11_apart_5
      rw [if_neg (by unfold zout; omega), if_neg (by unfold zout; omega), if_neg (by omega), ht]
      simp only [Option.bind_some]
      rw [if_neg (by omega), Int.toNat_natCast, if_neg (by unfold zout; omega)]
      unfold zabs
      by_cases c : 0 ≤ rowN m b k m - zget q k
      · rw [if_pos c]
        by_cases c2 : 0 ≤ zget q k - rowN m b k m
        · rw [if_pos c2, show rowN m b k m - zget q k = zget q k - rowN m b k m by omega]
        · rw [if_neg c2, show rowN m b k m - zget q k = 0 - (zget q k - rowN m b k m) by omega]
      · rw [if_neg c, if_pos (by omega), show -(rowN m b k m - zget q k) = zget q k - rowN m b k m by omega]
  obtain ⟨o, ho, -⟩ := ok_X11_apart (m : Int) nf q b (by omega) (by omega) hq
  have e := JE_det (JE_of ho) (JE_up (s' := (5, b, 0, 0)) rfl (run m 0 (by omega)))
  rw [ho, e]
