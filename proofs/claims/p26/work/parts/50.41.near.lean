/-! the reference's 'near', and the triangles of a cut -/
def nearB (m : Nat) (c : Int) (i j : Nat) : Bool := decide (¬ i = j ∧ (zget (pg3 m) (9 * i + j) < 0 ∨ zandL (zshrL c (zget (pg3 m) (9 * i + j))) 1 = 1))
noncomputable def nextK (m i j : Nat) : Bool := match decide (i < m ∧ j < m ∧ ¬ i = j) with
  | false => true
  | true => decide (zf_X11_isNext (m : Int) (i : Int) (j : Int) = some (decide (zget (pg3 m) (9 * i + j) < 0)))
theorem next_tab : ∀ m : Nat, 4 ≤ m → m ≤ 9 → allF (fun i => allF (fun j => nextK m i j) 0 9) 0 9 = true := pg_cases (by decide +kernel) (by decide +kernel) (by decide +kernel) (by decide +kernel) (by decide +kernel) (by decide +kernel)
theorem next_c {m i j : Nat} (h4 : 4 ≤ m) (h9 : m ≤ 9) (hi : i < m) (hj : j < m) (hij : ¬ i = j) : zf_X11_isNext (m : Int) (i : Int) (j : Int) = some (decide (zget (pg3 m) (9 * i + j) < 0)) := by
  have t := allF_at (allF_at (next_tab m h4 h9) (m := i) (by omega)) (m := j) (by omega)
  have t : nextK m i j = true := t
  unfold nextK at t
  rw [decide_eq_true (show i < m ∧ j < m ∧ ¬ i = j from ⟨hi, hj, hij⟩)] at t
  exact of_decide_eq_true t
theorem LN_get {m nf : Nat} (h : LN m nf m 0) {i j : Nat} (hi : i < m) (hj : j < m) (hij : ¬ i = j) : zget nf (10 * i + j) = zget (pg3 m) (9 * i + j) := by
  by_cases q : i < j
  · exact (h i j q hj (Or.inl (by omega))).1
  · exact (h j i (by omega) hi (Or.inl (by omega))).2
theorem near_eq {m nf : Nat} (h4 : 4 ≤ m) (h9 : m ≤ 9) (h : LN m nf m 0) (c : Int) {i j : Int} (hi0 : 0 ≤ i) (hi : i < (m : Int)) (hj0 : 0 ≤ j) (hj : j < (m : Int)) : zf_X11_near nf (m : Int) c i j = some (nearB m c i.toNat j.toNat) := by
  unfold zf_X11_near nearB
  rw [if_neg (by unfold zout; omega), if_neg (by unfold zout; omega)]
  by_cases e : i = j
  · rw [if_pos e, decide_eq_false (by omega)]
  · have e' : ¬ i.toNat = j.toNat := by omega
    have n := next_c h4 h9 (show i.toNat < m by omega) (show j.toNat < m by omega) e'
    rw [show ((i.toNat : Nat) : Int) = i by omega, show ((j.toNat : Nat) : Int) = j by omega] at n
    have g := LN_get h (show i.toNat < m by omega) (show j.toNat < m by omega) e'
    rw [if_neg e, n]
    simp only [Option.bind_some]
    by_cases q : zget (pg3 m) (9 * i.toNat + j.toNat) < 0
    · rw [decide_eq_true q, if_neg (by decide), decide_eq_true ⟨e', Or.inl q⟩]
    · rw [decide_eq_false q, if_pos rfl, if_neg (by omega), show Int.toNat ((10 : Int) * i + j) = 10 * i.toNat + j.toNat by omega, g]
      by_cases r : zandL (zshrL c (zget (pg3 m) (9 * i.toNat + j.toNat))) 1 = 1
      · rw [if_pos r, decide_eq_true ⟨e', Or.inr r⟩]
      · rw [if_neg r, decide_eq_false (fun z => by rcases z.2 with y | y; exact q y; exact r y)]
def goodQ (m : Nat) (c : Int) (q : Nat) : Bool := decide (q / 81 < q / 9 % 9 ∧ q / 9 % 9 < q % 9 ∧ q % 9 < m) && (nearB m c (q / 81) (q / 9 % 9) && (nearB m c (q / 9 % 9) (q % 9) && nearB m c (q / 81) (q % 9)))
noncomputable def tcn (m : Nat) (c : Int) (p : Nat) : Nat := Nat.rec 0 (fun q ih => match goodQ m c q with
  | true => ih + 1
  | false => ih) p
theorem tcn_t {m : Nat} {c : Int} {p : Nat} (h : goodQ m c p = true) : tcn m c (p + 1) = tcn m c p + 1 := by
  show (match goodQ m c p with
    | true => tcn m c p + 1
    | false => tcn m c p) = _
  rw [h]
theorem tcn_f {m : Nat} {c : Int} {p : Nat} (h : goodQ m c p = false) : tcn m c (p + 1) = tcn m c p := by
  show (match goodQ m c p with
    | true => tcn m c p + 1
    | false => tcn m c p) = _
  rw [h]
theorem tcn_le {m : Nat} {c : Int} {p : Nat} (d : Nat) : tcn m c p ≤ tcn m c (p + d) := by
  induction d with
  | zero => exact Nat.le_refl _
  | succ d ih =>
    have e : p + (d + 1) = (p + d) + 1 := by omega
    rw [e]
    cases hg : goodQ m c (p + d) with
    | true => rw [tcn_t hg]; omega
    | false => rw [tcn_f hg]; exact ih
theorem tcn_skip {m : Nat} {c : Int} {p : Nat} (d : Nat) (h : ∀ q, p ≤ q → q < p + d → goodQ m c q = false) : tcn m c (p + d) = tcn m c p := by
  induction d with
  | zero => rfl
  | succ d ih =>
    have e : p + (d + 1) = (p + d) + 1 := by omega
    rw [e, tcn_f (h (p + d) (by omega) (by omega))]
    exact ih (fun q h1 h2 => h q h1 (by omega))
theorem goodQ_no {m : Nat} {c : Int} {q : Nat} (h : ¬ (q / 81 < q / 9 % 9 ∧ q / 9 % 9 < q % 9 ∧ q % 9 < m)) : goodQ m c q = false := by
  unfold goodQ
  rw [decide_eq_false h]
  rfl
def TAI (m : Nat) (c : Int) (tA tB tC p : Nat) : Prop := ∀ q, q < p → goodQ m c q = true → zget tA (tcn m c q) = ((q / 81 : Nat) : Int) ∧ zget tB (tcn m c q) = ((q / 9 % 9 : Nat) : Int) ∧ zget tC (tcn m c q) = ((q % 9 : Nat) : Int)
theorem TAI_skip {m : Nat} {c : Int} {tA tB tC p : Nat} (h : TAI m c tA tB tC p) (d : Nat) (hn : ∀ q, p ≤ q → q < p + d → goodQ m c q = false) : TAI m c tA tB tC (p + d) := by
  intro q hq hg
  by_cases e : q < p
  · exact h q e hg
  · rw [hn q (by omega) hq] at hg; cases hg
theorem TAI_add {m : Nat} {c : Int} {tA tB tC p : Nat} (h : TAI m c tA tB tC p) (hg : goodQ m c p = true) {i j k : Int} (hi : i = ((p / 81 : Nat) : Int)) (hj : j = ((p / 9 % 9 : Nat) : Int)) (hk : k = ((p % 9 : Nat) : Int)) (hp : p < 729) {t : Nat} (ht : t = tcn m c p) : TAI m c (zset tA t i) (zset tB t j) (zset tC t k) (p + 1) := by
  intro q hq hgq
  rw [zget_set, zget_set, zget_set]
  by_cases e : q = p
  · subst e
    rw [if_pos ht.symm, if_pos ht.symm, if_pos ht.symm, zw_id (by unfold zout; omega), zw_id (by unfold zout; omega), zw_id (by unfold zout; omega)]
    exact ⟨hi, hj, hk⟩
  · have l1 := tcn_t hgq
    have l2 := tcn_le (m := m) (c := c) (p := q + 1) (p - (q + 1))
    rw [show q + 1 + (p - (q + 1)) = p by omega] at l2
    have ne : ¬ tcn m c q = t := by omega
    rw [if_neg ne, if_neg ne, if_neg ne]
    exact h q (by omega) hgq
