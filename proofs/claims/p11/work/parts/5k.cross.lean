/-! what a straight way crosses: both sort the same lines by the same key -/
noncomputable def cnF (P : Nat → Bool) (p : Nat) : Nat := Nat.rec (motive := fun _ => Nat) 0 (fun p ih => match P p with
  | true => ih + 1
  | false => ih) p
theorem cnF_t {P : Nat → Bool} {p : Nat} (h : P p = true) : cnF P (p + 1) = cnF P p + 1 := by
  show (match P p with
    | true => cnF P p + 1
    | false => cnF P p) = _
  rw [h]
theorem cnF_f {P : Nat → Bool} {p : Nat} (h : P p = false) : cnF P (p + 1) = cnF P p := by
  show (match P p with
    | true => cnF P p + 1
    | false => cnF P p) = _
  rw [h]
theorem cnF_le {P : Nat → Bool} {p r : Nat} (h : p ≤ r) : cnF P p ≤ cnF P r := by
  obtain ⟨d, rfl⟩ : ∃ d, r = p + d := ⟨r - p, by omega⟩
  clear h
  induction d with
  | zero => exact Nat.le_refl _
  | succ d ih =>
    rw [show p + (d + 1) = (p + d) + 1 by omega]
    cases hg : P (p + d) with
    | true => rw [cnF_t hg]; omega
    | false => rw [cnF_f hg]; exact ih
theorem cnF_lt {P : Nat → Bool} {p r : Nat} (hp : P p = true) (h : p < r) : cnF P p < cnF P r := by
  have := cnF_le (P := P) (p := p + 1) (r := r) (by omega)
  rw [cnF_t hp] at this
  omega
theorem cnF_hit {P : Nat → Bool} : ∀ (p t : Nat), t < cnF P p → ∃ q, q < p ∧ P q = true ∧ cnF P q = t := by
  intro p
  induction p with
  | zero => intro t ht; exact absurd ht (Nat.not_lt_zero _)
  | succ p ih =>
    intro t ht
    cases hg : P p with
    | false =>
      rw [cnF_f hg] at ht
      obtain ⟨q, h1, h2, h3⟩ := ih t ht
      exact ⟨q, by omega, h2, h3⟩
    | true =>
      rw [cnF_t hg] at ht
      by_cases e : t = cnF P p
      · exact ⟨p, by omega, hg, e.symm⟩
      · obtain ⟨q, h1, h2, h3⟩ := ih t (by omega)
        exact ⟨q, by omega, h2, h3⟩
theorem cnF_eq {P P' : Nat → Bool} (h : ∀ q, P' q = P q) : ∀ p : Nat, cnF P' p = cnF P p := by
  intro p
  induction p with
  | zero => rfl
  | succ p ih =>
    cases e : P p with
    | true => rw [cnF_t e, cnF_t ((h p).trans e), ih]
    | false => rw [cnF_f e, cnF_f ((h p).trans e), ih]
theorem cnF_ins {P P' : Nat → Bool} {x : Nat} (hx : P x = false) (h1 : P' x = true) (h : ∀ q, ¬ q = x → P' q = P q) : ∀ p : Nat, cnF P' p = cnF P p + (if x < p then 1 else 0) := by
  intro p
  induction p with
  | zero => rw [if_neg (Nat.not_lt_zero _)]; rfl
  | succ p ih =>
    by_cases e : p = x
    · subst e
      rw [cnF_t h1, cnF_f hx, ih, if_neg (Nat.lt_irrefl _), if_pos (by omega)]
    · have h' := h p e
      cases q : P p with
      | true =>
        rw [cnF_t q, cnF_t (h'.trans q), ih]
        by_cases c : x < p
        · rw [if_pos c, if_pos (by omega)]
        · rw [if_neg c, if_neg (by omega)]
      | false =>
        rw [cnF_f q, cnF_f (h'.trans q), ih]
        by_cases c : x < p
        · rw [if_pos c, if_pos (by omega)]
        · rw [if_neg c, if_neg (by omega)]
/-- the reference's arrays hold the lines in their order -/
def SA (P : Nat → Bool) (cl cf : Nat) : Prop := ∀ q, q < 243 → P q = true → zget cl (cnF P q) = ((q % 27 : Nat) : Int) ∧ zget cf (cnF P q) = ((q / 27 : Nat) : Int)
def SW (P : Nat → Bool) (f k cl cf : Nat) : Prop := ∀ q, q < 243 → P q = true → (cnF P q < k → zget cl (cnF P q) = ((q % 27 : Nat) : Int) ∧ zget cf (cnF P q) = ((q / 27 : Nat) : Int)) ∧ (k ≤ cnF P q → zget cl (cnF P q + 1) = ((q % 27 : Nat) : Int) ∧ zget cf (cnF P q + 1) = ((q / 27 : Nat) : Int) ∧ f < q / 27)
theorem SW_of {P : Nat → Bool} {f cl cf : Nat} (h : SA P cl cf) : SW P f (cnF P 243) cl cf := by
  intro q hq hP
  refine ⟨fun _ => h q hq hP, fun z => ?_⟩
  have := cnF_lt hP hq
  omega
theorem SW_step {P : Nat → Bool} {f k cl cf : Nat} (h : SW P f (k + 1) cl cf) (hk : k < cnF P 243) (hf : (f : Int) < zget cf k) : SW P f k (zset cl (k + 1) (zget cl k)) (zset cf (k + 1) (zget cf k)) := by
  intro q hq hP
  obtain ⟨h1, h2⟩ := h q hq hP
  constructor
  · intro z
    rw [zget_set, zget_set, if_neg (by omega), if_neg (by omega)]
    exact h1 (by omega)
  · intro z
    by_cases e : cnF P q = k
    · obtain ⟨a, b⟩ := h1 (by omega)
      rw [e] at a b ⊢
      rw [zget_set, zget_set, if_pos rfl, if_pos rfl, a, b, zw_id (by unfold zout; omega), zw_id (by unfold zout; omega)]
      exact ⟨rfl, rfl, by omega⟩
    · obtain ⟨a, b, c⟩ := h2 (by omega)
      rw [zget_set, zget_set, if_neg (by omega), if_neg (by omega)]
      exact ⟨a, b, c⟩
theorem SW_end {P P' : Nat → Bool} {f l k cl cf : Nat} (h : SW P f k cl cf) (hk : k ≤ cnF P 243) (hs : k = 0 ∨ zget cf (k - 1) ≤ (f : Int)) (hf : f < 9) (hl : l < 27) (hx : P (27 * f + l) = false) (h1 : P' (27 * f + l) = true) (hP : ∀ q, ¬ q = 27 * f + l → P' q = P q) (hb : ∀ q, P q = true → q % 27 < l) : SA P' (zset cl k (l : Int)) (zset cf k (f : Int)) ∧ cnF P' 243 = cnF P 243 + 1 := by
  have ci := cnF_ins hx h1 hP
  have lo : ∀ q, q < 243 → P q = true → cnF P q < k → q < 27 * f + l := by
    intro q hq pq z
    rcases hs with e | e
    · omega
    · obtain ⟨q0, a1, a2, a3⟩ := cnF_hit 243 (k - 1) (by omega : k - 1 < cnF P 243)
      have w := ((h q0 a1 a2).1 (by omega)).2
      rw [a3] at w
      have le : q ≤ q0 := by
        by_cases y : q0 < q
        · have := cnF_lt a2 y
          omega
        · omega
      have := hb q pq
      omega
  have hi : ∀ q, q < 243 → P q = true → k ≤ cnF P q → 27 * f + l < q := by
    intro q hq pq z
    have := ((h q hq pq).2 z).2.2
    omega
  have kp : cnF P (27 * f + l) = k := by
    apply Classical.byContradiction
    intro ne
    by_cases c : k < cnF P (27 * f + l)
    · obtain ⟨q, a1, a2, a3⟩ := cnF_hit (P := P) _ k c
      have := hi q (by omega) a2 (by omega)
      omega
    · obtain ⟨q, a1, a2, a3⟩ := cnF_hit (P := P) 243 (cnF P (27 * f + l)) (by omega)
      have y := lo q a1 a2 (by omega)
      have := cnF_lt a2 y
      omega
  constructor
  · intro q hq pq
    by_cases e : q = 27 * f + l
    · subst e
      rw [ci, if_neg (Nat.lt_irrefl _), kp, Nat.add_zero, zget_set, zget_set, if_pos rfl, if_pos rfl, zw_id (by unfold zout; omega), zw_id (by unfold zout; omega)]
      constructor
      · congr 1
        omega
      · congr 1
        omega
    · have pq' := (hP q e).symm.trans pq
      obtain ⟨w1, w2⟩ := h q hq pq'
      rw [ci]
      by_cases c : cnF P q < k
      · have y := lo q hq pq' c
        rw [if_neg (by omega), Nat.add_zero, zget_set, zget_set, if_neg (by omega), if_neg (by omega)]
        exact w1 c
      · have y := hi q hq pq' (by omega)
        obtain ⟨b1, b2, b3⟩ := w2 (by omega)
        rw [if_pos y, zget_set, zget_set, if_neg (by omega), if_neg (by omega)]
        exact ⟨b1, b2⟩
  · rw [ci, if_pos (by omega)]
/-- the lines that are crossed -/
noncomputable def Xc (m i j : Nat) : Nat := match decide (0 ≤ zget (pg3 m) (9 * i + j)) with
  | true => crM m (zget (pg3 m) (9 * i + j)).toNat
  | false => 0
noncomputable def ahN (m i x : Nat) : Nat := if x < i then x + m - i else x - i
noncomputable def spn (m i l : Nat) : Nat := (ahN m i (zget (pg1 m) l).toNat - ahN m i (zget (pg2 m) l).toNat) + (ahN m i (zget (pg2 m) l).toNat - ahN m i (zget (pg1 m) l).toNat)
noncomputable def keyK (m i j l : Nat) : Bool := match decide (i < m ∧ j < m ∧ ¬ i = j ∧ (l : Int) < pg7 m) with
  | false => true
  | true => match zf_X11_isCross (m : Int) (i : Int) (j : Int) (zget (pg1 m) l) (zget (pg2 m) l) with
    | none => false
    | some b => match decide (b = (Xc m i j).testBit l) with
      | false => false
      | true => match b with
        | false => true
        | true => match zf_X11_isBetween (m : Int) (i : Int) (zget (pg1 m) l) (j : Int) with
          | none => false
          | some true => decide (Int.tmod (zget (pg1 m) l - (i : Int) + (m : Int)) (m : Int) + Int.tmod ((i : Int) - (zget (pg1 m) l + zget (pg2 m) l - zget (pg1 m) l) + (m : Int)) (m : Int) = ((m - spn m i l : Nat) : Int) ∧ 1 ≤ spn m i l ∧ spn m i l < m ∧ ¬ zget (pg1 m) l = (i : Int) ∧ ¬ zget (pg1 m) l = (j : Int) ∧ ¬ zget (pg2 m) l = (i : Int) ∧ ¬ zget (pg2 m) l = (j : Int))
          | some false => decide (Int.tmod (zget (pg2 m) l - (i : Int) + (m : Int)) (m : Int) + Int.tmod ((i : Int) - (zget (pg1 m) l + zget (pg2 m) l - zget (pg2 m) l) + (m : Int)) (m : Int) = ((m - spn m i l : Nat) : Int) ∧ 1 ≤ spn m i l ∧ spn m i l < m ∧ ¬ zget (pg1 m) l = (i : Int) ∧ ¬ zget (pg1 m) l = (j : Int) ∧ ¬ zget (pg2 m) l = (i : Int) ∧ ¬ zget (pg2 m) l = (j : Int))
theorem key_tab : ∀ m : Nat, 4 ≤ m → m ≤ 9 → allF (fun i => allF (fun j => allF (fun l => keyK m i j l) 0 27) 0 9) 0 9 = true := pg_cases (by decide +kernel) (by decide +kernel) (by decide +kernel) (by decide +kernel) (by decide +kernel) (by decide +kernel)
theorem key_c {m i j l : Nat} (h4 : 4 ≤ m) (h9 : m ≤ 9) (hi : i < m) (hj : j < m) (hij : ¬ i = j) (hl : l < lnN m) : zf_X11_isCross (m : Int) (i : Int) (j : Int) (zget (pg1 m) l) (zget (pg2 m) l) = some ((Xc m i j).testBit l) ∧ ((Xc m i j).testBit l = true → (1 ≤ spn m i l ∧ spn m i l < m) ∧ (¬ zget (pg1 m) l = (i : Int) ∧ ¬ zget (pg1 m) l = (j : Int) ∧ ¬ zget (pg2 m) l = (i : Int) ∧ ¬ zget (pg2 m) l = (j : Int)) ∧ ∃ b, zf_X11_isBetween (m : Int) (i : Int) (zget (pg1 m) l) (j : Int) = some b ∧ (b = true → Int.tmod (zget (pg1 m) l - (i : Int) + (m : Int)) (m : Int) + Int.tmod ((i : Int) - (zget (pg1 m) l + zget (pg2 m) l - zget (pg1 m) l) + (m : Int)) (m : Int) = ((m - spn m i l : Nat) : Int)) ∧ (b = false → Int.tmod (zget (pg2 m) l - (i : Int) + (m : Int)) (m : Int) + Int.tmod ((i : Int) - (zget (pg1 m) l + zget (pg2 m) l - zget (pg2 m) l) + (m : Int)) (m : Int) = ((m - spn m i l : Nat) : Int))) := by
  have r7 := rpg7 h4 h9
  have hl' : (l : Int) < pg7 m := by unfold lnN at hl; omega
  have t := allF_at (allF_at (allF_at (key_tab m h4 h9) (m := i) (by omega)) (m := j) (by omega)) (m := l) (by omega)
  replace t : keyK m i j l = true := t
  unfold keyK at t
  rw [decide_eq_true ⟨hi, hj, hij, hl'⟩] at t
  revert t
  simp only []
  cases zf_X11_isCross (m : Int) (i : Int) (j : Int) (zget (pg1 m) l) (zget (pg2 m) l) with
  | none => intro t; cases t
  | some b =>
    simp only []
    by_cases e : b = (Xc m i j).testBit l
    · rw [decide_eq_true e, ← e]
      simp only []
      intro t
      refine ⟨by trivial, fun hb => ?_⟩
      subst hb
      revert t
      simp only []
      cases zf_X11_isBetween (m : Int) (i : Int) (zget (pg1 m) l) (j : Int) with
      | none => intro t; cases t
      | some b' =>
        cases b' with
        | true =>
          intro t
          have t := of_decide_eq_true t
          exact ⟨⟨t.2.1, t.2.2.1⟩, t.2.2.2, true, rfl, (fun _ => t.1), fun h => by cases h⟩
        | false =>
          intro t
          have t := of_decide_eq_true t
          exact ⟨⟨t.2.1, t.2.2.1⟩, t.2.2.2, false, rfl, (fun h => by cases h), fun _ => t.1⟩
    · rw [decide_eq_false e]
      intro t
      cases t
/-- line number and key -/
noncomputable def gS (m i S L p : Nat) : Bool := decide (p % 27 < L) && (S.testBit (p % 27) && decide (m - spn m i (p % 27) = p / 27))
theorem gS_b {m i S L q : Nat} (h : gS m i S L q = true) : q % 27 < L ∧ S.testBit (q % 27) = true ∧ m - spn m i (q % 27) = q / 27 := by
  unfold gS at h
  rw [Bool.and_eq_true, Bool.and_eq_true] at h
  exact ⟨of_decide_eq_true h.1, h.2.1, of_decide_eq_true h.2.2⟩
theorem gS_i {m i S L q : Nat} (h1 : q % 27 < L) (h2 : S.testBit (q % 27) = true) (h3 : m - spn m i (q % 27) = q / 27) : gS m i S L q = true := by
  unfold gS
  rw [decide_eq_true h1, h2, decide_eq_true h3]
  rfl
theorem gS_n {m i S L q : Nat} (h : ¬ (q % 27 < L ∧ S.testBit (q % 27) = true ∧ m - spn m i (q % 27) = q / 27)) : gS m i S L q = false := by
  cases e : gS m i S L q with
  | false => rfl
  | true => exact absurd (gS_b e) h
theorem gS_skip {m i S l : Nat} (h : S.testBit l = false) (q : Nat) : gS m i S (l + 1) q = gS m i S l q := by
  cases e : gS m i S l q with
  | true =>
    have := gS_b e
    exact gS_i (by omega) this.2.1 this.2.2
  | false =>
    refine gS_n (fun z => ?_)
    by_cases y : q % 27 = l
    · rw [y, h] at z
      exact absurd z.2.1 (by decide)
    · rw [gS_i (by omega) z.2.1 z.2.2] at e
      cases e
theorem gS_new {m i S l : Nat} (hl : l < 27) (h : S.testBit l = true) : gS m i S l (27 * (m - spn m i l) + l) = false ∧ gS m i S (l + 1) (27 * (m - spn m i l) + l) = true ∧ (∀ q, ¬ q = 27 * (m - spn m i l) + l → gS m i S (l + 1) q = gS m i S l q) ∧ ∀ q, gS m i S l q = true → q % 27 < l := by
  have e1 : (27 * (m - spn m i l) + l) % 27 = l := by omega
  have e2 : (27 * (m - spn m i l) + l) / 27 = m - spn m i l := by omega
  refine ⟨gS_n (fun z => by rw [e1] at z; omega), gS_i (by rw [e1]; omega) (by rw [e1]; exact h) (by rw [e1, e2]), fun q hq => ?_, fun q hq => (gS_b hq).1⟩
  cases e : gS m i S l q with
  | true =>
    have := gS_b e
    exact gS_i (by omega) this.2.1 this.2.2
  | false =>
    refine gS_n (fun z => ?_)
    by_cases y : q % 27 = l
    · rw [y] at z
      omega
    · rw [gS_i (by omega) z.2.1 z.2.2] at e
      cases e
set_option maxHeartbeats 1000000 in
theorem cw_run {m : Nat} {i j : Int} {T : Int} {l f many : Nat} {ln lf : Int} {nf ls gr : Nat} {P : Nat → Bool} {o : zO_X11_cross} (hm : many = cnF P 243) (hf : f < 9) : ∀ (k cl cf : Nat), k ≤ many → SW P f k cl cf → JE (zg_X11_cross (m : Int) T) (153, i, j, (l : Int), (f : Int), (k : Int), ln, lf, (many : Int), nf, ls, gr, cl, cf) o → ∃ k' cl' cf', k' ≤ many ∧ k' < 7 ∧ SW P f k' cl' cf' ∧ (k' = 0 ∨ zget cf' (k' - 1) ≤ (f : Int)) ∧ JE (zg_X11_cross (m : Int) T) (15, i, j, (l : Int) + 1, (f : Int), (k' : Int), ln, lf, (many : Int) + 1, nf, ls, gr, zset cl' k' (l : Int), zset cf' k' (f : Int)) o := by
  have last : ∀ (k cl cf : Nat), k ≤ many → SW P f k cl cf → (k = 0 ∨ zget cf (k - 1) ≤ (f : Int)) → JE (zg_X11_cross (m : Int) T) (210, i, j, (l : Int), (f : Int), (k : Int), ln, lf, (many : Int), nf, ls, gr, cl, cf) o → ∃ k' cl' cf', k' ≤ many ∧ k' < 7 ∧ SW P f k' cl' cf' ∧ (k' = 0 ∨ zget cf' (k' - 1) ≤ (f : Int)) ∧ JE (zg_X11_cross (m : Int) T) (15, i, j, (l : Int) + 1, (f : Int), (k' : Int), ln, lf, (many : Int) + 1, nf, ls, gr, zset cl' k' (l : Int), zset cf' k' (f : Int)) o := by
    intro k cl cf hk hS hs h
    by_cases c : k < 7
    · have h := JE_dn (s' := (15, i, j, (l : Int) + 1, (f : Int), (k : Int), ln, lf, (many : Int) + 1, nf, ls, gr, zset cl k (l : Int), zset cf k (f : Int))) (by
        show zg_X11_cross_210 (m : Int) T i j (l : Int) (f : Int) (k : Int) ln lf (many : Int) nf ls gr cl cf = _
        unfold zg_X11_cross_210
        rw [if_neg (by omega), Int.toNat_natCast]) h
      exact ⟨k, cl, cf, hk, c, hS, hs, h⟩
    · exact (JE_none (by
        show zg_X11_cross_210 (m : Int) T i j (l : Int) (f : Int) (k : Int) ln lf (many : Int) nf ls gr cl cf = _
        unfold zg_X11_cross_210
        rw [if_pos (by omega)]) h).elim
  intro k
  induction k with
  | zero =>
    intro cl cf hk hS h
    have h := JE_dn (s' := (210, i, j, (l : Int), (f : Int), ((0 : Nat) : Int), ln, lf, (many : Int), nf, ls, gr, cl, cf)) (by
      show zg_X11_cross_153 (m : Int) T i j (l : Int) (f : Int) ((0 : Nat) : Int) ln lf (many : Int) nf ls gr cl cf = _
      unfold zg_X11_cross_153
      rw [if_neg (by decide), if_pos (by decide)]) h
    exact last 0 cl cf hk hS (Or.inl rfl) h
  | succ k ih =>
    intro cl cf hk hS h
    by_cases z : zout (((k + 1 : Nat) : Int))
    · exact (JE_none (by
        show zg_X11_cross_153 (m : Int) T i j (l : Int) (f : Int) ((k + 1 : Nat) : Int) ln lf (many : Int) nf ls gr cl cf = _
        unfold zg_X11_cross_153
        rw [if_pos z]) h).elim
    · by_cases c1 : k < 7
      · by_cases c2 : zget cf k ≤ (f : Int)
        · have h := JE_dn (s' := (210, i, j, (l : Int), (f : Int), ((k + 1 : Nat) : Int), ln, lf, (many : Int), nf, ls, gr, cl, cf)) (by
            show zg_X11_cross_153 (m : Int) T i j (l : Int) (f : Int) ((k + 1 : Nat) : Int) ln lf (many : Int) nf ls gr cl cf = _
            unfold zg_X11_cross_153
            rw [if_neg z, if_neg (by omega), if_neg (by omega), if_neg (by unfold zout; omega), show Int.toNat (((k + 1 : Nat) : Int) - (1 : Int)) = k by omega, if_pos c2]) h
          exact last (k + 1) cl cf hk hS (Or.inr (by rw [show k + 1 - 1 = k by omega]; exact c2)) h
        · by_cases c3 : k + 1 < 7
          · have h := JE_dn (s' := (153, i, j, (l : Int), (f : Int), (k : Int), ln, lf, (many : Int), nf, ls, gr, zset cl (k + 1) (zget cl k), zset cf (k + 1) (zget cf k))) (by
              show zg_X11_cross_153 (m : Int) T i j (l : Int) (f : Int) ((k + 1 : Nat) : Int) ln lf (many : Int) nf ls gr cl cf = _
              unfold zg_X11_cross_153
              rw [if_neg z, if_neg (by omega), if_neg (by omega), if_neg (by unfold zout; omega), show Int.toNat (((k + 1 : Nat) : Int) - (1 : Int)) = k by omega, if_neg c2, if_neg (by omega), Int.toNat_natCast, show ((k + 1 : Nat) : Int) + (-1 : Int) = (k : Int) by omega]) h
            exact ih _ _ (by omega) (SW_step hS (by omega) (by omega)) h
          · exact (JE_none (by
              show zg_X11_cross_153 (m : Int) T i j (l : Int) (f : Int) ((k + 1 : Nat) : Int) ln lf (many : Int) nf ls gr cl cf = _
              unfold zg_X11_cross_153
              rw [if_neg z, if_neg (by omega), if_neg (by omega), if_neg (by unfold zout; omega), show Int.toNat (((k + 1 : Nat) : Int) - (1 : Int)) = k by omega, if_neg c2, if_pos (by omega)]) h).elim
      · exact (JE_none (by
          show zg_X11_cross_153 (m : Int) T i j (l : Int) (f : Int) ((k + 1 : Nat) : Int) ln lf (many : Int) nf ls gr cl cf = _
          unfold zg_X11_cross_153
          rw [if_neg z, if_neg (by omega), if_pos (by omega)]) h).elim
set_option maxHeartbeats 2000000 in
theorem cross_run {m : Nat} (h4 : 4 ≤ m) (h9 : m ≤ 9) {i j T : Nat} (hi : i < m) (hj : j < m) (hij : ¬ i = j) (hT : T < 134217728) {ln lf : Int} {nf ls gr : Nat} (hL : LT m ln nf ls gr) {o : zO_X11_cross} : ∀ (d l : Nat) (z6 z7 : Int) (many cl cf : Nat), l + d = lnN m → many = cnF (gS m i (Xc m i j &&& T) l) 243 → SA (gS m i (Xc m i j &&& T) l) cl cf → JE (zg_X11_cross (m : Int) (T : Int)) (15, (i : Int), (j : Int), (l : Int), z6, z7, ln, lf, (many : Int), nf, ls, gr, cl, cf) o → ∃ cl' cf', SA (gS m i (Xc m i j &&& T) (lnN m)) cl' cf' ∧ o = (ln, lf, ((cnF (gS m i (Xc m i j &&& T) (lnN m)) 243 : Nat) : Int), nf, ls, gr, cl', cf') := by
  have r7 := rpg7 h4 h9
  have r27 := lnN_27 h4 h9
  have el : ln = (lnN m : Int) := by rw [hL.1]; unfold lnN; omega
  intro d
  induction d with
  | zero =>
    intro l z6 z7 many cl cf hl hm hS h
    have e := JE_end (o' := (ln, lf, (many : Int), nf, ls, gr, cl, cf)) (by
      show zg_X11_cross_15 (m : Int) (T : Int) (i : Int) (j : Int) (l : Int) z6 z7 ln lf (many : Int) nf ls gr cl cf = _
      unfold zg_X11_cross_15
      rw [if_neg (by unfold zout; omega), if_neg (by unfold zout; omega), if_pos (by omega)]) h
    rw [show l = lnN m by omega] at hm hS
    exact ⟨cl, cf, hS, by rw [e, hm]⟩
  | succ d ih =>
    intro l z6 z7 many cl cf hl hm hS h
    have hl' : l < lnN m := by omega
    obtain ⟨l1, l2⟩ := hL.2.2 l (by rw [← hL.1]; omega)
    obtain ⟨k1, k2⟩ := key_c h4 h9 hi hj hij hl'
    have a1 := rpg1 h4 h9 l (by omega)
    have a2 := rpg2 h4 h9 l (by omega)
    have skip : (Xc m i j &&& T).testBit l = false → JE (zg_X11_cross (m : Int) (T : Int)) (15, (i : Int), (j : Int), (l : Int) + 1, 0, 0, ln, lf, (many : Int), nf, ls, gr, cl, cf) o → ∃ cl' cf', SA (gS m i (Xc m i j &&& T) (lnN m)) cl' cf' ∧ o = (ln, lf, ((cnF (gS m i (Xc m i j &&& T) (lnN m)) 243 : Nat) : Int), nf, ls, gr, cl', cf') := by
      intro hb h
      rw [show (l : Int) + 1 = ((l + 1 : Nat) : Int) by omega] at h
      have ge := gS_skip (m := m) (i := i) hb
      have ce := cnF_eq ge
      refine ih (l + 1) 0 0 many cl cf (by omega) (by rw [ce]; exact hm) ?_ h
      intro q hq pq
      rw [ce]
      exact hS q hq ((ge q).symm.trans pq)
    cases hb : T.testBit l with
    | false =>
      have h := JE_dn (s' := (15, (i : Int), (j : Int), (l : Int) + 1, 0, 0, ln, lf, (many : Int), nf, ls, gr, cl, cf)) (by
        show zg_X11_cross_15 (m : Int) (T : Int) (i : Int) (j : Int) (l : Int) z6 z7 ln lf (many : Int) nf ls gr cl cf = _
        unfold zg_X11_cross_15
        rw [if_neg (by unfold zout; omega), if_neg (by unfold zout; omega), if_neg (by omega), bitL_f hT (by omega) hb, if_pos rfl]) h
      exact skip (by rw [Nat.testBit_and, hb, Bool.and_false]) h
    | true =>
      cases hx : (Xc m i j).testBit l with
      | false =>
        have h := JE_dn (s' := (15, (i : Int), (j : Int), (l : Int) + 1, 0, 0, ln, lf, (many : Int), nf, ls, gr, cl, cf)) (by
          show zg_X11_cross_15 (m : Int) (T : Int) (i : Int) (j : Int) (l : Int) z6 z7 ln lf (many : Int) nf ls gr cl cf = _
          unfold zg_X11_cross_15
          rw [if_neg (by unfold zout; omega), if_neg (by unfold zout; omega), if_neg (by omega), bitL_t hT (by omega) hb, if_neg (by decide), if_neg (by omega), Int.toNat_natCast, l1, l2, k1, hx]
          rfl) h
        exact skip (by rw [Nat.testBit_and, hx, Bool.false_and]) h
      | true =>
        obtain ⟨⟨s1, s2⟩, -, b, kb, kt, kf⟩ := k2 hx
        have hS1 : (Xc m i j &&& T).testBit l = true := by rw [Nat.testBit_and, hx, hb]; rfl
        obtain ⟨n1, n2, n3, n4⟩ := gS_new (m := m) (i := i) (by omega) hS1
        have h := JE_dn (s' := (153, (i : Int), (j : Int), (l : Int), ((m - spn m i l : Nat) : Int), (many : Int), ln, lf, (many : Int), nf, ls, gr, cl, cf)) (by
          show zg_X11_cross_15 (m : Int) (T : Int) (i : Int) (j : Int) (l : Int) z6 z7 ln lf (many : Int) nf ls gr cl cf = _
          unfold zg_X11_cross_15
          rw [if_neg (by unfold zout; omega), if_neg (by unfold zout; omega), if_neg (by omega), bitL_t hT (by omega) hb, if_neg (by decide), if_neg (by omega), Int.toNat_natCast, l1, l2, k1, hx]
          simp only [Option.bind_some]
          rw [if_neg (by decide), kb]
          simp only [Option.bind_some]
          cases b with
          | true => rw [if_neg (by decide), if_neg (by unfold zout; omega), if_neg (by unfold zout; omega), if_neg (by omega), if_neg (by unfold zout; omega), if_neg (by omega), kt rfl]
          | false => rw [if_pos rfl, if_neg (by unfold zout; omega), if_neg (by unfold zout; omega), if_neg (by omega), if_neg (by unfold zout; omega), if_neg (by omega), kf rfl]) h
        obtain ⟨k', cl', cf', c1, c2, c3, c4, h⟩ := cw_run hm (by omega) many cl cf (Nat.le_refl _) (by rw [hm]; exact SW_of hS) h
        obtain ⟨e1, e2⟩ := SW_end (P' := gS m i (Xc m i j &&& T) (l + 1)) c3 (by omega) c4 (by omega) (by omega) n1 n2 n3 n4
        rw [show (l : Int) + 1 = ((l + 1 : Nat) : Int) by omega, show (many : Int) + 1 = ((many + 1 : Nat) : Int) by omega] at h
        exact ih (l + 1) _ _ (many + 1) _ _ (by omega) (by rw [e2, hm]) e1 h
