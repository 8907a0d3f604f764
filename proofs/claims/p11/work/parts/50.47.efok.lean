section
theorem jstep_r {S O : Type} (f : S → Option O) (t : S) : jstep f (some (.inr t)) = f t := rfl
theorem jrun_u {S O : Type} (g : S → Option (O ⊕ S)) (s : S) : jrun g jfuel s = jstep (jrun g 999999999) (g s) := rfl
/-! the reference's entries are the class's: seen from a corner each triangle has a far corner, and a corner that isn't near is the far one of just one triangle -/
theorem bleF {a b : Nat} (h : b < a) : Nat.ble a b = false := by
  cases e : Nat.ble a b with
  | false => rfl
  | true => exact absurd (Nat.le_of_ble_eq_true e) (by omega)
theorem beqF {a b : Nat} (h : ¬ a = b) : Nat.beq a b = false := by
  cases e : Nat.beq a b with
  | false => rfl
  | true => exact absurd (Nat.eq_of_beq_eq_true e) h
theorem beqE {a b : Nat} (h : Nat.beq a b = true) : a = b := Nat.eq_of_beq_eq_true h
theorem allF_mk {f : Nat → Bool} : ∀ c : Nat, (∀ m, m < c → f m = true) → allF f 0 c = true := by
  intro c
  induction c with
  | zero => intro _; rfl
  | succ c ih =>
    intro h
    show (match f (0 + c) with
      | true => allF f 0 c
      | false => false) = true
    rw [Nat.zero_add, h c (by omega)]
    exact ih (fun m hm => h m (by omega))
theorem notT {b : Bool} (h : (!b) = true) : b = false := by cases b with | false => rfl | true => cases h
theorem orF {a b : Bool} (h : (a || b) = true) (ha : a = false) : b = true := by rw [ha] at h; exact h
def actT (m TA TB TC i t : Nat) : Prop := t < m - 2 ∧ cI TA TB TC i t = false
theorem psL_ok {m TA TB TC E i : Nat} {k : Nat → Bool} : ∀ (l : List Nat) (M : Nat), psL m TA TB TC E i k l M = true → (∃ M', k M' = true ∧ ∀ b, M'.testBit b = true → M.testBit b = true ∨ ∃ t, t ∈ l ∧ actT m TA TB TC i t ∧ fV TA TB TC E i t = b) ∧ (∀ t, t ∈ l → actT m TA TB TC i t → okV (eR E i (zslot TA t)) (eR E i (zslot TB t)) (eR E i (zslot TC t)) = true ∧ M.testBit (fV TA TB TC E i t) = false) ∧ ∀ t u, t ∈ l → u ∈ l → actT m TA TB TC i t → actT m TA TB TC i u → fV TA TB TC E i t = fV TA TB TC E i u → t = u := by
  intro l
  induction l with
  | nil =>
    intro M h
    exact ⟨⟨M, h, fun b hb => Or.inl hb⟩, fun t ht => (by cases ht), fun t u ht => (by cases ht)⟩
  | cons t l ih =>
    intro M h
    have h : (match Nat.ble (m - 2) t with
      | true => psL m TA TB TC E i k l M
      | false => frN (zslot TA t) (fun a => frN (zslot TB t) (fun b => frN (zslot TC t) (fun c => match Nat.beq a i || (Nat.beq b i || Nat.beq c i) with
        | true => psL m TA TB TC E i k l M
        | false => frN (eR E i a) (fun x => frN (eR E i b) (fun y => frN (eR E i c) (fun z => match okV x y z with
          | false => false
          | true => frN (far3 x y z a b c) (fun f => match M.testBit f with
            | true => false
            | false => frN (M ||| 2 ^ f) (psL m TA TB TC E i k l))))))))) = true := h
    have pass : ¬ actT m TA TB TC i t → psL m TA TB TC E i k l M = true → (∃ M', k M' = true ∧ ∀ b, M'.testBit b = true → M.testBit b = true ∨ ∃ u, u ∈ t :: l ∧ actT m TA TB TC i u ∧ fV TA TB TC E i u = b) ∧ (∀ u, u ∈ t :: l → actT m TA TB TC i u → okV (eR E i (zslot TA u)) (eR E i (zslot TB u)) (eR E i (zslot TC u)) = true ∧ M.testBit (fV TA TB TC E i u) = false) ∧ ∀ v u, v ∈ t :: l → u ∈ t :: l → actT m TA TB TC i v → actT m TA TB TC i u → fV TA TB TC E i v = fV TA TB TC E i u → v = u := by
      intro na hp
      obtain ⟨⟨M', p1, p2⟩, p3, p4⟩ := ih M hp
      refine ⟨⟨M', p1, fun b hb => ?_⟩, fun u hu ha => ?_, fun v u hv hu av au e => ?_⟩
      · rcases p2 b hb with q | ⟨u, q1, q2, q3⟩
        · exact Or.inl q
        · exact Or.inr ⟨u, List.mem_cons_of_mem _ q1, q2, q3⟩
      · rcases List.mem_cons.mp hu with q | q
        · rw [q] at ha; exact absurd ha na
        · exact p3 u q ha
      · rcases List.mem_cons.mp hv with q | q
        · rw [q] at av; exact absurd av na
        · rcases List.mem_cons.mp hu with q' | q'
          · rw [q'] at au; exact absurd au na
          · exact p4 v u q q' av au e
    cases e1 : Nat.ble (m - 2) t with
    | true =>
      rw [e1] at h
      exact pass (fun a => by have := Nat.le_of_ble_eq_true e1; have := a.1; omega) h
    | false =>
      rw [e1] at h
      simp only [frN_e] at h
      have lt : t < m - 2 := by
        apply Classical.byContradiction
        intro z
        rw [Nat.ble_eq_true_of_le (by omega)] at e1
        cases e1
      cases e2 : cI TA TB TC i t with
      | true =>
        have e2' : (Nat.beq (zslot TA t) i || (Nat.beq (zslot TB t) i || Nat.beq (zslot TC t) i)) = true := e2
        rw [e2'] at h
        exact pass (fun a => by
          have a2 := a.2
          rw [e2] at a2
          cases a2) h
      | false =>
        have e2' : (Nat.beq (zslot TA t) i || (Nat.beq (zslot TB t) i || Nat.beq (zslot TC t) i)) = false := e2
        rw [e2'] at h
        have h : (match okV (eR E i (zslot TA t)) (eR E i (zslot TB t)) (eR E i (zslot TC t)) with
          | false => false
          | true => match M.testBit (fV TA TB TC E i t) with
            | true => false
            | false => psL m TA TB TC E i k l (M ||| 2 ^ fV TA TB TC E i t)) = true := h
        cases e3 : okV (eR E i (zslot TA t)) (eR E i (zslot TB t)) (eR E i (zslot TC t)) with
        | false => rw [e3] at h; cases h
        | true =>
          rw [e3] at h
          cases e4 : M.testBit (fV TA TB TC E i t) with
          | true =>
            have h : (match M.testBit (fV TA TB TC E i t) with
              | true => false
              | false => psL m TA TB TC E i k l (M ||| 2 ^ fV TA TB TC E i t)) = true := h
            rw [e4] at h
            cases h
          | false =>
            have h : (match M.testBit (fV TA TB TC E i t) with
              | true => false
              | false => psL m TA TB TC E i k l (M ||| 2 ^ fV TA TB TC E i t)) = true := h
            rw [e4] at h
            obtain ⟨⟨M', p1, p2⟩, p3, p4⟩ := ih _ h
            have sep : ∀ u, u ∈ l → actT m TA TB TC i u → M.testBit (fV TA TB TC E i u) = false ∧ ¬ fV TA TB TC E i u = fV TA TB TC E i t := by
              intro u hu ha
              have q := (p3 u hu ha).2
              rw [Nat.testBit_or, Bool.or_eq_false_iff, Nat.testBit_two_pow] at q
              exact ⟨q.1, fun z => of_decide_eq_false q.2 z.symm⟩
            refine ⟨⟨M', p1, fun b hb => ?_⟩, fun u hu ha => ?_, fun v u hv hu av au e => ?_⟩
            · rcases p2 b hb with q | ⟨u, q1, q2, q3⟩
              · rw [Nat.testBit_or, Bool.or_eq_true, Nat.testBit_two_pow] at q
                rcases q with q | q
                · exact Or.inl q
                · exact Or.inr ⟨t, List.mem_cons_self .., ⟨lt, e2⟩, of_decide_eq_true q⟩
              · exact Or.inr ⟨u, List.mem_cons_of_mem _ q1, q2, q3⟩
            · rcases List.mem_cons.mp hu with q | q
              · rw [q]; exact ⟨e3, e4⟩
              · exact ⟨(p3 u q ha).1, (sep u q ha).1⟩
            · rcases List.mem_cons.mp hv with q | q
              · rcases List.mem_cons.mp hu with q' | q'
                · rw [q, q']
                · rw [q] at e; exact absurd e.symm (sep u q' au).2
              · rcases List.mem_cons.mp hu with q' | q'
                · rw [q'] at e; exact absurd e (sep v q av).2
                · exact p4 v u q q' av au e
theorem xL_ok {m T E i M : Nat} : ∀ l : List (Nat × Nat), xL m T E i M l = true → ∀ p, p ∈ l → x1 m T E i M p.1 p.2 (eR E i p.1) = true := by
  intro l
  induction l with
  | nil => intro _ p hp; cases hp
  | cons y l ih =>
    intro h p hp
    have h : frN (eR E i y.1) (fun e => match x1 m T E i M y.1 y.2 e with
      | true => xL m T E i M l
      | false => false) = true := h
    rw [frN_e] at h
    cases e : x1 m T E i M y.1 y.2 (eR E i y.1) with
    | false => rw [e] at h; cases h
    | true =>
      rw [e] at h
      rcases List.mem_cons.mp hp with q | q
      · rw [q]; exact e
      · exact ih h p q
noncomputable def rwK (m i x : Nat) : Bool := match decide (i < m ∧ x < m ∧ ¬ x = i) with
  | false => true
  | true => decide ((x, bt m i x) ∈ rwT m i)
theorem rw_tab : ∀ m : Nat, 4 ≤ m → m ≤ 9 → allF (fun i => allF (fun x => rwK m i x) 0 9) 0 9 = true := pg_cases (by decide +kernel) (by decide +kernel) (by decide +kernel) (by decide +kernel) (by decide +kernel) (by decide +kernel)
theorem rw_ok {m i x : Nat} (h4 : 4 ≤ m) (h9 : m ≤ 9) (hi : i < m) (hx : x < m) (hxi : ¬ x = i) : (x, bt m i x) ∈ rwT m i := by
  have t := allF_at (allF_at (rw_tab m h4 h9) (m := i) (by omega)) (m := x) (by omega)
  have t : rwK m i x = true := t
  unfold rwK at t
  rw [decide_eq_true (show i < m ∧ x < m ∧ ¬ x = i from ⟨hi, hx, hxi⟩)] at t
  exact of_decide_eq_true t
section
variable {m : Nat} {c : Int} {TA TB TC E i : Nat}
theorem ci_of (h : chI m c TA TB TC E i = true) : (0 ≤ c ∧ c < 134217728 ∧ 4 ≤ m ∧ i < m) ∧ eR E i i = 0 ∧ psL m TA TB TC E i (fun M => xL m c.toNat E i M (rwT m i)) [0, 1, 2, 3, 4, 5, 6] 0 = true := by
  unfold chI at h
  rw [Bool.and_eq_true] at h
  obtain ⟨h1, h2⟩ := h
  unfold chX at h2
  rw [Bool.and_eq_true] at h2
  exact ⟨of_decide_eq_true h1, beqE h2.1, h2.2⟩
theorem in7 {t : Nat} (h : t < 7) : t ∈ [0, 1, 2, 3, 4, 5, 6] := by
  have : t = 0 ∨ t = 1 ∨ t = 2 ∨ t = 3 ∨ t = 4 ∨ t = 5 ∨ t = 6 := by omega
  rcases this with rfl | rfl | rfl | rfl | rfl | rfl | rfl <;> decide
theorem c1_of (h9 : m ≤ 9) (h : chI m c TA TB TC E i = true) {t : Nat} (ht : t < m - 2) (hn : cI TA TB TC i t = false) : fC TA TB TC E i t := by
  have q := ((psL_ok _ _ (ci_of h).2.2).2.1 t (in7 (by omega)) ⟨ht, hn⟩).1
  unfold okV at q
  rw [Bool.and_eq_true, Bool.and_eq_true, Bool.and_eq_true] at q
  obtain ⟨q1, q2, q3, q4⟩ := q
  refine ⟨Nat.le_of_ble_eq_true q1, Nat.le_of_ble_eq_true q2, Nat.le_of_ble_eq_true q3, ?_⟩
  unfold fV
  cases e1 : Nat.beq (eR E i (zslot TA t)) (eR E i (zslot TB t) + eR E i (zslot TC t)) with
  | true => exact Or.inl ⟨rfl, beqE e1⟩
  | false =>
    cases e2 : Nat.beq (eR E i (zslot TB t)) (eR E i (zslot TA t) + eR E i (zslot TC t)) with
    | true => exact Or.inr (Or.inl ⟨rfl, beqE e2⟩)
    | false => exact Or.inr (Or.inr ⟨rfl, beqE (orF (orF q4 e1) e2)⟩)
theorem c2_of (h9 : m ≤ 9) (h : chI m c TA TB TC E i = true) {t u : Nat} (ht : t < m - 2) (hu : u < m - 2) (hn : cI TA TB TC i t = false) (hn' : cI TA TB TC i u = false) (e : fV TA TB TC E i t = fV TA TB TC E i u) : t = u := (psL_ok _ _ (ci_of h).2.2).2.2 t u (in7 (by omega)) (in7 (by omega)) ⟨ht, hn⟩ ⟨hu, hn'⟩ e
theorem cx_of (h9 : m ≤ 9) (h : chI m c TA TB TC E i = true) {x : Nat} (hx : x < m) (hxi : ¬ x = i) : ((nearB m c i x = true ∧ eR E i x = 1) ∨ (nearB m c i x = false ∧ ∃ t, t < m - 2 ∧ cI TA TB TC i t = false ∧ fV TA TB TC E i t = x)) ∧ eR E i x ≤ 21 ∧ eR E i x = eR E x i ∧ (x = i + 1 → eR E i x = 1) ∧ (i < x → x + 1 < m → eR E i (x + 1) + eR E i (x - 1) = tE m E x * eR E i x) := by
  obtain ⟨⟨c0, c9, h4, hi⟩, -, hp⟩ := ci_of h
  obtain ⟨⟨M, p1, p2⟩, -, -⟩ := psL_ok _ _ hp
  have q := xL_ok _ p1 _ (rw_ok h4 h9 hi hx hxi)
  have q : x1 m c.toNat E i M x (bt m i x) (eR E i x) = true := q
  have nb := near_b h4 h9 (show c.toNat < 134217728 by omega) (show i < 9 by omega) (show x < 9 by omega) (fun z => hxi z.symm)
  rw [show ((c.toNat : Nat) : Int) = c by omega] at nb
  unfold x1 at q
  rw [← nb, Bool.and_eq_true, Bool.and_eq_true, Bool.and_eq_true, Bool.and_eq_true] at q
  obtain ⟨q1, q2, q3, q4, q5⟩ := q
  refine ⟨?_, Nat.le_of_ble_eq_true q2, beqE q3, fun e => ?_, fun a b => ?_⟩
  · cases n : nearB m c i x with
    | true =>
      rw [n] at q1
      exact Or.inl ⟨rfl, beqE q1⟩
    | false =>
      rw [n] at q1
      rcases p2 x q1 with z | ⟨t, -, z1, z2⟩
      · rw [Nat.zero_testBit] at z; cases z
      · exact Or.inr ⟨rfl, t, z1.1, z1.2, z2⟩
  · subst e
    exact beqE (orF q4 (by rw [Nat.beq_refl]; rfl))
  · exact beqE (orF (orF q5 (bleF a)) (bleF b))
theorem c3_of (h9 : m ≤ 9) (h : chI m c TA TB TC E i = true) {x : Nat} (hx : x < m) (hxi : ¬ x = i) (hn : nearB m c i x = false) : ∃ t, t < m - 2 ∧ cI TA TB TC i t = false ∧ fV TA TB TC E i t = x := by
  rcases (cx_of h9 h hx hxi).1 with q | q
  · rw [hn] at q; exact absurd q.1 (by decide)
  · exact q.2
theorem c4_of (h9 : m ≤ 9) (h : chI m c TA TB TC E i = true) {x : Nat} (hx : x < m) (hxi : ¬ x = i) (hn : nearB m c i x = true) : eR E i x = 1 := by
  rcases (cx_of h9 h hx hxi).1 with q | q
  · exact q.2
  · rw [hn] at q; exact absurd q.1 (by decide)
theorem c5_of (h9 : m ≤ 9) (h : chI m c TA TB TC E i = true) {x : Nat} (hx : x < m) : eR E i x ≤ 21 ∧ eR E i x = eR E x i ∧ (x = i → eR E i x = 0) ∧ (x = i + 1 → eR E i x = 1) ∧ (i < x → x + 1 < m → eR E i (x + 1) + eR E i (x - 1) = tE m E x * eR E i x) := by
  by_cases hxi : x = i
  · subst hxi
    have z := (ci_of h).2.1
    exact ⟨by omega, rfl, fun _ => z, fun e => by omega, fun a => by omega⟩
  · obtain ⟨-, q1, q2, q3, q4⟩ := cx_of h9 h hx hxi
    exact ⟨q1, q2, fun e => absurd e hxi, q3, q4⟩
end
theorem ck_at {m k : Nat} (h4 : 4 ≤ m) (h9 : m ≤ 9) (hk : (k : Int) < pg8 m) {i : Nat} (hi : i < m) : chI m (zget (pg6 m) k) (sl (trA m) k) (sl (trB m) k) (sl (trC m) k) (sE m k) i = true ∧ zf_X5_trianglesAt m (zget (pg6 m) k) (i : Int) = some ((tE m (sE m k) i : Nat) : Int) := by
  have r8 := rpg8 h4 h9
  have r6 := rpg6 h4 h9 k (by omega)
  have t := ck_all m h4 h9 k hk
  unfold chK at t
  rw [frN_e, frN_e, frN_e, frN_e, frN_e] at t
  have q := allF_at t (m := i) (by omega)
  have q : (Nat.ble m i || (chX m (zget (pg6 m) k).toNat (sl (trA m) k) (sl (trB m) k) (sl (trC m) k) (sE m k) i && decide (zf_X5_trianglesAt m (zget (pg6 m) k) (i : Int) = some ((tE m (sE m k) i : Nat) : Int)))) = true := q
  have q := orF q (bleF hi)
  rw [Bool.and_eq_true] at q
  refine ⟨?_, of_decide_eq_true q.2⟩
  unfold chI
  rw [decide_eq_true (show 0 ≤ zget (pg6 m) k ∧ zget (pg6 m) k < 134217728 ∧ 4 ≤ m ∧ i < m by omega), q.1]
  rfl
noncomputable def trS (m : Nat) (c : Int) (A B C : Nat) (s : Bool × Nat) (q : Nat) : Bool × Nat := match goodQ m c q with
  | true => (match s.1 with
    | true => decide (zget A s.2 = ((q / 81 : Nat) : Int) ∧ zget B s.2 = ((q / 9 % 9 : Nat) : Int) ∧ zget C s.2 = ((q % 9 : Nat) : Int))
    | false => false, s.2 + 1)
  | false => s
theorem trQ_ok {m T A B C : Nat} {c : Int} : ∀ l : List (Nat × Nat), (∀ x, x ∈ l → goodQ m c x.1 = Nat.beq (T &&& x.2) x.2) → ∀ t : Nat, trQ T A B C l t = true → ((l.map (fun x => x.1)).foldl (trS m c A B C) (true, t)).1 = true := by
  intro l
  induction l with
  | nil => intro _ t _; rfl
  | cons x l ih =>
    intro h t ht
    have e := h x (List.mem_cons_self ..)
    have r := ih (fun y hy => h y (List.mem_cons_of_mem _ hy))
    have ht : (match Nat.beq (T &&& x.2) x.2 with
      | true => (match decide (zget A t = ((x.1 / 81 : Nat) : Int) ∧ zget B t = ((x.1 / 9 % 9 : Nat) : Int) ∧ zget C t = ((x.1 % 9 : Nat) : Int)) with
        | true => trQ T A B C l (t + 1)
        | false => false)
      | false => trQ T A B C l t) = true := ht
    show ((l.map (fun x => x.1)).foldl (trS m c A B C) (trS m c A B C (true, t) x.1)).1 = true
    cases b : Nat.beq (T &&& x.2) x.2 with
    | false =>
      have st : trS m c A B C (true, t) x.1 = (true, t) := by
        unfold trS
        rw [e, b]
      rw [b] at ht
      rw [st]
      exact r t ht
    | true =>
      rw [b] at ht
      cases d : decide (zget A t = ((x.1 / 81 : Nat) : Int) ∧ zget B t = ((x.1 / 9 % 9 : Nat) : Int) ∧ zget C t = ((x.1 % 9 : Nat) : Int)) with
      | false => rw [d] at ht; cases ht
      | true =>
        rw [d] at ht
        have st : trS m c A B C (true, t) x.1 = (true, t + 1) := by
          unfold trS
          rw [e, b]
          show (decide (zget A t = ((x.1 / 81 : Nat) : Int) ∧ zget B t = ((x.1 / 9 % 9 : Nat) : Int) ∧ zget C t = ((x.1 % 9 : Nat) : Int)), t + 1) = _
          rw [d]
        rw [st]
        exact r (t + 1) ht
theorem tk_at {m k : Nat} (h4 : 4 ≤ m) (h9 : m ≤ 9) (hk : (k : Int) < pg8 m) : TAI m (zget (pg6 m) k) (sl (trA m) k) (sl (trB m) k) (sl (trC m) k) 729 := by
  have r8 := rpg8 h4 h9
  have r6 := rpg6 h4 h9 k (by omega)
  have t := tk_all m h4 h9 k hk
  unfold tkK at t
  rw [frN_e, frN_e, frN_e, frN_e] at t
  have b := prT_b h4 h9 (show (zget (pg6 m) k).toNat < 134217728 by omega)
  rw [show (((zget (pg6 m) k).toNat : Nat) : Int) = zget (pg6 m) k by omega] at b
  have s := trQ_ok (prT m) b 0 t
  rw [prT_1 h4 h9] at s
  refine (trK_ok 729).2 ?_
  have f := fold_sh (trS m (zget (pg6 m) k) (sl (trA m) k) (sl (trB m) k) (sl (trC m) k)) (true, 0) (fun x q h => by
    unfold trS
    rw [sh_no h]) (trK m (zget (pg6 m) k) (sl (trA m) k) (sl (trB m) k) (sl (trC m) k)) rfl (fun p => rfl) 729
  rw [f]
  exact s
/-! the class's entry -/
noncomputable def triV (m : Nat) (c : Int) (k : Nat) : Int := (zf_X5_trianglesAt m c (k : Int)).getD 0
theorem triV_e {m : Nat} (h4 : 4 ≤ m) (h9 : m ≤ 9) (c : Int) {k : Nat} (hk : k < 100) : zf_X5_trianglesAt m c (k : Int) = some (triV m c k) := by
  obtain ⟨o, ho, -⟩ := ok_triAt m c (k : Int) h4 h9 (by omega) (by omega)
  unfold triV
  rw [ho]
  rfl
noncomputable def rcE (m : Nat) (c : Int) (i d : Nat) : Int × Int := Nat.rec (motive := fun _ => Int × Int) (0, 1) (fun d p => (p.2, triV m c (i + 1 + d) * p.2 - p.1)) d
theorem en_run {m : Nat} (h4 : 4 ≤ m) (h9 : m ≤ 9) (c : Int) {a b : Int} {i j : Nat} (ha : ¬ zout a) (hb : ¬ zout b) (e1 : zmin a b = (i : Int)) (e2 : zmax a b = (j : Int)) (hj : j < m) : ∀ d k : Nat, i + 1 + k + d = j → JE (zg_X5_entryOf m) (22, c, a, b, (rcE m c i k).1, (rcE m c i k).2, ((i + 1 + k : Nat) : Int)) (rcE m c i (k + d)).2 := by
  intro d
  induction d with
  | zero =>
    intro k hk
    refine JE_in ?_
    show zg_X5_entryOf_22 m c a b (rcE m c i k).1 (rcE m c i k).2 ((i + 1 + k : Nat) : Int) = _
    unfold zg_X5_entryOf_22
    rw [e2, if_neg ha, if_neg hb, if_neg (by unfold zout; omega), if_neg (by unfold zout; omega), if_pos (by omega)]
    rfl
  | succ d ih =>
    intro k hk
    have r := ih (k + 1) (by omega)
    rw [show k + 1 + d = k + (d + 1) by omega] at r
    refine JE_up ?_ r
    show zg_X5_entryOf_22 m c a b (rcE m c i k).1 (rcE m c i k).2 ((i + 1 + k : Nat) : Int) = _
    unfold zg_X5_entryOf_22
    rw [e2, if_neg ha, if_neg hb, if_neg (by unfold zout; omega), if_neg (by unfold zout; omega), if_neg (by omega), triV_e h4 h9 c (by omega)]
    simp only [Option.bind_some]
    rw [show ((i + 1 + k : Nat) : Int) + (1 : Int) = ((i + 1 + (k + 1) : Nat) : Int) by omega]
    rfl
theorem en_e {m : Nat} (h4 : 4 ≤ m) (h9 : m ≤ 9) (c : Int) {a b : Int} {i j : Nat} (ha : ¬ zout a) (hb : ¬ zout b) (hab : ¬ a = b) (e1 : zmin a b = (i : Int)) (e2 : zmax a b = (j : Int)) (hij : i < j) (hj : j < m) {r : Int} (h : zf_X5_entryOf m c a b = some r) : r = (rcE m c i (j - (i + 1))).2 := by
  have hx := JE_of (show jrun (zg_X5_entryOf m) jfuel (0, c, a, b, 0, 0, 0) = some r from h)
  have hx := JE_dn (s' := (22, c, a, b, 0, 1, ((i + 1 + 0 : Nat) : Int))) (by
    show zg_X5_entryOf_0 m c a b 0 0 0 = _
    unfold zg_X5_entryOf_0
    rw [if_neg ha, if_neg hb, if_neg hab, e1]
    rfl) hx
  have r := en_run h4 h9 c ha hb e1 e2 hj (j - (i + 1)) 0 (by omega)
  rw [Nat.zero_add] at r
  exact JE_det hx r
theorem Ev_up {m : Nat} (h4 : 4 ≤ m) (h9 : m ≤ 9) {c : Int} {i j : Nat} (hij : i < j) (hj : j < m) {r : Int} (h : zf_X5_entryOf m c (i : Int) (j : Int) = some r) : r = (rcE m c i (j - (i + 1))).2 := en_e h4 h9 c (by unfold zout; omega) (by unfold zout; omega) (by omega) (by unfold zmin; split <;> omega) (by unfold zmax; split <;> omega) hij hj h
theorem Ev_dn {m : Nat} (h4 : 4 ≤ m) (h9 : m ≤ 9) {c : Int} {i j : Nat} (hij : i < j) (hj : j < m) {r : Int} (h : zf_X5_entryOf m c (j : Int) (i : Int) = some r) : r = (rcE m c i (j - (i + 1))).2 := en_e h4 h9 c (by unfold zout; omega) (by unfold zout; omega) (by omega) (by unfold zmin; split <;> omega) (by unfold zmax; split <;> omega) hij hj h
theorem Ev_eq {m : Nat} {c : Int} {i j : Nat} (hi : i < 100) (hij : i = j) {r : Int} (h : zf_X5_entryOf m c (i : Int) (j : Int) = some r) : r = 0 := by
  subst hij
  refine JE_end (o' := (0 : Int)) ?_ (JE_of (show jrun (zg_X5_entryOf m) jfuel (0, c, (i : Int), (i : Int), 0, 0, 0) = some r from h))
  show zg_X5_entryOf_0 m c (i : Int) (i : Int) 0 0 0 = _
  unfold zg_X5_entryOf_0
  rw [if_neg (by unfold zout; omega), if_neg (by unfold zout; omega), if_pos rfl]
/-! it is the table's -/
theorem rc_tE {m k : Nat} (h4 : 4 ≤ m) (h9 : m ≤ 9) (hk : (k : Int) < pg8 m) {i : Nat} (hi : i < m) : ∀ d : Nat, i + 1 + d < m → rcE m (zget (pg6 m) k) i d = (((eR (sE m k) i (i + d) : Nat) : Int), ((eR (sE m k) i (i + 1 + d) : Nat) : Int)) := by
  have ci := (ck_at h4 h9 hk hi).1
  intro d
  induction d with
  | zero =>
    intro hd
    have a := (c5_of h9 ci (x := i) hi).2.2.1 rfl
    have b := (c5_of h9 ci (x := i + 1) (by omega)).2.2.2.1 rfl
    show ((0 : Int), (1 : Int)) = _
    rw [Nat.add_zero, Nat.add_zero, a, b]
    rfl
  | succ d ih =>
    intro hd
    have q := ih (by omega)
    have r := (c5_of h9 ci (x := i + 1 + d) (by omega)).2.2.2.2 (by omega) (by omega)
    have tv : triV m (zget (pg6 m) k) (i + 1 + d) = ((tE m (sE m k) (i + 1 + d) : Nat) : Int) := by
      unfold triV
      rw [(ck_at h4 h9 hk (show i + 1 + d < m by omega)).2]
      rfl
    have e : rcE m (zget (pg6 m) k) i (d + 1) = ((rcE m (zget (pg6 m) k) i d).2, triV m (zget (pg6 m) k) (i + 1 + d) * (rcE m (zget (pg6 m) k) i d).2 - (rcE m (zget (pg6 m) k) i d).1) := rfl
    rw [e, q, tv]
    rw [show i + 1 + d - 1 = i + d by omega, show i + 1 + d + 1 = i + 1 + (d + 1) by omega] at r
    refine Prod.ext ?_ ?_
    · show ((eR (sE m k) i (i + 1 + d) : Nat) : Int) = ((eR (sE m k) i (i + (d + 1)) : Nat) : Int)
      rw [show i + (d + 1) = i + 1 + d by omega]
    · show ((tE m (sE m k) (i + 1 + d) : Nat) : Int) * ((eR (sE m k) i (i + 1 + d) : Nat) : Int) - ((eR (sE m k) i (i + d) : Nat) : Int) = ((eR (sE m k) i (i + 1 + (d + 1)) : Nat) : Int)
      have r' : ((eR (sE m k) i (i + 1 + (d + 1)) + eR (sE m k) i (i + d) : Nat) : Int) = ((tE m (sE m k) (i + 1 + d) * eR (sE m k) i (i + 1 + d) : Nat) : Int) := by rw [r]
      rw [Int.natCast_add, Int.natCast_mul] at r'
      omega
theorem ent_tE {m k : Nat} (h4 : 4 ≤ m) (h9 : m ≤ 9) (hk : (k : Int) < pg8 m) {i j : Nat} (hi : i < m) (hj : j < m) : zf_X5_entryOf m (zget (pg6 m) k) (i : Int) (j : Int) = some ((eR (sE m k) i j : Nat) : Int) := by
  obtain ⟨r, hr, -⟩ := ok_X5_entryOf m (zget (pg6 m) k) (i : Int) (j : Int) h4 h9 ⟨k, hk, rfl⟩ (by omega) (by omega) (by omega) (by omega)
  rw [hr]
  congr 1
  by_cases a : i < j
  · rw [Ev_up h4 h9 a hj hr, rc_tE h4 h9 hk hi (j - (i + 1)) (by omega)]
    show ((eR (sE m k) i (i + 1 + (j - (i + 1))) : Nat) : Int) = _
    rw [show i + 1 + (j - (i + 1)) = j by omega]
  · by_cases b : j < i
    · rw [Ev_dn h4 h9 b hi hr, rc_tE h4 h9 hk hj (i - (j + 1)) (by omega)]
      show ((eR (sE m k) j (j + 1 + (i - (j + 1))) : Nat) : Int) = _
      rw [show j + 1 + (i - (j + 1)) = i by omega, (c5_of h9 (ck_at h4 h9 hk hi).1 hj).2.1]
    · have e : i = j := by omega
      rw [Ev_eq (by omega) e hr, (c5_of h9 (ck_at h4 h9 hk hi).1 hj).2.2.1 e.symm]
      rfl
/-! the run -/
theorem nsym_tab : ∀ m : Nat, 4 ≤ m → m ≤ 9 → allF (fun i => allF (fun j => decide (zget (pg3 m) (9 * i + j) = zget (pg3 m) (9 * j + i))) 0 9) 0 9 = true := pg_cases (by decide +kernel) (by decide +kernel) (by decide +kernel) (by decide +kernel) (by decide +kernel) (by decide +kernel)
theorem near_sym {m : Nat} (h4 : 4 ≤ m) (h9 : m ≤ 9) (c : Int) {i j : Nat} (hi : i < m) (hj : j < m) (h : nearB m c i j = true) : nearB m c j i = true := by
  have t := allF_at (allF_at (nsym_tab m h4 h9) (m := i) (by omega)) (m := j) (by omega)
  have t := of_decide_eq_true t
  unfold nearB at h ⊢
  have q := of_decide_eq_true h
  rw [t] at q
  exact decide_eq_true ⟨fun e => q.1 e.symm, q.2⟩
theorem zslot_e {A t : Nat} (h : 0 ≤ zget A t) : zget A t = ((zslot A t : Nat) : Int) := by
  have l : zslot A t < 4294967296 := Nat.mod_lt _ (by decide)
  unfold zget zs at h ⊢
  by_cases c : zslot A t < 2147483648
  · rw [if_pos c]
  · rw [if_neg c] at h
    omega
theorem tri_at {m k : Nat} (h4 : 4 ≤ m) (h9 : m ≤ 9) (hk : (k : Int) < pg8 m) {tA tB tC : Nat} (hT : TAI m (zget (pg6 m) k) tA tB tC 729) {t : Nat} (ht : t < m - 2) : ∃ a b d : Nat, (a < b ∧ b < d ∧ d < m) ∧ (zget tA t = (a : Int) ∧ zget tB t = (b : Int) ∧ zget tC t = (d : Int)) ∧ (zslot (sl (trA m) k) t = a ∧ zslot (sl (trB m) k) t = b ∧ zslot (sl (trC m) k) t = d) ∧ nearB m (zget (pg6 m) k) a b = true ∧ nearB m (zget (pg6 m) k) b d = true ∧ nearB m (zget (pg6 m) k) a d = true := by
  have hc : isCut m (zget (pg6 m) k) := ⟨k, hk, rfl⟩
  have tc := tcn_cut h4 h9 hc
  have T0 := tk_at h4 h9 hk
  obtain ⟨q, q1, q2, q3⟩ := tcn_hit (m := m) (c := zget (pg6 m) k) 729 t (by omega)
  have v := goodQ_v q2
  obtain ⟨a1, a2, a3⟩ := hT q q1 q2
  obtain ⟨b1, b2, b3⟩ := T0 q q1 q2
  rw [q3] at a1 a2 a3 b1 b2 b3
  have s1 := zslot_e (A := sl (trA m) k) (t := t) (by omega)
  have s2 := zslot_e (A := sl (trB m) k) (t := t) (by omega)
  have s3 := zslot_e (A := sl (trC m) k) (t := t) (by omega)
  refine ⟨q / 81, q / 9 % 9, q % 9, v, ⟨a1, a2, a3⟩, ⟨by omega, by omega, by omega⟩, ?_⟩
  unfold goodQ at q2
  rw [Bool.and_eq_true, Bool.and_eq_true, Bool.and_eq_true] at q2
  exact ⟨q2.2.1, q2.2.2.1, q2.2.2.2⟩
noncomputable abbrev fv (m k i t : Nat) : Nat := fV (sl (trA m) k) (sl (trB m) k) (sl (trC m) k) (sE m k) i t
noncomputable abbrev ci (m k i t : Nat) : Bool := cI (sl (trA m) k) (sl (trB m) k) (sl (trC m) k) i t
def FI (m k i fr : Nat) : Prop := (∀ x, x < m → zget fr x = -1 ∨ zget fr x = ((eR (sE m k) i x : Nat) : Int)) ∧ (∀ x, x < m → (x = i ∨ nearB m (zget (pg6 m) k) i x = true) → ¬ zget fr x = -1) ∧ (∀ t, t < m - 2 → ci m k i t = false → ¬ zget fr (fv m k i t) = -1 → ¬ zget fr (zslot (sl (trA m) k) t) = -1 ∧ ¬ zget fr (zslot (sl (trB m) k) t) = -1 ∧ ¬ zget fr (zslot (sl (trC m) k) t) = -1)
/-- just one of three isn't known -/
def ON (fr a b d : Nat) : Prop := (zget fr a = -1 ∧ ¬ zget fr b = -1 ∧ ¬ zget fr d = -1) ∨ (¬ zget fr a = -1 ∧ zget fr b = -1 ∧ ¬ zget fr d = -1) ∨ (¬ zget fr a = -1 ∧ ¬ zget fr b = -1 ∧ zget fr d = -1)
theorem ci_f {m k i t a b d : Nat} (e : zslot (sl (trA m) k) t = a ∧ zslot (sl (trB m) k) t = b ∧ zslot (sl (trC m) k) t = d) (ha : ¬ a = i) (hb : ¬ b = i) (hd : ¬ d = i) : ci m k i t = false := by
  show cI (sl (trA m) k) (sl (trB m) k) (sl (trC m) k) i t = false
  unfold cI
  rw [e.1, e.2.1, e.2.2, beqF ha, beqF hb, beqF hd]
  rfl
theorem ci_n {m k i t a b d : Nat} (e : zslot (sl (trA m) k) t = a ∧ zslot (sl (trB m) k) t = b ∧ zslot (sl (trC m) k) t = d) (h : ci m k i t = false) : ¬ a = i ∧ ¬ b = i ∧ ¬ d = i := by
  replace h : cI (sl (trA m) k) (sl (trB m) k) (sl (trC m) k) i t = false := h
  unfold cI at h
  rw [e.1, e.2.1, e.2.2] at h
  refine ⟨fun z => ?_, fun z => ?_, fun z => ?_⟩
  · rw [z, Nat.beq_refl] at h; cases h
  · rw [z, Nat.beq_refl, Bool.true_or, Bool.or_true] at h; cases h
  · rw [z, Nat.beq_refl, Bool.or_true, Bool.or_true] at h; cases h
/-- at the beginning: the corner itself, and those near it -/
theorem FI_0 {m k i fr : Nat} (h4 : 4 ≤ m) (h9 : m ≤ 9) (hk : (k : Int) < pg8 m) (hi : i < m) (h : ∀ x, x < m → (x = i → zget fr x = 0) ∧ (¬ x = i → nearB m (zget (pg6 m) k) i x = true → zget fr x = 1) ∧ (¬ x = i → nearB m (zget (pg6 m) k) i x = false → zget fr x = -1)) : FI m k i fr := by
  have C := (ck_at h4 h9 hk hi).1
  refine ⟨fun x hx => ?_, fun x hx hn => ?_, fun t ht hc hf => ?_⟩
  · obtain ⟨a, b, c⟩ := h x hx
    by_cases e : x = i
    · rw [a e, (c5_of h9 C hx).2.2.1 e]
      exact Or.inr rfl
    · cases q : nearB m (zget (pg6 m) k) i x with
      | true => rw [b e q, c4_of h9 C hx e q]; exact Or.inr rfl
      | false => exact Or.inl (c e q)
  · obtain ⟨a, b, c⟩ := h x hx
    by_cases e : x = i
    · rw [a e]; decide
    · rcases hn with z | z
      · exact absurd z e
      · rw [b e z]; decide
  · exfalso
    obtain ⟨a, b, d, o, -, es, -⟩ := tri_at h4 h9 hk (tk_at h4 h9 hk) ht
    have ne := ci_n es hc
    have F := c1_of h9 C ht hc
    unfold fC at F
    rw [es.1, es.2.1, es.2.2] at F
    have bad : ∀ x, x < m → ¬ x = i → fv m k i t = x → 2 ≤ eR (sE m k) i x → False := by
      intro x hx hxi e h2
      obtain ⟨_, b', c'⟩ := h x hx
      rw [e] at hf
      cases q : nearB m (zget (pg6 m) k) i x with
      | true =>
        have := c4_of h9 C hx hxi q
        omega
      | false => exact hf (c' hxi q)
    obtain ⟨f1, f2, f3, f4⟩ := F
    rcases f4 with ⟨e, s⟩ | ⟨e, s⟩ | ⟨e, s⟩
    · exact bad a (by omega) ne.1 e (by omega)
    · exact bad b (by omega) ne.2.1 e (by omega)
    · exact bad d (by omega) ne.2.2 e (by omega)
/-- the unknown one of three is the far one -/
theorem FI_far {m k i fr : Nat} (h4 : 4 ≤ m) (h9 : m ≤ 9) (hk : (k : Int) < pg8 m) (hi : i < m) (hF : FI m k i fr) {tA tB tC : Nat} (hT : TAI m (zget (pg6 m) k) tA tB tC 729) {t a b d : Nat} (ht : t < m - 2) (o : a < b ∧ b < d ∧ d < m) (es : zslot (sl (trA m) k) t = a ∧ zslot (sl (trB m) k) t = b ∧ zslot (sl (trC m) k) t = d) (n1 : nearB m (zget (pg6 m) k) a b = true) (n2 : nearB m (zget (pg6 m) k) b d = true) (n3 : nearB m (zget (pg6 m) k) a d = true) (hO : ON fr a b d) : ci m k i t = false ∧ (zget fr a = -1 → fv m k i t = a ∧ eR (sE m k) i a = eR (sE m k) i b + eR (sE m k) i d) ∧ (zget fr b = -1 → fv m k i t = b ∧ eR (sE m k) i b = eR (sE m k) i a + eR (sE m k) i d) ∧ (zget fr d = -1 → fv m k i t = d ∧ eR (sE m k) i d = eR (sE m k) i a + eR (sE m k) i b) := by
  have C := (ck_at h4 h9 hk hi).1
  obtain ⟨F1, F2, F3⟩ := hF
  have k1 := near_sym h4 h9 (zget (pg6 m) k) (by omega) (by omega) n1
  have k2 := near_sym h4 h9 (zget (pg6 m) k) (by omega) (by omega) n2
  have k3 := near_sym h4 h9 (zget (pg6 m) k) (by omega) (by omega) n3
  -- a triangle at i has all three
  have na : ¬ a = i := by
    intro e
    subst e
    have x1 := F2 a (by omega) (Or.inl rfl)
    have x2 := F2 b (by omega) (Or.inr n1)
    have x3 := F2 d (by omega) (Or.inr n3)
    rcases hO with z | z | z
    · exact x1 z.1
    · exact x2 z.2.1
    · exact x3 z.2.2
  have nb : ¬ b = i := by
    intro e
    subst e
    have x1 := F2 a (by omega) (Or.inr k1)
    have x2 := F2 b (by omega) (Or.inl rfl)
    have x3 := F2 d (by omega) (Or.inr n2)
    rcases hO with z | z | z
    · exact x1 z.1
    · exact x2 z.2.1
    · exact x3 z.2.2
  have nd : ¬ d = i := by
    intro e
    subst e
    have x1 := F2 a (by omega) (Or.inr k3)
    have x2 := F2 b (by omega) (Or.inr k2)
    have x3 := F2 d (by omega) (Or.inl rfl)
    rcases hO with z | z | z
    · exact x1 z.1
    · exact x2 z.2.1
    · exact x3 z.2.2
  have hc := ci_f es na nb nd
  have F := c1_of h9 C ht hc
  unfold fC at F
  have F3 := F3 t ht hc
  rw [es.1, es.2.1, es.2.2] at F F3
  obtain ⟨f1, f2, f3, f4⟩ := F
  have f4 : (fv m k i t = a ∧ eR (sE m k) i a = eR (sE m k) i b + eR (sE m k) i d) ∨ (fv m k i t = b ∧ eR (sE m k) i b = eR (sE m k) i a + eR (sE m k) i d) ∨ (fv m k i t = d ∧ eR (sE m k) i d = eR (sE m k) i a + eR (sE m k) i b) := f4
  -- the far one isn't known, else all are
  have un : zget fr (fv m k i t) = -1 := by
    apply Classical.byContradiction
    intro z
    have y := F3 z
    rcases hO with w | w | w
    · exact y.1 w.1
    · exact y.2.1 w.2.1
    · exact y.2.2 w.2.2
  refine ⟨hc, fun z => ?_, fun z => ?_, fun z => ?_⟩
  · rcases f4 with w | w | w
    · exact w
    · rw [w.1] at un
      rcases hO with y | y | y
      · exact absurd un y.2.1
      · exact absurd z y.1
      · exact absurd z y.1
    · rw [w.1] at un
      rcases hO with y | y | y
      · exact absurd un y.2.2
      · exact absurd z y.1
      · exact absurd z y.1
  · rcases f4 with w | w | w
    · rw [w.1] at un
      rcases hO with y | y | y
      · exact absurd z y.2.1
      · exact absurd un y.1
      · exact absurd z y.2.1
    · exact w
    · rw [w.1] at un
      rcases hO with y | y | y
      · exact absurd z y.2.1
      · exact absurd un y.2.2
      · exact absurd z y.2.1
  · rcases f4 with w | w | w
    · rw [w.1] at un
      rcases hO with y | y | y
      · exact absurd z y.2.2
      · exact absurd z y.2.2
      · exact absurd un y.1
    · rw [w.1] at un
      rcases hO with y | y | y
      · exact absurd z y.2.2
      · exact absurd z y.2.2
      · exact absurd un y.2.1
    · exact w
theorem FI_set {m k i fr : Nat} (h4 : 4 ≤ m) (h9 : m ≤ 9) (hk : (k : Int) < pg8 m) (hi : i < m) (hF : FI m k i fr) {t u : Nat} (ht : t < m - 2) (hc : ci m k i t = false) (hu : fv m k i t = u) (hum : u < m) (hun : zget fr u = -1) (hoth : ∀ x, (x = zslot (sl (trA m) k) t ∨ x = zslot (sl (trB m) k) t ∨ x = zslot (sl (trC m) k) t) → ¬ x = u → ¬ zget fr x = -1) {v : Int} (hv : v = ((eR (sE m k) i u : Nat) : Int)) : FI m k i (zset fr u v) := by
  have C := (ck_at h4 h9 hk hi).1
  have l21 := (c5_of h9 C hum).1
  have zv : ¬ zout v := by unfold zout; omega
  obtain ⟨F1, F2, F3⟩ := hF
  have g1 : zget (zset fr u v) u = v := by
    rcases zget_set_c fr u u zv with ⟨_, y⟩ | ⟨y, _⟩
    · exact y
    · exact absurd rfl y
  have g2 : ∀ x, ¬ x = u → zget (zset fr u v) x = zget fr x := fun x hx => by
    rcases zget_set_c fr u x zv with ⟨y, _⟩ | ⟨_, y⟩
    · exact absurd y hx
    · exact y
  have g3 : ∀ x, ¬ zget fr x = -1 → ¬ zget (zset fr u v) x = -1 := by
    intro x hx
    by_cases e : x = u
    · subst e; exact absurd hun hx
    · rw [g2 x e]; exact hx
  refine ⟨fun x hx => ?_, fun x hx hn => g3 x (F2 x hx hn), fun t' ht' hc' hf => ?_⟩
  · by_cases e : x = u
    · subst e; rw [g1, hv]; exact Or.inr rfl
    · rw [g2 x e]; exact F1 x hx
  · by_cases e : fv m k i t' = u
    · have et := c2_of h9 C ht' ht hc' hc (e.trans hu.symm)
      subst et
      have all : ∀ x, (x = zslot (sl (trA m) k) t' ∨ x = zslot (sl (trB m) k) t' ∨ x = zslot (sl (trC m) k) t') → ¬ zget (zset fr u v) x = -1 := by
        intro x hx
        by_cases q : x = u
        · subst q; rw [g1, hv]; omega
        · exact g3 x (hoth x hx q)
      exact ⟨all _ (Or.inl rfl), all _ (Or.inr (Or.inl rfl)), all _ (Or.inr (Or.inr rfl))⟩
    · rw [g2 _ e] at hf
      obtain ⟨y1, y2, y3⟩ := F3 t' ht' hc' hf
      exact ⟨g3 _ y1, g3 _ y2, g3 _ y3⟩
/-- nothing left to do: all are known -/
theorem FI_all {m k i fr : Nat} (h4 : 4 ≤ m) (h9 : m ≤ 9) (hk : (k : Int) < pg8 m) (hi : i < m) (hF : FI m k i fr) (hD : ∀ t, t < m - 2 → ¬ ON fr (zslot (sl (trA m) k) t) (zslot (sl (trB m) k) t) (zslot (sl (trC m) k) t)) : ∀ v x : Nat, x < m → eR (sE m k) i x ≤ v → ¬ zget fr x = -1 := by
  have C := (ck_at h4 h9 hk hi).1
  have base : ∀ x, x < m → (x = i ∨ nearB m (zget (pg6 m) k) i x = true) → ¬ zget fr x = -1 := hF.2.1
  intro v
  induction v with
  | zero =>
    intro x hx hv hn
    cases q : nearB m (zget (pg6 m) k) i x with
    | true => exact base x hx (Or.inr q) hn
    | false =>
      by_cases e : x = i
      · exact base x hx (Or.inl e) hn
      · obtain ⟨t, ht, hc, hf⟩ := c3_of h9 C hx e q
        have F := c1_of h9 C ht hc
        unfold fC at F
        obtain ⟨f1, f2, f3, f4⟩ := F
        rw [hf] at f4
        rcases f4 with ⟨z, s⟩ | ⟨z, s⟩ | ⟨z, s⟩
        · rw [z] at hv; omega
        · rw [z] at hv; omega
        · rw [z] at hv; omega
  | succ v ih =>
    intro x hx hv hn
    cases q : nearB m (zget (pg6 m) k) i x with
    | true => exact base x hx (Or.inr q) hn
    | false =>
      by_cases e : x = i
      · exact base x hx (Or.inl e) hn
      · obtain ⟨t, ht, hc, hf⟩ := c3_of h9 C hx e q
        obtain ⟨a, b, d, o, -, es, -⟩ := tri_at h4 h9 hk (tk_at h4 h9 hk) ht
        have F := c1_of h9 C ht hc
        have hD := hD t ht
        unfold fC at F
        rw [hf, es.1, es.2.1, es.2.2] at F
        rw [es.1, es.2.1, es.2.2] at hD
        obtain ⟨f1, f2, f3, f4⟩ := F
        rcases f4 with ⟨z, s⟩ | ⟨z, s⟩ | ⟨z, s⟩
        · subst z
          exact hD (Or.inl ⟨hn, ih b (by omega) (by omega), ih d (by omega) (by omega)⟩)
        · subst z
          exact hD (Or.inr (Or.inl ⟨ih a (by omega) (by omega), hn, ih d (by omega) (by omega)⟩))
        · subst z
          exact hD (Or.inr (Or.inr ⟨ih a (by omega) (by omega), ih b (by omega) (by omega), hn⟩))
noncomputable def unk (fr : Nat) (m : Nat) : Nat := Nat.rec (motive := fun _ => Nat) 0 (fun x ih => if zget fr x = -1 then ih + 1 else ih) m
theorem unk_s (fr m : Nat) : unk fr (m + 1) = if zget fr m = -1 then unk fr m + 1 else unk fr m := rfl
theorem unk_le (fr : Nat) : ∀ m : Nat, unk fr m ≤ m := by
  intro m
  induction m with
  | zero => exact Nat.le_refl _
  | succ m ih => rw [unk_s]; split <;> omega
theorem unk_same {fr fr' : Nat} : ∀ m : Nat, (∀ x, x < m → zget fr' x = zget fr x) → unk fr' m = unk fr m := by
  intro m
  induction m with
  | zero => intro _; rfl
  | succ m ih => intro h; rw [unk_s, unk_s, h m (by omega), ih (fun x hx => h x (by omega))]
theorem unk_set {fr u : Nat} {v : Int} (zv : ¬ zout v) (hv : ¬ v = -1) (hu : zget fr u = -1) : ∀ m : Nat, u < m → unk (zset fr u v) m + 1 = unk fr m := by
  have g1 : zget (zset fr u v) u = v := by
    rcases zget_set_c fr u u zv with ⟨_, y⟩ | ⟨y, _⟩
    · exact y
    · exact absurd rfl y
  have g2 : ∀ x, ¬ x = u → zget (zset fr u v) x = zget fr x := fun x hx => by
    rcases zget_set_c fr u x zv with ⟨y, _⟩ | ⟨_, y⟩
    · exact absurd y hx
    · exact y
  intro m
  induction m with
  | zero => intro h; omega
  | succ m ih =>
    intro h
    rw [unk_s, unk_s]
    by_cases e : m = u
    · subst e
      rw [g1, if_neg hv, if_pos hu, unk_same m (fun x hx => g2 x (by omega))]
    · rw [g2 m e]
      have := ih (by omega)
      split <;> omega
def efI (m k i : Nat) (ln lf : Int) (nf ls gr : Nat) (lab : Nat) (i1' i2' i4' i5' i6' ln' lf' : Int) (nf' ls' gr' tA' tB' tC' fr' : Nat) : Prop := (lab = 0 ∧ i1' = (m : Int) ∧ i2' = zget (pg6 m) k ∧ i4' = (i : Int) ∧ ln' = ln ∧ lf' = lf ∧ nf' = nf ∧ ls' = ls ∧ gr' = gr) ∨ (lab = 9 ∧ i1' = (m : Int) ∧ i2' = zget (pg6 m) k ∧ i4' = (i : Int) ∧ 0 ≤ i5' ∧ i5' ≤ (m : Int) ∧ lf' = (m : Int) ∧ LT m ln' nf' ls' gr' ∧ TAI m (zget (pg6 m) k) tA' tB' tC' 729 ∧ ∀ x : Nat, (x : Int) < i5' → (x = i → zget fr' x = 0) ∧ (¬ x = i → nearB m (zget (pg6 m) k) i x = true → zget fr' x = 1) ∧ (¬ x = i → nearB m (zget (pg6 m) k) i x = false → zget fr' x = -1)) ∨ (lab = 60 ∧ i1' = (m : Int) ∧ (i5' = 0 ∨ i5' = 1) ∧ lf' = (m : Int) ∧ LT m ln' nf' ls' gr' ∧ TAI m (zget (pg6 m) k) tA' tB' tC' 729 ∧ FI m k i fr' ∧ (i5' = 0 → ∀ t : Nat, (t : Int) < (m : Int) - 2 → ¬ ON fr' (zslot (sl (trA m) k) t) (zslot (sl (trB m) k) t) (zslot (sl (trC m) k) t))) ∨ (lab = 71 ∧ i1' = (m : Int) ∧ (i5' = 0 ∨ i5' = 1) ∧ lf' = (m : Int) ∧ LT m ln' nf' ls' gr' ∧ TAI m (zget (pg6 m) k) tA' tB' tC' 729 ∧ FI m k i fr' ∧ 0 ≤ i6' ∧ i6' ≤ (m : Int) - 2 ∧ (i5' = 0 → ∀ t : Nat, (t : Int) < i6' → ¬ ON fr' (zslot (sl (trA m) k) t) (zslot (sl (trB m) k) t) (zslot (sl (trC m) k) t)))
noncomputable def efM (m : Nat) (lab : Nat) (i5 i6 : Int) (fr : Nat) : Nat := if lab = 0 then 100000 else if lab = 9 then 50000 + ((m : Int) - i5).toNat else if lab = 60 then (if i5 = 0 then 0 else unk fr m * 100 + 60) else (if i5 = 0 then unk fr m * 100 + (50 - i6).toNat else unk fr m * 100 + (90 - i6).toNat)
set_option maxRecDepth 20000 in
set_option maxHeartbeats 4000000 in
theorem ok_ef (m k i : Nat) (h4 : 4 ≤ m) (h9 : m ≤ 9) (hk : (k : Int) < pg8 m) (hi : i < m) (ln lf : Int) (nf ls gr tA tB tC fr : Nat) (hf1 : -2147483648 ≤ lf) (hf2 : lf ≤ 2147483647) (h : lf = (m : Int) → LT m ln nf ls gr) : Go (fun o => o.2.1 = (m : Int) ∧ LT m o.1 o.2.2.1 o.2.2.2.1 o.2.2.2.2.1 ∧ TAI m (zget (pg6 m) k) o.2.2.2.2.2.1 o.2.2.2.2.2.2.1 o.2.2.2.2.2.2.2.1 729 ∧ ∀ j : Nat, j < m → zget o.2.2.2.2.2.2.2.2 j = ((eR (sE m k) i j : Nat) : Int)) (zf_X11_entriesFrom ln lf nf ls gr tA tB tC fr (m : Int) (zget (pg6 m) k) (i : Int)) := by
  have C := (ck_at h4 h9 hk hi).1
  have hc : isCut m (zget (pg6 m) k) := ⟨k, hk, rfl⟩
  have tc := tcn_cut h4 h9 hc
  unfold zf_X11_entriesFrom
  refine jok (fun (s : zS_X11_entriesFrom) => match s with | (lab, i1', i2', i4', i5', i6', ln', lf', nf', ls', gr', tA', tB', tC', fr') => efI m k i ln lf nf ls gr lab i1' i2' i4' i5' i6' ln' lf' nf' ls' gr' tA' tB' tC' fr') (fun (s : zS_X11_entriesFrom) => match s with | (lab, i1', i2', i4', i5', i6', ln', lf', nf', ls', gr', tA', tB', tC', fr') => efM m lab i5' i6' fr') (fun (o : zO_X11_entriesFrom) => o.2.1 = (m : Int) ∧ LT m o.1 o.2.2.1 o.2.2.2.1 o.2.2.2.2.1 ∧ TAI m (zget (pg6 m) k) o.2.2.2.2.2.1 o.2.2.2.2.2.2.1 o.2.2.2.2.2.2.2.1 729 ∧ ∀ j : Nat, j < m → zget o.2.2.2.2.2.2.2.2 j = ((eR (sE m k) i j : Nat) : Int)) ?_ _ ?_ ?_
  · intro s hI
    obtain ⟨lab, i1', i2', i4', i5', i6', ln', lf', nf', ls', gr', tA', tB', tC', fr'⟩ := s
    have hI : efI m k i ln lf nf ls gr lab i1' i2' i4' i5' i6' ln' lf' nf' ls' gr' tA' tB' tC' fr' := hI
    unfold efI at hI
    rcases hI with ⟨rfl, rfl, rfl, rfl, rfl, rfl, rfl, rfl, rfl⟩ | ⟨rfl, rfl, rfl, rfl, v1, v2, rfl, v3, v4, v5⟩ | ⟨rfl, rfl, v1, rfl, v3, v4, v5, v6⟩ | ⟨rfl, rfl, v1, rfl, v3, v4, v5, v7, v8, v6⟩
    · show Go _ (zg_X11_entriesFrom_0 (m : Int) (zget (pg6 m) k) (i : Int) i5' i6' ln' lf' nf' ls' gr' tA' tB' tC' fr')
      unfold zg_X11_entriesFrom_0
      refine Go_bindP (ok_tri m h4 h9 (zget (pg6 m) k) (by omega) ln' lf' nf' ls' gr' tA' tB' tC' hf1 hf2 h) (fun o q => ?_)
      refine Go_i (show efI m k i ln' lf' nf' ls' gr' 9 (m : Int) (zget (pg6 m) k) (i : Int) 0 0 o.1 o.2.1 o.2.2.1 o.2.2.2.1 o.2.2.2.2.1 o.2.2.2.2.2.1 o.2.2.2.2.2.2.1 o.2.2.2.2.2.2.2 fr' ∧ efM m 9 0 0 fr' < efM m 0 i5' i6' fr' from ⟨Or.inr (Or.inl ⟨rfl, rfl, rfl, rfl, by omega, by omega, q.1, q.2.1, q.2.2, fun x hx => absurd hx (by omega)⟩), ?_⟩)
      show 50000 + ((m : Int) - 0).toNat < 100000
      omega
    · show Go _ (zg_X11_entriesFrom_9 (m : Int) (zget (pg6 m) k) (i : Int) i5' i6' ln' (m : Int) nf' ls' gr' tA' tB' tC' fr')
      unfold zg_X11_entriesFrom_9
      refine Go_chk (by unfold zout; omega) ?_
      refine Go_chk (by unfold zout; omega) ?_
      refine Go_ite (fun c1 => ?_) (fun c1 => ?_)
      · have F := FI_0 h4 h9 hk hi (fun x hx => v5 x (by omega))
        refine Go_i (show efI m k i ln lf nf ls gr 60 (m : Int) (zget (pg6 m) k) (i : Int) 1 0 ln' (m : Int) nf' ls' gr' tA' tB' tC' fr' ∧ efM m 60 1 0 fr' < efM m 9 i5' i6' fr' from ⟨Or.inr (Or.inr (Or.inl ⟨rfl, rfl, Or.inr rfl, rfl, v3, v4, F, fun z => absurd z (by decide)⟩)), ?_⟩)
        have := unk_le fr' m
        show unk fr' m * 100 + 60 < 50000 + ((m : Int) - i5').toNat
        omega
      · obtain ⟨x, rfl⟩ : ∃ x : Nat, i5' = (x : Int) := ⟨i5'.toNat, by omega⟩
        have hx : x < m := by omega
        have stp : ∀ v : Int, ¬ zout v → ((x = i → v = 0) ∧ (¬ x = i → nearB m (zget (pg6 m) k) i x = true → v = 1) ∧ (¬ x = i → nearB m (zget (pg6 m) k) i x = false → v = -1)) → Go (GoE (fun s' => (match s' with | (lab, i1', i2', i4', i5', i6', ln', lf', nf', ls', gr', tA', tB', tC', fr') => efI m k i ln lf nf ls gr lab i1' i2' i4' i5' i6' ln' lf' nf' ls' gr' tA' tB' tC' fr') ∧ (match s' with | (lab, i1', i2', i4', i5', i6', ln', lf', nf', ls', gr', tA', tB', tC', fr') => efM m lab i5' i6' fr') < efM m 9 (x : Int) i6' fr') (fun (o : zO_X11_entriesFrom) => o.2.1 = (m : Int) ∧ LT m o.1 o.2.2.1 o.2.2.2.1 o.2.2.2.2.1 ∧ TAI m (zget (pg6 m) k) o.2.2.2.2.2.1 o.2.2.2.2.2.2.1 o.2.2.2.2.2.2.2.1 729 ∧ ∀ j : Nat, j < m → zget o.2.2.2.2.2.2.2.2 j = ((eR (sE m k) i j : Nat) : Int))) (some (.inr (9, (m : Int), zget (pg6 m) k, (i : Int), (x : Int) + 1, 0, ln', (m : Int), nf', ls', gr', tA', tB', tC', zset fr' x v)) : Option (zO_X11_entriesFrom ⊕ zS_X11_entriesFrom)) := by
          intro v zv hv
          refine Go_i (show efI m k i ln lf nf ls gr 9 (m : Int) (zget (pg6 m) k) (i : Int) ((x : Int) + 1) 0 ln' (m : Int) nf' ls' gr' tA' tB' tC' (zset fr' x v) ∧ efM m 9 ((x : Int) + 1) 0 (zset fr' x v) < efM m 9 (x : Int) i6' fr' from ⟨Or.inr (Or.inl ⟨rfl, rfl, rfl, rfl, by omega, by omega, rfl, v3, v4, fun y hy => ?_⟩), ?_⟩)
          · rcases zget_set_c fr' x y zv with ⟨e, q⟩ | ⟨e, q⟩
            · rw [q]; subst e; exact hv
            · rw [q]; exact v5 y (by omega)
          · show 50000 + ((m : Int) - ((x : Int) + 1)).toNat < 50000 + ((m : Int) - (x : Int)).toNat
            omega
        refine Go_chk (by unfold zout; omega) ?_
        refine Go_ite (fun c2 => ?_) (fun c2 => ?_)
        · refine Go_chk (by omega) ?_
          exact stp 0 (by decide) ⟨fun _ => rfl, fun e => absurd (by omega) e, fun e => absurd (by omega) e⟩
        · have ne := near_eq h4 h9 v3.2.1 (zget (pg6 m) k) (i := (i : Int)) (j := (x : Int)) (by omega) (by omega) (by omega) (by omega)
          rw [Int.toNat_natCast, Int.toNat_natCast] at ne
          refine Go_bind ne ?_
          refine Go_ite (fun c3 => ?_) (fun c3 => ?_)
          · refine Go_chk (by omega) ?_
            exact stp (-1) (by decide) ⟨fun e => absurd e (by omega), (fun _ e => by rw [c3] at e; cases e), fun _ _ => rfl⟩
          · refine Go_chk (by omega) ?_
            exact stp 1 (by decide) ⟨fun e => absurd e (by omega), fun _ _ => rfl, fun _ e => absurd e c3⟩
    · show Go _ (zg_X11_entriesFrom_60 (m : Int) i2' i4' i5' i6' ln' (m : Int) nf' ls' gr' tA' tB' tC' fr')
      unfold zg_X11_entriesFrom_60
      refine Go_chk (by unfold zout; omega) ?_
      refine Go_ite (fun c1 => ?_) (fun c1 => ?_)
      · have D := FI_all h4 h9 hk hi v5 (fun t ht => v6 c1 t (by omega))
        refine Go_i (show (m : Int) = (m : Int) ∧ LT m ln' nf' ls' gr' ∧ TAI m (zget (pg6 m) k) tA' tB' tC' 729 ∧ ∀ j : Nat, j < m → zget fr' j = ((eR (sE m k) i j : Nat) : Int) from ⟨rfl, v3, v4, fun j hj => ?_⟩)
        rcases v5.1 j hj with z | z
        · exact absurd z (D _ j hj (Nat.le_refl _))
        · exact z
      · refine Go_i (show efI m k i ln lf nf ls gr 71 (m : Int) 0 0 0 0 ln' (m : Int) nf' ls' gr' tA' tB' tC' fr' ∧ efM m 71 0 0 fr' < efM m 60 i5' i6' fr' from ⟨Or.inr (Or.inr (Or.inr ⟨rfl, rfl, Or.inl rfl, rfl, v3, v4, v5, by omega, by omega, fun _ t ht => absurd ht (by omega)⟩)), ?_⟩)
        show unk fr' m * 100 + (50 - (0 : Int)).toNat < (if i5' = 0 then 0 else unk fr' m * 100 + 60)
        rw [if_neg c1]
        omega
    · show Go _ (zg_X11_entriesFrom_71 (m : Int) i2' i4' i5' i6' ln' (m : Int) nf' ls' gr' tA' tB' tC' fr')
      unfold zg_X11_entriesFrom_71
      refine Go_chk (by unfold zout; omega) ?_
      refine Go_chk (by unfold zout; omega) ?_
      refine Go_ite (fun c1 => ?_) (fun c1 => ?_)
      · refine Go_i (show efI m k i ln lf nf ls gr 60 (m : Int) 0 0 i5' i6' ln' (m : Int) nf' ls' gr' tA' tB' tC' fr' ∧ efM m 60 i5' i6' fr' < efM m 71 i5' i6' fr' from ⟨Or.inr (Or.inr (Or.inl ⟨rfl, rfl, v1, rfl, v3, v4, v5, fun z t ht => v6 z t (by omega)⟩)), ?_⟩)
        show (if i5' = 0 then 0 else unk fr' m * 100 + 60) < (if i5' = 0 then unk fr' m * 100 + (50 - i6').toNat else unk fr' m * 100 + (90 - i6').toNat)
        split <;> omega
      · obtain ⟨t, rfl⟩ : ∃ t : Nat, i6' = (t : Int) := ⟨i6'.toNat, by omega⟩
        have ht : t < m - 2 := by omega
        obtain ⟨a, b, d, o, ⟨hA, hB, hC⟩, es, n1, n2, n3⟩ := tri_at h4 h9 hk v4 ht
        have nA : ¬ ((a : Int) < 0 ∨ 10 ≤ (a : Int)) := by omega
        have nB : ¬ ((b : Int) < 0 ∨ 10 ≤ (b : Int)) := by omega
        have nC : ¬ ((d : Int) < 0 ∨ 10 ≤ (d : Int)) := by omega
        have vA := v5.1 a (by omega)
        have vB := v5.1 b (by omega)
        have vC := v5.1 d (by omega)
        -- nothing to do here
        have keep : ¬ ON fr' a b d → Go (GoE (fun s' => (match s' with | (lab, i1', i2', i4', i5', i6', ln', lf', nf', ls', gr', tA', tB', tC', fr') => efI m k i ln lf nf ls gr lab i1' i2' i4' i5' i6' ln' lf' nf' ls' gr' tA' tB' tC' fr') ∧ (match s' with | (lab, i1', i2', i4', i5', i6', ln', lf', nf', ls', gr', tA', tB', tC', fr') => efM m lab i5' i6' fr') < efM m 71 i5' (t : Int) fr') (fun (o : zO_X11_entriesFrom) => o.2.1 = (m : Int) ∧ LT m o.1 o.2.2.1 o.2.2.2.1 o.2.2.2.2.1 ∧ TAI m (zget (pg6 m) k) o.2.2.2.2.2.1 o.2.2.2.2.2.2.1 o.2.2.2.2.2.2.2.1 729 ∧ ∀ j : Nat, j < m → zget o.2.2.2.2.2.2.2.2 j = ((eR (sE m k) i j : Nat) : Int))) (some (.inr (71, (m : Int), 0, 0, i5', (t : Int) + 1, ln', (m : Int), nf', ls', gr', tA', tB', tC', fr')) : Option (zO_X11_entriesFrom ⊕ zS_X11_entriesFrom)) := by
          intro hO
          refine Go_i (show efI m k i ln lf nf ls gr 71 (m : Int) 0 0 i5' ((t : Int) + 1) ln' (m : Int) nf' ls' gr' tA' tB' tC' fr' ∧ efM m 71 i5' ((t : Int) + 1) fr' < efM m 71 i5' (t : Int) fr' from ⟨Or.inr (Or.inr (Or.inr ⟨rfl, rfl, v1, rfl, v3, v4, v5, by omega, by omega, fun z u hu => ?_⟩)), ?_⟩)
          · by_cases e : u = t
            · subst e; rw [es.1, es.2.1, es.2.2]; exact hO
            · exact v6 z u (by omega)
          · show (if i5' = 0 then unk fr' m * 100 + (50 - ((t : Int) + 1)).toNat else unk fr' m * 100 + (90 - ((t : Int) + 1)).toNat) < (if i5' = 0 then unk fr' m * 100 + (50 - (t : Int)).toNat else unk fr' m * 100 + (90 - (t : Int)).toNat)
            split <;> omega
        -- the far one becomes known
        have put : ∀ (u : Nat) (v : Int), fv m k i t = u → ci m k i t = false → u < m → zget fr' u = -1 → (∀ x, (x = a ∨ x = b ∨ x = d) → ¬ x = u → ¬ zget fr' x = -1) → v = ((eR (sE m k) i u : Nat) : Int) → Go (GoE (fun s' => (match s' with | (lab, i1', i2', i4', i5', i6', ln', lf', nf', ls', gr', tA', tB', tC', fr') => efI m k i ln lf nf ls gr lab i1' i2' i4' i5' i6' ln' lf' nf' ls' gr' tA' tB' tC' fr') ∧ (match s' with | (lab, i1', i2', i4', i5', i6', ln', lf', nf', ls', gr', tA', tB', tC', fr') => efM m lab i5' i6' fr') < efM m 71 i5' (t : Int) fr') (fun (o : zO_X11_entriesFrom) => o.2.1 = (m : Int) ∧ LT m o.1 o.2.2.1 o.2.2.2.1 o.2.2.2.2.1 ∧ TAI m (zget (pg6 m) k) o.2.2.2.2.2.1 o.2.2.2.2.2.2.1 o.2.2.2.2.2.2.2.1 729 ∧ ∀ j : Nat, j < m → zget o.2.2.2.2.2.2.2.2 j = ((eR (sE m k) i j : Nat) : Int))) (some (.inr (71, (m : Int), 0, 0, 1, (t : Int) + 1, ln', (m : Int), nf', ls', gr', tA', tB', tC', zset fr' u v)) : Option (zO_X11_entriesFrom ⊕ zS_X11_entriesFrom)) := by
          intro u v e1 e2 e3 e4 e5 e6
          have l21 := (c5_of h9 C e3).1
          have F := FI_set h4 h9 hk hi v5 ht e2 e1 e3 e4 (by rw [es.1, es.2.1, es.2.2]; exact e5) e6
          have us := unk_set (v := v) (by unfold zout; omega) (by omega) e4 m e3
          refine Go_i (show efI m k i ln lf nf ls gr 71 (m : Int) 0 0 1 ((t : Int) + 1) ln' (m : Int) nf' ls' gr' tA' tB' tC' (zset fr' u v) ∧ efM m 71 1 ((t : Int) + 1) (zset fr' u v) < efM m 71 i5' (t : Int) fr' from ⟨Or.inr (Or.inr (Or.inr ⟨rfl, rfl, Or.inr rfl, rfl, v3, v4, F, by omega, by omega, fun z => absurd z (by decide)⟩)), ?_⟩)
          show unk (zset fr' u v) m * 100 + (90 - ((t : Int) + 1)).toNat < (if i5' = 0 then unk fr' m * 100 + (50 - (t : Int)).toNat else unk fr' m * 100 + (90 - (t : Int)).toNat)
          split <;> omega
        refine Go_chk (by omega) ?_
        simp only [Int.toNat_natCast, hA, hB, hC]
        by_cases ka : 0 ≤ zget fr' a
        · by_cases kb : 0 ≤ zget fr' b
          · by_cases kc : 0 ≤ zget fr' d
            · rw [if_neg nA, if_pos ka, if_neg nB, if_pos kb, if_neg nC, if_pos kc, if_neg (by decide), if_neg (by decide)]
              refine keep (fun z => ?_)
              rcases z with z | z | z
              · omega
              · omega
              · omega
            · rw [if_neg nA, if_pos ka, if_neg nB, if_pos kb, if_neg nC, if_neg kc, if_neg (by decide), if_pos (by decide), if_pos ka, if_pos kb]
              have O : ON fr' a b d := Or.inr (Or.inr ⟨by omega, by omega, by omega⟩)
              obtain ⟨y0, y1, y2, y3⟩ := FI_far h4 h9 hk hi v5 v4 ht o es n1 n2 n3 O
              have w := y3 (by omega)
              refine put d _ w.1 y0 (by omega) (by omega) (fun x hx hxu => ?_) (by omega)
              rcases hx with rfl | rfl | rfl
              · omega
              · omega
              · omega
          · by_cases kc : 0 ≤ zget fr' d
            · rw [if_neg nA, if_pos ka, if_neg nB, if_neg kb, if_neg nC, if_pos kc, if_neg (by decide), if_pos (by decide), if_pos ka, if_neg kb]
              have O : ON fr' a b d := Or.inr (Or.inl ⟨by omega, by omega, by omega⟩)
              obtain ⟨y0, y1, y2, y3⟩ := FI_far h4 h9 hk hi v5 v4 ht o es n1 n2 n3 O
              have w := y2 (by omega)
              refine put b _ w.1 y0 (by omega) (by omega) (fun x hx hxu => ?_) (by omega)
              rcases hx with rfl | rfl | rfl
              · omega
              · omega
              · omega
            · rw [if_neg nA, if_pos ka, if_neg nB, if_neg kb, if_neg nC, if_neg kc, if_neg (by decide), if_neg (by decide)]
              refine keep (fun z => ?_)
              rcases z with z | z | z
              · omega
              · omega
              · omega
        · by_cases kb : 0 ≤ zget fr' b
          · by_cases kc : 0 ≤ zget fr' d
            · rw [if_neg nA, if_neg ka, if_neg nB, if_pos kb, if_neg nC, if_pos kc, if_neg (by decide), if_pos (by decide), if_neg ka]
              have O : ON fr' a b d := Or.inl ⟨by omega, by omega, by omega⟩
              obtain ⟨y0, y1, y2, y3⟩ := FI_far h4 h9 hk hi v5 v4 ht o es n1 n2 n3 O
              have w := y1 (by omega)
              refine put a _ w.1 y0 (by omega) (by omega) (fun x hx hxu => ?_) (by omega)
              rcases hx with rfl | rfl | rfl
              · omega
              · omega
              · omega
            · rw [if_neg nA, if_neg ka, if_neg nB, if_pos kb, if_neg nC, if_neg kc, if_neg (by decide), if_neg (by decide)]
              refine keep (fun z => ?_)
              rcases z with z | z | z
              · omega
              · omega
              · omega
          · by_cases kc : 0 ≤ zget fr' d
            · rw [if_neg nA, if_neg ka, if_neg nB, if_neg kb, if_neg nC, if_pos kc, if_neg (by decide), if_neg (by decide)]
              refine keep (fun z => ?_)
              rcases z with z | z | z
              · omega
              · omega
              · omega
            · rw [if_neg nA, if_neg ka, if_neg nB, if_neg kb, if_neg nC, if_neg kc, if_neg (by decide), if_neg (by decide)]
              refine keep (fun z => ?_)
              rcases z with z | z | z
              · omega
              · omega
              · omega
  · exact Or.inl ⟨rfl, rfl, rfl, rfl, rfl, rfl, rfl, rfl, rfl⟩
  · show 100000 < jfuel
    unfold jfuel
    omega
/-- the reference's entries are the class's -/
theorem ok_ent (m : Nat) (h4 : 4 ≤ m) (h9 : m ≤ 9) (c : Int) (hc : isCut m c) (i : Int) (hi0 : 0 ≤ i) (hi : i < (m : Int)) (ln lf : Int) (nf ls gr tA tB tC fr : Nat) (hf1 : -2147483648 ≤ lf) (hf2 : lf ≤ 2147483647) (h : lf = (m : Int) → LT m ln nf ls gr) : Go (fun o => o.2.1 = (m : Int) ∧ LT m o.1 o.2.2.1 o.2.2.2.1 o.2.2.2.2.1 ∧ TAI m c o.2.2.2.2.2.1 o.2.2.2.2.2.2.1 o.2.2.2.2.2.2.2.1 729 ∧ ∀ j : Nat, j < m → ∃ r, zf_X5_entryOf m c i (j : Int) = some r ∧ zget o.2.2.2.2.2.2.2.2 j = r ∧ 0 ≤ r ∧ r ≤ 21) (zf_X11_entriesFrom ln lf nf ls gr tA tB tC fr (m : Int) c i) := by
  obtain ⟨k, hk, rfl⟩ := hc
  obtain ⟨i, rfl⟩ : ∃ z : Nat, i = (z : Int) := ⟨i.toNat, by omega⟩
  have him : i < m := by omega
  refine Go_w (ok_ef m k i h4 h9 hk him ln lf nf ls gr tA tB tC fr hf1 hf2 h) (fun o q => ⟨q.1, q.2.1, q.2.2.1, fun j hj => ?_⟩)
  have l21 := (c5_of h9 (ck_at h4 h9 hk him).1 hj).1
  exact ⟨_, ent_tE h4 h9 hk him hj, q.2.2.2 j hj, by omega, by omega⟩
end

section
/-! listFor of any state: what grows, and what the sort makes of it -/
noncomputable def xt (m k : Nat) : Nat := (pg4 m >>> (32 * k)) % 4294967296
noncomputable def crl (m k q : Nat) : Bool := match decide ((k : Int) < pg7 m ∧ (q : Int) < pg7 m) with
  | false => true
  | true => match zf_X11_isCross (m : Int) (zget (pg1 m) k) (zget (pg2 m) k) (zget (pg1 m) q) (zget (pg2 m) q) with
    | none => false
    | some b => decide (b = (xt m k).testBit q)
theorem crl_tab : ∀ m : Nat, 4 ≤ m → m ≤ 9 → allF (fun k => allF (fun q => crl m k q) 0 27) 0 27 = true := pg_cases (by decide +kernel) (by decide +kernel) (by decide +kernel) (by decide +kernel) (by decide +kernel) (by decide +kernel)
theorem crl_ok {m k q : Nat} (h4 : 4 ≤ m) (h9 : m ≤ 9) (hk : (k : Int) < pg7 m) (hq : (q : Int) < pg7 m) : zf_X11_isCross (m : Int) (zget (pg1 m) k) (zget (pg2 m) k) (zget (pg1 m) q) (zget (pg2 m) q) = some ((xt m k).testBit q) := by
  have r7 := rpg7 h4 h9
  have t := allF_at (allF_at (crl_tab m h4 h9) (m := k) (by omega)) (m := q) (by omega)
  replace t : crl m k q = true := t
  unfold crl at t
  rw [decide_eq_true ⟨hk, hq⟩] at t
  revert t
  simp only []
  cases zf_X11_isCross (m : Int) (zget (pg1 m) k) (zget (pg2 m) k) (zget (pg1 m) q) (zget (pg2 m) q) with
  | none => intro t; cases t
  | some b => intro t; rw [of_decide_eq_true t]
/-- what grows out of T by e of the last r lines, in the order in which it comes -/
noncomputable def enF (X : Nat → Nat) (L r : Nat) : Nat → Nat → List Nat := Nat.rec (motive := fun _ => Nat → Nat → List Nat) (fun T e => match e with
  | 0 => [T]
  | _ + 1 => []) (fun r ih T e => match e with
  | 0 => [T]
  | e + 1 => match Nat.beq (X (L - (r + 1)) &&& T) 0 with
    | true => frN (T ||| 2 ^ (L - (r + 1))) (fun T' => ih T' e) ++ ih T (e + 1)
    | false => ih T (e + 1)) r
theorem enF_0 (X : Nat → Nat) (L r T : Nat) : enF X L r T 0 = [T] := by cases r <;> rfl
theorem enF_z (X : Nat → Nat) (L T e : Nat) : enF X L 0 T (e + 1) = [] := rfl
theorem enF_s (X : Nat → Nat) (L r T e : Nat) : enF X L (r + 1) T (e + 1) = (match Nat.beq (X (L - (r + 1)) &&& T) 0 with
    | true => frN (T ||| 2 ^ (L - (r + 1))) (fun T' => enF X L r T' e) ++ enF X L r T (e + 1)
    | false => enF X L r T (e + 1)) := rfl
theorem enF_t {X : Nat → Nat} {L r T e : Nat} (h : X (L - (r + 1)) &&& T = 0) : enF X L (r + 1) T (e + 1) = enF X L r (T ||| 2 ^ (L - (r + 1))) e ++ enF X L r T (e + 1) := by
  rw [enF_s, h]
  show frN _ _ ++ _ = _
  rw [frN_e]
theorem enF_f {X : Nat → Nat} {L r T e : Nat} (h : ¬ X (L - (r + 1)) &&& T = 0) : enF X L (r + 1) T (e + 1) = enF X L r T (e + 1) := by
  rw [enF_s]
  cases q : Nat.beq (X (L - (r + 1)) &&& T) 0 with
  | true => exact absurd (Nat.eq_of_beq_eq_true q) h
  | false => rfl
/-- an array's places from p on -/
def AP (A : Nat) : List Nat → Nat → Prop
  | [], _ => True
  | x :: r, p => zgetL A p = (x : Int) ∧ AP A r (p + 1)
theorem AP_app {A : Nat} : ∀ (l r : List Nat) (p : Nat), AP A l p → AP A r (p + l.length) → AP A (l ++ r) p := by
  intro l
  induction l with
  | nil => intro r p _ h; exact h
  | cons x l ih =>
    intro r p h1 h2
    refine ⟨h1.1, ih r (p + 1) h1.2 ?_⟩
    rw [List.length_cons, show p + (l.length + 1) = p + 1 + l.length by omega] at h2
    exact h2
theorem AP_fr {A B : Nat} : ∀ (l : List Nat) (p : Nat), AP A l p → (∀ j, p ≤ j → j < p + l.length → zgetL B j = zgetL A j) → AP B l p := by
  intro l
  induction l with
  | nil => intro p _ _; exact True.intro
  | cons x l ih =>
    intro p h1 h2
    rw [List.length_cons] at h2
    exact ⟨(h2 p (by omega) (by omega)).trans h1.1, ih (p + 1) h1.2 (fun j a b => h2 j (by omega) (by omega))⟩
theorem low_or {T k : Nat} (h : T < 2 ^ k) : T ||| 2 ^ k < 2 ^ (k + 1) := Nat.or_lt_two_pow (Nat.lt_of_lt_of_le h (Nat.pow_le_pow_right (by decide) (by omega))) (Nat.pow_lt_pow_right (by decide) (by omega))
theorem and_z {a T k : Nat} (h : T < 2 ^ k) (hn : ∀ q, q < k → ¬ (T.testBit q = true ∧ a.testBit q = true)) : a &&& T = 0 := by
  apply Nat.eq_of_testBit_eq
  intro q
  rw [Nat.testBit_and, Nat.zero_testBit]
  by_cases c : q < k
  · have := hn q c
    cases x : a.testBit q with
    | false => rfl
    | true =>
      cases y : T.testBit q with
      | false => rfl
      | true => exact absurd ⟨y, x⟩ this
  · rw [Nat.testBit_lt_two_pow (Nat.lt_of_lt_of_le h (Nat.pow_le_pow_right (by decide) (by omega))), Bool.and_false]
theorem and_nz {a T q : Nat} (h1 : T.testBit q = true) (h2 : a.testBit q = true) : ¬ a &&& T = 0 := by
  intro h
  have t : (a &&& T).testBit q = false := by rw [h, Nat.zero_testBit]
  rw [Nat.testBit_and, h1, h2] at t
  cases t
def gwI (m e k T p A : Nat) (lab : Nat) (i1 i2 i4 i5 i6 i7 i8 lm : Int) (li : Nat) : Prop := i1 = (m : Int) ∧ i2 = (T : Int) ∧ i4 = (m : Int) - 3 - (e : Int) ∧ ((lab = 0 ∧ i5 = (k : Int) ∧ lm = (p : Int) ∧ li = A) ∨ (1 ≤ e ∧ ∃ (k' : Nat) (dn : List Nat), i6 = (k' : Int) ∧ k ≤ k' ∧ k' ≤ lnN m ∧ enF (xt m) (lnN m) (lnN m - k) T e = dn ++ enF (xt m) (lnN m) (lnN m - k') T e ∧ lm = ((p + dn.length : Nat) : Int) ∧ (∀ j, j < p → zgetL li j = zgetL A j) ∧ AP li dn p ∧ (lab = 33 ∨ (lab = 48 ∧ k' < lnN m ∧ 0 ≤ i8 ∧ i8 ≤ (k' : Int) ∧ ((i7 = 1 ∧ ∀ q : Nat, (q : Int) < i8 → ¬ (T.testBit q = true ∧ (xt m k').testBit q = true)) ∨ (i7 = 0 ∧ ¬ xt m k' &&& T = 0))) ∨ (lab = 119 ∧ k' < lnN m ∧ ((i7 = 1 ∧ xt m k' &&& T = 0) ∨ (i7 = 0 ∧ ¬ xt m k' &&& T = 0))))))
set_option maxRecDepth 100000 in
theorem grow_s (d : Nat) (a b : Int) (c d' e : Nat) (f g h i : Int) : zf_X11_grow (d + 1) a b c d' e f g h i = jrun (zg_X11_grow (zf_X11_grow d) a c d') jfuel (0, f, g, h, i, 0, 0, 0, b, e) := rfl
set_option maxRecDepth 20000 in
set_option maxHeartbeats 4000000 in
theorem grow_ok {m : Nat} (h4 : 4 ≤ m) (h9 : m ≤ 9) {ls gr : Nat} (hL : LL m ls gr (pg7 m)) : ∀ (d e k T p A : Nat), e < d → e ≤ m - 3 → k ≤ lnN m → T < 2 ^ k → p + (enF (xt m) (lnN m) (lnN m - k) T e).length ≤ 429 → Go (fun o => o.1 = ((p + (enF (xt m) (lnN m) (lnN m - k) T e).length : Nat) : Int) ∧ (∀ j, j < p → zgetL o.2 j = zgetL A j) ∧ AP o.2 (enF (xt m) (lnN m) (lnN m - k) T e) p) (zf_X11_grow d (pg7 m) (p : Int) ls gr A (m : Int) (T : Int) ((m : Int) - 3 - (e : Int)) (k : Int)) := by
  have r7 := rpg7 h4 h9
  have e7 : pg7 m = (lnN m : Int) := by unfold lnN; omega
  intro d
  induction d with
  | zero => intro e k T p A h; omega
  | succ d ih =>
    intro e k T p A hd he hk hT hlen
    have hT27 : T < 134217728 := Nat.lt_of_lt_of_le hT (Nat.le_trans (Nat.pow_le_pow_right (by decide) (show k ≤ 27 by omega)) (by decide))
    have zT : ¬ zoutL (T : Int) := by unfold zoutL; omega
    rw [grow_s]
    refine jok (fun (s : zS_X11_grow) => match s with | (lab, i1, i2, i4, i5, i6, i7, i8, lm, li) => gwI m e k T p A lab i1 i2 i4 i5 i6 i7 i8 lm li) (fun (s : zS_X11_grow) => match s with | (lab, i1, i2, i4, i5, i6, i7, i8, lm, li) => if lab = 0 then 100000 else if lab = 33 then ((40 - i6) * 100 + 99).toNat else if lab = 48 then ((40 - i6) * 100 + 60 - i8).toNat else ((40 - i6) * 100 + 10).toNat) (fun (o : zO_X11_grow) => o.1 = ((p + (enF (xt m) (lnN m) (lnN m - k) T e).length : Nat) : Int) ∧ (∀ j, j < p → zgetL o.2 j = zgetL A j) ∧ AP o.2 (enF (xt m) (lnN m) (lnN m - k) T e) p) ?_ _ ?_ ?_
    · intro s hI0
      obtain ⟨lab, i1, i2, i4, i5, i6, i7, i8, lm, li⟩ := s
      have hI1 : gwI m e k T p A lab i1 i2 i4 i5 i6 i7 i8 lm li := hI0
      unfold gwI at hI1
      clear hI0
      obtain ⟨rfl, rfl, rfl, hI2⟩ := hI1
      rcases hI2 with ⟨rfl, rfl, rfl, rfl⟩ | ⟨e1, k', dn, rfl, v1, v2, v3, rfl, v4, v5, hI3⟩
      · show Go _ (zg_X11_grow_0 (zf_X11_grow d) (pg7 m) ls gr (m : Int) (T : Int) ((m : Int) - 3 - (e : Int)) (k : Int) i6 i7 i8 (p : Int) li)
        unfold zg_X11_grow_0
        refine Go_chk (by unfold zout; omega) ?_
        refine Go_chk (by unfold zout; omega) ?_
        refine Go_ite (fun x => ?_) (fun x => ?_)
        · have e0 : e = 0 := by omega
          subst e0
          rw [enF_0] at hlen ⊢
          have hlen : p + 1 ≤ 429 := hlen
          refine Go_chk (by omega) ?_
          refine Go_i (show (p : Int) + 1 = ((p + 1 : Nat) : Int) ∧ (∀ j, j < p → zgetL (zsetL li p (T : Int)) j = zgetL li j) ∧ (zgetL (zsetL li p (T : Int)) p = (T : Int) ∧ True) from ⟨by omega, fun j hj => ?_, ?_, True.intro⟩)
          · rw [zgetL_set, if_neg (by omega)]
          · rw [zgetL_set, if_pos rfl, zwL_id zT]
        · exact Go_i (show gwI m e k T p li 33 (m : Int) (T : Int) ((m : Int) - 3 - (e : Int)) (k : Int) (k : Int) 0 0 (p : Int) li ∧ ((40 - (k : Int)) * 100 + 99).toNat < 100000 from ⟨⟨rfl, rfl, rfl, Or.inr ⟨by omega, k, [], rfl, Nat.le_refl _, hk, rfl, rfl, fun j _ => rfl, True.intro, Or.inl rfl⟩⟩, by omega⟩)
      · rcases hI3 with rfl | ⟨rfl, w1, w2, w3, w4⟩ | ⟨rfl, w1, w4⟩
        · show Go _ (zg_X11_grow_33 (zf_X11_grow d) (pg7 m) ls gr (m : Int) (T : Int) ((m : Int) - 3 - (e : Int)) i5 (k' : Int) i7 i8 ((p + dn.length : Nat) : Int) li)
          unfold zg_X11_grow_33
          refine Go_chk (by unfold zout; omega) ?_
          refine Go_chk (by unfold zout; omega) ?_
          refine Go_ite (fun x => ?_) (fun x => ?_)
          · have ek : lnN m - k' = 0 := by omega
            obtain ⟨e', rfl⟩ : ∃ e', e = e' + 1 := ⟨e - 1, by omega⟩
            rw [ek, enF_z, List.append_nil] at v3
            rw [v3]
            exact Go_i (show ((p + dn.length : Nat) : Int) = ((p + dn.length : Nat) : Int) ∧ (∀ j, j < p → zgetL li j = zgetL A j) ∧ AP li dn p from ⟨rfl, v4, v5⟩)
          · exact Go_i (show gwI m e k T p A 48 (m : Int) (T : Int) ((m : Int) - 3 - (e : Int)) 0 (k' : Int) 1 0 ((p + dn.length : Nat) : Int) li ∧ ((40 - (k' : Int)) * 100 + 60 - 0).toNat < ((40 - (k' : Int)) * 100 + 99).toNat from ⟨⟨rfl, rfl, rfl, Or.inr ⟨e1, k', dn, rfl, v1, v2, v3, rfl, v4, v5, Or.inr (Or.inl ⟨rfl, by omega, by decide, by omega, Or.inl ⟨rfl, fun q hq => absurd hq (by omega)⟩⟩)⟩⟩, by omega⟩)
        · show Go _ (zg_X11_grow_48 (zf_X11_grow d) (pg7 m) ls gr (m : Int) (T : Int) ((m : Int) - 3 - (e : Int)) i5 (k' : Int) i7 i8 ((p + dn.length : Nat) : Int) li)
          unfold zg_X11_grow_48
          have hTk : T < 2 ^ k' := Nat.lt_of_lt_of_le hT (Nat.pow_le_pow_right (by decide) v1)
          refine Go_chk (by unfold zout; omega) ?_
          refine Go_chk (by unfold zout; omega) ?_
          refine Go_ite (fun x => ?_) (fun x => ?_)
          · refine Go_i (show gwI m e k T p A 119 (m : Int) (T : Int) ((m : Int) - 3 - (e : Int)) 0 (k' : Int) i7 i8 ((p + dn.length : Nat) : Int) li ∧ ((40 - (k' : Int)) * 100 + 10).toNat < ((40 - (k' : Int)) * 100 + 60 - i8).toNat from ⟨⟨rfl, rfl, rfl, Or.inr ⟨e1, k', dn, rfl, v1, v2, v3, rfl, v4, v5, Or.inr (Or.inr ⟨rfl, w1, ?_⟩)⟩⟩, by omega⟩)
            rcases w4 with ⟨a, b⟩ | ⟨a, b⟩
            · exact Or.inl ⟨a, and_z hTk (fun q hq => b q (by omega))⟩
            · exact Or.inr ⟨a, b⟩
          · refine Go_chk (by unfold zout; omega) ?_
            refine Go_ite (fun y => ?_) (fun y => ?_)
            · refine Go_i (show gwI m e k T p A 119 (m : Int) (T : Int) ((m : Int) - 3 - (e : Int)) 0 (k' : Int) i7 i8 ((p + dn.length : Nat) : Int) li ∧ ((40 - (k' : Int)) * 100 + 10).toNat < ((40 - (k' : Int)) * 100 + 60 - i8).toNat from ⟨⟨rfl, rfl, rfl, Or.inr ⟨e1, k', dn, rfl, v1, v2, v3, rfl, v4, v5, Or.inr (Or.inr ⟨rfl, w1, ?_⟩)⟩⟩, by omega⟩)
              rcases w4 with ⟨a, b⟩ | ⟨a, b⟩
              · omega
              · exact Or.inr ⟨a, b⟩
            · obtain ⟨a, b⟩ : i7 = 1 ∧ ∀ q : Nat, (q : Int) < i8 → ¬ (T.testBit q = true ∧ (xt m k').testBit q = true) := by
                rcases w4 with w4 | ⟨a, b⟩
                · exact w4
                · exact absurd a y
              obtain ⟨q, rfl⟩ : ∃ q : Nat, i8 = (q : Int) := ⟨i8.toNat, by omega⟩
              have hb := bitL hT27 (show q < 27 by omega)
              refine Go_ite (fun z => ?_) (fun z => ?_)
              · refine Go_i (show gwI m e k T p A 48 (m : Int) (T : Int) ((m : Int) - 3 - (e : Int)) 0 (k' : Int) 1 ((q : Int) + 1) ((p + dn.length : Nat) : Int) li ∧ ((40 - (k' : Int)) * 100 + 60 - ((q : Int) + 1)).toNat < ((40 - (k' : Int)) * 100 + 60 - (q : Int)).toNat from ⟨⟨rfl, rfl, rfl, Or.inr ⟨e1, k', dn, rfl, v1, v2, v3, rfl, v4, v5, Or.inr (Or.inl ⟨rfl, w1, by omega, by omega, Or.inl ⟨rfl, fun q' hq' => ?_⟩⟩)⟩⟩, by omega⟩)
                by_cases g : q' = q
                · subst g
                  intro t
                  rw [if_pos t.1] at hb
                  rw [hb] at z
                  exact absurd z (by decide)
                · exact b q' (by omega)
              · have tq : T.testBit q = true := by
                  cases t : T.testBit q with
                  | true => rfl
                  | false => rw [t, if_neg (by decide)] at hb; exact absurd hb z
                have l1 := hL k' (by omega)
                have l2 := hL q (by omega)
                have cr := crl_ok h4 h9 (k := k') (q := q) (by omega) (by omega)
                refine Go_chk (by omega) ?_
                refine Go_chk (by omega) ?_
                rw [Int.toNat_natCast, Int.toNat_natCast, l1.1, l1.2, l2.1, l2.2, cr]
                refine Go_bind rfl ?_
                refine Go_ite (fun u => ?_) (fun u => ?_)
                · refine Go_i (show gwI m e k T p A 48 (m : Int) (T : Int) ((m : Int) - 3 - (e : Int)) 0 (k' : Int) 1 ((q : Int) + 1) ((p + dn.length : Nat) : Int) li ∧ ((40 - (k' : Int)) * 100 + 60 - ((q : Int) + 1)).toNat < ((40 - (k' : Int)) * 100 + 60 - (q : Int)).toNat from ⟨⟨rfl, rfl, rfl, Or.inr ⟨e1, k', dn, rfl, v1, v2, v3, rfl, v4, v5, Or.inr (Or.inl ⟨rfl, w1, by omega, by omega, Or.inl ⟨rfl, fun q' hq' => ?_⟩⟩)⟩⟩, by omega⟩)
                  by_cases g : q' = q
                  · subst g
                    intro t
                    rw [t.2] at u
                    cases u
                  · exact b q' (by omega)
                · exact Go_i (show gwI m e k T p A 48 (m : Int) (T : Int) ((m : Int) - 3 - (e : Int)) 0 (k' : Int) 0 ((q : Int) + 1) ((p + dn.length : Nat) : Int) li ∧ ((40 - (k' : Int)) * 100 + 60 - ((q : Int) + 1)).toNat < ((40 - (k' : Int)) * 100 + 60 - (q : Int)).toNat from ⟨⟨rfl, rfl, rfl, Or.inr ⟨e1, k', dn, rfl, v1, v2, v3, rfl, v4, v5, Or.inr (Or.inl ⟨rfl, w1, by omega, by omega, Or.inr ⟨rfl, and_nz tq (by
                    cases t : (xt m k').testBit q with
                    | true => rfl
                    | false => exact absurd t u)⟩⟩)⟩⟩, by omega⟩)
        · show Go _ (zg_X11_grow_119 (zf_X11_grow d) (pg7 m) ls gr (m : Int) (T : Int) ((m : Int) - 3 - (e : Int)) i5 (k' : Int) i7 i8 ((p + dn.length : Nat) : Int) li)
          unfold zg_X11_grow_119
          have hTk : T < 2 ^ k' := Nat.lt_of_lt_of_le hT (Nat.pow_le_pow_right (by decide) v1)
          obtain ⟨e', rfl⟩ : ∃ e', e = e' + 1 := ⟨e - 1, by omega⟩
          have sk : lnN m - k' = (lnN m - (k' + 1)) + 1 := by omega
          have sk' : lnN m - (lnN m - (k' + 1) + 1) = k' := by omega
          refine Go_chk (by unfold zout; omega) ?_
          refine Go_ite (fun x => ?_) (fun x => ?_)
          · have nz : ¬ xt m k' &&& T = 0 := by
              rcases w4 with ⟨a, b⟩ | ⟨a, b⟩
              · omega
              · exact b
            rw [sk, enF_f (X := xt m) (L := lnN m) (r := lnN m - (k' + 1)) (T := T) (e := e') (by rw [sk']; exact nz)] at v3
            exact Go_i (show gwI m (e' + 1) k T p A 33 (m : Int) (T : Int) ((m : Int) - 3 - ((e' + 1 : Nat) : Int)) 0 ((k' : Int) + 1) i7 0 ((p + dn.length : Nat) : Int) li ∧ ((40 - ((k' : Int) + 1)) * 100 + 99).toNat < ((40 - (k' : Int)) * 100 + 10).toNat from ⟨⟨rfl, rfl, rfl, Or.inr ⟨e1, k' + 1, dn, rfl, by omega, by omega, v3, rfl, v4, v5, Or.inl rfl⟩⟩, by omega⟩)
          · have iz : xt m k' &&& T = 0 := by
              rcases w4 with ⟨a, b⟩ | ⟨a, b⟩
              · exact b
              · exact absurd a x
            rw [sk, enF_t (X := xt m) (L := lnN m) (r := lnN m - (k' + 1)) (T := T) (e := e') (by rw [sk']; exact iz), sk'] at v3
            have hl := congrArg List.length v3
            rw [List.length_append, List.length_append] at hl
            have g := ih e' (k' + 1) (T ||| 2 ^ k') (p + dn.length) li (by omega) (by omega) (by omega) (low_or hTk) (by omega)
            rw [orL hT27 (show k' < 27 by omega), show (m : Int) - 3 - ((e' + 1 : Nat) : Int) + 1 = (m : Int) - 3 - (e' : Int) by omega]
            refine Go_bindP (x := zf_X11_grow d (pg7 m) ((p + dn.length : Nat) : Int) ls gr li (m : Int) ((T ||| 2 ^ k' : Nat) : Int) ((m : Int) - 3 - (e' : Int)) ((k' + 1 : Nat) : Int)) g (fun o q => ?_)
            obtain ⟨q1, q2, q3⟩ := q
            refine Go_i (show gwI m (e' + 1) k T p A 33 (m : Int) (T : Int) ((m : Int) - 3 - ((e' + 1 : Nat) : Int)) 0 ((k' : Int) + 1) i7 0 o.1 o.2 ∧ ((40 - ((k' : Int) + 1)) * 100 + 99).toNat < ((40 - (k' : Int)) * 100 + 10).toNat from ⟨⟨rfl, rfl, rfl, Or.inr ⟨e1, k' + 1, dn ++ enF (xt m) (lnN m) (lnN m - (k' + 1)) (T ||| 2 ^ k') e', rfl, by omega, by omega, ?_, ?_, fun j hj => ?_, ?_, Or.inl rfl⟩⟩, by omega⟩)
            · rw [v3, List.append_assoc]
            · rw [q1, List.length_append, Nat.add_assoc]
            · rw [q2 j (by omega)]; exact v4 j hj
            · exact AP_app _ _ _ (AP_fr _ _ v5 (fun j a b => q2 j (by omega))) q3
    · exact ⟨rfl, rfl, rfl, Or.inl ⟨rfl, rfl, rfl, rfl⟩⟩
    · show 100000 < jfuel
      unfold jfuel
      omega
/-! the sort -/
noncomputable def insR (v : Nat) (l : List Nat) : List Nat := List.rec (motive := fun _ => List Nat) [v] (fun x r ih => match Nat.ble x v with
  | true => v :: x :: r
  | false => x :: ih) l
theorem insR_t {v x : Nat} {r : List Nat} (h : x ≤ v) : insR v (x :: r) = v :: x :: r := by
  show (match Nat.ble x v with
    | true => v :: x :: r
    | false => x :: insR v r) = _
  rw [Nat.ble_eq_true_of_le h]
theorem insR_f {v x : Nat} {r : List Nat} (h : ¬ x ≤ v) : insR v (x :: r) = x :: insR v r := by
  show (match Nat.ble x v with
    | true => v :: x :: r
    | false => x :: insR v r) = _
  cases q : Nat.ble x v with
  | true => exact absurd (Nat.le_of_ble_eq_true q) h
  | false => rfl
theorem insR_len (v : Nat) (l : List Nat) : (insR v l).length = l.length + 1 := by
  induction l with
  | nil => rfl
  | cons x l ih =>
    by_cases h : x ≤ v
    · rw [insR_t h]; rfl
    · rw [insR_f h, List.length_cons, List.length_cons, ih]
noncomputable def frl (l : List Nat) : (List Nat → List Nat) → List Nat := List.rec (motive := fun _ => (List Nat → List Nat) → List Nat) (fun k => k []) (fun x _ ih k => frN x (fun x => ih (fun r => k (x :: r)))) l
theorem frl_e (l : List Nat) : ∀ k : List Nat → List Nat, frl l k = k l := by
  induction l with
  | nil => intro k; rfl
  | cons x l ih =>
    intro k
    show frN x (fun x => frl l (fun r => k (x :: r))) = _
    rw [frN_e]
    exact ih _
noncomputable def isF (l : List Nat) : List Nat → List Nat := List.rec (motive := fun _ => List Nat → List Nat) (fun a => a) (fun v _ ih a => frN v (fun v => frl (insR v a) ih)) l
theorem isF_c (v : Nat) (r a : List Nat) : isF (v :: r) a = isF r (insR v a) := by
  show frN v (fun v => frl (insR v a) (isF r)) = _
  rw [frN_e, frl_e]
theorem isF_len (l : List Nat) : ∀ a : List Nat, (isF l a).length = l.length + a.length := by
  induction l with
  | nil => intro a; exact (Nat.zero_add _).symm
  | cons v r ih =>
    intro a
    rw [isF_c, ih, insR_len, List.length_cons]
    omega
noncomputable def eqN (l : List Nat) : List Nat → Bool := List.rec (motive := fun _ => List Nat → Bool) (fun r => match r with
  | [] => true
  | _ :: _ => false) (fun x _ ih r => match r with
  | [] => false
  | y :: r => match Nat.beq x y with
    | true => ih r
    | false => false) l
theorem eqN_e (l : List Nat) : ∀ r, eqN l r = true → l = r := by
  induction l with
  | nil =>
    intro r h
    cases r with
    | nil => rfl
    | cons y r => cases h
  | cons x l ih =>
    intro r h
    cases r with
    | nil => cases h
    | cons y r =>
      have h : (match Nat.beq x y with
        | true => eqN l r
        | false => false) = true := h
      cases q : Nat.beq x y with
      | false => rw [q] at h; cases h
      | true =>
        rw [q] at h
        rw [Nat.eq_of_beq_eq_true q, ih r h]
noncomputable def rlN (f : Nat → Nat) (n : Nat) : List Nat := Nat.rec (motive := fun _ => List Nat) [] (fun j ih => f j :: ih) n
theorem rlN_len (f : Nat → Nat) (n : Nat) : (rlN f n).length = n := by
  induction n with
  | zero => rfl
  | succ n ih =>
    show (rlN f n).length + 1 = _
    rw [ih]
noncomputable def lstK (m : Nat) : Bool := frN (lnN m) (fun L => frN (pg4 m) (fun P => eqN (isF (enF (fun k => (P >>> (32 * k)) % 4294967296) L L 0 (m - 3)) []) (rlN (fun j => (zget (pg6 m) j).toNat) (pg8 m).toNat)))
theorem lst_tab : ∀ m : Nat, 4 ≤ m → m ≤ 9 → lstK m = true := pg_cases (by decide +kernel) (by decide +kernel) (by decide +kernel) (by decide +kernel) (by decide +kernel) (by decide +kernel)
theorem lst_ok {m : Nat} (h4 : 4 ≤ m) (h9 : m ≤ 9) : isF (enF (xt m) (lnN m) (lnN m) 0 (m - 3)) [] = rlN (fun j => (zget (pg6 m) j).toNat) (pg8 m).toNat := by
  have t := lst_tab m h4 h9
  unfold lstK at t
  rw [frN_e, frN_e] at t
  exact eqN_e _ _ t
/-- an array's places from s on, the last one first -/
def RV (A : Nat) : List Nat → Nat → Prop
  | [], _ => True
  | x :: r, s => zgetL A (s + r.length) = (x : Int) ∧ RV A r s
theorem RV_app {A : Nat} : ∀ (l r : List Nat) (s : Nat), RV A l (s + r.length) → RV A r s → RV A (l ++ r) s := by
  intro l
  induction l with
  | nil => intro r s _ h; exact h
  | cons x l ih =>
    intro r s h1 h2
    refine ⟨?_, ih r s h1.2 h2⟩
    show zgetL A (s + (l ++ r).length) = (x : Int)
    rw [List.length_append, show s + (l.length + r.length) = s + r.length + l.length by omega]
    exact h1.1
theorem RV_fr {A B : Nat} : ∀ (l : List Nat) (s : Nat), RV A l s → (∀ j, s ≤ j → j < s + l.length → zgetL B j = zgetL A j) → RV B l s := by
  intro l
  induction l with
  | nil => intro s _ _; exact True.intro
  | cons x l ih =>
    intro s h1 h2
    rw [List.length_cons] at h2
    exact ⟨(h2 _ (by omega) (by omega)).trans h1.1, ih s h1.2 (fun j a b => h2 j a (by omega))⟩
theorem RV_at {A : Nat} {f : Nat → Nat} : ∀ n : Nat, RV A (rlN f n) 0 → ∀ k, k < n → zgetL A k = (f k : Int) := by
  intro n
  induction n with
  | zero => intro _ k hk; omega
  | succ n ih =>
    intro h k hk
    have h : zgetL A (0 + (rlN f n).length) = (f n : Int) ∧ RV A (rlN f n) 0 := h
    rw [rlN_len, Nat.zero_add] at h
    by_cases e : k = n
    · rw [e]; exact h.1
    · exact ih h.2 k (by omega)
theorem LI_k {m li c : Nat} (h : allF (fun k => decide (zgetL li k = zget (pg6 m) k)) 0 c = true) (hc : pg8 m = (c : Int)) : ∀ k : Nat, (k : Int) < pg8 m → zgetL li k = zget (pg6 m) k := fun k hk => of_decide_eq_true (allF_at h (m := k) (by omega))
def lfP (m : Nat) : Prop := ∀ (ln lf lm lc : Int) (nf ls gr li : Nat) (_ : -2147483648 ≤ lf) (_ : lf ≤ 2147483647) (_ : -2147483648 ≤ lc) (_ : lc ≤ 2147483647) (_ : lf = (m : Int) → LT m ln nf ls gr) (_ : lc = (m : Int) → LI m lm li), Go (fun o => o.2.1 = (m : Int) ∧ LT m o.1 o.2.2.2.2.1 o.2.2.2.2.2.1 o.2.2.2.2.2.2.1 ∧ o.2.2.2.1 = (m : Int) ∧ LI m o.2.2.1 o.2.2.2.2.2.2.2) (zf_X11_listFor ln lf lm lc nf ls gr li (m : Int))
def srI (m : Nat) (ln0 lf0 lm0 lc0 : Int) (nf0 ls0 gr0 li0 : Nat) (n : Nat) (R : List Nat) (lab : Nat) (i1 i2 i3 i5 a b c d : Int) (e f g li : Nat) : Prop := (lab = 0 ∧ i1 = (m : Int) ∧ a = ln0 ∧ b = lf0 ∧ c = lm0 ∧ d = lc0 ∧ e = nf0 ∧ f = ls0 ∧ g = gr0 ∧ li = li0) ∨ (b = (m : Int) ∧ LT m a e f g ∧ c = (n : Int) ∧ d = (m : Int) ∧ ((lab = 34 ∧ ∃ S rest : List Nat, i2 = (S.length : Int) ∧ S.length + rest.length = n ∧ isF rest S = R ∧ RV li S 0 ∧ AP li rest S.length) ∨ (lab = 52 ∧ ∃ (hi lo rest : List Nat) (v : Nat), ¬ zoutL (v : Int) ∧ i3 = (v : Int) ∧ i5 = (lo.length : Int) ∧ i2 = ((hi.length + lo.length : Nat) : Int) ∧ hi.length + lo.length + 1 + rest.length = n ∧ isF rest (hi ++ insR v lo) = R ∧ RV li hi (lo.length + 1) ∧ RV li lo 0 ∧ AP li rest (hi.length + lo.length + 1))))
set_option maxRecDepth 20000 in
set_option maxHeartbeats 4000000 in
theorem ok_lf : ∀ m : Nat, 4 ≤ m → m ≤ 9 → lfP m := by
  intro m h4 h9 ln lf lm lc nf ls gr li hf1 hf2 hd1 hd2 hT hK
  have r7 := rpg7 h4 h9
  have r8 := rpg8 h4 h9
  have ek := lst_ok h4 h9
  obtain ⟨n, en⟩ : ∃ n : Nat, pg8 m = (n : Int) := ⟨(pg8 m).toNat, by omega⟩
  have el : (enF (xt m) (lnN m) (lnN m) 0 (m - 3)).length = n := by
    have := congrArg List.length ek
    rw [isF_len, rlN_len, List.length_nil] at this
    omega
  obtain ⟨⟨a1, b1, e1, f1, g1⟩, ho, q1, q2⟩ := ok_linesOf m h4 h9 ln lf nf ls gr hf1 hf2 hT
  have q1 : b1 = (m : Int) := q1
  have q2 : LT m a1 e1 f1 g1 := q2
  unfold zf_X11_listFor
  refine jok (fun (s : zS_X11_listFor) => match s with | (lab, i1, i2, i3, i5, a, b, c, d, e, f, g, l) => srI m ln lf lm lc nf ls gr li n (rlN (fun j => (zget (pg6 m) j).toNat) n) lab i1 i2 i3 i5 a b c d e f g l) (fun (s : zS_X11_listFor) => match s with | (lab, i1, i2, i3, i5, a, b, c, d, e, f, g, l) => if lab = 0 then 900000 else if lab = 34 then ((500 - i2) * 1000 + 999).toNat else ((500 - i2) * 1000 + i5).toNat) (fun (o : zO_X11_listFor) => o.2.1 = (m : Int) ∧ LT m o.1 o.2.2.2.2.1 o.2.2.2.2.2.1 o.2.2.2.2.2.2.1 ∧ o.2.2.2.1 = (m : Int) ∧ LI m o.2.2.1 o.2.2.2.2.2.2.2) ?_ _ ?_ ?_
  · intro s hI0
    obtain ⟨lab, i1, i2, i3, i5, a, b, c, d, e, f, g, l⟩ := s
    have hI1 : srI m ln lf lm lc nf ls gr li n (rlN (fun j => (zget (pg6 m) j).toNat) n) lab i1 i2 i3 i5 a b c d e f g l := hI0
    unfold srI at hI1
    clear hI0
    rcases hI1 with ⟨rfl, rfl, rfl, rfl, rfl, rfl, rfl, rfl, rfl, rfl⟩ | ⟨rfl, hLT, rfl, rfl, hI2⟩
    · show Go _ (zg_X11_listFor_0 (m : Int) i2 i3 i5 a b c d e f g l)
      unfold zg_X11_listFor_0
      refine Go_bind ho ?_
      refine Go_chk (by unfold zout; omega) ?_
      refine Go_chk (by unfold zout; omega) ?_
      refine Go_ite (fun x => ?_) (fun x => ?_)
      · exact Go_i (show b1 = (m : Int) ∧ LT m a1 e1 f1 g1 ∧ d = (m : Int) ∧ LI m c l from ⟨q1, q2, x, hK x⟩)
      · have gg := grow_ok h4 h9 q2.2.2 9 (m - 3) 0 0 0 l (by omega) (Nat.le_refl _) (Nat.zero_le _) (by decide) (by rw [Nat.sub_zero, el]; omega)
        rw [Nat.sub_zero, el, show (m : Int) - 3 - ((m - 3 : Nat) : Int) = 0 by omega, ← q2.1] at gg
        refine Go_bindP (x := zf_X11_grow 9 a1 (0 : Int) f1 g1 l (m : Int) (0 : Int) (0 : Int) (0 : Int)) gg (fun o q => ?_)
        obtain ⟨p1, _, p3⟩ := q
        rw [Nat.zero_add] at p1
        cases hE : enF (xt m) (lnN m) (lnN m) 0 (m - 3) with
        | nil => rw [hE, List.length_nil] at el; omega
        | cons v rest =>
          rw [hE] at p3 ek el
          rw [List.length_cons] at el
          rw [isF_c] at ek
          refine Go_i (show srI m a b c d e f g l n (rlN (fun j => (zget (pg6 m) j).toNat) n) 34 (m : Int) 1 0 0 a1 b1 o.1 (m : Int) e1 f1 g1 o.2 ∧ ((500 - (1 : Int)) * 1000 + 999).toNat < 900000 from ⟨Or.inr ⟨q1, q2, p1, rfl, Or.inl ⟨rfl, [v], rest, rfl, ?_, ?_, ⟨p3.1, True.intro⟩, p3.2⟩⟩, by decide⟩)
          · show 1 + rest.length = n
            omega
          · rw [show n = (pg8 m).toNat by omega]
            exact ek
    · rcases hI2 with ⟨rfl, S, rest, rfl, v1, v2, v3, v4⟩ | ⟨rfl, hi, lo, rest, v, v0, rfl, rfl, rfl, v1, v2, v3, v4, v5⟩
      · show Go _ (zg_X11_listFor_34 i1 (S.length : Int) i3 i5 a (m : Int) (n : Int) (m : Int) e f g l)
        unfold zg_X11_listFor_34
        refine Go_chk (by unfold zout; omega) ?_
        refine Go_chk (by unfold zout; omega) ?_
        refine Go_ite (fun x => ?_) (fun x => ?_)
        · cases rest with
          | cons y r => rw [List.length_cons] at v1; omega
          | nil =>
            have v2 : S = rlN (fun j => (zget (pg6 m) j).toNat) n := v2
            rw [v2] at v3
            refine Go_i (show (m : Int) = (m : Int) ∧ LT m a e f g ∧ (m : Int) = (m : Int) ∧ ((n : Int) = pg8 m ∧ ∀ k : Nat, (k : Int) < pg8 m → zgetL l k = zget (pg6 m) k) from ⟨rfl, hLT, rfl, en.symm, fun k hk => ?_⟩)
            have t := RV_at n v3 k (by omega)
            have r6 := rpg6 h4 h9 k (by omega)
            rw [t]
            show (((zget (pg6 m) k).toNat : Nat) : Int) = _
            omega
        · cases rest with
          | nil => rw [List.length_nil] at v1; omega
          | cons y r =>
            rw [List.length_cons] at v1
            rw [isF_c] at v2
            have zi := zgetL_in l S.length
            obtain ⟨v5, v6⟩ := v4
            rw [v5] at zi
            refine Go_chk (by omega) ?_
            rw [Int.toNat_natCast, v5]
            exact Go_i (show srI m ln lf lm lc nf ls gr li n (rlN (fun j => (zget (pg6 m) j).toNat) n) 52 0 (S.length : Int) (y : Int) (S.length : Int) a (m : Int) (n : Int) (m : Int) e f g l ∧ ((500 - (S.length : Int)) * 1000 + (S.length : Int)).toNat < ((500 - (S.length : Int)) * 1000 + 999).toNat from ⟨Or.inr ⟨rfl, hLT, rfl, rfl, Or.inr ⟨rfl, [], S, r, y, zi, rfl, rfl, by rw [List.length_nil, Nat.zero_add], by rw [List.length_nil]; omega, v2, True.intro, v3, by rw [List.length_nil, Nat.zero_add]; exact v6⟩⟩, by omega⟩)
      · show Go _ (zg_X11_listFor_52 i1 ((hi.length + lo.length : Nat) : Int) (v : Int) (lo.length : Int) a (m : Int) (n : Int) (m : Int) e f g l)
        unfold zg_X11_listFor_52
        have put : ∀ j, zgetL (zsetL l lo.length (v : Int)) j = if j = lo.length then (v : Int) else zgetL l j := fun j => by rw [zgetL_set, zwL_id v0]
        have fin : insR v lo = v :: lo → srI m ln lf lm lc nf ls gr li n (rlN (fun j => (zget (pg6 m) j).toNat) n) 34 0 (((hi.length + lo.length : Nat) : Int) + 1) (v : Int) (lo.length : Int) a (m : Int) (n : Int) (m : Int) e f g (zsetL l lo.length (v : Int)) ∧ ((500 - (((hi.length + lo.length : Nat) : Int) + 1)) * 1000 + 999).toNat < ((500 - ((hi.length + lo.length : Nat) : Int)) * 1000 + (lo.length : Int)).toNat := by
          intro hv
          rw [hv] at v2
          refine ⟨Or.inr ⟨rfl, hLT, rfl, rfl, Or.inl ⟨rfl, hi ++ v :: lo, rest, ?_, ?_, v2, ?_, ?_⟩⟩, by omega⟩
          · rw [List.length_append, List.length_cons]; omega
          · rw [List.length_append, List.length_cons]; omega
          · refine RV_app hi (v :: lo) 0 ?_ ⟨?_, ?_⟩
            · rw [List.length_cons, Nat.zero_add]
              exact RV_fr _ _ v3 (fun j x y => by rw [put, if_neg (by omega)])
            · rw [put, if_pos (by omega)]
            · exact RV_fr _ _ v4 (fun j x y => by rw [put, if_neg (by omega)])
          · rw [List.length_append, List.length_cons, ← Nat.add_assoc]
            exact AP_fr _ _ v5 (fun j x y => by rw [put, if_neg (by omega)])
        refine Go_chk (by unfold zout; omega) ?_
        refine Go_ite (fun x => ?_) (fun x => ?_)
        · have lo0 : lo = [] := by
            cases lo with
            | nil => rfl
            | cons y r => rw [List.length_cons] at x; omega
          refine Go_chk (by omega) ?_
          rw [Int.toNat_natCast]
          exact Go_i (fin (by rw [lo0]; rfl))
        · cases lo with
          | nil => exact absurd (show ((([] : List Nat).length : Nat) : Int) ≤ 0 by rw [List.length_nil]; decide) x
          | cons y r =>
            rw [List.length_cons] at v1 v3 v5 put fin x ⊢
            obtain ⟨y1, y2⟩ := v4
            rw [Nat.zero_add] at y1
            have zi := zgetL_in l r.length
            rw [y1] at zi
            refine Go_chk (by omega) ?_
            refine Go_chk v0 ?_
            rw [show Int.toNat (((r.length + 1 : Nat) : Int) - (1 : Int)) = r.length by omega, y1, Int.toNat_natCast]
            refine Go_ite (fun z => ?_) (fun z => ?_)
            · refine Go_chk (by omega) ?_
              exact Go_i (fin (insR_t (by omega)))
            · refine Go_chk (by omega) ?_
              rw [insR_f (by omega)] at v2
              have put2 : ∀ j, zgetL (zsetL l (r.length + 1) (y : Int)) j = if j = r.length + 1 then (y : Int) else zgetL l j := fun j => by rw [zgetL_set, zwL_id zi]
              refine Go_i (show srI m ln lf lm lc nf ls gr li n (rlN (fun j => (zget (pg6 m) j).toNat) n) 52 0 ((hi.length + (r.length + 1) : Nat) : Int) (v : Int) (((r.length + 1 : Nat) : Int) + (-1 : Int)) a (m : Int) (n : Int) (m : Int) e f g (zsetL l (r.length + 1) (y : Int)) ∧ ((500 - ((hi.length + (r.length + 1) : Nat) : Int)) * 1000 + (((r.length + 1 : Nat) : Int) + (-1 : Int))).toNat < ((500 - ((hi.length + (r.length + 1) : Nat) : Int)) * 1000 + ((r.length + 1 : Nat) : Int)).toNat from ⟨Or.inr ⟨rfl, hLT, rfl, rfl, Or.inr ⟨rfl, hi ++ [y], r, rest, v, v0, rfl, by omega, ?_, ?_, ?_, ?_, ?_, ?_⟩⟩, by omega⟩)
              · rw [List.length_append, List.length_cons, List.length_nil]; omega
              · rw [List.length_append, List.length_cons, List.length_nil]; omega
              · rw [List.append_assoc]; exact v2
              · refine RV_app hi [y] (r.length + 1) ?_ ⟨?_, True.intro⟩
                · rw [List.length_cons, List.length_nil, Nat.zero_add]
                  exact RV_fr _ _ v3 (fun j x y => by rw [put2, if_neg (by omega)])
                · rw [List.length_nil, put2, if_pos (by omega)]
              · exact RV_fr _ _ y2 (fun j x y => by rw [put2, if_neg (by omega)])
              · rw [List.length_append, List.length_cons, List.length_nil, Nat.zero_add, show hi.length + 1 + r.length + 1 = hi.length + (r.length + 1) + 1 by omega]
                exact AP_fr _ _ v5 (fun j x y => by rw [put2, if_neg (by omega)])
  · exact Or.inl ⟨rfl, rfl, rfl, rfl, rfl, rfl, rfl, rfl, rfl, rfl⟩
  · show 900000 < jfuel
    unfold jfuel
    omega
end

section
/-! flipped: what the reference comes to -/
noncomputable def flC (m : Nat) (c : Int) (p q k : Nat) : Bool := !(decide (k = p)) && (!(decide (k = q)) && (nearB m c k p && nearB m c k q))
noncomputable def flN (m : Nat) (c : Int) (p q : Nat) (k : Nat) : Int × Int := Nat.rec (-1, -1) (fun k r => match flC m c p q k with
  | true => match decide (r.1 = -1) with
    | true => ((k : Int), (k : Int))
    | false => (r.1, (k : Int))
  | false => r) k
theorem flN_0 (m : Nat) (c : Int) (p q : Nat) : flN m c p q 0 = (-1, -1) := rfl
theorem flN_f {m : Nat} {c : Int} {p q k : Nat} (h : flC m c p q k = false) : flN m c p q (k + 1) = flN m c p q k := by
  show (match flC m c p q k with | true => _ | false => _) = _
  rw [h]
  rfl
theorem flN_1 {m : Nat} {c : Int} {p q k : Nat} (h : flC m c p q k = true) (h1 : (flN m c p q k).1 = -1) : flN m c p q (k + 1) = ((k : Int), (k : Int)) := by
  show (match flC m c p q k with | true => (match decide ((flN m c p q k).1 = -1) with | true => _ | false => _) | false => _) = _
  rw [h, decide_eq_true h1]
theorem flN_2 {m : Nat} {c : Int} {p q k : Nat} (h : flC m c p q k = true) (h1 : ¬ (flN m c p q k).1 = -1) : flN m c p q (k + 1) = ((flN m c p q k).1, (k : Int)) := by
  show (match flC m c p q k with | true => (match decide ((flN m c p q k).1 = -1) with | true => _ | false => _) | false => _) = _
  rw [h, decide_eq_false h1]
  rfl
theorem flN_rng {m : Nat} {c : Int} {p q : Nat} : ∀ k : Nat, -1 ≤ (flN m c p q k).1 ∧ (flN m c p q k).1 < (k : Int) ∧ (flN m c p q k).2 < (k : Int) := by
  intro k
  induction k with
  | zero => rw [flN_0]; decide
  | succ k ih =>
    cases h : flC m c p q k with
    | false => rw [flN_f h]; omega
    | true =>
      by_cases h1 : (flN m c p q k).1 = -1
      · rw [flN_1 h h1]; exact ⟨by omega, by omega, by omega⟩
      · rw [flN_2 h h1]; exact ⟨by omega, by omega, by omega⟩
/-- the loop -/
theorem fl_run (m : Nat) (h4 : 4 ≤ m) (h9 : m ≤ 9) {nf : Nat} (hn : LN m nf m 0) (c : Int) {p q : Nat} (hp : p < m) (hq : q < m) (f1 f2 : Int) (hA : 0 ≤ (flN m c p q m).1) (hB : 0 ≤ (flN m c p q m).2) (hAB : ¬ (flN m c p q m).1 = (flN m c p q m).2) :
    Go (fun o => o = (zorL (zandL c (zxorL (zshlL 1 (zget nf (10 * p + q))) (-1))) (zshlL 1 (zget (pg3 m) (9 * (flN m c p q m).1.toNat + (flN m c p q m).2.toNat))), (flN m c p q m).1, (flN m c p q m).2)) (zf_X11_flipped f1 f2 nf (m : Int) c (p : Int) (q : Int)) := by
  unfold zf_X11_flipped
  refine jok (fun (s : zS_X11_flipped) => match s with | (lab, i1', i2', i4', i5', i6', one, two) => (lab = 0 ∧ i1' = (m : Int) ∧ i2' = c ∧ i4' = (p : Int) ∧ i5' = (q : Int)) ∨ (lab = 8 ∧ i1' = (m : Int) ∧ i2' = c ∧ i4' = (p : Int) ∧ i5' = (q : Int) ∧ ∃ k : Nat, i6' = (k : Int) ∧ k ≤ m ∧ one = (flN m c p q k).1 ∧ (¬ (flN m c p q k).1 = -1 → two = (flN m c p q k).2))) (fun (s : zS_X11_flipped) => match s with | (lab, i1', i2', i4', i5', i6', one, two) => if lab = 0 then 1000 else ((m : Int) - i6').toNat) _ ?_ _ ?_ ?_
  · intro s hI
    obtain ⟨lab, i1', i2', i4', i5', i6', one, two⟩ := s
    replace hI : (lab = 0 ∧ i1' = (m : Int) ∧ i2' = c ∧ i4' = (p : Int) ∧ i5' = (q : Int)) ∨ (lab = 8 ∧ i1' = (m : Int) ∧ i2' = c ∧ i4' = (p : Int) ∧ i5' = (q : Int) ∧ ∃ k : Nat, i6' = (k : Int) ∧ k ≤ m ∧ one = (flN m c p q k).1 ∧ (¬ (flN m c p q k).1 = -1 → two = (flN m c p q k).2)) := hI
    rcases hI with ⟨rfl, rfl, rfl, rfl, rfl⟩ | ⟨rfl, rfl, rfl, rfl, rfl, k, rfl, hk, rfl, h2⟩
    · show Go _ (zg_X11_flipped_0 nf (m : Int) i2' (p : Int) (q : Int) i6' one two)
      unfold zg_X11_flipped_0
      exact Go_i ⟨Or.inr ⟨rfl, rfl, rfl, rfl, rfl, 0, rfl, by omega, rfl, fun h => absurd rfl h⟩, by show ((m : Int) - 0).toNat < 1000; omega⟩
    · have hr := flN_rng (m := m) (c := i2') (p := p) (q := q) k
      show Go _ (zg_X11_flipped_8 nf (m : Int) i2' (p : Int) (q : Int) (k : Int) (flN m i2' p q k).1 two)
      unfold zg_X11_flipped_8
      refine Go_chk (by unfold zout; omega) ?_
      refine Go_chk (by unfold zout; omega) ?_
      refine Go_ite (fun c1 => ?_) (fun c1 => ?_)
      · have e : k = m := by omega
        subst e
        have h2 := h2 (by omega)
        subst h2
        refine Go_chk (by omega) ?_
        refine Go_chk (by omega) ?_
        refine Go_i ?_
        show (_, _, _) = (_, _, _)
        have e1 : Int.toNat ((10 : Int) * (p : Int) + (q : Int)) = 10 * p + q := by omega
        have e2 : Int.toNat ((10 : Int) * (flN k i2' p q k).1 + (flN k i2' p q k).2) = 10 * (flN k i2' p q k).1.toNat + (flN k i2' p q k).2.toNat := by omega
        have e3 : zget nf (10 * (flN k i2' p q k).1.toNat + (flN k i2' p q k).2.toNat) = zget (pg3 k) (9 * (flN k i2' p q k).1.toNat + (flN k i2' p q k).2.toNat) := LN_get hn (by omega) (by omega) (by omega)
        rw [e1, e2, e3]
      · have hkm : k < m := by omega
        have st : ∀ (a b : Int), a = (flN m i2' p q (k + 1)).1 → (¬ (flN m i2' p q (k + 1)).1 = -1 → b = (flN m i2' p q (k + 1)).2) → Go (GoE (fun (s' : zS_X11_flipped) => (match s' with | (lab, i1', i2'', i4', i5', i6', one, two) => (lab = 0 ∧ i1' = (m : Int) ∧ i2'' = i2' ∧ i4' = (p : Int) ∧ i5' = (q : Int)) ∨ (lab = 8 ∧ i1' = (m : Int) ∧ i2'' = i2' ∧ i4' = (p : Int) ∧ i5' = (q : Int) ∧ ∃ k : Nat, i6' = (k : Int) ∧ k ≤ m ∧ one = (flN m i2' p q k).1 ∧ (¬ (flN m i2' p q k).1 = -1 → two = (flN m i2' p q k).2))) ∧ (match s' with | (lab, i1', i2', i4', i5', i6', one, two) => if lab = 0 then 1000 else ((m : Int) - i6').toNat) < ((m : Int) - (k : Int)).toNat) (fun (o : zO_X11_flipped) => o = (zorL (zandL i2' (zxorL (zshlL 1 (zget nf (10 * p + q))) (-1))) (zshlL 1 (zget (pg3 m) (9 * (flN m i2' p q m).1.toNat + (flN m i2' p q m).2.toNat))), (flN m i2' p q m).1, (flN m i2' p q m).2))) (some (.inr ((8 : Nat), (m : Int), i2', (p : Int), (q : Int), ((k : Int) + (1 : Int)), a, b))) := fun a b ha hb => Go_i ⟨Or.inr ⟨rfl, rfl, rfl, rfl, rfl, k + 1, by omega, by omega, ha, hb⟩, by show ((m : Int) - ((k : Int) + 1)).toNat < _; omega⟩
        refine Go_chk (by unfold zout; omega) ?_
        have nf_ : flC m i2' p q k = false → (flN m i2' p q k).1 = (flN m i2' p q (k + 1)).1 ∧ (¬ (flN m i2' p q (k + 1)).1 = -1 → two = (flN m i2' p q (k + 1)).2) := fun h => by rw [flN_f h]; exact ⟨rfl, h2⟩
        refine Go_ite (fun c2 => ?_) (fun c2 => ?_)
        · have h : flC m i2' p q k = false := by unfold flC; rw [decide_eq_true (show k = p by omega)]; rfl
          exact st _ _ (nf_ h).1 (nf_ h).2
        · refine Go_chk (by unfold zout; omega) ?_
          refine Go_ite (fun c3 => ?_) (fun c3 => ?_)
          · have h : flC m i2' p q k = false := by unfold flC; rw [decide_eq_true (show k = q by omega)]; cases (!decide (k = p)) <;> rfl
            exact st _ _ (nf_ h).1 (nf_ h).2
          · have d1 : decide (k = p) = false := decide_eq_false (by omega)
            have d2 : decide (k = q) = false := decide_eq_false (by omega)
            have n1 := near_eq h4 h9 hn i2' (i := (k : Int)) (j := (p : Int)) (by omega) (by omega) (by omega) (by omega)
            have n2 := near_eq h4 h9 hn i2' (i := (k : Int)) (j := (q : Int)) (by omega) (by omega) (by omega) (by omega)
            rw [n1]
            simp only [Int.toNat_natCast, Option.bind_some]
            refine Go_ite (fun c4 => ?_) (fun c4 => ?_)
            · have h : flC m i2' p q k = false := by unfold flC; rw [d1, d2, c4]; rfl
              exact st _ _ (nf_ h).1 (nf_ h).2
            · rw [n2]
              simp only [Int.toNat_natCast, Option.bind_some]
              refine Go_ite (fun c5 => ?_) (fun c5 => ?_)
              · have h : flC m i2' p q k = false := by unfold flC; rw [d1, d2, bnf c4, c5]; rfl
                exact st _ _ (nf_ h).1 (nf_ h).2
              · have h : flC m i2' p q k = true := by unfold flC; rw [d1, d2, bnf c4, bnf c5]; rfl
                refine Go_chk (by unfold zout; omega) ?_
                refine Go_ite (fun c6 => ?_) (fun c6 => ?_)
                · have e := flN_1 h c6
                  exact st _ _ (by rw [e]) (fun _ => by rw [e])
                · have e := flN_2 h c6
                  exact st _ _ (by rw [e]) (fun _ => by rw [e])
  · exact Or.inl ⟨rfl, rfl, rfl, rfl, rfl⟩
  · show 1000 < jfuel
    unfold jfuel
    omega
end
