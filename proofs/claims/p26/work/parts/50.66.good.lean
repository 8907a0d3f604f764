/-! sets of lines none of which cross: m - 3 of them are a cut -/
/-- how many of the lines below k -/
noncomputable def pop (T : Nat) (k : Nat) : Nat := Nat.rec 0 (fun a r => match T.testBit a with
  | true => r + 1
  | false => r) k
theorem pop_t {T k : Nat} (h : T.testBit k = true) : pop T (k + 1) = pop T k + 1 := by
  show (match T.testBit k with | true => pop T k + 1 | false => pop T k) = _
  rw [h]
theorem pop_f {T k : Nat} (h : T.testBit k = false) : pop T (k + 1) = pop T k := by
  show (match T.testBit k with | true => pop T k + 1 | false => pop T k) = _
  rw [h]
theorem pop_same {T T' : Nat} : ∀ k : Nat, (∀ a, a < k → T'.testBit a = T.testBit a) → pop T' k = pop T k := by
  intro k
  induction k with
  | zero => intro _; rfl
  | succ k ih =>
    intro h
    have i := ih (fun a ha => h a (by omega))
    cases e : T.testBit k with
    | true => rw [pop_t e, pop_t ((h k (by omega)).trans e), i]
    | false => rw [pop_f e, pop_f ((h k (by omega)).trans e), i]
theorem or_bit (T l a : Nat) : (T ||| 2 ^ l).testBit a = (T.testBit a || decide (l = a)) := by
  rw [Nat.testBit_or, Nat.testBit_two_pow]
theorem pop_add {T l : Nat} (h : T.testBit l = false) : ∀ k : Nat, l < k → pop (T ||| 2 ^ l) k = pop T k + 1 := by
  intro k
  induction k with
  | zero => intro h; omega
  | succ k ih =>
    intro hk
    by_cases e : l = k
    · subst e
      have b : (T ||| 2 ^ l).testBit l = true := by rw [or_bit, decide_eq_true rfl, Bool.or_true]
      rw [pop_t b, pop_f h]
      rw [pop_same (T := T) (T' := T ||| 2 ^ l) l (fun a ha => by rw [or_bit, decide_eq_false (by omega), Bool.or_false])]
    · have i := ih (by omega)
      have b : (T ||| 2 ^ l).testBit k = T.testBit k := by rw [or_bit, decide_eq_false e, Bool.or_false]
      cases z : T.testBit k with
      | true => rw [pop_t (b.trans z), pop_t z, i]
      | false => rw [pop_f (b.trans z), pop_f z, i]
def good (m T : Nat) : Prop := ∀ a b, a < lnN m → b < lnN m → T.testBit a = true → T.testBit b = true → (crM m a).testBit b = false
noncomputable def memB (m S : Nat) : Bool := match zf_X5_numberOf m (S : Int) with
  | none => false
  | some r => decide (0 ≤ r ∧ r < pg8 m ∧ zget (pg6 m) r.toNat = (S : Int))
noncomputable def chkN (m : Nat) (r : Nat) : Nat → Nat → Bool := Nat.rec (fun S cnt => match decide (cnt = m - 3) with
    | true => memB m S
    | false => true) (fun r ih S cnt => match ih S cnt with
    | false => false
    | true => match decide (S &&& crM m (lnN m - (r + 1)) = 0) with
      | true => ih (S ||| 2 ^ (lnN m - (r + 1))) (cnt + 1)
      | false => true) r
theorem memB_ok {m S : Nat} (h : memB m S = true) : isCut m (S : Int) := by
  unfold memB at h
  revert h
  cases zf_X5_numberOf m (S : Int) with
  | none => intro h; cases h
  | some r =>
    intro h
    have q := of_decide_eq_true h
    exact ⟨r.toNat, by omega, q.2.2.symm⟩
theorem chkN_s {m r S cnt : Nat} (h : chkN m (r + 1) S cnt = true) : chkN m r S cnt = true ∧ (S &&& crM m (lnN m - (r + 1)) = 0 → chkN m r (S ||| 2 ^ (lnN m - (r + 1))) (cnt + 1) = true) := by
  replace h : (match chkN m r S cnt with
    | false => false
    | true => match decide (S &&& crM m (lnN m - (r + 1)) = 0) with
      | true => chkN m r (S ||| 2 ^ (lnN m - (r + 1))) (cnt + 1)
      | false => true) = true := h
  cases e : chkN m r S cnt with
  | false => rw [e] at h; cases h
  | true =>
    rw [e] at h
    refine ⟨rfl, fun z => ?_⟩
    rw [decide_eq_true z] at h
    exact h
theorem chk_ok {m : Nat} {T : Nat} (hT : T < 2 ^ lnN m) (hg : good m T) (hp : pop T (lnN m) = m - 3) : ∀ r S : Nat, r ≤ lnN m → chkN m r S (pop T (lnN m - r)) = true → (∀ a, a < lnN m - r → S.testBit a = T.testBit a) → (∀ a, lnN m - r ≤ a → S.testBit a = false) → isCut m (T : Int) := by
  intro r
  induction r with
  | zero =>
    intro S _ h h1 h2
    have e : S = T := by
      apply Nat.eq_of_testBit_eq
      intro a
      by_cases z : a < lnN m
      · exact h1 a (by omega)
      · rw [h2 a (by omega), Nat.testBit_lt_two_pow (Nat.lt_of_lt_of_le hT (Nat.pow_le_pow_right (by decide) (by omega)))]
    subst e
    replace h : (match decide (pop S (lnN m - 0) = m - 3) with
      | true => memB m S
      | false => true) = true := h
    rw [Nat.sub_zero, decide_eq_true hp] at h
    exact memB_ok h
  | succ r ih =>
    intro S hr h h1 h2
    have q := chkN_s h
    have ek : lnN m - r = lnN m - (r + 1) + 1 := by omega
    cases b : T.testBit (lnN m - (r + 1)) with
    | false =>
      refine ih S (by omega) ?_ ?_ (fun a ha => h2 a (by omega))
      · rw [ek, pop_f b]; exact q.1
      · intro a ha
        by_cases z : a = lnN m - (r + 1)
        · subst z; rw [b]; exact h2 _ (Nat.le_refl _)
        · exact h1 a (by omega)
    | true =>
      have z : S &&& crM m (lnN m - (r + 1)) = 0 := by
        apply Nat.eq_of_testBit_eq
        intro a
        rw [Nat.testBit_and, Nat.zero_testBit]
        cases sa : S.testBit a with
        | false => rfl
        | true =>
          have al : a < lnN m - (r + 1) := by
            by_cases y : a < lnN m - (r + 1)
            · exact y
            · rw [h2 a (by omega)] at sa; cases sa
          rw [hg (lnN m - (r + 1)) a (by omega) (by omega) b ((h1 a al).symm.trans sa)]
          rfl
      refine ih (S ||| 2 ^ (lnN m - (r + 1))) (by omega) ?_ ?_ ?_
      · rw [ek, pop_t b]; exact q.2 z
      · intro a ha
        rw [or_bit]
        by_cases y : a = lnN m - (r + 1)
        · subst y; rw [decide_eq_true rfl, Bool.or_true, b]
        · rw [decide_eq_false (by omega), Bool.or_false]; exact h1 a (by omega)
      · intro a ha
        rw [or_bit, decide_eq_false (by omega), Bool.or_false]; exact h2 a (by omega)
theorem chk_tab : ∀ m : Nat, 4 ≤ m → m ≤ 9 → chkN m (lnN m) 0 0 = true := pg_cases (by decide +kernel) (by decide +kernel) (by decide +kernel) (by decide +kernel) (by decide +kernel) (by decide +kernel)
theorem good_cut {m T : Nat} (h4 : 4 ≤ m) (h9 : m ≤ 9) (hT : T < 2 ^ lnN m) (hg : good m T) (hp : pop T (lnN m) = m - 3) : isCut m (T : Int) := by
  refine chk_ok hT hg hp (lnN m) 0 (Nat.le_refl _) ?_ (fun a ha => by omega) (fun a _ => Nat.zero_testBit a)
  rw [Nat.sub_self]
  exact chk_tab m h4 h9
theorem crsym_tab : ∀ m : Nat, 4 ≤ m → m ≤ 9 → allF (fun a => allF (fun b => decide ((crM m a).testBit b = (crM m b).testBit a)) 0 27) 0 27 = true := pg_cases (by decide +kernel) (by decide +kernel) (by decide +kernel) (by decide +kernel) (by decide +kernel) (by decide +kernel)
theorem crself_tab : ∀ m : Nat, 4 ≤ m → m ≤ 9 → allF (fun a => decide ((crM m a).testBit a = false)) 0 27 = true := pg_cases (by decide +kernel) (by decide +kernel) (by decide +kernel) (by decide +kernel) (by decide +kernel) (by decide +kernel)
theorem good_add {m T l : Nat} (h4 : 4 ≤ m) (h9 : m ≤ 9) (hg : good m T) (hl : l < lnN m) (hc : ∀ b, b < lnN m → T.testBit b = true → (crM m l).testBit b = false) : good m (T ||| 2 ^ l) := by
  have r7 := rpg7 h4 h9
  have r7' : lnN m ≤ 27 := by unfold lnN; omega
  intro a b ha hb ta tb
  rw [or_bit] at ta tb
  by_cases ea : l = a
  · subst ea
    by_cases eb : l = b
    · subst eb
      exact of_decide_eq_true (allF_at (crself_tab m h4 h9) (m := l) (by omega))
    · rw [decide_eq_false eb, Bool.or_false] at tb
      exact hc b hb tb
  · rw [decide_eq_false ea, Bool.or_false] at ta
    by_cases eb : l = b
    · subst eb
      rw [of_decide_eq_true (allF_at (allF_at (crsym_tab m h4 h9) (m := a) (by omega)) (m := l) (by omega))]
      exact hc a ha ta
    · rw [decide_eq_false eb, Bool.or_false] at tb
      exact hg a b ha hb ta tb
theorem lnN_2 {m : Nat} (h4 : 4 ≤ m) (h9 : m ≤ 9) : 2 ^ lnN m ≤ 134217728 := by
  have r7 := rpg7 h4 h9
  have : 2 ^ lnN m ≤ 2 ^ 27 := Nat.pow_le_pow_right (by decide) (by unfold lnN; omega)
  omega
