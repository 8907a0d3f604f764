/-! the class's text of a cut -/
noncomputable def ch2N (m : Nat) (r : Nat) : Nat → Nat → Bool := Nat.rec (fun S cnt => decide (bitc (S : Int) = (cnt : Int) ∧ cnt ≤ m - 3)) (fun r ih S cnt => match ih S cnt with
    | false => false
    | true => match decide (S &&& crM m (lnN m - (r + 1)) = 0) with
      | true => ih (S ||| 2 ^ (lnN m - (r + 1))) (cnt + 1)
      | false => true) r
theorem ch2N_s {m r S cnt : Nat} (h : ch2N m (r + 1) S cnt = true) : ch2N m r S cnt = true ∧ (S &&& crM m (lnN m - (r + 1)) = 0 → ch2N m r (S ||| 2 ^ (lnN m - (r + 1))) (cnt + 1) = true) := by
  replace h : (match ch2N m r S cnt with
    | false => false
    | true => match decide (S &&& crM m (lnN m - (r + 1)) = 0) with
      | true => ch2N m r (S ||| 2 ^ (lnN m - (r + 1))) (cnt + 1)
      | false => true) = true := h
  cases e : ch2N m r S cnt with
  | false => rw [e] at h; cases h
  | true =>
    rw [e] at h
    refine ⟨rfl, fun z => ?_⟩
    rw [decide_eq_true z] at h
    exact h
theorem ch2_ok {m : Nat} {T : Nat} (hT : T < 2 ^ lnN m) (hg : good m T) : ∀ r S : Nat, r ≤ lnN m → ch2N m r S (pop T (lnN m - r)) = true → (∀ a, a < lnN m - r → S.testBit a = T.testBit a) → (∀ a, lnN m - r ≤ a → S.testBit a = false) → bitc (T : Int) = (pop T (lnN m) : Int) ∧ pop T (lnN m) ≤ m - 3 := by
  intro r
  induction r with
  | zero =>
    intro S _ h h1 h2
    have e : S = T := by
      apply Nat.eq_of_testBit_eq
      intro a
      by_cases z : a < lnN m
      · exact h1 a (by omega)
      · rw [h2 a (by omega), Nat.testBit_lt_two_pow (Nat.lt_of_lt_of_le hT (Nat.pow_le_pow_right (by decide) (by omega)))]
    subst e
    replace h : decide (bitc (S : Int) = ((pop S (lnN m - 0) : Nat) : Int) ∧ pop S (lnN m - 0) ≤ m - 3) = true := h
    rw [Nat.sub_zero] at h
    exact of_decide_eq_true h
  | succ r ih =>
    intro S hr h h1 h2
    have q := ch2N_s h
    have ek : lnN m - r = lnN m - (r + 1) + 1 := by omega
    cases b : T.testBit (lnN m - (r + 1)) with
    | false =>
      refine ih S (by omega) ?_ ?_ (fun a ha => h2 a (by omega))
      · rw [ek, pop_f b]; exact q.1
      · intro a ha
        by_cases z : a = lnN m - (r + 1)
        · subst z; rw [b]; exact h2 _ (Nat.le_refl _)
        · exact h1 a (by omega)
    | true =>
      have z : S &&& crM m (lnN m - (r + 1)) = 0 := by
        apply Nat.eq_of_testBit_eq
        intro a
        rw [Nat.testBit_and, Nat.zero_testBit]
        cases sa : S.testBit a with
        | false => rfl
        | true =>
          have al : a < lnN m - (r + 1) := by
            by_cases y : a < lnN m - (r + 1)
            · exact y
            · rw [h2 a (by omega)] at sa; cases sa
          rw [hg (lnN m - (r + 1)) a (by omega) (by omega) b ((h1 a al).symm.trans sa)]
          rfl
      refine ih (S ||| 2 ^ (lnN m - (r + 1))) (by omega) ?_ ?_ ?_
      · rw [ek, pop_t b]; exact q.2 z
      · intro a ha
        rw [or_bit]
        by_cases y : a = lnN m - (r + 1)
        · subst y; rw [decide_eq_true rfl, Bool.or_true, b]
        · rw [decide_eq_false (by omega), Bool.or_false]; exact h1 a (by omega)
      · intro a ha
        rw [or_bit, decide_eq_false (by omega), Bool.or_false]; exact h2 a (by omega)
theorem ch2_tab : ∀ m : Nat, 4 ≤ m → m ≤ 9 → ch2N m (lnN m) 0 0 = true := pg_cases (by decide +kernel) (by decide +kernel) (by decide +kernel) (by decide +kernel) (by decide +kernel) (by decide +kernel)
theorem good_pop {m T : Nat} (h4 : 4 ≤ m) (h9 : m ≤ 9) (hT : T < 2 ^ lnN m) (hg : good m T) : bitc (T : Int) = (pop T (lnN m) : Int) ∧ pop T (lnN m) ≤ m - 3 := by
  refine ch2_ok hT hg (lnN m) 0 (Nat.le_refl _) ?_ (fun a ha => by omega) (fun a _ => Nat.zero_testBit a)
  rw [Nat.sub_self]
  exact ch2_tab m h4 h9
def GC (n : Nat) (b : Int) : Prop := ∃ T : Nat, b = (T : Int) ∧ T < 2 ^ lnN n ∧ good n T
theorem GC_0 (n : Nat) : GC n 0 := ⟨0, rfl, Nat.two_pow_pos _, fun a b _ _ h => by rw [Nat.zero_testBit] at h; cases h⟩
theorem GC_cut {n : Nat} {b : Int} (h4 : 4 ≤ n) (h9 : n ≤ 9) (h : GC n b) (hb : (n : Int) - 3 ≤ bitc b) : isCut n b := by
  obtain ⟨T, rfl, h1, h2⟩ := h
  have := good_pop h4 h9 h1 h2
  exact good_cut h4 h9 h1 h2 (by omega)
theorem lineOf_e {n : Nat} {i j : Int} (h4 : 4 ≤ n) (h9 : n ≤ 9) (hi : 0 ≤ i) (hi' : i < (n : Int)) (hj : 0 ≤ j) (hj' : j < (n : Int)) : zf_X5_lineOf n i j = some (zget (pg3 n) (9 * i.toNat + j.toNat)) := by
  unfold zf_X5_lineOf
  rw [ok_hasC n i h4 h9 (by omega) (by omega), ok_hasC n j h4 h9 (by omega) (by omega), decide_eq_true ⟨hi, hi'⟩, decide_eq_true ⟨hj, hj'⟩]
  simp only [Option.bind_some]
  rw [if_neg (by decide), if_neg (by decide), if_neg (by omega), show Int.toNat (i * 9 + j) = 9 * i.toNat + j.toNat by omega]
theorem hasLine_e {n : Nat} {l : Int} (h4 : 4 ≤ n) (h9 : n ≤ 9) (h : 0 ≤ l) (h' : l < pg7 n) : zf_X5_hasLine n l = some true := by
  have r7 := rpg7 h4 h9
  unfold zf_X5_hasLine
  rw [if_neg (by unfold zout; omega), if_neg (by omega), if_neg (by unfold zout; omega), if_neg (by omega)]
set_option maxHeartbeats 1000000 in
theorem ok_takeSecond (mk : Nat) (fi : Int) (n : Nat) (bi i1 : Int) (p0 : ¬ zno mk n) (f0 : 0 ≤ fi) (f1 : fi < (n : Int)) (q0 : -2147483648 ≤ i1) (q1 : i1 ≤ 2147483647) (hG : GC n bi) : Go (fun o => 0 ≤ o.1 ∧ o.1 ≤ 6 ∧ GC n o.2) (zf_X1_takeSecond mk fi n bi i1) := by
  obtain ⟨h4, h9⟩ := zno_rng p0
  unfold zf_X1_takeSecond
  rw [if_neg (show ¬ n = 0 by omega)]
  refine Go_chk p0 ?_
  rw [ok_hasC n i1 h4 h9 q0 q1]
  simp only [Option.bind_some]
  refine Go_ite (fun c => ?_) (fun c => ?_)
  · exact Go_i ⟨(by first | decide | (dsimp only; decide)), (by first | decide | (dsimp only; decide)), hG⟩
  · have hc := of_decide_eq_true (bnf c)
    have r3 := rpg3 h4 h9 (9 * fi.toNat + i1.toNat) (by omega)
    have r7 := of_decide_eq_true (allF_at (pg3_lt_tab n h4 h9) (m := 9 * fi.toNat + i1.toNat) (by omega))
    have g7 := rpg7 h4 h9
    rw [lineOf_e h4 h9 f0 f1 hc.1 hc.2]
    simp only [Option.bind_some]
    generalize hl : zget (pg3 n) (9 * fi.toNat + i1.toNat) = l at r3 r7 ⊢
    refine Go_chk (by unfold zout; omega) ?_
    refine Go_ite (fun c1 => ?_) (fun c1 => ?_)
    · exact Go_i ⟨(by first | decide | (dsimp only; decide)), (by first | decide | (dsimp only; decide)), hG⟩
    · have hl0 : 0 ≤ l := by omega
      have eh : zf_X5_has n bi l = some (decide (¬ zand (zshr bi l) 1 = 0)) := by
        unfold zf_X5_has
        rw [hasLine_e h4 h9 hl0 r7]
        simp only [Option.bind_some]
        rw [if_neg (by decide)]
        by_cases z : zand (zshr bi l) 1 = 0
        · rw [if_pos z, decide_eq_false (fun q => q z)]
        · rw [if_neg z, decide_eq_true z]
      have ec : zf_X5_crossersOf n l = some (zget (pg4 n) l.toNat) := by
        unfold zf_X5_crossersOf
        rw [hasLine_e h4 h9 hl0 r7]
        simp only [Option.bind_some]
        rw [if_neg (by decide), if_neg (by omega)]
      rw [eh]
      simp only [Option.bind_some]
      refine Go_ite (fun c2 => ?_) (fun c2 => ?_)
      · have hz : zand (zshr bi l) 1 = 0 := Classical.byContradiction (fun q => of_decide_eq_false c2 q)
        rw [ec]
        simp only [Option.bind_some]
        refine Go_ite (fun c3 => ?_) (fun c3 => ?_)
        · refine Go_i ⟨(by first | decide | (dsimp only; decide)), (by first | decide | (dsimp only; decide)), ?_⟩
          obtain ⟨T, rfl, h1, h2⟩ := hG
          have l2 := lnN_2 h4 h9
          obtain ⟨k, rfl⟩ : ∃ k : Nat, l = (k : Int) := ⟨l.toNat, by omega⟩
          have hk : k < lnN n := by unfold lnN; omega
          have hk27 : k < 27 := by omega
          have r4 := rpg4 h4 h9 k hk27
          show GC n (zor (T : Int) (zshl 1 (k : Int)))
          rw [orI (by omega) hk27]
          refine ⟨_, rfl, Nat.or_lt_two_pow h1 (Nat.pow_lt_pow_right (by decide) hk), good_add h4 h9 h2 hk ?_⟩
          intro b hb tb
          have ez : (zget (pg4 n) k).toNat &&& T = 0 := by
            have e1 : zget (pg4 n) k = (((zget (pg4 n) k).toNat : Nat) : Int) := by omega
            have c3' : zand (zget (pg4 n) k) (T : Int) = 0 := c3
            rw [e1] at c3'
            have hlt : (zget (pg4 n) k).toNat &&& T < 134217728 := Nat.lt_of_le_of_lt Nat.and_le_right (by omega)
            unfold zand at c3'
            rw [zu_n (by omega), zu_n (by omega), zs_n hlt] at c3'
            omega
          have := congrArg (fun q => Nat.testBit q b) ez
          simp only [Nat.testBit_and, Nat.zero_testBit, tb, Bool.and_true] at this
          exact this
        · exact Go_i ⟨(by first | decide | (dsimp only; decide)), (by first | decide | (dsimp only; decide)), hG⟩
      · exact Go_i ⟨(by first | decide | (dsimp only; decide)), (by first | decide | (dsimp only; decide)), hG⟩
theorem ok_takeFirst (mk : Nat) (fi : Int) (n : Nat) (bi kd va : Int) (p0 : ¬ zno mk n) (k0 : 0 ≤ kd) (k4 : kd ≤ 4) (hv : kd = 2 → 0 ≤ va ∧ va ≤ 999) (hG : GC n bi) : Go (fun o => 0 ≤ o.1 ∧ o.1 ≤ 6 ∧ (o.1 = 0 → kd = 0 → isCut n bi) ∧ (o.1 = 0 → ¬ kd = 0 → 0 ≤ o.2 ∧ o.2 < (n : Int))) (zf_X1_takeFirst mk fi n bi kd va) := by
  obtain ⟨h4, h9⟩ := zno_rng p0
  unfold zf_X1_takeFirst
  rw [if_neg (show ¬ n = 0 by omega)]
  show Go _ (if zout kd then none else _)
  refine Go_chk (by unfold zout; omega) ?_
  refine Go_ite (fun c => ?_) (fun c => ?_)
  · rw [bitc_eq]
    simp only [Option.bind_some]
    have rb := rand63
    have hb63 : 0 ≤ bitc bi ∧ bitc bi ≤ 63 := rand63 _
    refine Go_chk p0 ?_
    show Go _ (if zout (bitc bi) then none else _)
    refine Go_chk (by unfold zout; omega) ?_
    refine Go_chk (by unfold zout; omega) ?_
    refine Go_ite (fun c1 => ?_) (fun c1 => ?_)
    · exact Go_i ⟨(by first | decide | (dsimp only; decide)), (by first | decide | (dsimp only; decide)), fun _ _ => GC_cut h4 h9 hG c1, fun _ z => absurd c z⟩
    · exact Go_i ⟨(by first | decide | (dsimp only; decide)), (by first | decide | (dsimp only; decide)), fun z => absurd z (by first | decide | (dsimp only; decide)), fun z => absurd z (by first | decide | (dsimp only; decide))⟩
  · show Go _ (if zout kd then none else _)
    refine Go_chk (by unfold zout; omega) ?_
    refine Go_ite (fun c1 => ?_) (fun c1 => ?_)
    · have hv := hv c1
      refine Go_chk p0 ?_
      rw [ok_hasC n va h4 h9 (by omega) (by omega)]
      simp only [Option.bind_some]
      refine Go_ite (fun c2 => ?_) (fun c2 => ?_)
      · exact Go_i ⟨(by first | decide | (dsimp only; decide)), (by first | decide | (dsimp only; decide)), fun z => absurd z (by first | decide | (dsimp only; decide)), fun z => absurd z (by first | decide | (dsimp only; decide))⟩
      · have := of_decide_eq_true (bnf c2)
        exact Go_i ⟨(by first | decide | (dsimp only; decide)), (by first | decide | (dsimp only; decide)), fun _ z => absurd z c, fun _ _ => this⟩
    · exact Go_i ⟨(by first | decide | (dsimp only; decide)), (by first | decide | (dsimp only; decide)), fun z => absurd z (by first | decide | (dsimp only; decide)), fun z => absurd z (by first | decide | (dsimp only; decide))⟩
theorem ok_takeTok (mk : Nat) (ex fi : Int) (n : Nat) (bi nx kd pl va : Int) (p0 : ¬ zno mk n) (he : ex = 2 ∨ ex = 3 ∨ ex = 4) (hf : ex = 3 → 0 ≤ fi ∧ fi < (n : Int)) (k0 : 0 ≤ kd) (k4 : kd ≤ 4) (hv : kd = 2 → 0 ≤ va ∧ va ≤ 999) (hG : GC n bi) : Go (fun o => 0 ≤ o.1 ∧ o.1 ≤ 6 ∧ (o.2.1 = 2 ∨ o.2.1 = 3 ∨ o.2.1 = 4) ∧ (o.1 = 0 → ¬ kd = 0 → o.2.1 = 3 → 0 ≤ o.2.2.1 ∧ o.2.2.1 < (n : Int)) ∧ GC n o.2.2.2 ∧ (o.1 = 0 → kd = 0 → isCut n o.2.2.2)) (zf_X1_takeToken mk ex fi n bi nx kd pl va) := by
  unfold zf_X1_takeToken
  refine Go_chk (by unfold zout; omega) ?_
  rw [if_neg (by omega), if_neg (by omega)]
  rcases he with rfl | rfl | rfl
  · rw [if_pos rfl]
    refine Go_bindP (ok_takeFirst mk fi n bi kd va p0 k0 k4 hv hG) (fun o q => ?_)
    exact Go_i ⟨q.1, q.2.1, Or.inr (Or.inl rfl), fun z1 z2 _ => q.2.2.2 z1 z2, hG, fun z1 z2 => q.2.2.1 z1 z2⟩
  · rw [if_neg (by decide), if_pos rfl]
    show Go _ (if zout kd then none else _)
    refine Go_chk (by unfold zout; omega) ?_
    refine Go_ite (fun c => ?_) (fun c => ?_)
    · have hv := hv c
      show Go _ (Option.bind (zf_X1_takeSecond mk fi n bi va) _)
      refine Go_bindP (ok_takeSecond mk fi n bi va p0 (hf rfl).1 (hf rfl).2 (by omega) (by omega) hG) (fun o q => ?_)
      exact Go_i ⟨q.1, q.2.1, Or.inr (Or.inr rfl), fun _ _ z => absurd z (by first | decide | (dsimp only; decide)), q.2.2, fun _ z => absurd (z.symm.trans c) (by decide)⟩
    · exact Go_i ⟨(by first | decide | (dsimp only; decide)), (by first | decide | (dsimp only; decide)), Or.inr (Or.inr rfl), fun z => absurd z (by first | decide | (dsimp only; decide)), hG, fun z => absurd z (by first | decide | (dsimp only; decide))⟩
  · rw [if_neg (by decide), if_neg (by decide)]
    show Go _ (if zout kd then none else _)
    refine Go_chk (by unfold zout; omega) ?_
    refine Go_ite (fun c => ?_) (fun c => ?_)
    · exact Go_i ⟨(by first | decide | (dsimp only; decide)), (by first | decide | (dsimp only; decide)), Or.inl rfl, fun _ _ z => absurd z (by first | decide | (dsimp only; decide)), hG, fun _ z => absurd (z.symm.trans c) (by decide)⟩
    · exact Go_i ⟨(by first | decide | (dsimp only; decide)), (by first | decide | (dsimp only; decide)), Or.inl rfl, fun z => absurd z (by first | decide | (dsimp only; decide)), hG, fun z => absurd z (by first | decide | (dsimp only; decide))⟩
/-- what is read behind the size -/
theorem ok_und2 (mk : Nat) (n : Nat) (p0 : ¬ zno mk n) (len : Int) (by_ : Nat) (l0 : 0 ≤ len) (l3 : len ≤ 300) (fi nx kd pl va : Int) (hnx : 2 ≤ nx) (hnl : nx ≤ len) : Go (fun o => o.2.2.2.2.2.1 = n ∧ (o.1 = true → isCut n o.2.2.2.2.2.2.1)) (jrun (zg_X1_understand mk len by_) jfuel (31, (0 + 1) + 1, 0, (-1), 4, fi, n, 0, nx, kd, pl, va)) := by
  obtain ⟨h4, h9⟩ := zno_rng p0
  refine jok (fun (s : zS_X1_understand) => match s with | (lab, i3, fk, fp, ex, fi, pol, bi, nx, kd, pl, va) => lab = 31 ∧ 2 ≤ i3 ∧ i3 ≤ nx ∧ nx ≤ len ∧ pol = n ∧ (ex = 2 ∨ ex = 3 ∨ ex = 4) ∧ (ex = 3 → 0 ≤ fi ∧ fi < (n : Int)) ∧ GC n bi) (fun (s : zS_X1_understand) => match s with | (lab, i3, fk, fp, ex, fi, pol, bi, nx, kd, pl, va) => (400 - i3).toNat) _ ?_ _ ?_ ?_
  · intro s hI
    obtain ⟨lab, i3, fk, fp, ex, fi, pol, bi, nx, kd, pl, va⟩ := s
    replace hI : lab = 31 ∧ 2 ≤ i3 ∧ i3 ≤ nx ∧ nx ≤ len ∧ pol = n ∧ (ex = 2 ∨ ex = 3 ∨ ex = 4) ∧ (ex = 3 → 0 ≤ fi ∧ fi < (n : Int)) ∧ GC n bi := hI
    obtain ⟨rfl, v1, v2, v3, rfl, v4, v5, v6⟩ := hI
    show Go _ (zg_X1_understand_31 mk len by_ i3 fk fp ex fi pol bi nx kd pl va)
    unfold zg_X1_understand_31
    refine Go_chk (by unfold zout; omega) ?_
    rw [if_neg (by omega)]
    refine Go_bindP (ok2_X8_readToken len nx kd pl va by_ l0 l3 (by omega) v3) (fun o4 q => ?_)
    obtain ⟨q0, q1, q2, q3, q4, q5, q6, q7⟩ := q
    refine Go_bindP (ok_takeTok mk ex fi pol bi o4.1 o4.2.1 o4.2.2.1 o4.2.2.2 p0 v4 v5 q4 q5 q6 v6) (fun o5 r => ?_)
    obtain ⟨r0, r1, r2, r3, r4, r5⟩ := r
    refine Go_chk (by unfold zout; omega) ?_
    refine Go_ite (fun c1 => ?_) (fun c1 => ?_)
    · show Go _ (if zout o4.2.1 then none else _)
      refine Go_chk (by unfold zout; omega) ?_
      refine Go_ite (fun c2 => ?_) (fun c2 => ?_)
      · rw [if_neg (by omega)]
        exact Go_i ⟨rfl, fun _ => r5 c1 c2⟩
      · refine Go_i ⟨⟨rfl, ?_, ?_, q1, rfl, r2, fun z => r3 c1 c2 z, r4⟩, ?_⟩
        · show 2 ≤ i3 + 1; omega
        · show i3 + 1 ≤ o4.1; have := q7 c2; omega
        · show (400 - (i3 + 1)).toNat < (400 - i3).toNat; omega
    · exact Go_i ⟨rfl, fun z => by cases z⟩
  · exact ⟨rfl, by decide, hnx, hnl, rfl, Or.inr (Or.inr rfl), fun z => absurd z (by decide), GC_0 n⟩
  · show (400 - (0 + 1 + 1 : Int)).toNat < jfuel
    unfold jfuel
    decide
theorem zww_some (len pl : Int) (by_ : Nat) (l3 : len ≤ 300) (p0 : 0 ≤ pl) : ∀ n : Nat, n ≤ 7 → ∃ b, zww len pl by_ n = some b := by
  intro n
  induction n with
  | zero => intro _; exact ⟨true, rfl⟩
  | succ n ih =>
    intro hn
    obtain ⟨b, hb⟩ := ih (by omega)
    show ∃ b, (match decide (pl + (6 - (n : Int)) < len) with
      | false => some true
      | true => match decide (pl + (6 - (n : Int)) < 0 ∨ 300 ≤ pl + (6 - (n : Int))) with
        | true => none
        | false => match decide (zget by_ (Int.toNat (pl + (6 - (n : Int)))) = zSI (6 - n)) with
          | true => zww len pl by_ n
          | false => some false) = some b
    by_cases a : pl + (6 - (n : Int)) < len
    · rw [decide_eq_true a, decide_eq_false (show ¬ (pl + (6 - (n : Int)) < 0 ∨ 300 ≤ pl + (6 - (n : Int))) by omega)]
      cases decide (zget by_ (Int.toNat (pl + (6 - (n : Int)))) = zSI (6 - n)) with
      | true => exact ⟨b, hb⟩
      | false => exact ⟨false, rfl⟩
    · rw [decide_eq_false a]; exact ⟨true, rfl⟩
theorem isWordF_some (len nx kd pl : Int) (by_ : Nat) (l0 : 0 ≤ len) (l3 : len ≤ 300) (h1 : nx ≤ len) (h2 : 0 ≤ pl) (h3 : pl ≤ nx) (k0 : 0 ≤ kd) (k4 : kd ≤ 4) : ∃ b, zf_X8_isWordF len nx kd pl by_ = some b ∧ (b = true → kd = 1 ∧ nx - pl = 7) := by
  unfold zf_X8_isWordF
  rw [if_neg (by unfold zout; omega)]
  by_cases a : kd = 1
  · rw [if_pos a, if_neg (by unfold zout; omega)]
    by_cases b : nx - pl = 7
    · rw [if_pos b, if_neg (by unfold zout; omega)]
      obtain ⟨w, hw⟩ := zww_some len pl by_ l3 h2 7 (Nat.le_refl _)
      exact ⟨w, hw, fun _ => ⟨a, b⟩⟩
    · rw [if_neg b]; exact ⟨false, rfl, fun z => by cases z⟩
  · rw [if_neg a]; exact ⟨false, rfl, fun z => by cases z⟩
/-- what cut's text comes to -/
theorem cutX (mk : Nat) (len kd pl va : Int) (by_ : Nat) (fi : Int) (l0 : 0 ≤ len) (l3 : len ≤ 300) : (∃ out, zuF len kd pl va by_ fi out) ∨ ∃ (n4 p4 v4 n5 p5 : Int) (c : Nat) (out : zO_X1_understand), 4 ≤ c ∧ c ≤ 9 ∧ zf_X8_readToken len 0 kd pl va by_ = some (n4, 1, p4, v4) ∧ zf_X8_isWordF len n4 1 p4 by_ = some true ∧ zf_X8_readToken len n4 1 p4 v4 by_ = some (n5, 2, p5, (c : Int)) ∧ jrun (zg_X1_understand (zmk mk c) len by_) jfuel (31, (0 + 1) + 1, 0, (-1), 4, fi, c, 0, n5, 2, p5, (c : Int)) = some out ∧ out.2.2.2.2.2.1 = c ∧ (out.1 = true → isCut c out.2.2.2.2.2.2.1) := by
  obtain ⟨⟨n4, k4, p4, v4⟩, h1, q⟩ := ok2_X8_readToken len 0 kd pl va by_ l0 l3 (by decide) l0
  obtain ⟨q0, q1, q2, q3, q4, q5, q6, q7⟩ := q
  replace q0 : 0 ≤ n4 := q0
  replace q1 : n4 ≤ len := q1
  replace q2 : 0 ≤ p4 := q2
  replace q3 : p4 ≤ n4 := q3
  replace q4 : 0 ≤ k4 := q4
  replace q5 : k4 ≤ 4 := q5
  obtain ⟨w, hw, hw2⟩ := isWordF_some len n4 k4 p4 by_ l0 l3 q1 q2 q3 q4 q5
  cases w with
  | false => exact Or.inl ⟨_, Or.inl ⟨n4, k4, p4, v4, h1, hw, rfl⟩⟩
  | true =>
    obtain ⟨rfl, h7⟩ := hw2 rfl
    obtain ⟨⟨n5, k5, p5, v5⟩, h3, r⟩ := ok2_X8_readToken len n4 1 p4 v4 by_ l0 l3 q0 q1
    obtain ⟨r0, r1, r2, r3, r4, r5, r6, r7⟩ := r
    replace r0 : n4 ≤ n5 := r0
    replace r1 : n5 ≤ len := r1
    replace r4 : 0 ≤ k5 := r4
    replace r5 : k5 ≤ 4 := r5
    replace r6 : k5 = 2 → 0 ≤ v5 ∧ v5 ≤ 999 := r6
    by_cases e : k5 = 2
    · have r6 := r6 e
      by_cases z : v5 < 4 ∨ 9 < v5
      · exact Or.inl ⟨_, Or.inr ⟨n4, p4, v4, n5, k5, p5, v5, h1, hw, h3, Or.inr ⟨e, by unfold zout; omega, z, rfl⟩⟩⟩
      · subst e
        obtain ⟨c, rfl⟩ : ∃ c : Nat, v5 = (c : Int) := ⟨v5.toNat, by omega⟩
        obtain ⟨out, ho, ho2⟩ := ok_und2 (zmk mk c) c (zmk_yes (by omega) (by omega)) len by_ l0 l3 fi n5 2 p5 (c : Int) (by omega) r1
        exact Or.inr ⟨n4, p4, v4, n5, p5, c, out, by omega, by omega, h1, hw, h3, ho, ho2.1, ho2.2⟩
    · exact Or.inl ⟨_, Or.inr ⟨n4, p4, v4, n5, k5, p5, v5, h1, hw, h3, Or.inl ⟨e, by unfold zout; omega, rfl⟩⟩⟩
