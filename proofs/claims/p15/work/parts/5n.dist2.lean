/-! the class's distances -/
noncomputable def nbF (m x l : Nat) : Bool := match decide ((l : Int) < pg7 m) with
  | false => true
  | true => match zf_X5_neighbourWith m (zget (pg6 m) x) (l : Int) with
    | none => false
    | some r => match decide (r = -1) with
      | true => true
      | false => decide ((0 ≤ r ∧ r < pg8 m) ∧ ((Nat.log2 (crM m l &&& (zget (pg6 m) x).toNat) : Nat) : Int) < pg7 m ∧ ¬ zand (zshr (zget (pg6 m) x) ((Nat.log2 (crM m l &&& (zget (pg6 m) x).toNat) : Nat) : Int)) 1 = 0 ∧ zf_X5_otherLine m (zget (pg6 m) x) ((Nat.log2 (crM m l &&& (zget (pg6 m) x).toNat) : Nat) : Int) = some (l : Int) ∧ zget (pg6 m) r.toNat = flipN (zget (pg6 m) x) ((Nat.log2 (crM m l &&& (zget (pg6 m) x).toNat) : Nat) : Int) (l : Int))
noncomputable def nbB (m x l : Nat) : Bool := match decide ((l : Int) < pg7 m ∧ ¬ zand (zshr (zget (pg6 m) x) (l : Int)) 1 = 0) with
  | false => true
  | true => match zf_X5_otherLine m (zget (pg6 m) x) (l : Int) with
    | none => false
    | some o => match zf_X5_neighbourWith m (zget (pg6 m) x) o with
      | none => false
      | some r => decide (0 ≤ r ∧ r < pg8 m ∧ 0 ≤ o ∧ o < pg7 m ∧ zget (pg6 m) r.toNat = flipN (zget (pg6 m) x) (l : Int) o)
theorem nbF_tab : ∀ m : Nat, 4 ≤ m → m ≤ 9 → allF (fun x => allF (fun l => nbF m x l) 0 27) 0 (pg8 m).toNat = true := pg_cases (by decide +kernel) (by decide +kernel) (by decide +kernel) (by decide +kernel) (by decide +kernel) (by decide +kernel)
theorem nbB_tab : ∀ m : Nat, 4 ≤ m → m ≤ 9 → allF (fun x => allF (fun l => nbB m x l) 0 27) 0 (pg8 m).toNat = true := pg_cases (by decide +kernel) (by decide +kernel) (by decide +kernel) (by decide +kernel) (by decide +kernel) (by decide +kernel)
theorem nb_f {m : Nat} (h4 : 4 ≤ m) (h9 : m ≤ 9) {x l y : Nat} (hx : (x : Int) < pg8 m) (hl : (l : Int) < pg7 m) (h : zf_X5_neighbourWith m (zget (pg6 m) x) (l : Int) = some (y : Int)) : (y : Int) < pg8 m ∧ CE m x y := by
  have r7 := rpg7 h4 h9
  have t := allF_at (allF_at (nbF_tab m h4 h9) (m := x) (by omega)) (m := l) (by omega)
  replace t : nbF m x l = true := t
  unfold nbF at t
  rw [decide_eq_true hl, h] at t
  simp only [] at t
  rw [decide_eq_false (by omega)] at t
  have q := of_decide_eq_true t
  rw [Int.toNat_natCast] at q
  exact ⟨q.1.2, _, _, Int.natCast_nonneg _, q.2.1, q.2.2.1, q.2.2.2.1, q.2.2.2.2⟩
theorem nb_b {m : Nat} (h4 : 4 ≤ m) (h9 : m ≤ 9) {x y : Nat} (hx : (x : Int) < pg8 m) (hy : (y : Int) < pg8 m) (h : CE m x y) : ∃ l : Nat, (l : Int) < pg7 m ∧ zf_X5_neighbourWith m (zget (pg6 m) x) (l : Int) = some (y : Int) := by
  have r7 := rpg7 h4 h9
  obtain ⟨l, o, x1, x2, x3, x4, x5⟩ := h
  have t := allF_at (allF_at (nbB_tab m h4 h9) (m := x) (by omega)) (m := l.toNat) (by omega)
  replace t : nbB m x l.toNat = true := t
  unfold nbB at t
  rw [show ((l.toNat : Nat) : Int) = l by omega, decide_eq_true ⟨x2, x3⟩, x4] at t
  simp only [] at t
  revert t
  cases e : zf_X5_neighbourWith m (zget (pg6 m) x) o with
  | none => intro t; cases t
  | some r =>
    intro t
    have q := of_decide_eq_true t
    have e2 := pg6_inj h4 h9 (a := r.toNat) (b := y) (by omega) hy (by rw [q.2.2.2.2, x5])
    refine ⟨o.toNat, by omega, ?_⟩
    rw [show ((o.toNat : Nat) : Int) = o by omega, e]
    congr 1
    omega
theorem ct_no {q : Int} {s qu : Nat} {r v : Int} (h : r = -1 ∨ (0 ≤ r ∧ r < 429 ∧ ¬ zget s r.toNat = -1)) : zf_X4_comeTo q s qu r v = some (q, s, qu) := by
  unfold zf_X4_comeTo
  rcases h with rfl | ⟨h1, h2, h3⟩
  · rw [if_neg (by decide), if_pos (by decide)]
  · rw [if_neg (by unfold zout; omega), if_neg (by omega), if_neg (by omega), if_neg (by omega), if_neg h3]
theorem ct_yes {q : Int} {s qu : Nat} {r v : Int} (h1 : 0 ≤ r) (h2 : r < 429) (h3 : zget s r.toNat = -1) (h4 : 0 ≤ q) (h5 : q < 429) : zf_X4_comeTo q s qu r v = some (q + 1, zset s r.toNat v, zset qu q.toNat r) := by
  unfold zf_X4_comeTo
  rw [if_neg (by unfold zout; omega), if_neg (by omega), if_neg (by omega), if_neg (by omega), if_pos h3, if_neg (by unfold zout; omega), if_neg (by omega), if_neg (by omega)]
def M65 (m N k : Nat) (q i3 i4 i5 : Int) (s qu : Nat) : Prop := ∃ many i l : Nat, q = (many : Int) ∧ i3 = (i : Int) ∧ i5 = (l : Int) ∧ i < many ∧ (l : Int) ≤ pg7 m ∧ i4 = zget (pg6 m) (QA qu i) ∧ BF N k (CE m) (FA s) (QA qu) many ∧ (∀ j, j < many → 0 ≤ zget qu j) ∧ (∀ j, j < many → FA s (QA qu j) ≤ FA s (QA qu i) + 1) ∧ (∀ j, j < i → ∀ y, y < N → CE m (QA qu j) y → BW (FA s) (QA qu j) y) ∧ (∀ y, y < N → (∃ l' : Nat, l' < l ∧ zf_X5_neighbourWith m (zget (pg6 m) (QA qu i)) (l' : Int) = some (y : Int)) → BW (FA s) (QA qu i) y)
set_option maxHeartbeats 1000000 in
theorem ok_measureZ {mk m : Nat} (p0 : ¬ zno mk m) {k : Nat} (hk : (k : Int) < pg8 m) (tq : Int) (ts tqu : Nat) : Go (fun o => BFE (pg8 m).toNat k (CE m) (FA o.2.1) ∧ ZZ (pg8 m).toNat k (FA o.2.1)) (zf_X4_measure mk tq ts tqu m (k : Int)) := by
  obtain ⟨h4, h9⟩ := zno_rng p0
  obtain ⟨N, hN⟩ : ∃ N : Nat, pg8 m = (N : Int) := ⟨(pg8 m).toNat, by have := (rpg8 h4 h9).1; omega⟩
  have r8 := rpg8 h4 h9
  have r7 := rpg7 h4 h9
  have eN : (pg8 m).toNat = N := by omega
  rw [eN]
  unfold zf_X4_measure
  refine jok (fun (s : zS_X4_measure) => match s with | (lab, i2, i3, i4, i5, q, st, qu) => (lab = 0 ∧ i2 = (k : Int)) ∨ (lab = 2 ∧ i2 = (k : Int) ∧ 0 ≤ i3 ∧ i3 ≤ 429 ∧ ∀ y : Nat, (y : Int) < i3 → zget st y = -1) ∨ (lab = 35 ∧ SI41 m N k q i3 st qu ∧ ZZ N k (FA st)) ∨ (lab = 65 ∧ M65 m N k q i3 i4 i5 st qu ∧ ZZ N k (FA st))) (fun (s : zS_X4_measure) => match s with | (lab, i2, i3, i4, i5, q, st, qu) => if lab = 0 then 200000 else if lab = 2 then 100000 + (429 - i3).toNat else if lab = 35 then ((N : Int) - i3).toNat * 64 + 63 else ((N : Int) - i3).toNat * 64 + (27 - i5).toNat) _ ?_ _ ?_ ?_
  · intro s hs
    obtain ⟨lab, i2, i3, i4, i5, q, st, qu⟩ := s
    replace hs : (lab = 0 ∧ i2 = (k : Int)) ∨ (lab = 2 ∧ i2 = (k : Int) ∧ 0 ≤ i3 ∧ i3 ≤ 429 ∧ ∀ y : Nat, (y : Int) < i3 → zget st y = -1) ∨ (lab = 35 ∧ SI41 m N k q i3 st qu ∧ ZZ N k (FA st)) ∨ (lab = 65 ∧ M65 m N k q i3 i4 i5 st qu ∧ ZZ N k (FA st)) := hs
    rcases hs with ⟨rfl, rfl⟩ | ⟨rfl, rfl, v1, v2, v3⟩ | ⟨rfl, v, hZ⟩ | ⟨rfl, v, hZ⟩
    · show Go _ (zg_X4_measure_0 mk m (k : Int) i3 i4 i5 q st qu)
      unfold zg_X4_measure_0
      exact Go_i ⟨Or.inr (Or.inl ⟨rfl, rfl, by omega, by omega, fun y hy => absurd hy (by omega)⟩), by show 100000 + (429 - (0 : Int)).toNat < 200000; omega⟩
    · show Go _ (zg_X4_measure_2 mk m (k : Int) i3 i4 i5 q st qu)
      unfold zg_X4_measure_2
      refine Go_chk (by unfold zout; omega) ?_
      refine Go_ite (fun c1 => ?_) (fun c1 => ?_)
      · refine Go_bind (ct_yes (by omega) (by omega) (v3 (Int.toNat (k : Int)) (by omega)) (by omega) (by omega)) ?_
        have e0 : Int.toNat (k : Int) = k := by omega
        have zk : ¬ zout (k : Int) := by unfold zout; omega
        have f0 : ∀ y, ¬ y = k → FA (zset st (Int.toNat (k : Int)) 0) y = FA st y := fun y hy => by
          rcases zget_set_c st (Int.toNat (k : Int)) y (v := 0) (by decide) with ⟨a, b⟩ | ⟨a, b⟩
          · omega
          · exact b
        have fk : FA (zset st (Int.toNat (k : Int)) 0) k = 0 := by
          rcases zget_set_c st (Int.toNat (k : Int)) k (v := 0) (by decide) with ⟨a, b⟩ | ⟨a, b⟩
          · exact b
          · omega
        have q0 : zget (zset qu (Int.toNat 0) (k : Int)) 0 = (k : Int) := by
          rcases zget_set_c qu (Int.toNat 0) 0 (v := (k : Int)) zk with ⟨a, b⟩ | ⟨a, b⟩
          · exact b
          · exact absurd rfl a
        have bf : BF N k (CE m) (FA (zset st (Int.toNat (k : Int)) 0)) (QA (zset qu (Int.toNat 0) (k : Int))) 1 := BF_init (F0 := FA st) (by omega) (fun y hy => v3 y (by omega)) fk f0 (by show (zget _ 0).toNat = k; rw [q0]; omega)
        have zz0 : ZZ N k (FA (zset st (Int.toNat (k : Int)) 0)) := fun y hy e => by
          by_cases w : y = k
          · exact w
          · rw [f0 y w] at e
            have := v3 y (by omega)
            unfold FA at e
            omega
        refine Go_i ⟨Or.inr (Or.inr (Or.inl ⟨rfl, ⟨1, 0, rfl, rfl, by omega, bf, ?_, ?_, ?_⟩, zz0⟩)), ?_⟩
        · intro j hj
          have : j = 0 := by omega
          subst this
          rw [q0]; omega
        · intro _ j hj
          have : j = 0 := by omega
          subst this
          omega
        · intro j hj; omega
        · show ((N : Int) - 0).toNat * 64 + 63 < 100000 + (429 - i3).toNat
          omega
      · refine Go_chk (by omega) ?_
        refine Go_i ⟨Or.inr (Or.inl ⟨rfl, rfl, by omega, by omega, all_m1 v3 v1⟩), ?_⟩
        show 100000 + (429 - (i3 + 1)).toNat < 100000 + (429 - i3).toNat
        omega
    · obtain ⟨many, i, rfl, rfl, v1, bf, v2, v3, v4⟩ := v
      have hmN := BF_le bf
      show Go _ (zg_X4_measure_35 mk m i2 (i : Int) i4 i5 (many : Int) st qu)
      unfold zg_X4_measure_35
      refine Go_chk (by unfold zout; omega) ?_
      refine Go_chk (by unfold zout; omega) ?_
      refine Go_ite (fun c1 => ?_) (fun c1 => ?_)
      · have e : i = many := by omega
        subst e
        exact Go_i (show BFE N k (CE m) (FA st) ∧ ZZ N k (FA st) from ⟨BF_end bf v4, hZ⟩)
      · have hi : i < many := by omega
        have a := bf.1 i hi
        have q0 := v2 i hi
        have aq : (zget qu i).toNat < N := a.1
        refine Go_ite (fun c2 => by exfalso; omega) (fun c2 => ?_)
        refine Go_chk (by omega) ?_
        refine Go_chk p0 ?_
        rw [Int.toNat_natCast]
        refine Go_bind (cutAt_e h4 h9 q0 (by omega)) ?_
        refine Go_i ⟨Or.inr (Or.inr (Or.inr ⟨rfl, ⟨many, i, 0, rfl, rfl, rfl, hi, by omega, rfl, bf, v2, v3 hi, v4, ?_⟩, hZ⟩)), ?_⟩
        · intro y hy h
          obtain ⟨l', x1, _⟩ := h
          omega
        · show ((N : Int) - (i : Int)).toNat * 64 + (27 - (0 : Int)).toNat < ((N : Int) - (i : Int)).toNat * 64 + 63
          omega
    · obtain ⟨many, i, l, rfl, rfl, rfl, hi, v1, rfl, bf, v2, v3, v4, v5⟩ := v
      have hmN := BF_le bf
      have a := bf.1 i hi
      have q0 := v2 i hi
      have aq : (zget qu i).toNat < N := a.1
      show Go _ (zg_X4_measure_65 mk m i2 (i : Int) (zget (pg6 m) (QA qu i)) (l : Int) (many : Int) st qu)
      unfold zg_X4_measure_65 zf_X5_lineCount
      refine Go_chk p0 ?_
      refine Go_bind rfl ?_
      refine Go_chk (by unfold zout; omega) ?_
      refine Go_chk (by unfold zout; omega) ?_
      refine Go_ite (fun c1 => ?_) (fun c1 => ?_)
      · have el : (l : Int) = pg7 m := by omega
        refine Go_i ⟨Or.inr (Or.inr (Or.inl ⟨rfl, ⟨many, i + 1, rfl, by omega, by omega, bf, v2, fun h => BF_next bf v3 h, ?_⟩, hZ⟩)), ?_⟩
        · intro j hj y hy he
          by_cases e : j = i
          · subst e
            obtain ⟨l', x1, x2⟩ := nb_b h4 h9 (by have := a.1; omega) (by omega) he
            exact v5 y hy ⟨l', by omega, x2⟩
          · exact v4 j (by omega) y hy he
        · show ((N : Int) - ((i : Int) + 1)).toNat * 64 + 63 < ((N : Int) - (i : Int)).toNat * 64 + (27 - (l : Int)).toNat
          omega
      · have hl : (l : Int) < pg7 m := by omega
        obtain ⟨r, hr, r1, r2⟩ := ok_X5_neighbourWith m (zget (pg6 m) (QA qu i)) (l : Int) h4 h9 (by omega) (by omega)
        refine Go_bind hr ?_
        refine Go_chk (by omega) ?_
        rw [Int.toNat_natCast]
        have es : zf_X4_stepsTo st (zget qu i) = some (FA st (QA qu i)) := by
          unfold zf_X4_stepsTo
          rw [if_neg (by unfold zout; omega), if_neg (by omega), if_neg (by omega), if_neg (by omega)]
          rfl
        refine Go_bind es ?_
        have af : 0 ≤ FA st (QA qu i) ∧ FA st (QA qu i) ≤ (i : Int) := ⟨a.2.1, a.2.2⟩
        have same : (∀ y, y < N → zf_X5_neighbourWith m (zget (pg6 m) (QA qu i)) (l : Int) = some (y : Int) → BW (FA st) (QA qu i) y) → M65 m N k (many : Int) (i : Int) (zget (pg6 m) (QA qu i)) ((l : Int) + 1) st qu := by
          intro hb
          refine ⟨many, i, l + 1, rfl, rfl, by omega, hi, by omega, rfl, bf, v2, v3, v4, ?_⟩
          intro y hy h
          obtain ⟨l', x1, x2⟩ := h
          by_cases e : l' = l
          · subst e; exact hb y hy x2
          · exact v5 y hy ⟨l', by omega, x2⟩
        by_cases z1 : r = -1
        · refine Go_bind (ct_no (Or.inl z1)) ?_
          refine Go_i ⟨Or.inr (Or.inr (Or.inr ⟨rfl, same (fun y hy h => by
            rw [hr] at h
            have := Option.some.inj h
            omega), hZ⟩)), ?_⟩
          show ((N : Int) - (i : Int)).toNat * 64 + (27 - ((l : Int) + 1)).toNat < ((N : Int) - (i : Int)).toNat * 64 + (27 - (l : Int)).toNat
          omega
        · obtain ⟨t, rfl⟩ : ∃ t : Nat, r = (t : Int) := ⟨r.toNat, by omega⟩
          have htN : t < N := by omega
          have uq : ∀ y : Nat, zf_X5_neighbourWith m (zget (pg6 m) (QA qu i)) (l : Int) = some (y : Int) → y = t := by
            intro y h
            rw [hr] at h
            have := Option.some.inj h
            omega
          by_cases c3 : zget st t = -1
          · have hlt := BF_lt (t := t) bf htN c3
            have hc := nb_f h4 h9 (x := QA qu i) (by have := a.1; omega) hl hr
            refine Go_bind (ct_yes (by omega) (by omega) c3 (by omega) (by omega)) ?_
            have zv : ¬ zout (FA st (QA qu i) + 1) := by unfold zout; omega
            have zt : ¬ zout (t : Int) := by unfold zout; omega
            have g1 : FA (zset st t (FA st (QA qu i) + 1)) t = FA st (QA qu i) + 1 := by
              rcases zget_set_c st t t zv with ⟨x, y⟩ | ⟨x, y⟩
              · exact y
              · exact absurd rfl x
            have g2 : ∀ y, ¬ y = t → FA (zset st t (FA st (QA qu i) + 1)) y = FA st y := fun y hy => by
              rcases zget_set_c st t y zv with ⟨x, z⟩ | ⟨x, z⟩
              · exact absurd x hy
              · exact z
            have g3 : zget (zset qu many (t : Int)) many = (t : Int) := by
              rcases zget_set_c qu many many zt with ⟨x, y⟩ | ⟨x, y⟩
              · exact y
              · exact absurd rfl x
            have g4 : ∀ j, j < many → zget (zset qu many (t : Int)) j = zget qu j := fun j hj => by
              rcases zget_set_c qu many j zt with ⟨x, z⟩ | ⟨x, z⟩
              · omega
              · exact z
            have g5 : ∀ j, j < many → QA (zset qu many (t : Int)) j = QA qu j := fun j hj => by show (zget _ j).toNat = (zget qu j).toNat; rw [g4 j hj]
            have zz1 : ZZ N k (FA (zset st t (FA st (QA qu i) + 1))) := fun y hy e => by
              by_cases w : y = t
              · subst w
                rw [g1] at e
                omega
              · rw [g2 y w] at e
                exact hZ y hy e
            obtain ⟨bf', t', e', w'⟩ := BF_add bf hi v3 htN c3 hc.2 g1 g2 (show QA (zset qu many (t : Int)) many = t by show (zget _ many).toNat = t; rw [g3]; omega) g5
            refine Go_i ⟨Or.inr (Or.inr (Or.inr ⟨rfl, ⟨many + 1, i, l + 1, rfl, rfl, rfl, by omega, by omega, ?_, bf', ?_, t', ?_, ?_⟩, zz1⟩)), ?_⟩
            · show zget (pg6 m) (QA qu i) = zget (pg6 m) (QA (zset qu many (t : Int)) i)
              rw [g5 i hi]
            · intro j hj
              show 0 ≤ zget (zset qu many (t : Int)) j
              by_cases e : j = many
              · subst e; rw [g3]; omega
              · rw [g4 j (by omega)]; exact v2 j (by omega)
            · intro j hj y hy he
              replace he : CE m (QA (zset qu many (t : Int)) j) y := he
              rw [g5 j (by omega)] at he
              exact w' j y (by omega) (v4 j hj y hy he)
            · intro y hy h
              obtain ⟨l', x1, x2⟩ := h
              replace x2 : zf_X5_neighbourWith m (zget (pg6 m) (QA (zset qu many (t : Int)) i)) (l' : Int) = some (y : Int) := x2
              rw [g5 i hi] at x2
              show BW (FA (zset st t (FA st (QA qu i) + 1))) (QA (zset qu many (t : Int)) i) y
              by_cases e : l' = l
              · subst e
                have := uq y x2
                subst this
                unfold BW
                rw [e', g1]
                exact ⟨by omega, Int.le_refl _⟩
              · exact w' i y hi (v5 y hy ⟨l', by omega, x2⟩)
            · show ((N : Int) - (i : Int)).toNat * 64 + (27 - ((l : Int) + 1)).toNat < ((N : Int) - (i : Int)).toNat * 64 + (27 - (l : Int)).toNat
              omega
          · refine Go_bind (ct_no (Or.inr ⟨by omega, by omega, c3⟩)) ?_
            refine Go_i ⟨Or.inr (Or.inr (Or.inr ⟨rfl, same (fun y hy h => by
              have := uq y h
              subst this
              refine ⟨c3, ?_⟩
              rcases bf.2.1 y hy with z | ⟨j, hj, z⟩
              · exact absurd z c3
              · rw [← z]; exact v3 j hj), hZ⟩)), ?_⟩
            show ((N : Int) - (i : Int)).toNat * 64 + (27 - ((l : Int) + 1)).toNat < ((N : Int) - (i : Int)).toNat * 64 + (27 - (l : Int)).toNat
            omega
  · exact Or.inl ⟨rfl, rfl⟩
  · show 200000 < jfuel
    unfold jfuel
    omega
/-- both find the same -/
theorem dist_eq {mk m : Nat} (p0 : ¬ zno mk m) {k : Nat} (hk : (k : Int) < pg8 m) {far st : Nat} (h : BFE (pg8 m).toNat k (CE m) (FA far) ∧ ZZ (pg8 m).toNat k (FA far)) (h' : BFE (pg8 m).toNat k (CE m) (FA st) ∧ ZZ (pg8 m).toNat k (FA st)) : ∀ y : Nat, (y : Int) < pg8 m → zget st y = zget far y := by
  obtain ⟨h4, h9⟩ := zno_rng p0
  have r8 := rpg8 h4 h9
  intro y hy
  refine BFE_uniq h'.1 h'.2 h.1 h.2 (fun y hy => ?_) (fun y hy => ?_) y (by omega)
  · have := far_ok h4 h9 hk h'.1 y (by omega)
    unfold FA
    omega
  · have := far_ok h4 h9 hk h.1 y (by omega)
    unfold FA
    omega
