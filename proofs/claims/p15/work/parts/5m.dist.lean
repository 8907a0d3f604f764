/-! distances: both go out from a cut; what they find is one and the same -/
def ZZ (N k : Nat) (F : Nat → Int) : Prop := ∀ y, y < N → F y = 0 → y = k
theorem BFE_le {N k : Nat} {E : Nat → Nat → Prop} {F F' : Nat → Int} (h : BFE N k E F) (z : ZZ N k F) (h' : BFE N k E F') (a' : ∀ y, y < N → ¬ F' y = -1) : ∀ (d y : Nat), y < N → F y = (d : Int) → F' y ≤ (d : Int) := by
  intro d
  induction d with
  | zero =>
    intro y hy e
    rw [z y hy e, h'.1]
    exact Int.le_refl _
  | succ d ih =>
    intro y hy e
    obtain ⟨x, hx, ex, he⟩ := h.2.1 y hy (by omega)
    have l := ih x hx (by omega)
    have w := h'.2.2.1 x y hx hy (a' x hx) he
    have := w.2
    omega
theorem BFE_uniq {N k : Nat} {E : Nat → Nat → Prop} {F F' : Nat → Int} (h : BFE N k E F) (z : ZZ N k F) (h' : BFE N k E F') (z' : ZZ N k F') (a : ∀ y, y < N → ¬ F y = -1) (a' : ∀ y, y < N → ¬ F' y = -1) : ∀ y, y < N → F y = F' y := by
  intro y hy
  have b := h.2.2.2 y hy
  have b' := h'.2.2.2 y hy
  have n := a y hy
  have n' := a' y hy
  have l := BFE_le h z h' a' (F y).toNat y hy (by omega)
  have l' := BFE_le h' z' h a (F' y).toNat y hy (by omega)
  omega
set_option maxHeartbeats 1000000 in
theorem ok_spreadZ {m : Nat} (h4 : 4 ≤ m) (h9 : m ≤ 9) {ln lm : Int} {nf ls gr li : Nat} (hT : LT m ln nf ls gr) (hI : LI m lm li) {k : Nat} (hk : (k : Int) < pg8 m) (f1 f2 : Int) (far qu : Nat) : Go (fun o => BFE (pg8 m).toNat k (CE m) (FA o.2.2.1) ∧ ZZ (pg8 m).toNat k (FA o.2.2.1)) (zf_X11_spreadFrom (m : Int) ln lm f1 f2 nf ls gr li far qu (k : Int)) := by
  obtain ⟨N, hN⟩ : ∃ N : Nat, pg8 m = (N : Int) := ⟨(pg8 m).toNat, by have := (rpg8 h4 h9).1; omega⟩
  have r8 := rpg8 h4 h9
  have r7 := rpg7 h4 h9
  have eN : (pg8 m).toNat = N := by omega
  rw [eN]
  have hln : ln = pg7 m := hT.1
  have hlm : lm = pg8 m := hI.1
  unfold zf_X11_spreadFrom
  refine jok (fun (s : zS_X11_spreadFrom) => match s with | (lab, i1, i2, i3, i4, i6, fo, ft, far, qu) => (lab = 0 ∧ i1 = (k : Int)) ∨ (lab = 2 ∧ SI2 m k i1 i2 far) ∨ (lab = 41 ∧ SI41 m N k i2 i3 far qu ∧ ZZ N k (FA far)) ∨ (lab = 62 ∧ SI62 m N k i2 i3 i4 i6 far qu ∧ ZZ N k (FA far))) (fun (s : zS_X11_spreadFrom) => match s with | (lab, i1, i2, i3, i4, i6, fo, ft, far, qu) => if lab = 0 then 200000 else if lab = 2 then 100000 + (pg8 m - i2).toNat else if lab = 41 then ((N : Int) - i3).toNat * 64 + 63 else ((N : Int) - i3).toNat * 64 + (27 - i6).toNat) _ ?_ _ ?_ ?_
  · intro s hs
    obtain ⟨lab, i1, i2, i3, i4, i6, fo, ft, far, qu⟩ := s
    replace hs : (lab = 0 ∧ i1 = (k : Int)) ∨ (lab = 2 ∧ SI2 m k i1 i2 far) ∨ (lab = 41 ∧ SI41 m N k i2 i3 far qu ∧ ZZ N k (FA far)) ∨ (lab = 62 ∧ SI62 m N k i2 i3 i4 i6 far qu ∧ ZZ N k (FA far)) := hs
    rcases hs with ⟨rfl, rfl⟩ | ⟨rfl, v⟩ | ⟨rfl, v, hZ⟩ | ⟨rfl, v, hZ⟩
    · show Go _ (zg_X11_spreadFrom_0 (m : Int) ln lm nf ls gr li (k : Int) i2 i3 i4 i6 fo ft far qu)
      unfold zg_X11_spreadFrom_0
      exact Go_i ⟨Or.inr (Or.inl ⟨rfl, rfl, by omega, by omega, fun y hy => absurd hy (by omega)⟩), by show 100000 + (pg8 m - 0).toNat < 200000; omega⟩
    · obtain ⟨rfl, v1, v2, v3⟩ := v
      show Go _ (zg_X11_spreadFrom_2 (m : Int) ln lm nf ls gr li (k : Int) i2 i3 i4 i6 fo ft far qu)
      unfold zg_X11_spreadFrom_2
      refine Go_chk (by unfold zout; omega) ?_
      refine Go_chk (by unfold zout; omega) ?_
      refine Go_ite (fun c1 => ?_) (fun c1 => ?_)
      · refine Go_chk (by omega) ?_
        have e0 : Int.toNat (k : Int) = k := by omega
        have zk : ¬ zout (k : Int) := by unfold zout; omega
        have f0 : ∀ y, ¬ y = k → FA (zset far (Int.toNat (k : Int)) 0) y = FA far y := fun y hy => by
          rcases zget_set_c far (Int.toNat (k : Int)) y (v := 0) (by decide) with ⟨a, b⟩ | ⟨a, b⟩
          · omega
          · exact b
        have fk : FA (zset far (Int.toNat (k : Int)) 0) k = 0 := by
          rcases zget_set_c far (Int.toNat (k : Int)) k (v := 0) (by decide) with ⟨a, b⟩ | ⟨a, b⟩
          · exact b
          · omega
        have q0 : zget (zset qu (Int.toNat 0) (k : Int)) 0 = (k : Int) := by
          rcases zget_set_c qu (Int.toNat 0) 0 (v := (k : Int)) zk with ⟨a, b⟩ | ⟨a, b⟩
          · exact b
          · exact absurd rfl a
        have bf : BF N k (CE m) (FA (zset far (Int.toNat (k : Int)) 0)) (QA (zset qu (Int.toNat 0) (k : Int))) 1 := BF_init (F0 := FA far) (by omega) (fun y hy => v3 y (by omega)) fk f0 (by show (zget _ 0).toNat = k; rw [q0]; omega)
        have zz0 : ZZ N k (FA (zset far (Int.toNat (k : Int)) 0)) := fun y hy e => by
          by_cases q : y = k
          · exact q
          · rw [f0 y q] at e
            have := v3 y (by omega)
            unfold FA at e
            omega
        refine Go_i ⟨Or.inr (Or.inr (Or.inl ⟨rfl, ⟨1, 0, rfl, rfl, by omega, bf, ?_, ?_, ?_⟩, zz0⟩)), ?_⟩
        · intro j hj
          have : j = 0 := by omega
          subst this
          rw [q0]; omega
        · intro _ j hj
          have : j = 0 := by omega
          subst this
          omega
        · intro j hj; omega
        · show ((N : Int) - 0).toNat * 64 + 63 < 100000 + (pg8 m - i2).toNat
          omega
      · refine Go_chk (by omega) ?_
        refine Go_i ⟨Or.inr (Or.inl ⟨rfl, rfl, by omega, by omega, all_m1 v3 v1⟩), ?_⟩
        show 100000 + (pg8 m - (i2 + 1)).toNat < 100000 + (pg8 m - i2).toNat
        omega
    · obtain ⟨many, i, rfl, rfl, v1, bf, v2, v3, v4⟩ := v
      have hmN := BF_le bf
      show Go _ (zg_X11_spreadFrom_41 (m : Int) ln lm nf ls gr li i1 (many : Int) (i : Int) i4 i6 fo ft far qu)
      unfold zg_X11_spreadFrom_41
      refine Go_chk (by unfold zout; omega) ?_
      refine Go_chk (by unfold zout; omega) ?_
      refine Go_ite (fun c1 => ?_) (fun c1 => ?_)
      · have e : i = many := by omega
        subst e
        exact Go_i (show BFE N k (CE m) (FA far) ∧ ZZ N k (FA far) from ⟨BF_end bf v4, hZ⟩)
      · have hi : i < many := by omega
        have a := bf.1 i hi
        have q0 := v2 i hi
        have aq : (zget qu i).toNat < N := a.1
        refine Go_chk (by omega) ?_
        rw [Int.toNat_natCast]
        refine Go_chk (by omega) ?_
        refine Go_i ⟨Or.inr (Or.inr (Or.inr ⟨rfl, ⟨many, i, 0, rfl, rfl, rfl, hi, by omega, ?_, bf, v2, v3 hi, v4, ?_⟩, hZ⟩)), ?_⟩
        · exact hI.2 (zget qu i).toNat (by omega)
        · intro y hy h
          obtain ⟨l', o, x1, x2, _⟩ := h
          omega
        · show ((N : Int) - (i : Int)).toNat * 64 + (27 - (0 : Int)).toNat < ((N : Int) - (i : Int)).toNat * 64 + 63
          omega
    · obtain ⟨many, i, l, rfl, rfl, rfl, hi, v1, rfl, bf, v2, v3, v4, v5⟩ := v
      have hmN := BF_le bf
      have a := bf.1 i hi
      have q0 := v2 i hi
      have aq : (zget qu i).toNat < N := a.1
      have hc : isCut m (zget (pg6 m) (QA qu i)) := ⟨QA qu i, by have := a.1; omega, rfl⟩
      show Go _ (zg_X11_spreadFrom_62 (m : Int) ln lm nf ls gr li i1 (many : Int) (i : Int) (zget (pg6 m) (QA qu i)) (l : Int) fo ft far qu)
      unfold zg_X11_spreadFrom_62
      refine Go_chk (by unfold zout; omega) ?_
      refine Go_chk (by unfold zout; omega) ?_
      refine Go_ite (fun c1 => ?_) (fun c1 => ?_)
      · have el : (l : Int) = pg7 m := by omega
        refine Go_i ⟨Or.inr (Or.inr (Or.inl ⟨rfl, ⟨many, i + 1, rfl, by omega, by omega, bf, v2, fun h => BF_next bf v3 h, ?_⟩, hZ⟩)), ?_⟩
        · intro j hj y hy he
          by_cases e : j = i
          · subst e
            obtain ⟨l', o, x1, x2, x3, x4, x5⟩ := he
            exact v5 y hy ⟨l', o, x1, by omega, x3, x4, x5⟩
          · exact v4 j (by omega) y hy he
        · show ((N : Int) - ((i : Int) + 1)).toNat * 64 + 63 < ((N : Int) - (i : Int)).toNat * 64 + (27 - (l : Int)).toNat
          omega
      · have hl : (l : Int) < pg7 m := by omega
        have be := (bit_eq h4 h9 hc (l := (l : Int)) (by omega) (by omega)).1
        refine Go_ite (fun c2 => ?_) (fun c2 => ?_)
        · refine Go_i ⟨Or.inr (Or.inr (Or.inr ⟨rfl, ⟨many, i, l + 1, rfl, rfl, rfl, hi, by omega, rfl, bf, v2, v3, v4, ?_⟩, hZ⟩)), ?_⟩
          · intro y hy h
            obtain ⟨l', o, x1, x2, x3, x4, x5⟩ := h
            by_cases e : l' = (l : Int)
            · subst e
              rw [be] at c2
              exact absurd c2 x3
            · exact v5 y hy ⟨l', o, x1, by omega, x3, x4, x5⟩
          · show ((N : Int) - (i : Int)).toNat * 64 + (27 - ((l : Int) + 1)).toNat < ((N : Int) - (i : Int)).toNat * 64 + (27 - (l : Int)).toNat
            omega
        · refine Go_chk (by omega) ?_
          obtain ⟨o, b1, b2, b3, b4, b5, b6⟩ := fl_line h4 h9 hT hc hl c2 fo ft
          rw [Int.toNat_natCast, b6]
          simp only [Option.bind_some]
          obtain ⟨t, ht, et⟩ := b4
          rw [et, pl_ok h4 h9 hI ht]
          simp only [Option.bind_some]
          refine Go_chk (by omega) ?_
          simp only [Int.toNat_natCast]
          have uq : ∀ y, y < N → ∀ o', zf_X5_otherLine m (zget (pg6 m) (QA qu i)) (l : Int) = some o' → zget (pg6 m) y = flipN (zget (pg6 m) (QA qu i)) (l : Int) o' → y = t := by
            intro y hy o' ho' e
            rw [b1] at ho'
            cases ho'
            rw [et] at e
            exact pg6_inj h4 h9 (by omega) ht e
          refine Go_ite (fun c3 => ?_) (fun c3 => ?_)
          · have htN : t < N := by omega
            have hlt := BF_lt (t := t) bf htN c3
            refine Go_chk (by omega) ?_
            refine Go_chk (by omega) ?_
            refine Go_chk (by omega) ?_
            have af : 0 ≤ zget far (zget qu i).toNat ∧ zget far (zget qu i).toNat ≤ (i : Int) := ⟨a.2.1, a.2.2⟩
            have zv : ¬ zout (zget far (zget qu i).toNat + 1) := by unfold zout; omega
            have zt : ¬ zout (t : Int) := by unfold zout; omega
            have g1 : FA (zset far t (zget far (zget qu i).toNat + 1)) t = FA far (QA qu i) + 1 := by
              rcases zget_set_c far t t zv with ⟨x, y⟩ | ⟨x, y⟩
              · exact y
              · exact absurd rfl x
            have g2 : ∀ y, ¬ y = t → FA (zset far t (zget far (zget qu i).toNat + 1)) y = FA far y := fun y hy => by
              rcases zget_set_c far t y zv with ⟨x, z⟩ | ⟨x, z⟩
              · exact absurd x hy
              · exact z
            have g3 : zget (zset qu many (t : Int)) many = (t : Int) := by
              rcases zget_set_c qu many many zt with ⟨x, y⟩ | ⟨x, y⟩
              · exact y
              · exact absurd rfl x
            have g4 : ∀ j, j < many → zget (zset qu many (t : Int)) j = zget qu j := fun j hj => by
              rcases zget_set_c qu many j zt with ⟨x, z⟩ | ⟨x, z⟩
              · omega
              · exact z
            have g5 : ∀ j, j < many → QA (zset qu many (t : Int)) j = QA qu j := fun j hj => by show (zget _ j).toNat = (zget qu j).toNat; rw [g4 j hj]
            have ce : CE m (QA qu i) t := ⟨(l : Int), o, by omega, hl, b5, b1, et.symm⟩
            obtain ⟨bf', t', e', w'⟩ := BF_add bf hi v3 htN c3 ce g1 g2 (show QA (zset qu many (t : Int)) many = t by show (zget _ many).toNat = t; rw [g3]; omega) g5
            have zz1 : ZZ N k (FA (zset far t (zget far (zget qu i).toNat + 1))) := fun y hy e => by
              by_cases q : y = t
              · subst q
                rw [g1] at e
                have : 0 ≤ FA far (QA qu i) := a.2.1
                omega
              · rw [g2 y q] at e
                exact hZ y hy e
            refine Go_i ⟨Or.inr (Or.inr (Or.inr ⟨rfl, ⟨many + 1, i, l + 1, rfl, rfl, rfl, by omega, by omega, ?_, bf', ?_, t', ?_, ?_⟩, zz1⟩)), ?_⟩
            · rw [g5 i hi]
            · intro j hj
              by_cases e : j = many
              · subst e; rw [g3]; omega
              · rw [g4 j (by omega)]; exact v2 j (by omega)
            · intro j hj y hy he
              rw [g5 j (by omega)] at he
              exact w' j y (by omega) (v4 j hj y hy he)
            · intro y hy h
              rw [g5 i hi] at h
              obtain ⟨l', o', x1, x2, x3, x4, x5⟩ := h
              by_cases e : l' = (l : Int)
              · subst e
                have := uq y hy o' x4 x5
                subst this
                unfold BW
                rw [e', g1]
                exact ⟨by have : 0 ≤ FA far (QA qu i) := a.2.1; omega, Int.le_refl _⟩
              · exact w' i y hi (v5 y hy ⟨l', o', x1, by omega, x3, x4, x5⟩)
            · show ((N : Int) - (i : Int)).toNat * 64 + (27 - ((l : Int) + 1)).toNat < ((N : Int) - (i : Int)).toNat * 64 + (27 - (l : Int)).toNat
              omega
          · refine Go_i ⟨Or.inr (Or.inr (Or.inr ⟨rfl, ⟨many, i, l + 1, rfl, rfl, rfl, hi, by omega, rfl, bf, v2, v3, v4, ?_⟩, hZ⟩)), ?_⟩
            · intro y hy h
              obtain ⟨l', o', x1, x2, x3, x4, x5⟩ := h
              by_cases e : l' = (l : Int)
              · subst e
                have := uq y hy o' x4 x5
                subst this
                refine ⟨c3, ?_⟩
                rcases bf.2.1 y hy with z | ⟨j, hj, z⟩
                · exact absurd z c3
                · rw [← z]; exact v3 j hj
              · exact v5 y hy ⟨l', o', x1, by omega, x3, x4, x5⟩
            · show ((N : Int) - (i : Int)).toNat * 64 + (27 - ((l : Int) + 1)).toNat < ((N : Int) - (i : Int)).toNat * 64 + (27 - (l : Int)).toNat
              omega
  · exact Or.inl ⟨rfl, rfl⟩
  · show 200000 < jfuel
    unfold jfuel
    omega
