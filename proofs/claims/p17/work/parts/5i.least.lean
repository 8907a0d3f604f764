/-! least, kinds -/
def inF (m T : Nat) (mir : Bool) (r : Int) : Prop := ∃ (j : Nat) (b : Bool), j < m ∧ (b = true → mir = true) ∧ r = ((tF m T j b : Nat) : Int)
def loF (m T : Nat) (mir : Bool) (K : Nat) (r : Int) : Prop := ∀ (j : Nat) (b : Bool), j < K → (b = true → mir = true) → r ≤ ((tF m T j b : Nat) : Int)
theorem F_uniq {m T : Nat} {mir : Bool} {r r' : Int} (a : inF m T mir r) (b : loF m T mir m r) (a' : inF m T mir r') (b' : loF m T mir m r') : r = r' := by
  obtain ⟨j, x, h1, h2, h3⟩ := a
  obtain ⟨j', x', h1', h2', h3'⟩ := a'
  have q := b' j x h1 h2
  have q' := b j' x' h1' h2'
  omega
theorem inF_in {m T : Nat} (h4 : 4 ≤ m) (h9 : m ≤ 9) {mir : Bool} {r : Int} (a : inF m T mir r) : 0 ≤ r ∧ r < 134217728 := by
  obtain ⟨j, x, h1, h2, h3⟩ := a
  have := tF_lt (T := T) h4 h9 x h1
  omega
def lfI (m T : Nat) (mir : Bool) (lab : Nat) (i1 i2 : Int) (i4 : Bool) (i5 i7 i8 : Int) : Prop := i1 = (m : Int) ∧ i2 = (T : Int) ∧ i4 = mir ∧ (lab = 0 ∨ (lab = 6 ∧ 0 ≤ i7 ∧ i7 ≤ (m : Int) ∧ inF m T mir i5 ∧ loF m T mir i7.toNat i5) ∨ (lab = 35 ∧ 0 ≤ i7 ∧ i7 < (m : Int) ∧ inF m T mir i5 ∧ loF m T mir i7.toNat i5 ∧ i5 ≤ ((tF m T i7.toNat false : Nat) : Int) ∧ i8 = ((tF m T i7.toNat false : Nat) : Int)))
set_option maxHeartbeats 1000000 in
theorem lo_ok {m T : Nat} (h4 : 4 ≤ m) (h9 : m ≤ 9) (mir : Bool) (hT : T < 2 ^ lnN m) {ln : Int} {nf ls gr : Nat} (hL : LT m ln nf ls gr) : Go (fun o => inF m T mir o ∧ loF m T mir m o) (zf_X11_leastOf ln nf ls gr (m : Int) (T : Int) mir) := by
  have hT' : T < 134217728 := Nat.lt_of_lt_of_le hT (lnN_2 h4 h9)
  unfold zf_X11_leastOf
  refine jok (fun (s : zS_X11_leastOf) => match s with | (lab, i1, i2, i4, i5, i7, i8) => lfI m T mir lab i1 i2 i4 i5 i7 i8) (fun (s : zS_X11_leastOf) => match s with | (lab, i1, i2, i4, i5, i7, i8) => if lab = 0 then 100 else if lab = 6 then (60 - 2 * i7).toNat else (59 - 2 * i7).toNat) (fun (o : zO_X11_leastOf) => inF m T mir o ∧ loF m T mir m o) ?_ _ ?_ ?_
  · intro s hI
    obtain ⟨lab, i1, i2, i4, i5, i7, i8⟩ := s
    have hI : lfI m T mir lab i1 i2 i4 i5 i7 i8 := hI
    unfold lfI at hI
    obtain ⟨qs0, qs1, qs2, hI2⟩ := hI
    subst qs0
    subst qs1
    subst qs2
    rcases hI2 with rfl | ⟨rfl, v1, v2, v3, v4⟩ | ⟨rfl, v1, v2, v3, v4, v5, v6⟩
    · show Go _ (zg_X11_leastOf_0 ln nf ls gr (m : Int) (T : Int) i4 i5 i7 i8)
      unfold zg_X11_leastOf_0
      exact Go_i (show lfI m T i4 6 (m : Int) (T : Int) i4 (T : Int) 0 0 ∧ (60 - 2 * (0 : Int)).toNat < 100 from ⟨⟨rfl, rfl, rfl, Or.inr (Or.inl ⟨rfl, by omega, by omega, ⟨0, false, by omega, (fun h => by cases h), by rw [tF_0 h4 h9 hT]⟩, fun j b hj => absurd hj (Nat.not_lt_zero _)⟩)⟩, by decide⟩)
    · show Go _ (zg_X11_leastOf_6 ln nf ls gr (m : Int) (T : Int) i4 i5 i7 i8)
      unfold zg_X11_leastOf_6
      have b5 := inF_in h4 h9 v3
      refine Go_chk (by unfold zout; omega) ?_
      refine Go_chk (by unfold zout; omega) ?_
      refine Go_ite (fun x => ?_) (fun x => ?_)
      · refine Go_i (show inF m T i4 i5 ∧ loF m T i4 m i5 from ⟨v3, ?_⟩)
        rw [show i7.toNat = m by omega] at v4
        exact v4
      · obtain ⟨k, rfl⟩ : ∃ k : Nat, i7 = (k : Int) := ⟨i7.toNat, by omega⟩
        have hk : k < m := by omega
        have bt := tF_lt (T := T) h4 h9 false hk
        refine Go_bind (tu_ok h4 h9 false hk hT' hL) ?_
        refine Go_chk (by unfold zoutL; omega) ?_
        refine Go_chk (by unfold zoutL; omega) ?_
        refine Go_ite (fun y => ?_) (fun y => ?_)
        · exact Go_i (show lfI m T i4 35 (m : Int) (T : Int) i4 i5 (k : Int) ((tF m T k false : Nat) : Int) ∧ (59 - 2 * (k : Int)).toNat < (60 - 2 * (k : Int)).toNat from ⟨⟨rfl, rfl, rfl, Or.inr (Or.inr ⟨rfl, by omega, by omega, v3, v4, y, rfl⟩)⟩, by omega⟩)
        · refine Go_i (show lfI m T i4 35 (m : Int) (T : Int) i4 ((tF m T k false : Nat) : Int) (k : Int) ((tF m T k false : Nat) : Int) ∧ (59 - 2 * (k : Int)).toNat < (60 - 2 * (k : Int)).toNat from ⟨⟨rfl, rfl, rfl, Or.inr (Or.inr ⟨rfl, by omega, by omega, ⟨k, false, hk, (fun h => by cases h), rfl⟩, ?_, Int.le_refl _, rfl⟩)⟩, by omega⟩)
          intro j b hj hb
          have := v4 j b hj hb
          omega
    · show Go _ (zg_X11_leastOf_35 ln nf ls gr (m : Int) (T : Int) i4 i5 i7 i8)
      unfold zg_X11_leastOf_35
      have b5 := inF_in h4 h9 v3
      obtain ⟨k, rfl⟩ : ∃ k : Nat, i7 = (k : Int) := ⟨i7.toNat, by omega⟩
      have hk : k < m := by omega
      have v4 : loF m T i4 k i5 := v4
      have v5 : i5 ≤ ((tF m T k false : Nat) : Int) := v5
      have v6 : i8 = ((tF m T k false : Nat) : Int) := v6
      have bt := tF_lt (T := T) h4 h9 false hk
      have ek : Int.toNat ((k : Int) + 1) = k + 1 := by omega
      cases i4 with
      | false =>
        rw [if_pos rfl]
        refine Go_chk (by unfold zoutL; omega) ?_
        refine Go_chk (by unfold zoutL; omega) ?_
        refine Go_ite (fun y => ?_) (fun y => ?_)
        · refine Go_i (show lfI m T false 6 (m : Int) (T : Int) false i5 ((k : Int) + 1) i8 ∧ (60 - 2 * ((k : Int) + 1)).toNat < (59 - 2 * (k : Int)).toNat from ⟨⟨rfl, rfl, rfl, Or.inr (Or.inl ⟨rfl, by omega, by omega, v3, ?_⟩)⟩, by omega⟩)
          rw [ek]
          intro j b hj hb
          by_cases e : j = k
          · subst e
            cases b with
            | false => exact v5
            | true => exact absurd (hb rfl) (by decide)
          · exact v4 j b (by omega) hb
        · exfalso
          omega
      | true =>
        have bu := tF_lt (T := T) h4 h9 true hk
        rw [if_neg (by decide)]
        refine Go_bind (tu_ok h4 h9 true hk hT' hL) ?_
        refine Go_chk (by unfold zoutL; omega) ?_
        refine Go_chk (by unfold zoutL; omega) ?_
        refine Go_ite (fun y => ?_) (fun y => ?_)
        · refine Go_i (show lfI m T true 6 (m : Int) (T : Int) true i5 ((k : Int) + 1) i8 ∧ (60 - 2 * ((k : Int) + 1)).toNat < (59 - 2 * (k : Int)).toNat from ⟨⟨rfl, rfl, rfl, Or.inr (Or.inl ⟨rfl, by omega, by omega, v3, ?_⟩)⟩, by omega⟩)
          rw [ek]
          intro j b hj hb
          by_cases e : j = k
          · subst e
            cases b with
            | false => exact v5
            | true => exact y
          · exact v4 j b (by omega) hb
        · refine Go_i (show lfI m T true 6 (m : Int) (T : Int) true ((tF m T k true : Nat) : Int) ((k : Int) + 1) i8 ∧ (60 - 2 * ((k : Int) + 1)).toNat < (59 - 2 * (k : Int)).toNat from ⟨⟨rfl, rfl, rfl, Or.inr (Or.inl ⟨rfl, by omega, by omega, ⟨k, true, hk, (fun _ => rfl), rfl⟩, ?_⟩)⟩, by omega⟩)
          rw [ek]
          intro j b hj hb
          by_cases e : j = k
          · subst e
            cases b with
            | false => omega
            | true => exact Int.le_refl _
          · have := v4 j b (by omega) hb
            omega
  · exact ⟨rfl, rfl, rfl, Or.inl rfl⟩
  · show 100 < jfuel
    unfold jfuel
    omega
/-- the class -/
def ltI (m T : Nat) (b : Bool) (lab : Nat) (i1 i2 i3 i4 : Int) : Prop := (lab = 0 ∧ i1 = ((tF m T 0 b : Nat) : Int)) ∨ (lab = 7 ∧ 1 ≤ i4 ∧ i4 ≤ (m : Int) ∧ i3 = ((tF m T (i4.toNat - 1) b : Nat) : Int) ∧ (∃ j, j < m ∧ i2 = ((tF m T j b : Nat) : Int)) ∧ ∀ j, j < i4.toNat → i2 ≤ ((tF m T j b : Nat) : Int))
set_option maxHeartbeats 1000000 in
theorem ltu_ok {m T : Nat} (h4 : 4 ≤ m) (h9 : m ≤ 9) (b : Bool) : Go (fun o => (∃ j, j < m ∧ o = ((tF m T j b : Nat) : Int)) ∧ ∀ j, j < m → o ≤ ((tF m T j b : Nat) : Int)) (zf_X5_leastTurned m ((tF m T 0 b : Nat) : Int)) := by
  unfold zf_X5_leastTurned
  refine jok (fun (s : zS_X5_leastTurned) => match s with | (lab, i1, i2, i3, i4) => ltI m T b lab i1 i2 i3 i4) (fun (s : zS_X5_leastTurned) => match s with | (lab, i1, i2, i3, i4) => if lab = 0 then 100 else (60 - i4).toNat) (fun (o : zO_X5_leastTurned) => (∃ j, j < m ∧ o = ((tF m T j b : Nat) : Int)) ∧ ∀ j, j < m → o ≤ ((tF m T j b : Nat) : Int)) ?_ _ ?_ ?_
  · intro s hI
    obtain ⟨lab, i1, i2, i3, i4⟩ := s
    have hI : ltI m T b lab i1 i2 i3 i4 := hI
    unfold ltI at hI
    rcases hI with ⟨rfl, rfl⟩ | ⟨rfl, v1, v2, v3, v4, v5⟩
    · show Go _ (zg_X5_leastTurned_0 m ((tF m T 0 b : Nat) : Int) i2 i3 i4)
      unfold zg_X5_leastTurned_0
      exact Go_i (show ltI m T b 7 ((tF m T 0 b : Nat) : Int) ((tF m T 0 b : Nat) : Int) ((tF m T 0 b : Nat) : Int) 1 ∧ (60 - (1 : Int)).toNat < 100 from ⟨Or.inr ⟨rfl, by omega, by omega, rfl, ⟨0, by omega, rfl⟩, fun j hj => by
        have hj : j < 1 := hj
        rw [show j = 0 by omega]
        exact Int.le_refl _⟩, by decide⟩)
    · show Go _ (zg_X5_leastTurned_7 m i1 i2 i3 i4)
      unfold zg_X5_leastTurned_7
      obtain ⟨k, rfl⟩ : ∃ k : Nat, i4 = ((k + 1 : Nat) : Int) := ⟨i4.toNat - 1, by omega⟩
      have v3 : i3 = ((tF m T k b : Nat) : Int) := v3
      have v5 : ∀ j, j < k + 1 → i2 ≤ ((tF m T j b : Nat) : Int) := v5
      obtain ⟨j0, hj0, e0⟩ := v4
      have c0 := tF_lt (T := T) h4 h9 b hj0
      refine Go_chk (by unfold zout; omega) ?_
      refine Go_chk (by unfold zout; omega) ?_
      refine Go_ite (fun x => ?_) (fun x => ?_)
      · exact Go_i (show (∃ j, j < m ∧ i2 = ((tF m T j b : Nat) : Int)) ∧ ∀ j, j < m → i2 ≤ ((tF m T j b : Nat) : Int) from ⟨⟨j0, hj0, e0⟩, fun j hj => v5 j (by omega)⟩)
      · have hk : k + 1 < m := by omega
        have c1 := tF_lt (T := T) h4 h9 b (show k < m by omega)
        have c2 := tF_lt (T := T) h4 h9 b hk
        have mv := mv_ok h4 h9 false c1
        have mv : zf_X5_moved m ((tF m T k b : Nat) : Int) false = some ((tF m (tF m T k b) 1 false : Nat) : Int) := mv
        rw [tF_s h4 h9 b hk] at mv
        rw [v3]
        refine Go_bind mv ?_
        refine Go_chk (by unfold zout; omega) ?_
        refine Go_chk (by unfold zout; omega) ?_
        have mn := rmin i2 ((tF m T (k + 1) b : Nat) : Int)
        refine Go_i (show ltI m T b 7 0 (zmin i2 ((tF m T (k + 1) b : Nat) : Int)) ((tF m T (k + 1) b : Nat) : Int) (((k + 1 : Nat) : Int) + 1) ∧ (60 - (((k + 1 : Nat) : Int) + 1)).toNat < (60 - ((k + 1 : Nat) : Int)).toNat from ⟨Or.inr ⟨rfl, by omega, by omega, ?_, ?_, ?_⟩, by omega⟩)
        · rw [show (((k + 1 : Nat) : Int) + 1).toNat - 1 = k + 1 by omega]
        · rcases mn.2.2 with e | e
          · exact ⟨j0, hj0, e.trans e0⟩
          · exact ⟨k + 1, hk, e⟩
        · intro j hj
          by_cases e : j = k + 1
          · subst e; exact mn.2.1
          · exact Int.le_trans mn.1 (v5 j (by omega))
  · exact Or.inl ⟨rfl, rfl⟩
  · show 100 < jfuel
    unfold jfuel
    omega
theorem la_ok {m T : Nat} (h4 : 4 ≤ m) (h9 : m ≤ 9) (mir : Bool) (hT : T < 2 ^ lnN m) : Go (fun o => inF m T mir o ∧ loF m T mir m o) (zf_X5_leastAlike m (T : Int) mir) := by
  have hT' : T < 134217728 := Nat.lt_of_lt_of_le hT (lnN_2 h4 h9)
  unfold zf_X5_leastAlike
  have g := ltu_ok (T := T) h4 h9 false
  rw [tF_0 h4 h9 hT] at g
  refine Go_bindP g (fun r q => ?_)
  obtain ⟨⟨j0, hj0, e0⟩, q2⟩ := q
  have c0 := tF_lt (T := T) h4 h9 false hj0
  cases mir with
  | false =>
    rw [if_pos rfl]
    refine Go_i ⟨⟨j0, false, hj0, (fun h => by cases h), e0⟩, fun j b hj hb => ?_⟩
    cases b with
    | false => exact q2 j hj
    | true => exact absurd (hb rfl) (by decide)
  | true =>
    rw [if_neg (by decide)]
    refine Go_bind (mv_ok h4 h9 true hT') ?_
    refine Go_bindP (ltu_ok (T := T) h4 h9 true) (fun r' q' => ?_)
    obtain ⟨⟨j1, hj1, e1⟩, q3⟩ := q'
    have c1 := tF_lt (T := T) h4 h9 true hj1
    have mn := rmin r r'
    refine Go_chk (by unfold zout; omega) ?_
    refine Go_chk (by unfold zout; omega) ?_
    refine Go_i ⟨?_, fun j b hj hb => ?_⟩
    · rcases mn.2.2 with e | e
      · exact ⟨j0, false, hj0, (fun _ => rfl), e.trans e0⟩
      · exact ⟨j1, true, hj1, (fun _ => rfl), e.trans e1⟩
    · cases b with
      | false => exact Int.le_trans mn.1 (q2 j hj)
      | true => exact Int.le_trans mn.2.1 (q3 j hj)
noncomputable def rotK (m k : Nat) : Bool := memB m (tF m (zget (pg6 m) k).toNat 1 false) && (memB m (tF m (zget (pg6 m) k).toNat 0 true) && decide ((zget (pg6 m) k).toNat < 2 ^ lnN m))
theorem rot_tab : ∀ m : Nat, 4 ≤ m → m ≤ 9 → allF (fun k => rotK m k) 0 (pg8 m).toNat = true := pg_cases (by decide +kernel) (by decide +kernel) (by decide +kernel) (by decide +kernel) (by decide +kernel) (by decide +kernel)
theorem rot_c {m T : Nat} (h4 : 4 ≤ m) (h9 : m ≤ 9) (hc : isCut m (T : Int)) : isCut m ((tF m T 1 false : Nat) : Int) ∧ isCut m ((tF m T 0 true : Nat) : Int) ∧ T < 2 ^ lnN m := by
  obtain ⟨k, hk, e⟩ := hc
  have t := allF_at (rot_tab m h4 h9) (m := k) (by omega)
  have t : rotK m k = true := t
  unfold rotK at t
  rw [← e, Int.toNat_natCast, Bool.and_eq_true, Bool.and_eq_true] at t
  exact ⟨memB_ok t.1, memB_ok t.2.1, of_decide_eq_true t.2.2⟩
theorem tF_cut {m T : Nat} (h4 : 4 ≤ m) (h9 : m ≤ 9) (hc : isCut m (T : Int)) (b : Bool) : ∀ k : Nat, k < m → isCut m ((tF m T k b : Nat) : Int) := by
  intro k
  induction k with
  | zero =>
    intro _
    cases b with
    | false => rw [tF_0 h4 h9 (rot_c h4 h9 hc).2.2]; exact hc
    | true => exact (rot_c h4 h9 hc).2.1
  | succ k ih =>
    intro hk
    rw [← tF_s h4 h9 b hk]
    exact (rot_c h4 h9 (ih (by omega))).1
theorem least_e {m : Nat} (h4 : 4 ≤ m) (h9 : m ≤ 9) (mir : Bool) {c : Int} (hc : isCut m c) {ln : Int} {nf ls gr : Nat} (hL : LT m ln nf ls gr) : ∃ r, zf_X5_leastAlike m c mir = some r ∧ zf_X11_leastOf ln nf ls gr (m : Int) c mir = some r ∧ isCut m r := by
  obtain ⟨T, rfl⟩ := cutN h4 h9 hc
  have hT := (rot_c h4 h9 hc).2.2
  obtain ⟨r, hr, r1, r2⟩ := la_ok h4 h9 mir hT
  obtain ⟨r', hr', r1', r2'⟩ := lo_ok h4 h9 mir hT hL
  have e := F_uniq r1 r2 r1' r2'
  subst e
  refine ⟨r, hr, hr', ?_⟩
  obtain ⟨j, b, hj, -, e⟩ := r1
  rw [e]
  exact tF_cut h4 h9 hc b j hj
theorem eq_least {mk m : Nat} (p0 : ¬ zno mk m) {b : Int} (hb : isCut m b) (mir : Bool) {ln lf lm lc : Int} {nf ls gr li : Nat} (hT : TL lf ln nf ls gr) (hK : LK lc lm li) {o : Int} {o2 : Int × Int × Int × Int × Int × Nat × Nat × Nat × Nat} (ho : zf_X10_least mk m b mir = some o) (ho2 : zf_X11_least (m : Int) ln lf lm lc b nf ls gr li mir = some o2) : o = o2.1 := by
  obtain ⟨h4, h9⟩ := zno_rng p0
  unfold zf_X10_least at ho
  unfold zf_X11_least at ho2
  obtain ⟨u, hu, w0, w1, w2, w3, w4, w5, w6, -⟩ := oy_listFor ln lf lm lc nf ls gr li (m : Int) hT hK (by omega) (by omega)
  obtain ⟨r, e1, e2, e3⟩ := least_e h4 h9 mir hb (LTof w1)
  rw [if_neg p0, e1] at ho
  rw [hu] at ho2
  simp only [Option.bind_some] at ho ho2
  rw [e2] at ho2
  simp only [Option.bind_some] at ho2
  obtain ⟨k, hk, rfl⟩ := e3
  rw [num_e h4 h9 hk] at ho
  rw [pl_ok h4 h9 (LIof w6) hk] at ho2
  cases ho
  cases ho2
  rfl
/-- kinds -/
def nbI (m T : Nat) (b : Bool) (c : Int) (lab : Nat) (i1 i2 i3 i4 : Int) : Prop := i2 = c ∧ ((lab = 0 ∧ i1 = ((tF m T 0 b : Nat) : Int)) ∨ (lab = 5 ∧ 0 ≤ i4 ∧ i4 ≤ (m : Int) ∧ (i4 < (m : Int) → i3 = ((tF m T i4.toNat b : Nat) : Int)) ∧ ∀ j, j < i4.toNat → c ≤ ((tF m T j b : Nat) : Int)))
set_option maxHeartbeats 1000000 in
theorem nb_ok {m T : Nat} (h4 : 4 ≤ m) (h9 : m ≤ 9) (b : Bool) {c : Int} (c0 : 0 ≤ c) (c1 : c ≤ 134217727) : Go (fun o => (o = true → ∀ j, j < m → c ≤ ((tF m T j b : Nat) : Int)) ∧ (o = false → ∃ j, j < m ∧ ((tF m T j b : Nat) : Int) < c)) (zf_X5_neverTurnsBelow m ((tF m T 0 b : Nat) : Int) c) := by
  unfold zf_X5_neverTurnsBelow
  refine jok (fun (s : zS_X5_neverTurnsBelow) => match s with | (lab, i1, i2, i3, i4) => nbI m T b c lab i1 i2 i3 i4) (fun (s : zS_X5_neverTurnsBelow) => match s with | (lab, i1, i2, i3, i4) => if lab = 0 then 100 else (60 - i4).toNat) (fun (o : zO_X5_neverTurnsBelow) => (o = true → ∀ j, j < m → c ≤ ((tF m T j b : Nat) : Int)) ∧ (o = false → ∃ j, j < m ∧ ((tF m T j b : Nat) : Int) < c)) ?_ _ ?_ ?_
  · intro s hI
    obtain ⟨lab, i1, i2, i3, i4⟩ := s
    have hI : nbI m T b c lab i1 i2 i3 i4 := hI
    unfold nbI at hI
    obtain ⟨e2, hI⟩ := hI
    subst e2
    rcases hI with ⟨rfl, rfl⟩ | ⟨rfl, v1, v2, v3, v5⟩
    · show Go _ (zg_X5_neverTurnsBelow_0 m ((tF m T 0 b : Nat) : Int) i2 i3 i4)
      unfold zg_X5_neverTurnsBelow_0
      exact Go_i (show nbI m T b i2 5 ((tF m T 0 b : Nat) : Int) i2 ((tF m T 0 b : Nat) : Int) 0 ∧ (60 - (0 : Int)).toNat < 100 from ⟨⟨rfl, Or.inr ⟨rfl, by omega, by omega, (fun _ => rfl), fun j hj => absurd hj (Nat.not_lt_zero _)⟩⟩, by decide⟩)
    · show Go _ (zg_X5_neverTurnsBelow_5 m i1 i2 i3 i4)
      unfold zg_X5_neverTurnsBelow_5
      obtain ⟨k, rfl⟩ : ∃ k : Nat, i4 = (k : Int) := ⟨i4.toNat, by omega⟩
      have v5 : ∀ j, j < k → i2 ≤ ((tF m T j b : Nat) : Int) := v5
      refine Go_chk (by unfold zout; omega) ?_
      refine Go_chk (by unfold zout; omega) ?_
      refine Go_ite (fun x => ?_) (fun x => ?_)
      · exact Go_i (show (true = true → ∀ j, j < m → i2 ≤ ((tF m T j b : Nat) : Int)) ∧ (true = false → ∃ j, j < m ∧ ((tF m T j b : Nat) : Int) < i2) from ⟨fun _ j hj => v5 j (by omega), fun h => by cases h⟩)
      · have hk : k < m := by omega
        have v3 : i3 = ((tF m T k b : Nat) : Int) := v3 (by omega)
        have cl := tF_lt (T := T) h4 h9 b hk
        refine Go_chk (by unfold zout; omega) ?_
        refine Go_chk (by unfold zout; omega) ?_
        refine Go_ite (fun y => ?_) (fun y => ?_)
        · have mv := mv_ok h4 h9 false cl
          have mv : zf_X5_moved m ((tF m T k b : Nat) : Int) false = some ((tF m (tF m T k b) 1 false : Nat) : Int) := mv
          rw [v3]
          rw [v3] at y
          refine Go_bind mv ?_
          refine Go_i (show nbI m T b i2 5 0 i2 ((tF m (tF m T k b) 1 false : Nat) : Int) ((k : Int) + 1) ∧ (60 - ((k : Int) + 1)).toNat < (60 - (k : Int)).toNat from ⟨⟨rfl, Or.inr ⟨rfl, by omega, by omega, ?_, ?_⟩⟩, by omega⟩)
          · intro hk1
            rw [show ((k : Int) + 1).toNat = k + 1 by omega, tF_s h4 h9 b (by omega)]
          · intro j hj
            by_cases e : j = k
            · subst e; exact y
            · exact v5 j (by omega)
        · exact Go_i (show (false = true → ∀ j, j < m → i2 ≤ ((tF m T j b : Nat) : Int)) ∧ (false = false → ∃ j, j < m ∧ ((tF m T j b : Nat) : Int) < i2) from ⟨(fun h => by cases h), fun _ => ⟨k, hk, by omega⟩⟩)
  · exact ⟨rfl, Or.inl ⟨rfl, rfl⟩⟩
  · show 100 < jfuel
    unfold jfuel
    omega
/-- whether the class counts a cut: just when it is its own least -/
theorem kind_e {m : Nat} (h4 : 4 ≤ m) (h9 : m ≤ 9) (mir : Bool) {c : Int} (hc : isCut m c) {ln : Int} {nf ls gr : Nat} (hL : LT m ln nf ls gr) : ∃ (r : Int) (b1 : Bool) (cm : Int) (b2 : Bool), zf_X11_leastOf ln nf ls gr (m : Int) c mir = some r ∧ zf_X5_neverTurnsBelow m c c = some b1 ∧ zf_X5_moved m c true = some cm ∧ zf_X5_neverTurnsBelow m cm c = some b2 ∧ isCut m r ∧ (r = c ↔ (b1 = true ∧ (mir = true → b2 = true))) := by
  have rc := rcut0 h4 h9 hc
  obtain ⟨T, rfl⟩ := cutN h4 h9 hc
  have hT := (rot_c h4 h9 hc).2.2
  have hT' : T < 134217728 := Nat.lt_of_lt_of_le hT (lnN_2 h4 h9)
  obtain ⟨r, hr, ⟨j0, x0, hj0, hx0, e0⟩, r2⟩ := lo_ok h4 h9 mir hT hL
  obtain ⟨b1, hb1, p1, p2⟩ := nb_ok (T := T) h4 h9 false rc.1 rc.2
  rw [tF_0 h4 h9 hT] at hb1
  obtain ⟨b2, hb2, p3, p4⟩ := nb_ok (T := T) h4 h9 true rc.1 rc.2
  have le0 := r2 0 false (by omega) (fun h => by cases h)
  rw [tF_0 h4 h9 hT] at le0
  refine ⟨r, b1, _, b2, hr, hb1, mv_ok h4 h9 true hT', hb2, ?_, ?_, ?_⟩
  · rw [e0]; exact tF_cut h4 h9 hc x0 j0 hj0
  · intro e
    refine ⟨?_, fun hm => ?_⟩
    · cases b1 with
      | true => rfl
      | false =>
        obtain ⟨j, hj, lt⟩ := p2 rfl
        have := r2 j false hj (fun h => by cases h)
        omega
    · cases b2 with
      | true => rfl
      | false =>
        obtain ⟨j, hj, lt⟩ := p4 rfl
        have := r2 j true hj (fun _ => hm)
        omega
  · intro q
    have ge : (T : Int) ≤ r := by
      rw [e0]
      cases x0 with
      | false => exact p1 q.1 j0 hj0
      | true => exact p3 (q.2 (hx0 rfl)) j0 hj0
    omega
set_option maxHeartbeats 1000000 in
theorem kind_run {m : Nat} (h4 : 4 ≤ m) (h9 : m ≤ 9) (mir : Bool) {o : zO_X5_countKinds} {o2 : zO_X11_kinds} {ln lf lm lc : Int} {nf ls gr li : Nat} (hT : LT m ln nf ls gr) (hL : LI m lm li) : ∀ (d k : Nat) (n : Int), (k : Int) + (d : Int) = pg8 m → JE (zg_X5_countKinds m) (4, mir, n, (k : Int)) o → JE zg_X11_kinds (23, (m : Int), mir, n, (k : Int), ln, lf, lm, lc, nf, ls, gr, li) o2 → o = o2.1 := by
  have r8 := rpg8 h4 h9
  have el := hL.1
  intro d
  induction d with
  | zero =>
    intro k n hk hx hy
    have e1 := JE_end (o' := n) (by
      show zg_X5_countKinds_4 m mir n (k : Int) = _
      unfold zg_X5_countKinds_4
      rw [if_neg (by unfold zout; omega), if_neg (by unfold zout; omega), if_pos (by omega)]) hx
    have e2 := JE_end (o' := (n, ln, lf, lm, lc, nf, ls, gr, li)) (by
      show zg_X11_kinds_23 (m : Int) mir n (k : Int) ln lf lm lc nf ls gr li = _
      unfold zg_X11_kinds_23
      rw [if_neg (by unfold zout; omega), if_neg (by unfold zout; omega), if_pos (by omega)]) hy
    rw [e1, e2]
  | succ d ih =>
    intro k n hk hx hy
    have hc : isCut m (zget (pg6 m) k) := pg6_cut (by omega)
    have ek : zgetL li (Int.toNat (k : Int)) = zget (pg6 m) k := by rw [Int.toNat_natCast]; exact hL.2 k (by omega)
    obtain ⟨r, b1, cm, b2, s1, s2, s3, s4, s5, s6⟩ := kind_e h4 h9 mir hc hT
    have rr := rcut0 h4 h9 s5
    by_cases c : r = zget (pg6 m) k
    · have q := s6.mp c
      have hx := JE_dn (s' := (4, mir, n + 1, (k : Int) + 1)) (by
        show zg_X5_countKinds_4 m mir n (k : Int) = _
        unfold zg_X5_countKinds_4
        rw [if_neg (by unfold zout; omega), if_neg (by unfold zout; omega), if_neg (by omega), if_neg (by omega), Int.toNat_natCast, s2]
        simp only [Option.bind_some]
        rw [q.1, if_neg (by decide)]
        cases mir with
        | false => rw [if_pos rfl]
        | true =>
          rw [if_neg (by decide), s3]
          simp only [Option.bind_some]
          rw [s4]
          simp only [Option.bind_some]
          rw [q.2 rfl, if_neg (by decide)]) hx
      have hy := JE_dn (s' := (23, (m : Int), mir, n + 1, (k : Int) + 1, ln, lf, lm, lc, nf, ls, gr, li)) (by
        show zg_X11_kinds_23 (m : Int) mir n (k : Int) ln lf lm lc nf ls gr li = _
        unfold zg_X11_kinds_23
        rw [if_neg (by unfold zout; omega), if_neg (by unfold zout; omega), if_neg (by omega), if_neg (by omega), ek, s1]
        simp only [Option.bind_some]
        rw [if_neg (by unfold zoutL; omega), if_pos c]) hy
      rw [show (k : Int) + 1 = ((k + 1 : Nat) : Int) by omega] at hx hy
      exact ih (k + 1) (n + 1) (by omega) hx hy
    · have q : ¬ (b1 = true ∧ (mir = true → b2 = true)) := fun z => c (s6.mpr z)
      have hx := JE_dn (s' := (4, mir, n, (k : Int) + 1)) (by
        show zg_X5_countKinds_4 m mir n (k : Int) = _
        unfold zg_X5_countKinds_4
        rw [if_neg (by unfold zout; omega), if_neg (by unfold zout; omega), if_neg (by omega), if_neg (by omega), Int.toNat_natCast, s2]
        simp only [Option.bind_some]
        cases b1 with
        | false => rw [if_pos rfl]
        | true =>
          rw [if_neg (by decide)]
          cases mir with
          | false => exact absurd ⟨rfl, fun h => by cases h⟩ q
          | true =>
            rw [if_neg (by decide), s3]
            simp only [Option.bind_some]
            rw [s4]
            simp only [Option.bind_some]
            cases b2 with
            | false => rw [if_pos rfl]
            | true => exact absurd ⟨rfl, fun _ => rfl⟩ q) hx
      have hy := JE_dn (s' := (23, (m : Int), mir, n + 0, (k : Int) + 1, ln, lf, lm, lc, nf, ls, gr, li)) (by
        show zg_X11_kinds_23 (m : Int) mir n (k : Int) ln lf lm lc nf ls gr li = _
        unfold zg_X11_kinds_23
        rw [if_neg (by unfold zout; omega), if_neg (by unfold zout; omega), if_neg (by omega), if_neg (by omega), ek, s1]
        simp only [Option.bind_some]
        rw [if_neg (by unfold zoutL; omega), if_neg c]) hy
      rw [Int.add_zero] at hy
      rw [show (k : Int) + 1 = ((k + 1 : Nat) : Int) by omega] at hx hy
      exact ih (k + 1) n (by omega) hx hy
theorem kinds_n {v : Int} (hv : ¬ zout v) (h : v < 4 ∨ 9 < v) {mir : Bool} {ln lf lm lc : Int} {nf ls gr li : Nat} {o2 : zO_X11_kinds} (ho2 : zf_X11_kinds ln lf lm lc nf ls gr li v mir = some o2) : o2.1 = -2 := by
  have hy := JE_of ho2
  have e2 := JE_end (o' := ((-2 : Int), ln, lf, lm, lc, nf, ls, gr, li)) (by
    show zg_X11_kinds_0 v mir 0 0 ln lf lm lc nf ls gr li = _
    unfold zg_X11_kinds_0
    rw [in_e hv (by decide) (by decide)]
    simp only [Option.bind_some]
    rw [decide_eq_false (by omega), if_pos rfl]) hy
  rw [e2]
theorem eq_kinds {m : Nat} (h4 : 4 ≤ m) (h9 : m ≤ 9) (mir : Bool) {ln lf lm lc : Int} {nf ls gr li : Nat} (hT : TL lf ln nf ls gr) (hK : LK lc lm li) {o : Int} {o2 : zO_X11_kinds} (ho : zf_X5_countKinds m mir = some o) (ho2 : zf_X11_kinds ln lf lm lc nf ls gr li (m : Int) mir = some o2) : o = o2.1 := by
  have r8 := rpg8 h4 h9
  have hy := JE_of ho2
  have hx := JE_dn (s' := (4, mir, 0, 0)) rfl (JE_of ho)
  have ey : zg_X11_kinds (0, (m : Int), mir, 0, 0, ln, lf, lm, lc, nf, ls, gr, li) = zg_X11_kinds_0 (m : Int) mir 0 0 ln lf lm lc nf ls gr li := rfl
  unfold zg_X11_kinds_0 at ey
  obtain ⟨u, hu, w0, w1, w2, w3, w4, w5, w6, -⟩ := oy_listFor ln lf lm lc nf ls gr li (m : Int) hT hK (by omega) (by omega)
  rw [in_e (by unfold zout; omega) (by decide) (by decide), hu] at ey
  simp only [Option.bind_some] at ey
  rw [decide_eq_true (by omega), if_neg (by decide)] at ey
  have hy := JE_dn ey hy
  exact kind_run h4 h9 mir (LTof w1) (LIof w6) (pg8 m).toNat 0 0 (by omega) hx hy
