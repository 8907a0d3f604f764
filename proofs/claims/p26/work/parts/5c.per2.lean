/-! period and ofCut -/
noncomputable def cpN (P : Nat) (f : Nat → Int) (k : Nat) : Nat := Nat.rec P (fun i ih => zset ih i (f i)) k
theorem cpN_s (P : Nat) (f : Nat → Int) (k : Nat) : cpN P f (k + 1) = zset (cpN P f k) k (f k) := rfl
theorem cpN_c {P : Nat} {f g : Nat → Int} : ∀ k : Nat, (∀ j : Nat, j < k → f j = g j) → cpN P f k = cpN P g k := by
  intro k
  induction k with
  | zero => intro _; rfl
  | succ k ih => intro h; rw [cpN_s, cpN_s, ih (fun j hj => h j (by omega)), h k (by omega)]
theorem become_e {s : Int} {P q : Nat} {n : Nat} (n10 : n ≤ 10) {o : zO_X2_become} (ho : zf_X2_become s P q (n : Int) = some o) : o = ((n : Int), (n : Int), cpN P (fun i => zget q i) n) := by
  have run : ∀ d k : Nat, k + d = n → ∀ i2 : Int, JE (zg_X2_become q) (12, i2, (k : Int), (n : Int), cpN P (fun i => zget q i) k) ((n : Int), (n : Int), cpN P (fun i => zget q i) n) := by
    intro d
    induction d with
    | zero =>
      intro k hk i2
      have hk : k = n := by omega
      subst hk
      refine JE_in ?_
      show zg_X2_become_12 q i2 (k : Int) (k : Int) (cpN P (fun i => zget q i) k) = _
      unfold zg_X2_become_12
      rw [if_neg (by unfold zout; omega), if_neg (by unfold zout; omega), if_pos (Int.le_refl _)]
    | succ d ih =>
      intro k hk i2
      have ih := ih (k + 1) (by omega) 0
      rw [show (((k + 1 : Nat) : Nat) : Int) = (k : Int) + 1 by omega, cpN_s] at ih
      refine JE_up ?_ ih
      show zg_X2_become_12 q i2 (k : Int) (n : Int) (cpN P (fun i => zget q i) k) = _
      unfold zg_X2_become_12
      rw [if_neg (by unfold zout; omega), if_neg (by unfold zout; omega), if_neg (by omega), if_neg (by omega), if_neg (by omega), Int.toNat_natCast]
  have h : JE (zg_X2_become q) (0, (n : Int), 0, s, P) ((n : Int), (n : Int), cpN P (fun i => zget q i) n) := by
    refine JE_up (s' := (12, (n : Int), 0, (n : Int), P)) ?_ (run n 0 (by omega) (n : Int))
    show zg_X2_become_0 q (n : Int) 0 s P = _
    unfold zg_X2_become_0 zmin
    rw [if_neg (by unfold zout; omega)]
    by_cases c : (10 : Int) < (n : Int)
    · omega
    · rw [if_neg c]
  exact JE_det (JE_of ho) h
/-- a row's numbers are taken -/
def accP (q : Nat) (n : Nat) : Prop := ∀ j : Nat, j < n → 1 ≤ zget q j ∧ zget q j ≤ 20
theorem acc_x {q n : Nat} (n1 : 1 ≤ n) (n10 : n ≤ 10) {b : Bool} (hb : zf_X2_accepts q (n : Int) = some b) : b = true ↔ accP q n := by
  have run : ∀ d k : Nat, k + d = n → (∀ j : Nat, j < k → 1 ≤ zget q j ∧ zget q j ≤ 20) → JE (zg_X2_accepts q) (21, (n : Int), (k : Int)) b → (b = true ↔ accP q n) := by
    intro d
    induction d with
    | zero =>
      intro k hk hp h
      have hk : k = n := by omega
      subst hk
      have e := JE_end (o' := true) (by
        show zg_X2_accepts_21 q (k : Int) (k : Int) = _
        unfold zg_X2_accepts_21
        rw [if_neg (by unfold zout; omega), if_neg (by unfold zout; omega), if_pos (Int.le_refl _)]) h
      subst e
      exact ⟨fun _ => hp, fun _ => rfl⟩
    | succ d ih =>
      intro k hk hp h
      by_cases c1 : zget q k < 1
      · have e := JE_end (o' := false) (by
          show zg_X2_accepts_21 q (n : Int) (k : Int) = _
          unfold zg_X2_accepts_21
          rw [if_neg (by unfold zout; omega), if_neg (by unfold zout; omega), if_neg (by omega), if_neg (by omega), Int.toNat_natCast, if_pos c1]) h
        subst e
        exact ⟨(fun z => by cases z), fun z => absurd (z k (by omega)) (by omega)⟩
      · by_cases c2 : zget q k ≤ 20
        · have h := JE_dn (s' := (21, (n : Int), (k : Int) + 1)) (by
            show zg_X2_accepts_21 q (n : Int) (k : Int) = _
            unfold zg_X2_accepts_21
            rw [if_neg (by unfold zout; omega), if_neg (by unfold zout; omega), if_neg (by omega), if_neg (by omega), Int.toNat_natCast, if_neg c1, if_pos c2]) h
          refine ih (k + 1) (by omega) ?_ (by rw [show (((k + 1 : Nat) : Nat) : Int) = (k : Int) + 1 by omega]; exact h)
          intro j hj
          by_cases e : j = k
          · rw [e]; omega
          · exact hp j (by omega)
        · have e := JE_end (o' := false) (by
            show zg_X2_accepts_21 q (n : Int) (k : Int) = _
            unfold zg_X2_accepts_21
            rw [if_neg (by unfold zout; omega), if_neg (by unfold zout; omega), if_neg (by omega), if_neg (by omega), Int.toNat_natCast, if_neg c1, if_neg c2]) h
          subst e
          exact ⟨(fun z => by cases z), fun z => absurd (z k (by omega)) (by omega)⟩
  refine run n 0 (by omega) (fun j hj => absurd hj (by omega)) (JE_dn (by
    show zg_X2_accepts_0 q (n : Int) 0 = _
    unfold zg_X2_accepts_0
    rw [if_neg (by unfold zout; omega), if_neg (by omega), if_neg (by omega), if_pos (by omega)]
    rfl) (JE_of hb))
theorem acc_n {q : Nat} {n : Int} (hz : ¬ zout n) (h : ¬ (1 ≤ n ∧ n ≤ 10)) {b : Bool} (hb : zf_X2_accepts q n = some b) : b = false := by
  have e : JE (zg_X2_accepts q) (0, n, 0) false := by
    refine JE_in ?_
    show zg_X2_accepts_0 q n 0 = _
    unfold zg_X2_accepts_0
    rw [if_neg hz]
    by_cases c : n < 1
    · rw [if_pos c]
    · rw [if_neg c, if_pos (by omega)]
  exact JE_det (JE_of hb) e
theorem per_y {B t : Nat} {n : Nat} (n1 : 1 ≤ n) (n10 : n ≤ 10) {ta sz so at_ en nu wo rm pm : Int} {P : Nat} {o : zO_X11_period} (h : JE (zg_X11_period B) (20, (n : Int), 0, ta, sz, so, at_, en, nu, wo, rm, pm, t, P) o) : (accP t n ∧ o = ((n : Int), ta, sz, so, at_, en, nu, wo, rm, (n : Int), t, cpN P (fun i => zget t i) n)) ∨ (¬ accP t n ∧ o = (-2, ta, sz, so, at_, en, nu, wo, rm, pm, t, P)) := by
  have copy : ∀ d k : Nat, k + d = n → JE (zg_X11_period B) (56, (n : Int), (k : Int), ta, sz, so, at_, en, nu, wo, rm, (n : Int), t, cpN P (fun i => zget t i) k) o → o = ((n : Int), ta, sz, so, at_, en, nu, wo, rm, (n : Int), t, cpN P (fun i => zget t i) n) := by
    intro d
    induction d with
    | zero =>
      intro k hk h
      have hk : k = n := by omega
      subst hk
      exact JE_end (by
        show zg_X11_period_56 B (k : Int) (k : Int) ta sz so at_ en nu wo rm (k : Int) t (cpN P (fun i => zget t i) k) = _
        unfold zg_X11_period_56
        rw [if_neg (by unfold zout; omega), if_neg (by unfold zout; omega), if_pos (Int.le_refl _)]) h
    | succ d ih =>
      intro k hk h
      have h := JE_dn (s' := (56, (n : Int), (k : Int) + 1, ta, sz, so, at_, en, nu, wo, rm, (n : Int), t, cpN P (fun i => zget t i) (k + 1))) (by
        show zg_X11_period_56 B (n : Int) (k : Int) ta sz so at_ en nu wo rm (n : Int) t (cpN P (fun i => zget t i) k) = _
        unfold zg_X11_period_56
        rw [if_neg (by unfold zout; omega), if_neg (by unfold zout; omega), if_neg (by omega), if_neg (by omega), if_neg (by omega), Int.toNat_natCast]
        rfl) h
      exact ih (k + 1) (by omega) (by rw [show (((k + 1 : Nat) : Nat) : Int) = (k : Int) + 1 by omega]; exact h)
  have run : ∀ d k : Nat, k + d = n → (∀ j : Nat, j < k → 1 ≤ zget t j ∧ zget t j ≤ 20) → JE (zg_X11_period B) (20, (n : Int), (k : Int), ta, sz, so, at_, en, nu, wo, rm, pm, t, P) o → (accP t n ∧ o = ((n : Int), ta, sz, so, at_, en, nu, wo, rm, (n : Int), t, cpN P (fun i => zget t i) n)) ∨ (¬ accP t n ∧ o = (-2, ta, sz, so, at_, en, nu, wo, rm, pm, t, P)) := by
    intro d
    induction d with
    | zero =>
      intro k hk hp h
      have hk : k = n := by omega
      subst hk
      have h := JE_dn (s' := (56, (k : Int), 0, ta, sz, so, at_, en, nu, wo, rm, (k : Int), t, P)) (by
        show zg_X11_period_20 B (k : Int) (k : Int) ta sz so at_ en nu wo rm pm t P = _
        unfold zg_X11_period_20
        rw [if_neg (by unfold zout; omega), if_neg (by unfold zout; omega), if_pos (Int.le_refl _)]) h
      exact Or.inl ⟨hp, copy k 0 (by omega) h⟩
    | succ d ih =>
      intro k hk hp h
      have ein := in_e (v := zget t k) (a := 1) (b := 20) (zget_in _ _) (by decide) (by decide)
      by_cases c : 1 ≤ zget t k ∧ zget t k ≤ 20
      · have h := JE_dn (s' := (20, (n : Int), (k : Int) + 1, ta, sz, so, at_, en, nu, wo, rm, pm, t, P)) (by
          show zg_X11_period_20 B (n : Int) (k : Int) ta sz so at_ en nu wo rm pm t P = _
          unfold zg_X11_period_20
          rw [if_neg (by unfold zout; omega), if_neg (by unfold zout; omega), if_neg (by omega), if_neg (by omega), Int.toNat_natCast, ein, decide_eq_true c]
          rfl) h
        refine ih (k + 1) (by omega) ?_ (by rw [show (((k + 1 : Nat) : Nat) : Int) = (k : Int) + 1 by omega]; exact h)
        intro j hj
        by_cases e : j = k
        · rw [e]; exact c
        · exact hp j (by omega)
      · have e := JE_end (o' := (-2, ta, sz, so, at_, en, nu, wo, rm, pm, t, P)) (by
          show zg_X11_period_20 B (n : Int) (k : Int) ta sz so at_ en nu wo rm pm t P = _
          unfold zg_X11_period_20
          rw [if_neg (by unfold zout; omega), if_neg (by unfold zout; omega), if_neg (by omega), if_neg (by omega), Int.toNat_natCast, ein, decide_eq_false c]
          rfl) h
        exact Or.inr ⟨fun z => c (z k (by omega)), e⟩
  exact run n 0 (by omega) (fun j hj => absurd hj (by omega)) h
theorem sh_0 {len : Int} (l0 : 0 ≤ len) (l3 : len ≤ 300) : zf_X8_shorten len 0 = some 0 := by
  unfold zf_X8_shorten
  rw [if_neg (by decide), if_neg (by decide), if_neg (by unfold zout; omega), if_neg (by omega)]
set_option maxHeartbeats 1000000 in
theorem eq_period (mk : Nat) {len nx kd pl va : Int} {B : Nat} {s : Int} {P q : Nat} {sz so at_ en nu wo rm : Int} {t : Nat} (l0 : 0 ≤ len) (l3 : len ≤ 300) (hB : BR B) {o : Int × Int × Int × Int × Int × Int × Int × Nat × Nat} {o2 : zO_X11_period} (ho : zf_X10_period mk len nx kd pl va B s P q = some o) (ho2 : zf_X11_period len sz so at_ en nu wo rm s B t P = some o2) : o.1 = o2.1 ∧ o.2.1 = o2.2.1 ∧ o.2.2.2.2.2.2.1 = o2.2.2.2.2.2.2.2.2.2.1 ∧ o.2.2.2.2.2.2.2.1 = o2.2.2.2.2.2.2.2.2.2.2.2 := by
  unfold zf_X10_period at ho
  cases h1 : zf_X8_readNumbers len nx kd pl va B q with
  | none => rw [h1] at ho; cases ho
  | some r =>
    rw [h1] at ho
    simp only [Option.bind_some] at ho
    rw [sh_0 l0 l3] at ho
    simp only [Option.bind_some] at ho
    have hy := JE_of ho2
    have ey : zg_X11_period B (0, 0, 0, len, sz, so, at_, en, nu, wo, rm, s, t, P) = zg_X11_period_0 B 0 0 len sz so at_ en nu wo rm s t P := rfl
    unfold zg_X11_period_0 at ey
    cases h2 : zf_X11_readRow len sz so at_ en nu wo rm B t with
    | none =>
      rw [h2] at ey
      exact (JE_none ey hy).elim
    | some r2 =>
      obtain ⟨e1, e2, e3, e4, e5⟩ := row_eq l0 l3 hB h1 h2
      rw [h2] at ey
      simp only [Option.bind_some] at ey
      rw [in_e (by unfold zout; omega) (by decide) (by decide)] at ey
      simp only [Option.bind_some] at ey
      by_cases c : 1 ≤ r2.1 ∧ r2.1 ≤ 10
      · rw [decide_eq_true c, if_neg (by decide)] at ey
        obtain ⟨n, hn⟩ : ∃ n : Nat, r2.1 = (n : Int) := ⟨r2.1.toNat, by omega⟩
        have hr : r.1 = (n : Int) := e1.trans hn
        rw [hr] at ho e5
        rw [hn] at ey
        have hy1 := JE_dn ey hy
        have acc : accP r.2.2.2.2.2 n ↔ accP r2.2.2.2.2.2.2.2.2.2 n := by
          constructor
          · intro h j hj; rw [← (e5 j (by omega)).1]; exact h j hj
          · intro h j hj; rw [(e5 j (by omega)).1]; exact h j hj
        cases hb : zf_X2_accepts r.2.2.2.2.2 (n : Int) with
        | none => rw [hb] at ho; cases ho
        | some b =>
          have hab := acc_x (by omega) (by omega) hb
          rw [hb] at ho
          simp only [Option.bind_some] at ho
          rcases per_y (by omega) (by omega) hy1 with ⟨p1, p2⟩ | ⟨p1, p2⟩
          · have : b = true := hab.mpr (acc.mpr p1)
            subst this
            rw [if_neg (by decide)] at ho
            cases hw : zf_X2_become s P r.2.2.2.2.2 (n : Int) with
            | none => rw [hw] at ho; cases ho
            | some w =>
              have ew := become_e (by omega) hw
              subst ew
              rw [hw] at ho
              cases ho
              subst p2
              refine ⟨rfl, e4.symm, rfl, ?_⟩
              exact cpN_c n (fun j hj => (e5 j (by omega)).1)
          · have : b = false := by
              cases b with
              | false => rfl
              | true => exact absurd (acc.mp (hab.mp rfl)) p1
            subst this
            rw [if_pos rfl] at ho
            cases ho
            subst p2
            exact ⟨rfl, e4.symm, rfl, rfl⟩
      · rw [decide_eq_false c, if_pos rfl] at ey
        have e := JE_end ey hy
        cases hb : zf_X2_accepts r.2.2.2.2.2 r.1 with
        | none => rw [hb] at ho; cases ho
        | some b =>
          have eb := acc_n (by unfold zout; omega) (by rw [e1]; exact c) hb
          subst eb
          rw [hb] at ho
          simp only [Option.bind_some] at ho
          rw [if_pos trivial] at ho
          cases ho
          subst e
          exact ⟨rfl, e4.symm, rfl, rfl⟩
/-- ofCut -/
theorem ofc_x {mk m : Nat} (p0 : ¬ zno mk m) {b : Int} (hb : isCut m b) {s : Int} {P : Nat} {o : zO_X10_ofCut} : ∀ (d k : Nat) (q : Nat), k + d = m → (∀ j : Nat, j < k → zget q j = rowN m b j m) → JE (zg_X10_ofCut mk m b) (2, (k : Int), s, P, q) o → o.1 = (m : Int) ∧ o.2.1 = (m : Int) ∧ o.2.2.1 = cpN P (fun i => rowN m b i m) m := by
  obtain ⟨h4, h9⟩ := zno_rng p0
  intro d
  induction d with
  | zero =>
    intro k q hk hq h
    have hk : k = m := by omega
    subst hk
    have ey : zg_X10_ofCut mk k b (2, (k : Int), s, P, q) = Option.bind (zf_X2_become s P q (k : Int)) (fun o6 => some (.inl ((o6.1), (o6.2.1), (o6.2.2), q))) := by
      show zg_X10_ofCut_2 mk k b (k : Int) s P q = _
      unfold zg_X10_ofCut_2 zf_X5_corners
      rw [if_neg p0]
      simp only [Option.bind_some]
      rw [if_neg (by unfold zout; omega), if_neg (by unfold zout; omega), if_pos (Int.le_refl _)]
    cases hw : zf_X2_become s P q (k : Int) with
    | none => rw [hw] at ey; exact (JE_none ey h).elim
    | some w =>
      have ew := become_e (by omega) hw
      subst ew
      rw [hw] at ey
      have e := JE_end ey h
      subst e
      refine ⟨rfl, rfl, ?_⟩
      exact cpN_c k hq
  | succ d ih =>
    intro k q hk hq h
    have ht := e_tri h4 h9 hb (i := (k : Int)) (by omega) (by omega)
    rw [Int.toNat_natCast] at ht
    obtain ⟨v, hv, v0, v64, -⟩ := ok_X5_trianglesAt m b (k : Int) h4 h9 (by omega) (by omega)
    rw [ht] at hv
    cases hv
    have h := JE_dn (s' := (2, (k : Int) + 1, s, P, zset q k (rowN m b k m))) (by
      show zg_X10_ofCut_2 mk m b (k : Int) s P q = _
      unfold zg_X10_ofCut_2 zf_X5_corners
      rw [if_neg p0]
      simp only [Option.bind_some]
      rw [if_neg (by unfold zout; omega), if_neg (by unfold zout; omega), if_neg (by omega), ht]
      simp only [Option.bind_some]
      rw [if_neg (by omega), Int.toNat_natCast]) h
    refine ih (k + 1) (zset q k (rowN m b k m)) (by omega) ?_ (by rw [show (((k + 1 : Nat) : Nat) : Int) = (k : Int) + 1 by omega]; exact h)
    intro j hj
    rw [zget_set]
    by_cases e : j = k
    · rw [if_pos e, zw_id (by unfold zout; omega), e]
    · rw [if_neg e]; exact hq j (by omega)
theorem ofc_y {m : Nat} (h4 : 4 ≤ m) (h9 : m ≤ 9) {b : Int} {P : Nat} {ln lf pm : Int} {nf ls gr : Nat} (hN : LN m nf m 0) {o : zO_X11_ofCut} : ∀ (d k : Nat), k + d = m → JE (zg_X11_ofCut (m : Int) b) (18, (k : Int), ln, lf, pm, nf, ls, gr, cpN P (fun i => rowN m b i m) k) o → o = ((m : Int), ln, lf, pm, nf, ls, gr, cpN P (fun i => rowN m b i m) m) := by
  intro d
  induction d with
  | zero =>
    intro k hk h
    have hk : k = m := by omega
    subst hk
    exact JE_end (by
      show zg_X11_ofCut_18 (k : Int) b (k : Int) ln lf pm nf ls gr (cpN P (fun i => rowN k b i k) k) = _
      unfold zg_X11_ofCut_18
      rw [if_neg (by unfold zout; omega), if_neg (by unfold zout; omega), if_pos (Int.le_refl _)]) h
  | succ d ih =>
    intro k hk h
    have ht := e_rowAt h4 h9 hN b (i := (k : Int)) (by omega) (by omega)
    rw [Int.toNat_natCast] at ht
    have h := JE_dn (s' := (18, (k : Int) + 1, ln, lf, pm, nf, ls, gr, cpN P (fun i => rowN m b i m) (k + 1))) (by
      show zg_X11_ofCut_18 (m : Int) b (k : Int) ln lf pm nf ls gr (cpN P (fun i => rowN m b i m) k) = _
      unfold zg_X11_ofCut_18
      rw [if_neg (by unfold zout; omega), if_neg (by unfold zout; omega), if_neg (by omega), ht]
      simp only [Option.bind_some]
      rw [if_neg (by omega), Int.toNat_natCast]
      rfl) h
    exact ih (k + 1) (by omega) (by rw [show (((k + 1 : Nat) : Nat) : Int) = (k : Int) + 1 by omega]; exact h)
theorem eq_ofCut {mk m : Nat} (p0 : ¬ zno mk m) {b : Int} (hb : isCut m b) {s : Int} {P q : Nat} {ln lf : Int} {nf ls gr : Nat} (hT : TL lf ln nf ls gr) {o : zO_X10_ofCut} {o2 : zO_X11_ofCut} (ho : zf_X10_ofCut mk m b s P q = some o) (ho2 : zf_X11_ofCut (m : Int) ln lf b s nf ls gr P = some o2) : o.1 = o2.1 ∧ o.2.1 = o2.2.2.2.1 ∧ o.2.2.1 = o2.2.2.2.2.2.2.2 := by
  obtain ⟨h4, h9⟩ := zno_rng p0
  obtain ⟨x1, x2, x3⟩ := ofc_x p0 hb m 0 q (by omega) (fun j hj => absurd hj (by omega)) (JE_dn (s' := (2, 0, s, P, q)) rfl (JE_of ho))
  obtain ⟨w, hw, w0, w1, -⟩ := oy_linesOf ln lf nf ls gr (m : Int) hT (by omega) (by omega)
  have hN : LN m w.2.2.1 m 0 := by have := w1.2.2.2.1; rw [Int.toNat_natCast] at this; exact this
  have hy := JE_dn (s' := (18, 0, w.1, w.2.1, (m : Int), w.2.2.1, w.2.2.2.1, w.2.2.2.2, P)) (by
    show zg_X11_ofCut_0 (m : Int) b 0 ln lf s nf ls gr P = _
    unfold zg_X11_ofCut_0
    rw [hw]
    rfl) (JE_of ho2)
  have e := ofc_y h4 h9 hN m 0 (by omega) hy
  subst e
  exact ⟨x1, x2, x3⟩
