/-! read, mend, row, told, entry, flip -/
theorem isC_e {m : Nat} (h9 : m ≤ 9) {i : Int} (hi : ¬ zout i) : zf_X11_isCorner (m : Int) i = some (decide (0 ≤ i ∧ i < (m : Int))) := by
  unfold zf_X11_isCorner
  rw [in_e hi (by decide) (by unfold zout; omega)]
  simp only [Option.bind_some]
  by_cases c : 0 ≤ i ∧ i < (m : Int)
  · rw [decide_eq_true c, decide_eq_true (by omega)]
  · rw [decide_eq_false c, decide_eq_false (by omega)]
theorem hasC_e {m : Nat} (h4 : 4 ≤ m) (h9 : m ≤ 9) {i : Int} (hi : ¬ zout i) : zf_X5_hasCorner m i = some (decide (0 ≤ i ∧ i < (m : Int))) := ok_hasC m i h4 h9 (by unfold zout at hi; omega) (by unfold zout at hi; omega)
theorem LNof {m : Nat} {ln : Int} {nf ls gr : Nat} (h : TL (m : Int) ln nf ls gr) : LN m nf m 0 := by
  have := h.2.2.2.1
  rw [Int.toNat_natCast] at this
  exact this
theorem LIof {m : Nat} {lm : Int} {li : Nat} (h : LK (m : Int) lm li) : LI m lm li := by
  have := h.2.2
  rw [Int.toNat_natCast] at this
  exact this
/-- row -/
theorem eq_row {mk m : Nat} (p0 : ¬ zno mk m) {b : Int} (hb : isCut m b) {i : Int} (hi : ¬ zout i) {ln lf : Int} {nf ls gr : Nat} (hT : TL lf ln nf ls gr) {o : Int} {o2 : Int × Int × Int × Nat × Nat × Nat} (ho : zf_X10_row mk m b i = some o) (ho2 : zf_X11_row (m : Int) ln lf b nf ls gr i = some o2) : o = o2.1 := by
  obtain ⟨h4, h9⟩ := zno_rng p0
  unfold zf_X10_row at ho
  unfold zf_X11_row at ho2
  rw [if_neg p0, hasC_e h4 h9 hi] at ho
  rw [isC_e h9 hi] at ho2
  simp only [Option.bind_some] at ho ho2
  by_cases c : 0 ≤ i ∧ i < (m : Int)
  · rw [decide_eq_true c, if_neg (by decide)] at ho ho2
    obtain ⟨w, hw, w0, w1, -⟩ := oy_linesOf ln lf nf ls gr (m : Int) hT (by omega) (by omega)
    rw [e_tri h4 h9 hb c.1 c.2] at ho
    rw [hw] at ho2
    simp only [Option.bind_some] at ho ho2
    rw [e_rowAt h4 h9 (LNof w1) b c.1 c.2] at ho2
    cases ho
    cases ho2
    rfl
  · rw [decide_eq_false c, if_pos rfl] at ho ho2
    cases ho
    cases ho2
    rfl
/-- the number of a cut, both sides -/
noncomputable def numK (m k : Nat) : Bool := match decide ((k : Int) < pg8 m) with
  | true => decide (zf_X5_numberOf m (zget (pg6 m) k) = some (k : Int))
  | false => true
theorem num_tab : ∀ m : Nat, 4 ≤ m → m ≤ 9 → allF (fun k => numK m k) 0 429 = true := pg_cases (by decide +kernel) (by decide +kernel) (by decide +kernel) (by decide +kernel) (by decide +kernel) (by decide +kernel)
theorem num_e {m k : Nat} (h4 : 4 ≤ m) (h9 : m ≤ 9) (hk : (k : Int) < pg8 m) : zf_X5_numberOf m (zget (pg6 m) k) = some (k : Int) := by
  have r8 := rpg8 h4 h9
  have t := allF_at (num_tab m h4 h9) (m := k) (by omega)
  replace t : numK m k = true := t
  unfold numK at t
  rw [decide_eq_true hk] at t
  exact of_decide_eq_true t
theorem own_e {m : Nat} (h4 : 4 ≤ m) (h9 : m ≤ 9) {b : Int} (hb : isCut m b) {ln lf lm lc : Int} {nf ls gr li : Nat} (hT : TL lf ln nf ls gr) (hK : LK lc lm li) {o2 : Int × Int × Int × Int × Int × Nat × Nat × Nat × Nat} (ho2 : zf_X11_ownNumber (m : Int) ln lf lm lc b nf ls gr li = some o2) : zf_X5_numberOf m b = some o2.1 := by
  obtain ⟨k, hk, rfl⟩ := hb
  unfold zf_X11_ownNumber at ho2
  obtain ⟨w, hw, w0, w1, w2, w3, w4, w5, w6, -⟩ := oy_listFor ln lf lm lc nf ls gr li (m : Int) hT hK (by omega) (by omega)
  rw [hw] at ho2
  simp only [Option.bind_some] at ho2
  rw [pl_ok h4 h9 (LIof w6) hk] at ho2
  cases ho2
  exact num_e h4 h9 hk
/-- told -/
theorem eq_told {mk m : Nat} (p0 : ¬ zno mk m) {b : Int} (hb : isCut m b) {s w : Int} (hw : ¬ zout w) {ln lf lm lc : Int} {nf ls gr li : Nat} (hT : TL lf ln nf ls gr) (hK : LK lc lm li) {o : Int} {o2 : Int × Int × Int × Int × Int × Nat × Nat × Nat × Nat} (ho : zf_X10_told mk m b s w = some o) (ho2 : zf_X11_told (m : Int) ln lf lm lc b s nf ls gr li w = some o2) : o = o2.1 := by
  obtain ⟨h4, h9⟩ := zno_rng p0
  unfold zf_X10_told at ho
  unfold zf_X11_told at ho2
  rw [if_neg hw] at ho ho2
  by_cases c0 : w = 0
  · rw [if_pos c0] at ho ho2
    rw [if_neg p0] at ho
    cases ho
    cases ho2
    rfl
  · rw [if_neg c0] at ho ho2
    by_cases c1 : w = 1
    · rw [if_pos c1] at ho ho2
      rw [if_neg p0] at ho
      cases h : zf_X11_ownNumber (m : Int) ln lf lm lc b nf ls gr li with
      | none => rw [h] at ho2; cases ho2
      | some u =>
        rw [own_e h4 h9 hb hT hK h] at ho
        rw [h] at ho2
        cases ho
        cases ho2
        rfl
    · rw [if_neg c1] at ho ho2
      by_cases c2 : w = 2
      · rw [if_pos c2] at ho ho2
        rw [if_neg p0] at ho
        obtain ⟨u, hu, w0, w1, w2, w3, w4, w5, w6, -⟩ := oy_listFor ln lf lm lc nf ls gr li (m : Int) hT hK (by omega) (by omega)
        rw [hu] at ho2
        cases ho
        cases ho2
        exact (LIof w6).1.symm
      · rw [if_neg c2] at ho ho2
        by_cases c3 : w = 3
        · rw [if_pos c3] at ho ho2
          cases ho
          cases ho2
          rfl
        · rw [if_neg c3] at ho ho2
          cases ho
          cases ho2
          rfl
/-! read -/
set_option maxHeartbeats 1000000 in
theorem eq_read {mk m : Nat} (p0 : ¬ zno mk m) {b : Int} (hb : isCut m b) {len nx kd pl va : Int} {B q : Nat} {sz so at_ en nu wo rm ln lf lm lc : Int} {nf ls gr li t : Nat} (l0 : 0 ≤ len) (l3 : len ≤ 300) (hB : BR B) (hq : ∀ k : Nat, k < 10 → 0 ≤ zget q k ∧ zget q k ≤ 999) (ht : ∀ k : Nat, k < 10 → 0 ≤ zget t k ∧ zget t k ≤ 999) (hT : TL lf ln nf ls gr) (hK : LK lc lm li) {o : Int × Int × Int × Int × Int × Int × Int × Nat} {o2 : Int × Int × Int × Int × Int × Int × Int × Int × Int × Int × Int × Int × Int × Int × Nat × Nat × Nat × Nat × Nat} (ho : zf_X10_read mk m b len nx kd pl va B q = some o) (ho2 : zf_X11_read len sz so at_ en nu wo (m : Int) ln lf lm lc b rm B nf ls gr li t = some o2) : o.1 = o2.1 ∧ o.2.1 = o2.2.2.2.2.2.2.2.2.2.2.2.2.1 ∧ o.2.2.1 = o2.2.1 := by
  obtain ⟨h4, h9⟩ := zno_rng p0
  unfold zf_X10_read zf_X10_takeRow at ho
  unfold zf_X11_read at ho2
  obtain ⟨r, h1, r1, r2, r3⟩ := ok_X8_readNumbers len nx kd pl va B q l0 l3 hq
  obtain ⟨y, h2, y1, y2, y3, y4⟩ := ok_X11_readRow len sz so at_ en nu wo rm B t l0 l3 ht
  obtain ⟨e1, e2, e3, e4, e5⟩ := row_eq l0 l3 hB h1 h2
  rw [h1, sh_0 l0 l3] at ho
  rw [h2] at ho2
  unfold zf_X5_corners at ho
  simp only [Option.bind_some] at ho ho2
  rw [if_neg p0, if_neg (by unfold zout; omega), if_neg (by unfold zout; omega)] at ho
  rw [if_neg (by unfold zout; omega), if_neg (by unfold zout; omega), ← e1] at ho2
  by_cases c : r.1 = (m : Int)
  · rw [if_pos c] at ho ho2
    simp only [Option.bind_some] at ho
    rw [if_neg (by decide), if_neg p0] at ho
    obtain ⟨u, hu, fu⟩ := e_nearX h4 h9 r3
    obtain ⟨w, hw, fw⟩ := e_nearY h4 h9 hT hK y4
    have e := FM_u (FM_c fu (fun j hj => (e5 j (by omega)).1)) fw
    obtain ⟨w', hw', z1, z2, z3, z4, -, -, -, -, z5, -⟩ := ok_X11_nearest (m : Int) ln lf lm lc nf ls gr li y.2.2.2.2.2.2.2.2.2 hT hK (by omega) (by omega) y4
    rw [hw] at hw'
    cases hw'
    rw [hu] at ho
    rw [hw] at ho2
    simp only [Option.bind_some] at ho ho2
    have lic := LIof z5
    have u0 := fu.1
    have u1 := fu.2.1
    have r8 := rpg8 h4 h9
    rw [cutAt_e h4 h9 u0 u1] at ho
    simp only [Option.bind_some] at ho
    rw [← e] at ho2
    rw [if_neg (by omega), lic.2 u.toNat (by omega), e_apart h4 h9 (LNof z4) y4] at ho2
    rw [e_dif h4 h9 (pg6_cut (by omega)) r3] at ho
    simp only [Option.bind_some] at ho ho2
    have ed : difN m (zget (pg6 m) u.toNat) r.2.2.2.2.2 m = difN m (zget (pg6 m) u.toNat) y.2.2.2.2.2.2.2.2.2 m := difN_c m (fun j hj => (e5 j (by omega)).1)
    rw [← ed] at ho2
    by_cases z : zout (difN m (zget (pg6 m) u.toNat) r.2.2.2.2.2 m)
    · rw [if_pos z] at ho; cases ho
    · rw [if_neg z] at ho ho2
      by_cases z0 : difN m (zget (pg6 m) u.toNat) r.2.2.2.2.2 m = 0
      · rw [if_pos z0] at ho ho2
        cases ho
        cases ho2
        exact ⟨rfl, rfl, e4.symm⟩
      · rw [if_neg z0] at ho ho2
        cases ho
        cases ho2
        exact ⟨rfl, rfl, e4.symm⟩
  · rw [if_neg c] at ho ho2
    simp only [Option.bind_some] at ho
    rw [if_pos trivial] at ho
    cases ho
    cases ho2
    exact ⟨rfl, rfl, e4.symm⟩
/-! mend -/
set_option maxHeartbeats 1000000 in
theorem eq_mend {mk m : Nat} (p0 : ¬ zno mk m) {mn : Int} {len nx kd pl va : Int} {B q : Nat} {sz so at_ en nu wo rm ln lf lm lc : Int} {nf ls gr li t : Nat} (l0 : 0 ≤ len) (l3 : len ≤ 300) (hB : BR B) (hq : ∀ k : Nat, k < 10 → 0 ≤ zget q k ∧ zget q k ≤ 999) (ht : ∀ k : Nat, k < 10 → 0 ≤ zget t k ∧ zget t k ≤ 999) (hT : TL lf ln nf ls gr) (hK : LK lc lm li) {o : Int × Int × Int × Int × Int × Int × Int × Nat} {o2 : Int × Int × Int × Int × Int × Int × Int × Int × Int × Int × Int × Int × Int × Int × Nat × Nat × Nat × Nat × Nat} (ho : zf_X10_mend mk m mn len nx kd pl va B q = some o) (ho2 : zf_X11_mend len sz so at_ en nu wo (m : Int) ln lf lm lc rm mn B nf ls gr li t = some o2) : o.1 = o2.1 ∧ o.2.1 = o2.2.2.2.2.2.2.2.2.2.2.2.2.2.1 ∧ o.2.2.1 = o2.2.1 := by
  obtain ⟨h4, h9⟩ := zno_rng p0
  unfold zf_X10_mend zf_X10_takeRow at ho
  unfold zf_X11_mend at ho2
  obtain ⟨r, h1, r1, r2, r3⟩ := ok_X8_readNumbers len nx kd pl va B q l0 l3 hq
  obtain ⟨y, h2, y1, y2, y3, y4⟩ := ok_X11_readRow len sz so at_ en nu wo rm B t l0 l3 ht
  obtain ⟨e1, e2, e3, e4, e5⟩ := row_eq l0 l3 hB h1 h2
  rw [h1, sh_0 l0 l3] at ho
  rw [h2] at ho2
  unfold zf_X5_corners at ho
  simp only [Option.bind_some] at ho ho2
  rw [if_neg p0, if_neg (by unfold zout; omega), if_neg (by unfold zout; omega)] at ho
  rw [if_neg (by unfold zout; omega), if_neg (by unfold zout; omega), ← e1] at ho2
  by_cases c : r.1 = (m : Int)
  · rw [if_pos c] at ho ho2
    simp only [Option.bind_some] at ho
    rw [if_neg (by decide), if_neg p0] at ho
    obtain ⟨u, hu, fu⟩ := e_nearX h4 h9 r3
    obtain ⟨w, hw, fw⟩ := e_nearY h4 h9 hT hK y4
    have e := FM_u (FM_c fu (fun j hj => (e5 j (by omega)).1)) fw
    obtain ⟨w', hw', z1, z2, z3, z4, -, -, -, -, z5, -⟩ := ok_X11_nearest (m : Int) ln lf lm lc nf ls gr li y.2.2.2.2.2.2.2.2.2 hT hK (by omega) (by omega) y4
    rw [hw] at hw'
    cases hw'
    rw [hu] at ho
    rw [hw] at ho2
    simp only [Option.bind_some] at ho ho2
    have lic := LIof z5
    have u0 := fu.1
    have u1 := fu.2.1
    have r8 := rpg8 h4 h9
    rw [cutAt_e h4 h9 u0 u1] at ho
    simp only [Option.bind_some] at ho
    rw [← e] at ho2
    rw [if_neg (by omega), lic.2 u.toNat (by omega), e_apart h4 h9 (LNof z4) y4] at ho2
    rw [e_dif h4 h9 (pg6_cut (by omega)) r3] at ho
    have ed : difN m (zget (pg6 m) u.toNat) r.2.2.2.2.2 m = difN m (zget (pg6 m) u.toNat) y.2.2.2.2.2.2.2.2.2 m := difN_c m (fun j hj => (e5 j (by omega)).1)
    rw [← ed] at ho2
    cases ho
    cases ho2
    exact ⟨rfl, rfl, e4.symm⟩
  · rw [if_neg c] at ho ho2
    simp only [Option.bind_some] at ho
    rw [if_pos trivial] at ho
    cases ho
    cases ho2
    exact ⟨rfl, rfl, e4.symm⟩
theorem areC_e {mk m : Nat} (p0 : ¬ zno mk m) {i j : Int} (hi : ¬ zout i) (hj : ¬ zout j) : zf_X10_areCorners mk m i j = some (decide ((0 ≤ i ∧ i < (m : Int)) ∧ (0 ≤ j ∧ j < (m : Int)))) := by
  obtain ⟨h4, h9⟩ := zno_rng p0
  unfold zf_X10_areCorners
  rw [if_neg p0, hasC_e h4 h9 hi, hasC_e h4 h9 hj]
  simp only [Option.bind_some]
  by_cases c : 0 ≤ i ∧ i < (m : Int)
  · rw [decide_eq_true c, if_neg (by decide)]
    by_cases d : 0 ≤ j ∧ j < (m : Int)
    · rw [decide_eq_true d, if_neg (by decide), decide_eq_true ⟨c, d⟩]
    · rw [decide_eq_false d, if_pos rfl, decide_eq_false (fun z => d z.2)]
  · rw [decide_eq_false c, if_pos rfl, decide_eq_false (fun z => c z.1)]
theorem CUof {m : Nat} (h4 : 4 ≤ m) (h9 : m ≤ 9) {b : Int} (hb : isCut m b) : CU (m : Int) b := ⟨by omega, by omega, by rw [Int.toNat_natCast]; exact hb⟩
theorem entY_e {m : Nat} (h4 : 4 ≤ m) (h9 : m ≤ 9) {b : Int} (hb : isCut m b) {ln lf : Int} {nf ls gr tA tB tC fr : Nat} (hT : TL lf ln nf ls gr) {i j : Int} (i0 : 0 ≤ i) (i1 : i < (m : Int)) (j0 : 0 ≤ j) (j1 : j < (m : Int)) : Go (fun o => zf_X5_entryOf m b i j = some o.1 ∧ 0 ≤ o.1 ∧ o.1 ≤ 21 ∧ TL o.2.2.1 o.2.1 o.2.2.2.1 o.2.2.2.2.1 o.2.2.2.2.2.1) (zf_X11_entryOf ln lf nf ls gr tA tB tC fr (m : Int) b i j) := by
  unfold zf_X11_entryOf
  refine Go_bindP (oy_ent ln lf nf ls gr tA tB tC fr (m : Int) b i hT (by omega) (by omega) (CUof h4 h9 hb) i0 i1) (fun o q => ?_)
  obtain ⟨q0, q1, q2, q3, q4, q5, q6⟩ := q
  obtain ⟨r, r1, r2, r3, r4⟩ := q5 j.toNat (by omega)
  rw [Int.toNat_natCast, show ((j.toNat : Nat) : Int) = j by omega] at r1
  refine Go_chk (by omega) ?_
  refine Go_i ⟨?_, ?_, ?_, q2⟩
  · show zf_X5_entryOf m b i j = some (zget o.2.2.2.2.2.2.2.2 j.toNat)
    rw [r1, r2]
  · show 0 ≤ zget o.2.2.2.2.2.2.2.2 j.toNat
    rw [r2]; exact r3
  · show zget o.2.2.2.2.2.2.2.2 j.toNat ≤ 21
    rw [r2]; exact r4
/-- entry -/
theorem eq_entry {mk m : Nat} (p0 : ¬ zno mk m) {b : Int} (hb : isCut m b) {i j : Int} (hi : ¬ zout i) (hj : ¬ zout j) {ln lf : Int} {nf ls gr tA tB tC fr : Nat} (hT : TL lf ln nf ls gr) {o : Int} {o2 : Int × Int × Int × Nat × Nat × Nat × Nat × Nat × Nat × Nat} (ho : zf_X10_entry mk m b i j = some o) (ho2 : zf_X11_entry (m : Int) ln lf b nf ls gr tA tB tC fr i j = some o2) : o = o2.1 := by
  obtain ⟨h4, h9⟩ := zno_rng p0
  unfold zf_X10_entry at ho
  unfold zf_X11_entry at ho2
  rw [areC_e p0 hi hj] at ho
  rw [isC_e h9 hi, isC_e h9 hj] at ho2
  simp only [Option.bind_some] at ho ho2
  by_cases c : 0 ≤ i ∧ i < (m : Int)
  · rw [decide_eq_true c, if_neg (by decide)] at ho2
    by_cases d : 0 ≤ j ∧ j < (m : Int)
    · rw [decide_eq_true ⟨c, d⟩, if_neg (by decide), if_neg p0] at ho
      rw [decide_eq_true d, if_neg (by decide)] at ho2
      obtain ⟨u, hu, u1, -⟩ := entY_e h4 h9 hb (tA := tA) (tB := tB) (tC := tC) (fr := fr) hT c.1 c.2 d.1 d.2
      rw [hu] at ho2
      rw [u1] at ho
      cases ho
      cases ho2
      rfl
    · rw [decide_eq_false (fun z => d z.2), if_pos rfl] at ho
      rw [decide_eq_false d, if_pos rfl] at ho2
      cases ho
      cases ho2
      rfl
  · rw [decide_eq_false (fun z => c z.1), if_pos rfl] at ho
    rw [decide_eq_false c, if_pos rfl] at ho2
    cases ho
    cases ho2
    rfl
/-! spread -/
set_option maxHeartbeats 1000000 in
theorem spr_run {m : Nat} (h4 : 4 ≤ m) (h9 : m ≤ 9) {i j v : Int} (i0 : 0 ≤ i) (i1 : i < (m : Int)) (j0 : 0 ≤ j) (j1 : j < (m : Int)) (hv : ¬ zout v) {o : zO_X5_countWith} {o2 : zO_X11_spread} {lm lc : Int} {li : Nat} (hL : LI m lm li) : ∀ (d k : Nat) (n ln lf : Int) (nf ls gr tA tB tC fr : Nat), (k : Int) + (d : Int) = pg8 m → TL lf ln nf ls gr → JE (zg_X5_countWith m) (6, i, j, v, n, (k : Int)) o → JE (zg_X11_spread (m : Int)) (33, i, j, v, n, (k : Int), ln, lf, lm, lc, nf, ls, gr, li, tA, tB, tC, fr) o2 → o = o2.1 := by
  have r8 := rpg8 h4 h9
  have el := hL.1
  intro d
  induction d with
  | zero =>
    intro k n ln lf nf ls gr tA tB tC fr hk hT hx hy
    have e1 := JE_end (o' := n) (by
      show zg_X5_countWith_6 m i j v n (k : Int) = _
      unfold zg_X5_countWith_6
      rw [if_neg (by unfold zout; omega), if_neg (by unfold zout; omega), if_pos (by omega)]) hx
    have e2 := JE_end (o' := (n, ln, lf, lm, lc, nf, ls, gr, li, tA, tB, tC, fr)) (by
      show zg_X11_spread_33 (m : Int) i j v n (k : Int) ln lf lm lc nf ls gr li tA tB tC fr = _
      unfold zg_X11_spread_33
      rw [if_neg (by unfold zout; omega), if_neg (by unfold zout; omega), if_pos (by omega)]) hy
    rw [e1, e2]
  | succ d ih =>
    intro k n ln lf nf ls gr tA tB tC fr hk hT hx hy
    have hc : isCut m (zget (pg6 m) k) := pg6_cut (by omega)
    obtain ⟨u, hu, u1, u2, u3, u4⟩ := entY_e h4 h9 hc (tA := tA) (tB := tB) (tC := tC) (fr := fr) hT i0 i1 j0 j1
    have ek : zgetL li (Int.toNat (k : Int)) = zget (pg6 m) k := by rw [Int.toNat_natCast]; exact hL.2 k (by omega)
    by_cases c : u.1 = v
    · have hx := JE_dn (s' := (6, i, j, v, n + 1, (k : Int) + 1)) (by
        show zg_X5_countWith_6 m i j v n (k : Int) = _
        unfold zg_X5_countWith_6
        rw [if_neg (by unfold zout; omega), if_neg (by unfold zout; omega), if_neg (by omega), if_neg (by omega), Int.toNat_natCast, u1]
        simp only [Option.bind_some]
        rw [if_neg (by unfold zout; omega), if_neg hv, if_pos c]) hx
      have hy := JE_dn (s' := (33, i, j, v, n + 1, (k : Int) + 1, u.2.1, u.2.2.1, lm, lc, u.2.2.2.1, u.2.2.2.2.1, u.2.2.2.2.2.1, li, u.2.2.2.2.2.2.1, u.2.2.2.2.2.2.2.1, u.2.2.2.2.2.2.2.2.1, u.2.2.2.2.2.2.2.2.2)) (by
        show zg_X11_spread_33 (m : Int) i j v n (k : Int) ln lf lm lc nf ls gr li tA tB tC fr = _
        unfold zg_X11_spread_33
        rw [if_neg (by unfold zout; omega), if_neg (by unfold zout; omega), if_neg (by omega), if_neg (by omega), ek, hu]
        simp only [Option.bind_some]
        rw [if_neg (by unfold zout; omega), if_neg hv, if_pos c]) hy
      rw [show (k : Int) + 1 = ((k + 1 : Nat) : Int) by omega] at hx hy
      exact ih (k + 1) (n + 1) _ _ _ _ _ _ _ _ _ (by omega) u4 hx hy
    · have hx := JE_dn (s' := (6, i, j, v, n, (k : Int) + 1)) (by
        show zg_X5_countWith_6 m i j v n (k : Int) = _
        unfold zg_X5_countWith_6
        rw [if_neg (by unfold zout; omega), if_neg (by unfold zout; omega), if_neg (by omega), if_neg (by omega), Int.toNat_natCast, u1]
        simp only [Option.bind_some]
        rw [if_neg (by unfold zout; omega), if_neg hv, if_neg c]) hx
      have hy := JE_dn (s' := (33, i, j, v, n + 0, (k : Int) + 1, u.2.1, u.2.2.1, lm, lc, u.2.2.2.1, u.2.2.2.2.1, u.2.2.2.2.2.1, li, u.2.2.2.2.2.2.1, u.2.2.2.2.2.2.2.1, u.2.2.2.2.2.2.2.2.1, u.2.2.2.2.2.2.2.2.2)) (by
        show zg_X11_spread_33 (m : Int) i j v n (k : Int) ln lf lm lc nf ls gr li tA tB tC fr = _
        unfold zg_X11_spread_33
        rw [if_neg (by unfold zout; omega), if_neg (by unfold zout; omega), if_neg (by omega), if_neg (by omega), ek, hu]
        simp only [Option.bind_some]
        rw [if_neg (by unfold zout; omega), if_neg hv, if_neg c]) hy
      rw [Int.add_zero] at hy
      rw [show (k : Int) + 1 = ((k + 1 : Nat) : Int) by omega] at hx hy
      exact ih (k + 1) n _ _ _ _ _ _ _ _ _ (by omega) u4 hx hy
theorem eq_spread {mk m : Nat} (p0 : ¬ zno mk m) {i j v : Int} (hi : ¬ zout i) (hj : ¬ zout j) (hv : ¬ zout v) {ln lf lm lc : Int} {nf ls gr li tA tB tC fr : Nat} (hT : TL lf ln nf ls gr) (hK : LK lc lm li) {o : Int} {o2 : zO_X11_spread} (ho : zf_X10_spread mk m i j v = some o) (ho2 : zf_X11_spread (m : Int) ln lf lm lc nf ls gr li tA tB tC fr i j v = some o2) : o = o2.1 := by
  obtain ⟨h4, h9⟩ := zno_rng p0
  have r8 := rpg8 h4 h9
  have hy := JE_of ho2
  have ey : zg_X11_spread (m : Int) (0, i, j, v, 0, 0, ln, lf, lm, lc, nf, ls, gr, li, tA, tB, tC, fr) = zg_X11_spread_0 (m : Int) i j v 0 0 ln lf lm lc nf ls gr li tA tB tC fr := rfl
  unfold zg_X11_spread_0 at ey
  unfold zf_X10_spread at ho
  rw [areC_e p0 hi hj] at ho
  rw [isC_e h9 hi, isC_e h9 hj] at ey
  simp only [Option.bind_some] at ho ey
  by_cases c : 0 ≤ i ∧ i < (m : Int)
  · rw [decide_eq_true c, if_neg (by decide)] at ey
    by_cases d : 0 ≤ j ∧ j < (m : Int)
    · rw [decide_eq_true ⟨c, d⟩, if_neg (by decide), if_neg p0] at ho
      rw [decide_eq_true d, if_neg (by decide)] at ey
      obtain ⟨u, hu, w0, w1, w2, w3, w4, w5, w6, -⟩ := oy_listFor ln lf lm lc nf ls gr li (m : Int) hT hK (by omega) (by omega)
      rw [hu] at ey
      have hy1 := JE_dn ey hy
      cases hx : zf_X5_countWith m i j v with
      | none => rw [hx] at ho; cases ho
      | some x =>
        rw [hx] at ho
        have hx1 := JE_dn (s' := (6, i, j, v, 0, 0)) rfl (JE_of hx)
        have e := spr_run h4 h9 c.1 c.2 d.1 d.2 hv (LIof w6) (pg8 m).toNat 0 0 _ _ _ _ _ _ _ _ _ (by omega) w2 hx1 hy1
        cases ho
        exact e
    · rw [decide_eq_false (fun z => d z.2), if_pos rfl] at ho
      rw [decide_eq_false d, if_pos rfl] at ey
      have e := JE_end ey hy
      cases ho
      rw [e]
  · rw [decide_eq_false (fun z => c z.1), if_pos rfl] at ho
    rw [decide_eq_false c, if_pos rfl] at ey
    have e := JE_end ey hy
    cases ho
    rw [e]
/-! flip -/
set_option maxHeartbeats 1000000 in
theorem eq_flip {mk m : Nat} (p0 : ¬ zno mk m) {b : Int} (hb : isCut m b) {i j : Int} (hi : ¬ zout i) (hj : ¬ zout j) {ln lf f1 f2 : Int} {nf ls gr : Nat} (hT : TL lf ln nf ls gr) {o : Int × Int} {o2 : Int × Int × Int × Int × Int × Int × Nat × Nat × Nat} (ho : zf_X10_flip mk m b i j = some o) (ho2 : zf_X11_flip (m : Int) ln lf b f1 f2 nf ls gr i j = some o2) : o.1 = o2.1 ∧ o.2 = o2.2.2.2.1 := by
  obtain ⟨h4, h9⟩ := zno_rng p0
  unfold zf_X10_flip at ho
  unfold zf_X11_flip at ho2
  rw [areC_e p0 hi hj] at ho
  rw [isC_e h9 hi, isC_e h9 hj] at ho2
  simp only [Option.bind_some] at ho ho2
  by_cases c : 0 ≤ i ∧ i < (m : Int)
  · rw [decide_eq_true c, if_neg (by decide)] at ho2
    by_cases d : 0 ≤ j ∧ j < (m : Int)
    · rw [decide_eq_true ⟨c, d⟩, if_neg (by decide), if_neg p0] at ho
      rw [decide_eq_true d, if_neg (by decide)] at ho2
      obtain ⟨w, hw, w0, w1, -⟩ := oy_linesOf ln lf nf ls gr (m : Int) hT (by omega) (by omega)
      rw [hw, isLine_c h4 h9 c.1 c.2 d.1 d.2] at ho2
      rw [lineOf_e h4 h9 c.1 c.2 d.1 d.2] at ho
      simp only [Option.bind_some] at ho ho2
      have g7 := rpg7 h4 h9
      have r3 := rpg3 h4 h9 (9 * i.toNat + j.toNat) (by omega)
      have r7 := of_decide_eq_true (allF_at (pg3_lt_tab m h4 h9) (m := 9 * i.toNat + j.toNat) (by omega))
      have hN := LNof w1
      have en := near_eq h4 h9 hN b c.1 c.2 d.1 d.2
      by_cases l0 : 0 ≤ lnO m i j
      · rw [decide_eq_true l0, if_neg (by decide), en] at ho2
        simp only [Option.bind_some] at ho2
        unfold lnO at l0
        have be := bit_eq h4 h9 hb l0 (by omega)
        have ij : ¬ i.toNat = j.toNat := by
          intro q
          have := of_decide_eq_true (allF_at (diag_tab m h4 h9) (m := i.toNat) (by omega)) (by omega)
          rw [← q] at l0
          omega
        have eh : zf_X5_has m b (zget (pg3 m) (9 * i.toNat + j.toNat)) = some (decide (¬ zand (zshr b (zget (pg3 m) (9 * i.toNat + j.toNat))) 1 = 0)) := by
          unfold zf_X5_has
          rw [hasLine_e h4 h9 l0 r7]
          simp only [Option.bind_some]
          rw [if_neg (by decide)]
          by_cases z : zand (zshr b (zget (pg3 m) (9 * i.toNat + j.toNat))) 1 = 0
          · rw [if_pos z, decide_eq_false (fun q => q z)]
          · rw [if_neg z, decide_eq_true z]
        rw [eh] at ho
        simp only [Option.bind_some] at ho
        by_cases z : zand (zshr b (zget (pg3 m) (9 * i.toNat + j.toNat))) 1 = 0
        · rw [decide_eq_false (fun q => q z), if_pos rfl] at ho
          have enf : nearB m b i.toNat j.toNat = false := by
            unfold nearB
            rw [be.1, z]
            exact decide_eq_false (by omega)
          rw [enf, if_pos rfl] at ho2
          cases ho
          cases ho2
          exact ⟨rfl, rfl⟩
        · rw [decide_eq_true z, if_neg (by decide)] at ho
          have z1 : zand (zshr b (zget (pg3 m) (9 * i.toNat + j.toNat))) 1 = 1 := by have := be.2; omega
          have ent : nearB m b i.toNat j.toNat = true := by
            unfold nearB
            rw [be.1, z1]
            exact decide_eq_true ⟨ij, Or.inr rfl⟩
          rw [ent, if_neg (by decide)] at ho2
          obtain ⟨q, q1, q2, q3, q4, q5⟩ := fl_ok h4 h9 hN hb (p := i.toNat) (q := j.toNat) (by omega) (by omega) ij l0 (by rw [be.1]; exact z) f1 f2
          rw [show ((i.toNat : Nat) : Int) = i by omega, show ((j.toNat : Nat) : Int) = j by omega] at q5
          rw [q5] at ho2
          rw [q1] at ho
          simp only [Option.bind_some] at ho ho2
          have ep : zf_X5_pairOf m q = some (16 * zget (pg1 m) q.toNat + zget (pg2 m) q.toNat) := by
            unfold zf_X5_pairOf
            rw [hasLine_e h4 h9 q2 q3]
            simp only [Option.bind_some]
            rw [if_neg (by decide), if_neg (by omega)]
          rw [ep] at ho
          cases ho
          cases ho2
          exact ⟨rfl, rfl⟩
      · rw [decide_eq_false l0, if_pos rfl] at ho2
        unfold lnO at l0
        have eh : zf_X5_has m b (zget (pg3 m) (9 * i.toNat + j.toNat)) = some false := by
          unfold zf_X5_has zf_X5_hasLine
          rw [if_neg (by unfold zout; omega), if_pos (by omega)]
          rfl
        rw [eh] at ho
        cases ho
        cases ho2
        exact ⟨rfl, rfl⟩
    · rw [decide_eq_false (fun z => d z.2), if_pos rfl] at ho
      rw [decide_eq_false d, if_pos rfl] at ho2
      cases ho
      cases ho2
      exact ⟨rfl, rfl⟩
  · rw [decide_eq_false (fun z => c z.1), if_pos rfl] at ho
    rw [decide_eq_false c, if_pos rfl] at ho2
    cases ho
    cases ho2
    exact ⟨rfl, rfl⟩
