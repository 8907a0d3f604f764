/-! cut and take, as wholes -/
theorem KM_1 {k s : Int} (h : KM k s) : (k = 1 ↔ s = 1) ∧ (k = 2 ↔ s = 2) ∧ (k = 3 ↔ s = 3) ∧ ¬ zout k ∧ ¬ zout s := by
  unfold KM at h
  unfold zout
  omega
/-- the reference fails at its first token -/
theorem rc_f1 {B : Nat} {len so at_ en nu wo ln lf nc nw : Int} {nf ls gr : Nat} (hz : ¬ zout so) (h : so = 1 → ¬ wo = 3743880787) {o : zO_X11_readCut} (ho : zf_X11_readCut len so at_ en nu 0 (-1) wo ln lf nc nw B nf ls gr = some o) : o.1 = false ∧ o.2.2.2.2.2.1 = 1 ∧ o.2.2.2.2.2.2.1 = at_ := by
  have hy := JE_of ho
  by_cases c : so = 1
  · by_cases hw : zoutL wo
    · refine (JE_none ?_ hy).elim
      show zg_X11_readCut_0 len B 0 0 0 0 so at_ en nu 0 (-1) wo ln lf nc nw nf ls gr = _
      unfold zg_X11_readCut_0
      rw [if_neg hz, if_pos c, if_pos hw]
    have e := JE_end (o' := (false, so, at_, en, nu, 1, at_, wo, ln, lf, nc, nw, nf, ls, gr)) (by
      show zg_X11_readCut_0 len B 0 0 0 0 so at_ en nu 0 (-1) wo ln lf nc nw nf ls gr = _
      unfold zg_X11_readCut_0
      rw [if_neg hz, if_pos c, if_neg hw, if_neg (h c)]
      rfl) hy
    subst e
    exact ⟨rfl, rfl, rfl⟩
  · have e := JE_end (o' := (false, so, at_, en, nu, 1, at_, wo, ln, lf, nc, nw, nf, ls, gr)) (by
      show zg_X11_readCut_0 len B 0 0 0 0 so at_ en nu 0 (-1) wo ln lf nc nw nf ls gr = _
      unfold zg_X11_readCut_0
      rw [if_neg hz, if_neg c]
      rfl) hy
    subst e
    exact ⟨rfl, rfl, rfl⟩
set_option maxHeartbeats 1000000 in
theorem rc_F {B : Nat} {len : Int} (l0 : 0 ≤ len) (l3 : len ≤ 300) (hB : BR B) {kd pl va fi : Int} {out : zO_X1_understand} (hF : zuF len kd pl va B fi out) {so at_ nu wo : Int} {ln lf nc nw : Int} {nf ls gr : Nat} {r : Int × Int × Int × Int × Int} (hr : zf_X11_scan len so at_ 0 nu wo B = some r) {o : zO_X11_readCut} (ho : zf_X11_readCut len r.1 r.2.1 r.2.2.1 r.2.2.2.1 0 (-1) r.2.2.2.2 ln lf nc nw B nf ls gr = some o) : o.1 = false ∧ out.1 = false ∧ out.2.1 = o.2.2.2.2.2.1 ∧ out.2.2.1 = o.2.2.2.2.2.2.1 := by
  obtain ⟨k1, a1, n1, v1, s1, u1, w1, t1, t2, t3, t4, t5, t6, t7, t8, t9, t10⟩ := tok_eq l0 l3 (Int.le_refl 0) l0 hB kd pl va so at_ nu wo
  rw [t2] at hr
  cases hr
  have km := KM_1 t3
  rcases hF with ⟨n4, k4, p4, v4, f1, f2, rfl⟩ | ⟨n4, p4, v4, n5, k5, p5, v5, f1, f2, f3, f4⟩
  · rw [t1] at f1
    cases f1
    have := rc_f1 km.2.2.2.2 (fun z => by
      have k := km.1.mpr z
      obtain ⟨q1, q2, q3, q4⟩ := t10 k
      rw [k, word_eq l3 t7 t6 q1 q2 q3 q4] at f2
      intro e
      rw [decide_eq_true e] at f2
      cases f2) ho
    exact ⟨this.1, rfl, this.2.1.symm, this.2.2.symm⟩
  · rw [t1] at f1
    cases f1
    obtain ⟨q1, q2, q3, q4⟩ := t10 rfl
    rw [word_eq l3 t7 t6 q1 q2 q3 q4] at f2
    have ew : w1 = 3743880787 := by
      by_cases e : w1 = 3743880787
      · exact e
      · rw [decide_eq_false e] at f2; cases f2
    have es : s1 = 1 := km.1.mp rfl
    obtain ⟨k2, a2, n2, v2, s2, u2, w2, d1, d2, d3, d4, d5, d6, d7, d8, d9, d10⟩ := tok_eq l0 l3 (show 0 ≤ n1 by omega) t6 hB 1 a1 v1 s1 a1 u1 w1
    rw [d1] at f3
    cases f3
    have km2 := KM_1 d3
    have hy := JE_of ho
    rcases f4 with ⟨g1, g2, rfl⟩ | ⟨g1, g2, g3, rfl⟩
    · have e := JE_end (o' := (false, s2, p5, n5, u2, 1, p5, w2, ln, lf, nc, nw, nf, ls, gr)) (by
        show zg_X11_readCut_0 len B 0 0 0 0 s1 a1 n1 u1 0 (-1) w1 ln lf nc nw nf ls gr = _
        unfold zg_X11_readCut_0
        rw [if_neg km.2.2.2.2, if_pos es, if_neg (show ¬ zoutL w1 by rw [ew]; decide), if_pos ew, d2]
        simp only [Option.bind_some]
        rw [if_neg km2.2.2.2.2, if_neg (fun z => g1 (km2.2.1.mpr z))]
        rfl) hy
      subst e
      exact ⟨rfl, rfl, rfl, rfl⟩
    · obtain ⟨x1, x2, x3⟩ := d4 g1
      have e := JE_end (o' := (false, s2, p5, n5, u2, 2, p5, w2, ln, lf, nc, nw, nf, ls, gr)) (by
        show zg_X11_readCut_0 len B 0 0 0 0 s1 a1 n1 u1 0 (-1) w1 ln lf nc nw nf ls gr = _
        unfold zg_X11_readCut_0
        rw [if_neg km.2.2.2.2, if_pos es, if_neg (show ¬ zoutL w1 by rw [ew]; decide), if_pos ew, d2]
        simp only [Option.bind_some]
        rw [if_neg km2.2.2.2.2, if_pos (km2.2.1.mp g1), in_e (by unfold zout; omega) (by decide) (by decide), decide_eq_false (by omega)]
        rfl) hy
      subst e
      exact ⟨rfl, rfl, rfl, rfl⟩
set_option maxHeartbeats 1000000 in
theorem rc_M {B : Nat} {len : Int} (l0 : 0 ≤ len) (l3 : len ≤ 300) (hB : BR B) {mk : Nat} {kd pl va fi n4 p4 v4 n5 p5 : Int} {c : Nat} {out : zO_X1_understand} (h4 : 4 ≤ c) (h9 : c ≤ 9) (f1 : zf_X8_readToken len 0 kd pl va B = some (n4, 1, p4, v4)) (f2 : zf_X8_isWordF len n4 1 p4 B = some true) (f3 : zf_X8_readToken len n4 1 p4 v4 B = some (n5, 2, p5, (c : Int))) (f6 : jrun (zg_X1_understand (zmk mk c) len B) jfuel (31, (0 + 1) + 1, 0, (-1), 4, fi, c, 0, n5, 2, p5, (c : Int)) = some out) {so at_ nu wo : Int} {ln lf nc nw : Int} {nf ls gr : Nat} (hT : TL lf ln nf ls gr) {r : Int × Int × Int × Int × Int} (hr : zf_X11_scan len so at_ 0 nu wo B = some r) {o : zO_X11_readCut} (ho : zf_X11_readCut len r.1 r.2.1 r.2.2.1 r.2.2.2.1 0 (-1) r.2.2.2.2 ln lf nc nw B nf ls gr = some o) : undQ c out o := by
  obtain ⟨k1, a1, n1, v1, s1, u1, w1, t1, t2, t3, t4, t5, t6, t7, t8, t9, t10⟩ := tok_eq l0 l3 (Int.le_refl 0) l0 hB kd pl va so at_ nu wo
  rw [t2] at hr
  cases hr
  have km := KM_1 t3
  rw [t1] at f1
  cases f1
  obtain ⟨q1, q2, q3, q4⟩ := t10 rfl
  rw [word_eq l3 t7 t6 q1 q2 q3 q4] at f2
  have ew : w1 = 3743880787 := by
    by_cases e : w1 = 3743880787
    · exact e
    · rw [decide_eq_false e] at f2; cases f2
  have es : s1 = 1 := km.1.mp rfl
  obtain ⟨k2, a2, n2, v2, s2, u2, w2, d1, d2, d3, d4, d5, d6, d7, d8, d9, d10⟩ := tok_eq l0 l3 (show 0 ≤ n4 by omega) t6 hB 1 p4 v4 s1 p4 u1 w1
  rw [d1] at f3
  cases f3
  have km2 := KM_1 d3
  obtain ⟨x1, x2, x3⟩ := d4 rfl
  have t9 := t9 (by decide)
  have d9 := d9 (by decide)
  obtain ⟨lw, hlw, y0, y1, y2, y3, y4⟩ := oy_linesOf ln lf nf ls gr (c : Int) hT (by omega) (by omega)
  obtain ⟨k3, a3, n3, v3, s3, u3, w3, g1, g2, g3, g4, g5, g6, g7, g8, g9, g10⟩ := tok_eq l0 l3 (show 0 ≤ n5 by omega) d6 hB 2 p5 (c : Int) s2 p5 u2 w2
  have km3 := KM_1 g3
  have hy := JE_of ho
  have hx := JE_of f6
  have p0 : ¬ zno (zmk mk c) c := zmk_yes h4 h9
  have ex1 : u2 = (c : Int) := x1.symm
  have hL : LT c lw.1 lw.2.2.1 lw.2.2.2.1 lw.2.2.2.2 := by have := y1.2.2; rw [Int.toNat_natCast] at this; exact this
  by_cases e3 : k3 = 3
  · have hs3 : s3 = 3 := km3.2.2.1.mp e3
    obtain ⟨k4, a4, n4', v4', s4, u4, w4, b1, b2, b3, b4, b5, b6, b7, b8, b9, b10⟩ := tok_eq l0 l3 (show 0 ≤ n3 by omega) g6 hB k3 a3 v3 s3 a3 u3 w3
    have hy1 := JE_dn (s' := (107, 0, 0, 0, 0, s4, a4, n4', u4, 0, -1, w4, lw.1, lw.2.1, u2, 0, lw.2.2.1, lw.2.2.2.1, lw.2.2.2.2)) (by
      show zg_X11_readCut_0 len B 0 0 0 0 s1 p4 n4 u1 0 (-1) w1 ln lf nc nw nf ls gr = _
      unfold zg_X11_readCut_0
      rw [if_neg km.2.2.2.2, if_pos es, if_neg (show ¬ zoutL w1 by rw [ew]; decide), if_pos ew, d2]
      simp only [Option.bind_some]
      rw [if_neg km2.2.2.2.2, if_pos (km2.2.1.mp rfl), in_e (by unfold zout; omega) (by decide) (by decide), decide_eq_true (by omega)]
      simp only [Option.bind_some]
      rw [if_neg (by decide), ex1, hlw]
      simp only [Option.bind_some]
      rw [ex1] at g2
      rw [g2]
      simp only [Option.bind_some]
      rw [if_neg km3.2.2.2.2, if_pos hs3]
      rw [b2]
      rfl) hy
    have hx1 := JE_dn (s' := (31, (0 + 1) + 1 + 1, 0, -1, 2, fi, c, 0, n3, 3, a3, v3)) (by
      show zg_X1_understand_31 (zmk mk c) len B ((0 + 1) + 1) 0 (-1) 4 fi c 0 n5 2 p5 (c : Int) = _
      subst e3
      rw [un31 (by decide) (by decide) g1 (tt4y (zmk mk c) fi c 0 n3 a3 v3) (by decide) (by dsimp only; decide) (by omega)]
      rfl) hx
    rw [ex1] at hy1
    subst e3
    refine und_eq l0 l3 hB p0 hL ((len - n3).toNat + 1) (0 + 1 + 1 + 1) fi n3 3 a3 v3 0 0 0 0 0 n4' k4 a4 v4' s4 u4 w4 out o (by omega) (by decide) (by have := g9 (by decide); omega) g6 (Nat.two_pow_pos _) (fun a b _ _ h => by rw [Nat.zero_testBit] at h; cases h) (by rw [pop_0]; rfl) b1 b3 b4 b5 b6 b9 hx1 hy1
  · have hs3 : ¬ s3 = 3 := fun z => e3 (km3.2.2.1.mpr z)
    have e1 := JE_end (o' := (false, 1, a3, 2, fi, c, 0, n3, k3, a3, v3)) (by
      show zg_X1_understand_31 (zmk mk c) len B ((0 + 1) + 1) 0 (-1) 4 fi c 0 n5 2 p5 (c : Int) = _
      rw [un31 (by decide) (by decide) g1 (tt4n (zmk mk c) fi c 0 n3 k3 a3 v3 e3 km3.2.2.2.1) km3.2.2.2.1 (by dsimp only; decide) (by omega)]
      rfl) hx
    have e2 := JE_end (o' := (false, s3, a3, n3, u3, 1, a3, w3, lw.1, lw.2.1, u2, 0, lw.2.2.1, lw.2.2.2.1, lw.2.2.2.2)) (by
      show zg_X11_readCut_0 len B 0 0 0 0 s1 p4 n4 u1 0 (-1) w1 ln lf nc nw nf ls gr = _
      unfold zg_X11_readCut_0
      rw [if_neg km.2.2.2.2, if_pos es, if_neg (show ¬ zoutL w1 by rw [ew]; decide), if_pos ew, d2]
      simp only [Option.bind_some]
      rw [if_neg km2.2.2.2.2, if_pos (km2.2.1.mp rfl), in_e (by unfold zout; omega) (by decide) (by decide), decide_eq_true (by omega)]
      simp only [Option.bind_some]
      rw [if_neg (by decide), ex1, hlw]
      simp only [Option.bind_some]
      rw [ex1] at g2
      rw [g2]
      simp only [Option.bind_some]
      rw [if_neg km3.2.2.2.2, if_neg hs3]
      rfl) hy
    rw [ex1] at e2
    subst e1 e2
    exact ⟨rfl, rfl, rfl, rfl, rfl, fun z => by cases z⟩
/-- what the whole of cut comes to on the reference's side -/
def cutP (o2 : Int × Int × Int × Int × Int × Int × Int × Int × Int × Int × Int × Int × Int × Int × Int × Int × Int × Int × Int × Int × Int × Nat × Nat × Nat × Nat) (out : zO_X1_understand) (co ow : Int) (c : Nat) : Prop := o2.2.1 = 0 ∧ o2.2.2.2.2.2.2.2.1 = out.2.1 ∧ o2.2.2.2.2.2.2.2.2.1 = out.2.2.1 ∧ (out.1 = false → o2.1 = -1 ∧ o2.2.2.2.2.2.2.2.2.2.2.1 = co ∧ o2.2.2.2.2.2.2.2.2.2.2.2.2.2.2.2.1 = ow) ∧ (out.1 = true → zf_X5_numberOf c out.2.2.2.2.2.2.1 = some o2.1 ∧ o2.2.2.2.2.2.2.2.2.2.2.1 = (c : Int) ∧ o2.2.2.2.2.2.2.2.2.2.2.2.2.2.2.2.1 = out.2.2.2.2.2.2.1)
theorem cut_F {B : Nat} {len : Int} (l0 : 0 ≤ len) (l3 : len ≤ 300) (hB : BR B) {kd pl va fi : Int} {out : zO_X1_understand} (hF : zuF len kd pl va B fi out) {sz so at_ en nu fk fp wo co ln lf lm lc ow nc nw sm rm lt : Int} {nf ls gr li : Nat} {o2 : Int × Int × Int × Int × Int × Int × Int × Int × Int × Int × Int × Int × Int × Int × Int × Int × Int × Int × Int × Int × Int × Nat × Nat × Nat × Nat} (ho2 : zf_X11_cut len sz so at_ en nu fk fp wo co ln lf lm lc ow nc nw sm rm lt B nf ls gr li = some o2) : out.1 = false ∧ cutP o2 out co ow 0 := by
  unfold zf_X11_cut zf_X11_begin at ho2
  cases h1 : zf_X11_scan len so at_ 0 nu wo B with
  | none => rw [h1] at ho2; cases ho2
  | some r =>
    rw [h1] at ho2
    simp only [Option.bind_some] at ho2
    cases h2 : zf_X11_readCut len r.1 r.2.1 r.2.2.1 r.2.2.2.1 0 (-1) r.2.2.2.2 ln lf nc nw B nf ls gr with
    | none => rw [h2] at ho2; cases ho2
    | some u =>
      obtain ⟨q1, q2, q3, q4⟩ := rc_F l0 l3 hB hF h1 h2
      rw [h2] at ho2
      simp only [Option.bind_some] at ho2
      rw [if_pos q1] at ho2
      cases ho2
      refine ⟨q2, rfl, q3.symm, q4.symm, fun _ => ⟨rfl, rfl, rfl⟩, fun z => ?_⟩
      rw [q2] at z
      cases z
theorem cut_M {B : Nat} {len : Int} (l0 : 0 ≤ len) (l3 : len ≤ 300) (hB : BR B) {mk : Nat} {kd pl va fi n4 p4 v4 n5 p5 : Int} {c : Nat} {out : zO_X1_understand} (h4 : 4 ≤ c) (h9 : c ≤ 9) (f1 : zf_X8_readToken len 0 kd pl va B = some (n4, 1, p4, v4)) (f2 : zf_X8_isWordF len n4 1 p4 B = some true) (f3 : zf_X8_readToken len n4 1 p4 v4 B = some (n5, 2, p5, (c : Int))) (f6 : jrun (zg_X1_understand (zmk mk c) len B) jfuel (31, (0 + 1) + 1, 0, (-1), 4, fi, c, 0, n5, 2, p5, (c : Int)) = some out) (hct : out.1 = true → isCut c out.2.2.2.2.2.2.1) {sz so at_ en nu fk fp wo co ln lf lm lc ow nc nw sm rm lt : Int} {nf ls gr li : Nat} (hT : TL lf ln nf ls gr) (hK : LK lc lm li) {o2 : Int × Int × Int × Int × Int × Int × Int × Int × Int × Int × Int × Int × Int × Int × Int × Int × Int × Int × Int × Int × Int × Nat × Nat × Nat × Nat} (ho2 : zf_X11_cut len sz so at_ en nu fk fp wo co ln lf lm lc ow nc nw sm rm lt B nf ls gr li = some o2) : cutP o2 out co ow c := by
  unfold zf_X11_cut zf_X11_begin at ho2
  cases h1 : zf_X11_scan len so at_ 0 nu wo B with
  | none => rw [h1] at ho2; cases ho2
  | some r =>
    rw [h1] at ho2
    simp only [Option.bind_some] at ho2
    cases h2 : zf_X11_readCut len r.1 r.2.1 r.2.2.1 r.2.2.2.1 0 (-1) r.2.2.2.2 ln lf nc nw B nf ls gr with
    | none => rw [h2] at ho2; cases ho2
    | some u =>
      obtain ⟨q1, q2, q3, q4, q5, q6⟩ := rc_M l0 l3 hB h4 h9 f1 f2 f3 f6 hT h1 h2
      rw [h2] at ho2
      simp only [Option.bind_some] at ho2
      cases e : out.1 with
      | false =>
        rw [e] at q1
        rw [if_pos q1.symm] at ho2
        cases ho2
        exact ⟨rfl, q2.symm, q3.symm, fun _ => ⟨rfl, rfl, rfl⟩, fun z => by rw [e] at z; cases z⟩
      | true =>
        obtain ⟨z1, z2, z3⟩ := q6 e
        rw [e] at q1
        rw [if_neg (by rw [← q1]; decide)] at ho2
        have hc := hct e
        rw [z1] at hc
        cases h3 : zf_X11_becomes co ow sm rm lt u.2.2.2.2.2.2.2.2.2.2.1 u.2.2.2.2.2.2.2.2.2.2.2.1 with
        | none => rw [h3] at ho2; cases ho2
        | some w =>
          have hb : w.1 = u.2.2.2.2.2.2.2.2.2.2.1 ∧ w.2.1 = u.2.2.2.2.2.2.2.2.2.2.2.1 := by
            unfold zf_X11_becomes at h3
            split at h3
            · cases h3
            · split at h3
              · cases h3
              · split at h3 <;> (cases h3; exact ⟨rfl, rfl⟩)
          rw [h3] at ho2
          simp only [Option.bind_some] at ho2
          obtain ⟨r', hr', s0, s1, s2, s3, s4, s5, s6, s7, -⟩ := ok_X11_scan len so at_ 0 nu wo B l0 l3 (Int.le_refl 0) l0
          rw [h1] at hr'
          cases hr'
          obtain ⟨u', hu', -, -, hTL⟩ := ok_X11_readCut len r.1 r.2.1 r.2.2.1 r.2.2.2.1 0 (-1) r.2.2.2.2 ln lf nc nw B nf ls gr l0 l3 s4 s5 s0 s1 s6 s7 hT
          rw [h2] at hu'
          cases hu'
          rw [hb.1, hb.2, q5] at ho2
          cases h5 : zf_X11_ownNumber (c : Int) u.2.2.2.2.2.2.2.2.1 u.2.2.2.2.2.2.2.2.2.1 lm lc u.2.2.2.2.2.2.2.2.2.2.2.1 u.2.2.2.2.2.2.2.2.2.2.2.2.1 u.2.2.2.2.2.2.2.2.2.2.2.2.2.1 u.2.2.2.2.2.2.2.2.2.2.2.2.2.2 li with
          | none => rw [h5] at ho2; cases ho2
          | some x =>
            have ex := own_e h4 h9 hc hTL hK h5
            rw [h5] at ho2
            cases ho2
            refine ⟨rfl, q2.symm, q3.symm, (fun z => by rw [e] at z; cases z), fun _ => ⟨?_, rfl, z1.symm⟩⟩
            rw [z1]
            exact ex
/-- take -/
theorem take_n {co ln lf lm lc ow sm rm lt n k : Int} {nf ls gr li : Nat} (hz : ¬ zout n) (hn : n < 4 ∨ 9 < n) {o2 : Int × Int × Int × Int × Int × Int × Int × Int × Int × Int × Nat × Nat × Nat × Nat} (ho2 : zf_X11_take co ln lf lm lc ow sm rm lt nf ls gr li n k = some o2) : o2.1 = -2 ∧ o2.2.1 = co ∧ o2.2.2.2.2.2.2.1 = ow := by
  unfold zf_X11_take at ho2
  rw [in_e hz (by decide) (by decide), decide_eq_false (by omega)] at ho2
  simp only [Option.bind_some] at ho2
  rw [if_pos trivial] at ho2
  cases ho2
  exact ⟨rfl, rfl, rfl⟩
theorem take_m {co ln lf lm lc ow sm rm lt k : Int} {c nf ls gr li : Nat} (h4 : 4 ≤ c) (h9 : c ≤ 9) (hz : ¬ zout k) (hT : TL lf ln nf ls gr) (hK : LK lc lm li) {o2 : Int × Int × Int × Int × Int × Int × Int × Int × Int × Int × Nat × Nat × Nat × Nat} (ho2 : zf_X11_take co ln lf lm lc ow sm rm lt nf ls gr li (c : Int) k = some o2) : ((0 ≤ k ∧ k < pg8 c) → o2.1 = k ∧ o2.2.1 = (c : Int) ∧ o2.2.2.2.2.2.2.1 = zget (pg6 c) k.toNat) ∧ (¬ (0 ≤ k ∧ k < pg8 c) → o2.1 = -2 ∧ o2.2.1 = co ∧ o2.2.2.2.2.2.2.1 = ow) := by
  have r8 := rpg8 h4 h9
  unfold zf_X11_take at ho2
  rw [in_e (by unfold zout; omega) (by decide) (by decide), decide_eq_true (by omega)] at ho2
  simp only [Option.bind_some] at ho2
  rw [if_neg (by decide), if_neg hz] at ho2
  by_cases c0 : 0 ≤ k
  · rw [if_pos c0] at ho2
    obtain ⟨w, hw, w0, w1, w2, w3, w4, w5, w6, -⟩ := oy_listFor ln lf lm lc nf ls gr li (c : Int) hT hK (by omega) (by omega)
    have hL := LIof w6
    have hl := hL.1
    rw [hw] at ho2
    simp only [Option.bind_some] at ho2
    rw [if_neg (by unfold zout; omega)] at ho2
    by_cases c1 : k < w.2.2.1
    · rw [if_pos c1, if_neg (by omega), hL.2 k.toNat (by omega)] at ho2
      cases h3 : zf_X11_becomes co ow sm rm lt (c : Int) (zget (pg6 c) k.toNat) with
      | none => rw [h3] at ho2; cases ho2
      | some x =>
        have hb : x.1 = (c : Int) ∧ x.2.1 = zget (pg6 c) k.toNat := by
          unfold zf_X11_becomes at h3
          split at h3
          · cases h3
          · split at h3
            · cases h3
            · split at h3 <;> (cases h3; exact ⟨rfl, rfl⟩)
        rw [h3] at ho2
        cases ho2
        exact ⟨fun _ => ⟨rfl, hb.1, hb.2⟩, fun z => absurd ⟨c0, by omega⟩ z⟩
    · rw [if_neg c1] at ho2
      cases ho2
      exact ⟨fun z => absurd z.2 (by omega), fun _ => ⟨rfl, rfl, rfl⟩⟩
  · rw [if_neg c0] at ho2
    cases ho2
    exact ⟨fun z => absurd z.1 c0, fun _ => ⟨rfl, rfl, rfl⟩⟩
