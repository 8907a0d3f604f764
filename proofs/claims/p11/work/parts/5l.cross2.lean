/-! the class's crossed lines -/
theorem ah_e {m i x : Nat} (h9 : m ≤ 9) (hi : i < m) (hx : x < m) : zf_X5_ahead m (i : Int) (x : Int) = some ((ahN m i x : Nat) : Int) := by
  unfold zf_X5_ahead ahN
  rw [if_neg (by unfold zout; omega), if_neg (by unfold zout; omega)]
  by_cases c : x < i
  · rw [if_pos (by omega), if_pos c]
    congr 1
    omega
  · rw [if_neg (by omega), if_neg c]
    congr 1
    omega
theorem les_e {m l : Nat} (h4 : 4 ≤ m) (h9 : m ≤ 9) (hl : l < lnN m) : zf_X5_lesserOf m (l : Int) = some (((zget (pg1 m) l).toNat : Nat) : Int) ∧ zf_X5_greaterOf m (l : Int) = some (((zget (pg2 m) l).toNat : Nat) : Int) ∧ (zget (pg1 m) l).toNat < m ∧ (zget (pg2 m) l).toNat < m := by
  have r := lnN_27 h4 h9
  have hl' : (l : Int) < pg7 m := by unfold lnN at hl; omega
  have a1 := rpg1n h4 h9 l hl'
  have a2 := rpg2n h4 h9 l hl'
  unfold zf_X5_lesserOf zf_X5_greaterOf
  rw [hasLine_e h4 h9 (by omega) hl']
  simp only [Option.bind_some]
  rw [if_neg (by decide), if_neg (by omega), if_neg (by decide), if_neg (by omega), Int.toNat_natCast, show (((zget (pg1 m) l).toNat : Nat) : Int) = zget (pg1 m) l by omega, show (((zget (pg2 m) l).toNat : Nat) : Int) = zget (pg2 m) l by omega]
  exact ⟨rfl, rfl, by omega, by omega⟩
theorem sp_e {mk m i l : Nat} (p0 : ¬ zno mk m) (hi : i < m) (hl : l < lnN m) : zf_X0_spanFrom mk m (i : Int) (l : Int) = some ((spn m i l : Nat) : Int) := by
  obtain ⟨h4, h9⟩ := zno_rng p0
  obtain ⟨e1, e2, b1, b2⟩ := les_e h4 h9 hl
  have c1 : ahN m i (zget (pg1 m) l).toNat ≤ 20 := by unfold ahN; split <;> omega
  have c2 : ahN m i (zget (pg2 m) l).toNat ≤ 20 := by unfold ahN; split <;> omega
  unfold zf_X0_spanFrom
  rw [if_neg p0, e1]
  simp only [Option.bind_some]
  rw [ah_e h9 hi b1, e2]
  simp only [Option.bind_some]
  rw [ah_e h9 hi b2]
  simp only [Option.bind_some]
  rw [if_neg (by unfold zout; omega)]
  congr 1
  unfold zabs spn
  split <;> omega
theorem zand_n {X T : Nat} (hX : X < 134217728) (hT : T < 134217728) : zand (X : Int) (T : Int) = ((X &&& T : Nat) : Int) := by
  unfold zand
  rw [zu_n hX, zu_n hT]
  exact zs_n (Nat.and_lt_two_pow (n := 27) X hT)
theorem Xc_lt {m i j : Nat} (h4 : 4 ≤ m) (h9 : m ≤ 9) (hi : i < m) (hj : j < m) : Xc m i j < 134217728 := by
  unfold Xc
  by_cases c : 0 ≤ zget (pg3 m) (9 * i + j)
  · rw [decide_eq_true c]
    have r3 := rpg3 h4 h9 (9 * i + j) (by omega)
    have := rpg4 h4 h9 (zget (pg3 m) (9 * i + j)).toNat (by omega)
    show crM m (zget (pg3 m) (9 * i + j)).toNat < 134217728
    unfold crM
    omega
  · rw [decide_eq_false c]
    show 0 < 134217728
    omega
theorem Xc_e {m i j : Nat} (h4 : 4 ≤ m) (h9 : m ≤ 9) (hi : i < m) (hj : j < m) : ∃ l, zf_X5_lineOf m (i : Int) (j : Int) = some l ∧ zf_X5_crossersOf m l = some ((Xc m i j : Nat) : Int) := by
  refine ⟨_, lineOf_e h4 h9 (by omega) (by omega) (by omega) (by omega), ?_⟩
  rw [Int.toNat_natCast, Int.toNat_natCast]
  have r3 := rpg3 h4 h9 (9 * i + j) (by omega)
  have r7 := of_decide_eq_true (allF_at (pg3_lt_tab m h4 h9) (m := 9 * i + j) (by omega))
  have g7 := rpg7 h4 h9
  unfold zf_X5_crossersOf Xc
  by_cases c : 0 ≤ zget (pg3 m) (9 * i + j)
  · rw [hasLine_e h4 h9 c r7, decide_eq_true c]
    simp only [Option.bind_some]
    have r4 := rpg4 h4 h9 (zget (pg3 m) (9 * i + j)).toNat (by omega)
    rw [if_neg (by decide), if_neg (by omega)]
    congr 1
    unfold crM
    omega
  · rw [decide_eq_false c]
    unfold zf_X5_hasLine
    rw [if_neg (by unfold zout; omega), if_pos (by omega)]
    rfl
def CA (P : Nat → Bool) (p ln : Nat) : Prop := ∀ q, q < p → P q = true → zget ln (cnF P q) = ((q % 27 : Nat) : Int)
theorem CA_f {P : Nat → Bool} {p ln : Nat} (h : CA P p ln) (hp : P p = false) : CA P (p + 1) ln := by
  intro q hq pq
  by_cases e : q = p
  · subst e; rw [hp] at pq; cases pq
  · exact h q (by omega) pq
theorem CA_skip {P : Nat → Bool} {p ln : Nat} (h : CA P p ln) : ∀ d : Nat, (∀ q, p ≤ q → q < p + d → P q = false) → CA P (p + d) ln ∧ cnF P (p + d) = cnF P p := by
  intro d
  induction d with
  | zero => intro _; exact ⟨h, rfl⟩
  | succ d ih =>
    intro hn
    obtain ⟨a, b⟩ := ih (fun q h1 h2 => hn q h1 (by omega))
    have e := hn (p + d) (by omega) (by omega)
    exact ⟨CA_f a e, by rw [show p + (d + 1) = (p + d) + 1 by omega, cnF_f e, b]⟩
theorem CA_t {P : Nat → Bool} {p ln l : Nat} (h : CA P p ln) (hp : P p = true) (hl : l = p % 27) : CA P (p + 1) (zset ln (cnF P p) (l : Int)) := by
  intro q hq pq
  rw [zget_set]
  by_cases e : q = p
  · subst e
    rw [if_pos rfl, zw_id (by unfold zout; omega), hl]
  · have := cnF_lt pq (show q < p by omega)
    rw [if_neg (by omega)]
    exact h q (by omega) pq
def ggI (m i j T S : Nat) (lab : Nat) (i2 i3 i4 i5 i6 i7 t : Int) (ln : Nat) : Prop := i3 = (i : Int) ∧ ((lab = 0 ∧ i2 = (T : Int) ∧ i4 = (j : Int)) ∨ (lab = 28 ∧ i5 = (S : Int) ∧ 0 ≤ i6 ∧ i6 < (m : Int) ∧ t = ((cnF (gS m i S (lnN m)) (27 * (m - i6.toNat)) : Nat) : Int) ∧ CA (gS m i S (lnN m)) (27 * (m - i6.toNat)) ln) ∨ (lab = 36 ∧ i5 = (S : Int) ∧ 1 ≤ i6 ∧ i6 < (m : Int) ∧ 0 ≤ i7 ∧ i7 ≤ (lnN m : Int) ∧ t = ((cnF (gS m i S (lnN m)) (27 * (m - i6.toNat) + i7.toNat) : Nat) : Int) ∧ CA (gS m i S (lnN m)) (27 * (m - i6.toNat) + i7.toNat) ln))
set_option maxHeartbeats 2000000 in
theorem gg_ok {mk m i j T : Nat} (p0 : ¬ zno mk m) (hi : i < m) (hj : j < m) (hij : ¬ i = j) (hT : T < 134217728) (hN : cnF (gS m i (Xc m i j &&& T) (lnN m)) 243 ≤ 6) (ts : Int) (tl : Nat) : Go (fun o => o.1 = ((cnF (gS m i (Xc m i j &&& T) (lnN m)) 243 : Nat) : Int) ∧ CA (gS m i (Xc m i j &&& T) (lnN m)) 243 o.2) (zf_X0_gather mk ts tl m (T : Int) (i : Int) (j : Int)) := by
  obtain ⟨h4, h9⟩ := zno_rng p0
  have r27 := lnN_27 h4 h9
  have e7 : pg7 m = (lnN m : Int) := by have := rpg7 h4 h9; unfold lnN; omega
  have hX := Xc_lt h4 h9 hi hj
  have hS : Xc m i j &&& T < 134217728 := Nat.and_lt_two_pow (n := 27) _ hT
  -- a crossed line's span
  have hsp : ∀ l, l < lnN m → (Xc m i j &&& T).testBit l = true → 1 ≤ spn m i l ∧ spn m i l < m := by
    intro l hl hb
    rw [Nat.testBit_and, Bool.and_eq_true] at hb
    exact ((key_c h4 h9 hi hj hij hl).2 hb.1).1
  have big : ∀ q, 27 * m ≤ q → gS m i (Xc m i j &&& T) (lnN m) q = false := fun q hq => gS_n (fun z => by
    have := hsp _ z.1 z.2.1
    omega)
  have low : ∀ q, q < 27 → gS m i (Xc m i j &&& T) (lnN m) q = false := fun q hq => gS_n (fun z => by
    have := hsp _ z.1 z.2.1
    omega)
  unfold zf_X0_gather
  refine jok (fun (s : zS_X0_gather) => match s with | (lab, i2, i3, i4, i5, i6, i7, t, ln) => ggI m i j T (Xc m i j &&& T) lab i2 i3 i4 i5 i6 i7 t ln) (fun (s : zS_X0_gather) => match s with | (lab, i2, i3, i4, i5, i6, i7, t, ln) => if lab = 0 then 10000 else if lab = 28 then (100 * i6 + 99).toNat else (100 * i6 + 60 - i7).toNat) (fun (o : zO_X0_gather) => o.1 = ((cnF (gS m i (Xc m i j &&& T) (lnN m)) 243 : Nat) : Int) ∧ CA (gS m i (Xc m i j &&& T) (lnN m)) 243 o.2) ?_ _ ?_ ?_
  · intro s hI
    obtain ⟨lab, i2, i3, i4, i5, i6, i7, t, ln⟩ := s
    have hI : ggI m i j T (Xc m i j &&& T) lab i2 i3 i4 i5 i6 i7 t ln := hI
    unfold ggI at hI
    obtain ⟨q3, hI2⟩ := hI
    subst q3
    rcases hI2 with ⟨rfl, rfl, rfl⟩ | ⟨rfl, rfl, v1, v2, v3, v4⟩ | ⟨rfl, rfl, v1, v2, v5, v6, v3, v4⟩
    · show Go _ (zg_X0_gather_0 mk m (T : Int) (i : Int) (j : Int) i5 i6 i7 t ln)
      unfold zg_X0_gather_0 zf_X5_corners
      obtain ⟨lx, x1, x2⟩ := Xc_e h4 h9 hi hj
      refine Go_chk p0 ?_
      refine Go_bind x1 ?_
      refine Go_bind x2 ?_
      refine Go_bind rfl ?_
      rw [zand_n hX hT]
      obtain ⟨c1, c2⟩ := CA_skip (P := gS m i (Xc m i j &&& T) (lnN m)) (p := 0) (ln := ln) (fun q hq => absurd hq (Nat.not_lt_zero _)) 27 (fun q h1 h2 => low q (by omega))
      rw [Nat.zero_add] at c1 c2
      refine Go_i (show ggI m i j T (Xc m i j &&& T) 28 (T : Int) (i : Int) (j : Int) ((Xc m i j &&& T : Nat) : Int) ((m : Int) - 1) 0 0 ln ∧ (100 * ((m : Int) - 1) + 99).toNat < 10000 from ⟨⟨rfl, Or.inr (Or.inl ⟨rfl, rfl, by omega, by omega, ?_, ?_⟩)⟩, by omega⟩)
      · rw [show 27 * (m - ((m : Int) - 1).toNat) = 27 by omega, c2]
        rfl
      · rw [show 27 * (m - ((m : Int) - 1).toNat) = 27 by omega]
        exact c1
    · show Go _ (zg_X0_gather_28 mk m i2 (i : Int) i4 ((Xc m i j &&& T : Nat) : Int) i6 i7 t ln)
      unfold zg_X0_gather_28
      refine Go_chk (by unfold zout; omega) ?_
      refine Go_ite (fun x => ?_) (fun x => ?_)
      · obtain ⟨c1, c2⟩ := CA_skip v4 (243 - 27 * (m - i6.toNat)) (fun q h1 h2 => big q (by omega))
        rw [show 27 * (m - i6.toNat) + (243 - 27 * (m - i6.toNat)) = 243 by omega] at c1 c2
        exact Go_i (show t = ((cnF (gS m i (Xc m i j &&& T) (lnN m)) 243 : Nat) : Int) ∧ CA (gS m i (Xc m i j &&& T) (lnN m)) 243 ln from ⟨by rw [c2]; exact v3, c1⟩)
      · exact Go_i (show ggI m i j T (Xc m i j &&& T) 36 0 (i : Int) 0 ((Xc m i j &&& T : Nat) : Int) i6 0 t ln ∧ (100 * i6 + 60 - 0).toNat < (100 * i6 + 99).toNat from ⟨⟨rfl, Or.inr (Or.inr ⟨rfl, rfl, by omega, v2, by omega, by omega, v3, v4⟩)⟩, by omega⟩)
    · show Go _ (zg_X0_gather_36 mk m i2 (i : Int) i4 ((Xc m i j &&& T : Nat) : Int) i6 i7 t ln)
      unfold zg_X0_gather_36 zf_X5_lineCount
      refine Go_chk p0 ?_
      refine Go_bind rfl ?_
      refine Go_chk (by unfold zout; omega) ?_
      refine Go_chk (by unfold zout; omega) ?_
      refine Go_ite (fun x => ?_) (fun x => ?_)
      · have e : 27 * (m - (i6 + -1).toNat) = 27 * (m - i6.toNat) + i7.toNat + (27 - i7.toNat) := by omega
        obtain ⟨c1, c2⟩ := CA_skip v4 (27 - i7.toNat) (fun q h1 h2 => gS_n (fun z => by
          have := z.1
          omega))
        rw [← e] at c1 c2
        exact Go_i (show ggI m i j T (Xc m i j &&& T) 28 0 (i : Int) 0 ((Xc m i j &&& T : Nat) : Int) (i6 + (-1 : Int)) i7 t ln ∧ (100 * (i6 + (-1 : Int)) + 99).toNat < (100 * i6 + 60 - i7).toNat from ⟨⟨rfl, Or.inr (Or.inl ⟨rfl, rfl, by omega, by omega, by rw [c2]; exact v3, c1⟩)⟩, by omega⟩)
      · obtain ⟨l, rfl⟩ : ∃ l : Nat, i7 = (l : Int) := ⟨i7.toNat, by omega⟩
        have hl : l < lnN m := by omega
        have v3 : t = ((cnF (gS m i (Xc m i j &&& T) (lnN m)) (27 * (m - i6.toNat) + l) : Nat) : Int) := v3
        have v4 : CA (gS m i (Xc m i j &&& T) (lnN m)) (27 * (m - i6.toNat) + l) ln := v4
        have ep : 27 * (m - i6.toNat) + ((l : Int) + 1).toNat = 27 * (m - i6.toNat) + l + 1 := by omega
        have d1 : (27 * (m - i6.toNat) + l) % 27 = l := by omega
        have d2 : (27 * (m - i6.toNat) + l) / 27 = m - i6.toNat := by omega
        have lt := cnF_le (P := gS m i (Xc m i j &&& T) (lnN m)) (p := 27 * (m - i6.toNat) + l) (r := 243) (by omega)
        have no : gS m i (Xc m i j &&& T) (lnN m) (27 * (m - i6.toNat) + l) = false → Go (GoE (fun s' => (match s' with | (lab, i2, i3, i4, i5, i6, i7, t, ln) => ggI m i j T (Xc m i j &&& T) lab i2 i3 i4 i5 i6 i7 t ln) ∧ (match s' with | (lab, i2, i3, i4, i5, i6, i7, t, ln) => if lab = 0 then 10000 else if lab = 28 then (100 * i6 + 99).toNat else (100 * i6 + 60 - i7).toNat) < (100 * i6 + 60 - (l : Int)).toNat) (fun (o : zO_X0_gather) => o.1 = ((cnF (gS m i (Xc m i j &&& T) (lnN m)) 243 : Nat) : Int) ∧ CA (gS m i (Xc m i j &&& T) (lnN m)) 243 o.2)) (some (.inr (36, 0, (i : Int), 0, ((Xc m i j &&& T : Nat) : Int), i6, (l : Int) + 1, t, ln)) : Option (zO_X0_gather ⊕ zS_X0_gather)) := by
          intro hn
          refine Go_i (show ggI m i j T (Xc m i j &&& T) 36 0 (i : Int) 0 ((Xc m i j &&& T : Nat) : Int) i6 ((l : Int) + 1) t ln ∧ (100 * i6 + 60 - ((l : Int) + 1)).toNat < (100 * i6 + 60 - (l : Int)).toNat from ⟨⟨rfl, Or.inr (Or.inr ⟨rfl, rfl, v1, v2, by omega, by omega, ?_, ?_⟩)⟩, by omega⟩)
          · rw [ep, cnF_f hn]; exact v3
          · rw [ep]; exact CA_f v4 hn
        refine Go_bind (has_b h4 h9 hS hl) ?_
        refine Go_ite (fun y => ?_) (fun y => ?_)
        · exact no (gS_n (fun z => by rw [d1, y] at z; exact absurd z.2.1 (by decide)))
        · have sp := hsp l hl (bnf y)
          refine Go_bind (sp_e p0 hi hl) ?_
          refine Go_chk (by unfold zout; omega) ?_
          refine Go_chk (by unfold zout; omega) ?_
          refine Go_ite (fun w => ?_) (fun w => ?_)
          · have hg : gS m i (Xc m i j &&& T) (lnN m) (27 * (m - i6.toNat) + l) = true := gS_i (by rw [d1]; exact hl) (by rw [d1]; exact bnf y) (by rw [d1, d2]; omega)
            refine Go_chk (by unfold zout; omega) ?_
            refine Go_ite (fun u => by exfalso; omega) (fun u => ?_)
            refine Go_chk (by omega) ?_
            refine Go_i (show ggI m i j T (Xc m i j &&& T) 36 0 (i : Int) 0 ((Xc m i j &&& T : Nat) : Int) i6 ((l : Int) + 1) (t + 1) (zset ln (Int.toNat t) (l : Int)) ∧ (100 * i6 + 60 - ((l : Int) + 1)).toNat < (100 * i6 + 60 - (l : Int)).toNat from ⟨⟨rfl, Or.inr (Or.inr ⟨rfl, rfl, v1, v2, by omega, by omega, ?_, ?_⟩)⟩, by omega⟩)
            · rw [ep, cnF_t hg, v3]; omega
            · rw [ep, v3, Int.toNat_natCast]
              exact CA_t v4 hg d1.symm
          · exact no (gS_n (fun z => by rw [d1, d2] at z; omega))
  · exact ⟨rfl, Or.inl ⟨rfl, rfl, rfl⟩⟩
  · show 10000 < jfuel
    unfold jfuel
    omega
/-- both: the same lines in the same order -/
theorem cross_both {mk m i j T : Nat} (p0 : ¬ zno mk m) (hi : i < m) (hj : j < m) (hij : ¬ i = j) (hc : isCut m (T : Int)) {ln lf cm : Int} {nf ls gr cl cf : Nat} (hT : TL lf ln nf ls gr) (ts : Int) (tl : Nat) : ∃ (g : Int × Nat) (o : Int × Int × Int × Nat × Nat × Nat × Nat × Nat), zf_X0_gather mk ts tl m (T : Int) (i : Int) (j : Int) = some g ∧ zf_X11_cross (m : Int) ln lf (T : Int) cm nf ls gr cl cf (i : Int) (j : Int) = some o ∧ g.1 = o.2.2.1 ∧ 0 ≤ g.1 ∧ g.1 ≤ 6 ∧ LT m o.1 o.2.2.2.1 o.2.2.2.2.1 o.2.2.2.2.2.1 ∧ ∀ k : Nat, (k : Int) < g.1 → ∃ l, l < lnN m ∧ (Xc m i j).testBit l = true ∧ zget g.2 k = (l : Int) ∧ zget o.2.2.2.2.2.2.1 k = (l : Int) := by
  obtain ⟨h4, h9⟩ := zno_rng p0
  have rc := rcut0 h4 h9 hc
  have hT' : T < 134217728 := by omega
  obtain ⟨o, ho, q0, q1, q2, q3, q4, q5, q6, -⟩ := ok_X11_cross (m : Int) ln lf (T : Int) cm nf ls gr cl cf (i : Int) (j : Int) hT (by omega) (by omega) ⟨by omega, by omega, hc⟩ (by omega) (by omega) (by omega) (by omega)
  have hy := JE_of ho
  obtain ⟨u, hu, u0, u1, -⟩ := oy_linesOf ln lf nf ls gr (m : Int) hT (by omega) (by omega)
  have hy := JE_dn (s' := (15, (i : Int), (j : Int), ((0 : Nat) : Int), 0, 0, u.1, u.2.1, ((0 : Nat) : Int), u.2.2.1, u.2.2.2.1, u.2.2.2.2, cl, cf)) (by
    show zg_X11_cross_0 (m : Int) (T : Int) (i : Int) (j : Int) 0 0 0 ln lf cm nf ls gr cl cf = _
    unfold zg_X11_cross_0
    rw [hu]
    rfl) hy
  have n0 : ∀ q, gS m i (Xc m i j &&& T) 0 q = false := fun q => gS_n (fun z => absurd z.1 (Nat.not_lt_zero _))
  have z0 : ∀ p, cnF (gS m i (Xc m i j &&& T) 0) p = 0 := by
    intro p
    induction p with
    | zero => rfl
    | succ p ih => rw [cnF_f (n0 p), ih]
  obtain ⟨cl', cf', s1, e⟩ := cross_run h4 h9 hi hj hij hT' (LTof u1) (lnN m) 0 0 0 0 cl cf (by omega) (z0 243).symm (fun q hq pq => by rw [n0 q] at pq; cases pq) hy
  have hN : cnF (gS m i (Xc m i j &&& T) (lnN m)) 243 ≤ 6 := by
    rw [e] at q6
    have q6 : ((cnF (gS m i (Xc m i j &&& T) (lnN m)) 243 : Nat) : Int) ≤ 6 := q6
    omega
  obtain ⟨g, hg, g1, g2⟩ := gg_ok p0 hi hj hij hT' hN ts tl
  refine ⟨g, o, hg, ho, by rw [g1, e], by omega, by omega, LTof q1, fun k hk => ?_⟩
  obtain ⟨q, a1, a2, a3⟩ := cnF_hit (P := gS m i (Xc m i j &&& T) (lnN m)) 243 k (by omega)
  have b := gS_b a2
  have b2 := b.2.1
  rw [Nat.testBit_and, Bool.and_eq_true] at b2
  refine ⟨q % 27, b.1, b2.1, ?_, ?_⟩
  · rw [← a3]; exact g2 q a1 a2
  · rw [← a3, e]; exact (s1 q a1 a2).1
set_option maxHeartbeats 1000000 in
theorem eq_crossed {mk m : Nat} (p0 : ¬ zno mk m) {b : Int} (hb : isCut m b) {i j k : Int} (hi : ¬ zout i) (hj : ¬ zout j) (hk : ¬ zout k) {ts ln lf cm : Int} {tl nf ls gr cl cf : Nat} (hT : TL lf ln nf ls gr) {o : Int × Int × Nat} {o2 : Int × Int × Int × Int × Nat × Nat × Nat × Nat × Nat} (ho : zf_X10_crossed mk m b ts tl i j k = some o) (ho2 : zf_X11_crossed (m : Int) ln lf b cm nf ls gr cl cf i j k = some o2) : o.1 = o2.1 := by
  obtain ⟨h4, h9⟩ := zno_rng p0
  unfold zf_X10_crossed at ho
  unfold zf_X11_crossed at ho2
  rw [areC_e p0 hi hj] at ho
  rw [isC_e h9 hi, isC_e h9 hj] at ho2
  simp only [Option.bind_some] at ho ho2
  by_cases c : 0 ≤ i ∧ i < (m : Int)
  · rw [decide_eq_true c, if_neg (by decide)] at ho2
    by_cases d : 0 ≤ j ∧ j < (m : Int)
    · rw [decide_eq_true ⟨c, d⟩, if_neg (by decide), if_neg hi, if_neg hj] at ho
      rw [decide_eq_true d, if_neg (by decide), if_neg hi, if_neg hj] at ho2
      by_cases e : i = j
      · rw [if_pos e] at ho ho2
        cases ho; cases ho2; rfl
      · rw [if_neg e, if_neg p0] at ho
        rw [if_neg e] at ho2
        obtain ⟨a, rfl⟩ : ∃ a : Nat, i = (a : Int) := ⟨i.toNat, by omega⟩
        obtain ⟨a', rfl⟩ : ∃ a' : Nat, j = (a' : Int) := ⟨j.toNat, by omega⟩
        obtain ⟨T, rfl⟩ := cutN h4 h9 hb
        obtain ⟨g, u, hg, hu, q1, q2, q3, q4, q5⟩ := cross_both p0 (show a < m by omega) (show a' < m by omega) (by omega) hb (cm := cm) (cl := cl) (cf := cf) hT ts tl
        rw [hg] at ho
        rw [hu] at ho2
        simp only [Option.bind_some] at ho ho2
        rw [if_neg hk] at ho ho2
        by_cases f : k = -1
        · rw [if_pos f] at ho ho2
          cases ho; cases ho2
          exact q1
        · rw [if_neg f] at ho ho2
          rw [in_e hk (by decide) (by unfold zout; omega)] at ho2
          simp only [Option.bind_some] at ho2
          unfold zf_X0_pairAt at ho
          rw [if_neg hk] at ho
          by_cases z0 : k < 0
          · rw [if_pos z0] at ho
            rw [decide_eq_false (by omega), if_pos rfl] at ho2
            cases ho; cases ho2; rfl
          · rw [if_neg z0, if_neg (by unfold zout; omega)] at ho
            by_cases z1 : k < g.1
            · rw [if_pos z1, if_neg (by omega), if_neg p0] at ho
              rw [decide_eq_true (by omega), if_neg (by decide), if_neg (by omega)] at ho2
              obtain ⟨l, l1, l2, l3, l4⟩ := q5 k.toNat (by omega)
              have r27 := lnN_27 h4 h9
              have hl' : (l : Int) < pg7 m := by unfold lnN at l1; omega
              obtain ⟨w1, w2⟩ := q4.2.2 l hl'
              rw [l3] at ho
              rw [l4, if_neg (by omega), Int.toNat_natCast, w1, w2] at ho2
              unfold zf_X5_pairOf at ho
              rw [hasLine_e h4 h9 (by omega) hl'] at ho
              simp only [Option.bind_some] at ho
              rw [if_neg (by decide), if_neg (by omega), Int.toNat_natCast] at ho
              cases ho; cases ho2; rfl
            · rw [if_neg z1] at ho
              rw [decide_eq_false (by omega), if_pos rfl] at ho2
              cases ho; cases ho2; rfl
    · rw [decide_eq_false (fun z => d z.2), if_pos rfl] at ho
      rw [decide_eq_false d, if_pos rfl] at ho2
      cases ho; cases ho2; rfl
  · rw [decide_eq_false (fun z => c z.1), if_pos rfl] at ho
    rw [decide_eq_false c, if_pos rfl] at ho2
    cases ho; cases ho2; rfl
/-- isBetween, by the way ahead -/
theorem bt_e {m i x j : Nat} (h4 : 4 ≤ m) (h9 : m ≤ 9) (hi : i < m) (hx : x < m) (hj : j < m) (hxi : ¬ x = i) (hxj : ¬ x = j) : zf_X11_isBetween (m : Int) (i : Int) (x : Int) (j : Int) = some (decide (ahN m i x < ahN m i j)) := by
  have am : ∀ y : Nat, y < m → Int.tmod ((y : Int) - (i : Int) + (m : Int)) (m : Int) = ((ahN m i y : Nat) : Int) := by
    intro y hy
    rw [tm_e (by omega)]
    unfold ahN
    by_cases c : y < i
    · rw [if_pos c, show ((y : Int) - (i : Int) + (m : Int)).toNat = y + m - i by omega, Nat.mod_eq_of_lt (by omega)]
    · rw [if_neg c, show ((y : Int) - (i : Int) + (m : Int)).toNat = (y - i) + m by omega, Nat.add_mod_right, Nat.mod_eq_of_lt (by omega)]
  have b1 : ahN m i x ≤ 20 := by unfold ahN; split <;> omega
  have b2 : ahN m i j ≤ 20 := by unfold ahN; split <;> omega
  unfold zf_X11_isBetween
  rw [am x hx, am j hj, if_neg (by unfold zout; omega), if_neg (by unfold zout; omega), if_neg (by omega), if_neg (by unfold zout; omega), if_neg (by omega), if_neg (by unfold zout; omega), if_neg (by unfold zout; omega), if_neg (by omega), if_neg (by unfold zout; omega), if_neg (by omega), if_neg (by unfold zout; omega), if_neg (by unfold zout; omega)]
  by_cases c : ahN m i x < ahN m i j
  · rw [if_neg (by omega), decide_eq_true c]
  · rw [if_pos (by omega), decide_eq_false c]
set_option maxHeartbeats 2000000 in
theorem eq_side {mk m : Nat} (p0 : ¬ zno mk m) {b : Int} (hb : isCut m b) {i j k : Int} (hi : ¬ zout i) (hj : ¬ zout j) (hk : ¬ zout k) {ts ln lf cm : Int} {tl nf ls gr cl cf : Nat} (hT : TL lf ln nf ls gr) {o : Int × Int × Nat} {o2 : zO_X11_side} (ho : zf_X10_side mk m b ts tl i j k = some o) (ho2 : zf_X11_side (m : Int) ln lf b cm nf ls gr cl cf i j k = some o2) : o.1 = o2.1 := by
  obtain ⟨h4, h9⟩ := zno_rng p0
  have hy := JE_of ho2
  have ey : zg_X11_side (m : Int) b (0, i, j, k, 0, ln, lf, cm, nf, ls, gr, cl, cf) = zg_X11_side_0 (m : Int) b i j k 0 ln lf cm nf ls gr cl cf := rfl
  unfold zg_X11_side_0 at ey
  unfold zf_X10_side at ho
  rw [areC_e p0 hi hj] at ho
  rw [isC_e h9 hi, isC_e h9 hj] at ey
  simp only [Option.bind_some] at ho ey
  by_cases c : 0 ≤ i ∧ i < (m : Int)
  · rw [decide_eq_true c, if_neg (by decide)] at ey
    by_cases d : 0 ≤ j ∧ j < (m : Int)
    · rw [decide_eq_true ⟨c, d⟩, if_neg (by decide), if_neg hi, if_neg hj] at ho
      rw [decide_eq_true d, if_neg (by decide), if_neg hi, if_neg hj] at ey
      by_cases e : i = j
      · rw [if_pos e] at ho ey
        have := JE_end ey hy
        cases ho
        rw [this]
      · rw [if_neg e, if_neg p0] at ho
        rw [if_neg e] at ey
        obtain ⟨a, rfl⟩ : ∃ a : Nat, i = (a : Int) := ⟨i.toNat, by omega⟩
        obtain ⟨a', rfl⟩ : ∃ a' : Nat, j = (a' : Int) := ⟨j.toNat, by omega⟩
        obtain ⟨T, rfl⟩ := cutN h4 h9 hb
        have ha : a < m := by omega
        have ha' : a' < m := by omega
        have haa : ¬ a = a' := by omega
        obtain ⟨g, u, hg, hu, q1, q2, q3, q4, q5⟩ := cross_both p0 ha ha' haa hb (cm := cm) (cl := cl) (cf := cf) hT ts tl
        rw [hg] at ho
        rw [hu] at ey
        simp only [Option.bind_some] at ho ey
        rw [in_e hk (by decide) (by unfold zout; omega)] at ey
        simp only [Option.bind_some] at ey
        unfold zf_X0_sharedWithNext at ho
        rw [if_neg hk] at ho
        by_cases z0 : k < 0
        · rw [if_pos z0] at ho
          simp only [Option.bind_some] at ho
          rw [if_neg (by decide), if_pos trivial] at ho
          rw [decide_eq_false (by omega), if_pos rfl] at ey
          have := JE_end ey hy
          cases ho
          rw [this]
        · rw [if_neg z0, if_neg (by unfold zout; omega)] at ho
          by_cases z1 : k < g.1 - 1
          · rw [if_pos z1, if_neg (by omega), if_neg p0] at ho
            rw [decide_eq_true (by omega), if_neg (by decide), if_neg (by omega), if_neg (by omega)] at ey
            obtain ⟨l, l1, l2, l3, l4⟩ := q5 k.toNat (by omega)
            obtain ⟨n, n1, n2, n3, n4⟩ := q5 (k + 1).toNat (by omega)
            have r27 := lnN_27 h4 h9
            have hl' : (l : Int) < pg7 m := by unfold lnN at l1; omega
            have hn' : (n : Int) < pg7 m := by unfold lnN at n1; omega
            obtain ⟨w1, w2⟩ := q4.2.2 l hl'
            obtain ⟨v1, v2⟩ := q4.2.2 n hn'
            obtain ⟨s1, s2, s3, s4⟩ := les_e h4 h9 l1
            obtain ⟨t1, t2, t3, t4⟩ := les_e h4 h9 n1
            have kc := ((key_c h4 h9 ha ha' haa l1).2 l2).2.1
            have a1 := rpg1 h4 h9 l (by omega)
            have a2 := rpg2 h4 h9 l (by omega)
            have b1 := rpg1 h4 h9 n (by omega)
            have b2 := rpg2 h4 h9 n (by omega)
            have x1 : (((zget (pg1 m) l).toNat : Nat) : Int) = zget (pg1 m) l := by omega
            have x2 : (((zget (pg2 m) l).toNat : Nat) : Int) = zget (pg2 m) l := by omega
            have y1 : (((zget (pg1 m) n).toNat : Nat) : Int) = zget (pg1 m) n := by omega
            have y2 : (((zget (pg2 m) n).toNat : Nat) : Int) = zget (pg2 m) n := by omega
            rw [l3, s1, n3] at ho
            simp only [Option.bind_some] at ho
            rw [if_neg (by omega), t1] at ho
            simp only [Option.bind_some] at ho
            rw [t2] at ho
            simp only [Option.bind_some] at ho
            rw [if_neg (by unfold zout; omega), if_neg (by unfold zout; omega)] at ho
            rw [l4, n4, if_neg (by omega), if_neg (by omega), Int.toNat_natCast, Int.toNat_natCast, w1, w2, v1, v2] at ey
            -- the corner that both have
            have fin : ∀ x : Nat, x < m → ¬ x = a → ¬ x = a' → ∀ (A : Int × Nat → Int × Int × Nat), (Option.bind (some (x : Int)) (fun o6 => if zout o6 then none else if o6 = (-1 : Int) then some ((-1 : Int), g.1, g.2) else Option.bind (zf_X5_ahead m (a : Int) o6) (fun o8 => Option.bind (zf_X5_ahead m (a : Int) (a' : Int)) (fun o9 => if zout o8 then none else if zout o9 then none else if o9 ≤ o8 then some ((1 : Int), g.1, g.2) else some ((0 : Int), g.1, g.2))))) = some o → o.1 = if ahN m a x < ahN m a a' then 0 else 1 := by
              intro x hx hxa hxa' _ h
              have c1 : ahN m a x ≤ 20 := by unfold ahN; split <;> omega
              have c2 : ahN m a a' ≤ 20 := by unfold ahN; split <;> omega
              simp only [Option.bind_some] at h
              rw [if_neg (by unfold zout; omega), if_neg (by omega), ah_e h9 ha hx, ah_e h9 ha ha'] at h
              simp only [Option.bind_some] at h
              rw [if_neg (by unfold zout; omega), if_neg (by unfold zout; omega)] at h
              by_cases z : ahN m a x < ahN m a a'
              · rw [if_neg (by omega)] at h
                cases h
                rw [if_pos z]
              · rw [if_pos (by omega)] at h
                cases h
                rw [if_neg z]
            have low : ∀ x : Int, (zg_X11_side (m : Int) (T : Int) (0, (a : Int), (a' : Int), k, 0, ln, lf, cm, nf, ls, gr, cl, cf) = some (.inr (98, (a : Int), (a' : Int), k, (l : Int), u.1, u.2.1, u.2.2.1, u.2.2.2.1, u.2.2.2.2.1, u.2.2.2.2.2.1, u.2.2.2.2.2.2.1, u.2.2.2.2.2.2.2))) → o2.1 = if ahN m a (zget (pg1 m) l).toNat < ahN m a a' then 0 else 1 := by
              intro _ h
              have hy := JE_dn h hy
              have bt := bt_e h4 h9 ha s3 ha' (by omega) (by omega)
              rw [x1] at bt
              by_cases z : ahN m a (zget (pg1 m) l).toNat < ahN m a a'
              · have e := JE_end (o' := ((0 : Int), u.1, u.2.1, u.2.2.1, u.2.2.2.1, u.2.2.2.2.1, u.2.2.2.2.2.1, u.2.2.2.2.2.2.1, u.2.2.2.2.2.2.2)) (by
                  show zg_X11_side_98 (m : Int) (T : Int) (a : Int) (a' : Int) k (l : Int) u.1 u.2.1 u.2.2.1 u.2.2.2.1 u.2.2.2.2.1 u.2.2.2.2.2.1 u.2.2.2.2.2.2.1 u.2.2.2.2.2.2.2 = _
                  unfold zg_X11_side_98
                  rw [if_neg (by omega), Int.toNat_natCast, w1, bt, decide_eq_true z]
                  rfl) hy
                rw [e, if_pos z]
              · have e := JE_end (o' := ((1 : Int), u.1, u.2.1, u.2.2.1, u.2.2.2.1, u.2.2.2.2.1, u.2.2.2.2.2.1, u.2.2.2.2.2.2.1, u.2.2.2.2.2.2.2)) (by
                  show zg_X11_side_98 (m : Int) (T : Int) (a : Int) (a' : Int) k (l : Int) u.1 u.2.1 u.2.2.1 u.2.2.2.1 u.2.2.2.2.1 u.2.2.2.2.2.1 u.2.2.2.2.2.2.1 u.2.2.2.2.2.2.2 = _
                  unfold zg_X11_side_98
                  rw [if_neg (by omega), Int.toNat_natCast, w1, bt, decide_eq_false z]
                  rfl) hy
                rw [e, if_neg z]
            by_cases f1 : zget (pg1 m) l = zget (pg1 m) n
            · rw [if_pos (by omega)] at ho
              rw [if_pos f1] at ey
              rw [fin _ s3 (by omega) (by omega) (fun p => (0, p.1, p.2)) ho, low 0 ey]
            · rw [if_neg (by omega), if_neg (by unfold zout; omega)] at ho
              rw [if_neg f1] at ey
              by_cases f2 : zget (pg1 m) l = zget (pg2 m) n
              · rw [if_pos (by omega)] at ho
                rw [if_pos f2] at ey
                rw [fin _ s3 (by omega) (by omega) (fun p => (0, p.1, p.2)) ho, low 0 ey]
              · rw [if_neg (by omega), s2] at ho
                rw [if_neg f2] at ey
                have bt := bt_e h4 h9 ha s4 ha' (by omega) (by omega)
                rw [x2] at bt
                rw [bt] at ey
                simp only [Option.bind_some] at ey
                rw [fin _ s4 (by omega) (by omega) (fun p => (0, p.1, p.2)) ho]
                by_cases z : ahN m a (zget (pg2 m) l).toNat < ahN m a a'
                · rw [decide_eq_true z, if_neg (by decide)] at ey
                  have := JE_end ey hy
                  rw [this, if_pos z]
                · rw [decide_eq_false z, if_pos rfl] at ey
                  have := JE_end ey hy
                  rw [this, if_neg z]
          · rw [if_neg z1] at ho
            simp only [Option.bind_some] at ho
            rw [if_neg (by decide), if_pos trivial] at ho
            rw [decide_eq_false (by omega), if_pos rfl] at ey
            have := JE_end ey hy
            cases ho
            rw [this]
    · rw [decide_eq_false (fun z => d z.2), if_pos rfl] at ho
      rw [decide_eq_false d, if_pos rfl] at ey
      have := JE_end ey hy
      cases ho
      rw [this]
  · rw [decide_eq_false (fun z => c z.1), if_pos rfl] at ho
    rw [decide_eq_false c, if_pos rfl] at ey
    have := JE_end ey hy
    cases ho
    rw [this]
