/-! rows of numbers: both sides read the same -/
set_option maxHeartbeats 1000000 in
theorem rn_eq {B : Nat} {len : Int} (l0 : 0 ≤ len) (l3 : len ≤ 300) (hB : BR B) : ∀ (m : Nat) (i nx kd pl va : Int) (q : Nat) (n k a v s u w tp : Int) (t : Nat) (o : zO_X8_readNumbers) (o2 : zO_X11_readRow), i + (m : Int) = 10 → 0 ≤ i → zf_X8_readToken len nx kd pl va B = some (n, k, a, v) → KM k s → (k = 2 → v = u ∧ 0 ≤ v ∧ v ≤ 999) → 0 ≤ n → n ≤ len → (∀ j : Nat, (j : Int) < i → zget q j = zget t j ∧ 0 ≤ zget t j ∧ zget t j ≤ 999) → JE (zg_X8_readNumbers len B) (6, i, nx, kd, pl, va, q) o → JE (zg_X11_readRow B) (9, tp, len, s, a, n, u, w, i, t) o2 → o.1 = o2.1 ∧ -1 ≤ o.1 ∧ o.1 ≤ 10 ∧ o2.2.1 = tp ∧ ∀ j : Nat, (j : Int) < o.1 → zget o.2.2.2.2.2 j = zget o2.2.2.2.2.2.2.2.2.2 j ∧ 0 ≤ zget o2.2.2.2.2.2.2.2.2.2 j ∧ zget o2.2.2.2.2.2.2.2.2.2 j ≤ 999 := by
  intro m
  induction m with
  | zero =>
    intro i nx kd pl va q n k a v s u w tp t o o2 hi h0 ht hk hv hn0 hn1 hq hx hy
    have hi : i = 10 := by omega
    subst hi
    rcases hk with ⟨rfl, rfl⟩ | ⟨rfl, rfl⟩ | ⟨rfl, rfl⟩ | ⟨rfl, rfl⟩ | ⟨rfl, rfl⟩
    · have e1 := JE_end (o' := (10, n, 0, a, v, q)) (by
        show zg_X8_readNumbers_6 len B 10 nx kd pl va q = _
        unfold zg_X8_readNumbers_6
        rw [if_neg (by decide), if_neg (by decide), ht]
        simp only [Option.bind_some]
        rw [if_neg (by decide), if_pos trivial]) hx
      have e2 := JE_end (o' := (10, tp, len, 4, a, n, u, w, 10, t)) (by
        show zg_X11_readRow_9 B tp len 4 a n u w 10 t = _
        unfold zg_X11_readRow_9
        rw [if_neg (by decide), if_neg (by decide), if_pos rfl]) hy
      subst e1 e2
      exact ⟨rfl, by show (-1 : Int) ≤ 10; decide, by show (10 : Int) ≤ 10; decide, rfl, hq⟩
    · have e1 := JE_end (o' := (-1, n, 1, a, v, q)) (by
        show zg_X8_readNumbers_6 len B 10 nx kd pl va q = _
        unfold zg_X8_readNumbers_6
        rw [if_neg (by decide), if_neg (by decide), ht]
        simp only [Option.bind_some]
        rw [if_neg (by decide), if_neg (by decide), if_neg (by decide)]) hx
      have e2 := JE_end (o' := (-1, tp, len, 1, a, n, u, w, 10, t)) (by
        show zg_X11_readRow_9 B tp len 1 a n u w 10 t = _
        unfold zg_X11_readRow_9
        rw [if_neg (by decide), if_neg (by decide), if_neg (by decide)]) hy
      subst e1 e2
      exact ⟨rfl, by show (-1 : Int) ≤ -1; decide, by show (-1 : Int) ≤ 10; decide, rfl, fun j hj => absurd hj (by show ¬ (j : Int) < -1; omega)⟩
    · have e1 := JE_end (o' := (-1, n, 2, a, v, q)) (by
        show zg_X8_readNumbers_6 len B 10 nx kd pl va q = _
        unfold zg_X8_readNumbers_6
        rw [if_neg (by decide), if_neg (by decide), ht]
        simp only [Option.bind_some]
        rw [if_neg (by decide), if_neg (by decide), if_pos trivial, if_pos trivial]) hx
      have e2 := JE_end (o' := (-1, tp, len, 2, a, n, u, w, 10, t)) (by
        show zg_X11_readRow_9 B tp len 2 a n u w 10 t = _
        unfold zg_X11_readRow_9
        rw [if_neg (by decide), if_pos rfl, if_neg (by decide), if_pos rfl]) hy
      subst e1 e2
      exact ⟨rfl, by show (-1 : Int) ≤ -1; decide, by show (-1 : Int) ≤ 10; decide, rfl, fun j hj => absurd hj (by show ¬ (j : Int) < -1; omega)⟩
    · have e1 := JE_end (o' := (-1, n, 3, a, v, q)) (by
        show zg_X8_readNumbers_6 len B 10 nx kd pl va q = _
        unfold zg_X8_readNumbers_6
        rw [if_neg (by decide), if_neg (by decide), ht]
        simp only [Option.bind_some]
        rw [if_neg (by decide), if_neg (by decide), if_neg (by decide)]) hx
      have e2 := JE_end (o' := (-1, tp, len, 3, a, n, u, w, 10, t)) (by
        show zg_X11_readRow_9 B tp len 3 a n u w 10 t = _
        unfold zg_X11_readRow_9
        rw [if_neg (by decide), if_neg (by decide), if_neg (by decide)]) hy
      subst e1 e2
      exact ⟨rfl, by show (-1 : Int) ≤ -1; decide, by show (-1 : Int) ≤ 10; decide, rfl, fun j hj => absurd hj (by show ¬ (j : Int) < -1; omega)⟩
    · have e1 := JE_end (o' := (-1, n, 4, a, v, q)) (by
        show zg_X8_readNumbers_6 len B 10 nx kd pl va q = _
        unfold zg_X8_readNumbers_6
        rw [if_neg (by decide), if_neg (by decide), ht]
        simp only [Option.bind_some]
        rw [if_neg (by decide), if_neg (by decide), if_neg (by decide)]) hx
      have e2 := JE_end (o' := (-1, tp, len, 0, a, n, u, w, 10, t)) (by
        show zg_X11_readRow_9 B tp len 0 a n u w 10 t = _
        unfold zg_X11_readRow_9
        rw [if_neg (by decide), if_neg (by decide), if_neg (by decide)]) hy
      subst e1 e2
      exact ⟨rfl, by show (-1 : Int) ≤ -1; decide, by show (-1 : Int) ≤ 10; decide, rfl, fun j hj => absurd hj (by show ¬ (j : Int) < -1; omega)⟩
  | succ m ih =>
    intro i nx kd pl va q n k a v s u w tp t o o2 hi h0 ht hk hv hn0 hn1 hq hx hy
    have hi9 : i < 10 := by omega
    have bad : ∀ k s : Int, ¬ k = 0 → ¬ k = 2 → ¬ zout k → ¬ s = 2 → ¬ s = 4 → ¬ zout s → zf_X8_readToken len nx kd pl va B = some (n, k, a, v) → JE (zg_X11_readRow B) (9, tp, len, s, a, n, u, w, i, t) o2 → o.1 = o2.1 ∧ -1 ≤ o.1 ∧ o.1 ≤ 10 ∧ o2.2.1 = tp ∧ ∀ j : Nat, (j : Int) < o.1 → zget o.2.2.2.2.2 j = zget o2.2.2.2.2.2.2.2.2.2 j ∧ 0 ≤ zget o2.2.2.2.2.2.2.2.2.2 j ∧ zget o2.2.2.2.2.2.2.2.2.2 j ≤ 999 := by
      intro k s k0 k2 kz s2 s4 sz ht hy
      have e1 := JE_end (o' := (-1, n, k, a, v, q)) (by
        show zg_X8_readNumbers_6 len B i nx kd pl va q = _
        unfold zg_X8_readNumbers_6
        rw [if_neg (by unfold zout; omega), if_neg (by omega), ht]
        simp only [Option.bind_some]
        rw [if_neg kz, if_neg k0, if_neg k2]) hx
      have e2 := JE_end (o' := (-1, tp, len, s, a, n, u, w, i, t)) (by
        show zg_X11_readRow_9 B tp len s a n u w i t = _
        unfold zg_X11_readRow_9
        rw [if_neg sz, if_neg s2, if_neg s4]) hy
      subst e1 e2
      exact ⟨rfl, by show (-1 : Int) ≤ -1; decide, by show (-1 : Int) ≤ 10; decide, rfl, fun j hj => absurd hj (by show ¬ (j : Int) < -1; omega)⟩
    rcases hk with ⟨rfl, rfl⟩ | ⟨rfl, rfl⟩ | ⟨rfl, rfl⟩ | ⟨rfl, rfl⟩ | ⟨rfl, rfl⟩
    · have e1 := JE_end (o' := (i, n, 0, a, v, q)) (by
        show zg_X8_readNumbers_6 len B i nx kd pl va q = _
        unfold zg_X8_readNumbers_6
        rw [if_neg (by unfold zout; omega), if_neg (by omega), ht]
        simp only [Option.bind_some]
        rw [if_neg (by decide), if_pos trivial]) hx
      have e2 := JE_end (o' := (i, tp, len, 4, a, n, u, w, i, t)) (by
        show zg_X11_readRow_9 B tp len 4 a n u w i t = _
        unfold zg_X11_readRow_9
        rw [if_neg (by decide), if_neg (by decide), if_pos rfl]) hy
      subst e1 e2
      exact ⟨rfl, by show (-1 : Int) ≤ i; omega, by show i ≤ 10; omega, rfl, hq⟩
    · exact bad 1 1 (by decide) (by decide) (by decide) (by decide) (by decide) (by decide) ht hy
    · obtain ⟨rfl, v0, v9⟩ := hv rfl
      obtain ⟨k', a', n', v', s', u', w', t1, t2, t3, t4, t5, t6, t7, t8, -, -⟩ := tok_eq l0 l3 hn0 hn1 hB 2 a v 2 a v w
      have hx' := JE_dn (s' := (6, i + 1, n, 2, a, v, zset q (Int.toNat i) v)) (by
        show zg_X8_readNumbers_6 len B i nx kd pl va q = _
        unfold zg_X8_readNumbers_6
        rw [if_neg (by unfold zout; omega), if_neg (by omega), ht]
        simp only [Option.bind_some]
        rw [if_neg (by decide), if_neg (by decide), if_pos trivial, if_neg (by omega), if_neg (by omega)]) hx
      have hy' := JE_dn (s' := (9, tp, len, s', a', n', u', w', i + 1, zset t (Int.toNat i) v)) (by
        show zg_X11_readRow_9 B tp len 2 a n v w i t = _
        unfold zg_X11_readRow_9
        rw [if_neg (by decide), if_pos rfl, if_neg (by unfold zout; omega), if_neg (by omega), if_neg (by omega), t2]
        rfl) hy
      refine ih (i + 1) n 2 a v (zset q (Int.toNat i) v) n' k' a' v' s' u' w' tp (zset t (Int.toNat i) v) o o2 (by omega) (by omega) t1 t3 t4 (by omega) t6 ?_ hx' hy'
      intro j hj
      rw [zget_set, zget_set]
      by_cases e : j = Int.toNat i
      · rw [if_pos e, if_pos e, zw_id (by unfold zout; omega)]
        exact ⟨rfl, v0, v9⟩
      · rw [if_neg e, if_neg e]
        exact hq j (by omega)
    · exact bad 3 3 (by decide) (by decide) (by decide) (by decide) (by decide) (by decide) ht hy
    · exact bad 4 0 (by decide) (by decide) (by decide) (by decide) (by decide) (by decide) ht hy
theorem row_eq {B : Nat} {len : Int} (l0 : 0 ≤ len) (l3 : len ≤ 300) (hB : BR B) {nx kd pl va : Int} {q : Nat} {sz so at_ en nu wo rm : Int} {t : Nat} {o : zO_X8_readNumbers} {o2 : zO_X11_readRow} (ho : zf_X8_readNumbers len nx kd pl va B q = some o) (ho2 : zf_X11_readRow len sz so at_ en nu wo rm B t = some o2) : o.1 = o2.1 ∧ -1 ≤ o.1 ∧ o.1 ≤ 10 ∧ o2.2.1 = 0 ∧ ∀ j : Nat, (j : Int) < o.1 → zget o.2.2.2.2.2 j = zget o2.2.2.2.2.2.2.2.2.2 j ∧ 0 ≤ zget o2.2.2.2.2.2.2.2.2.2 j ∧ zget o2.2.2.2.2.2.2.2.2.2 j ≤ 999 := by
  have hx := JE_dn (s' := (6, 0, 0, kd, pl, va, q)) (by
    show zg_X8_readNumbers_0 len B 0 nx kd pl va q = _
    unfold zg_X8_readNumbers_0 zf_X8_rewind
    rfl) (JE_of ho)
  obtain ⟨k', a', n', v', s', u', w', t1, t2, t3, t4, t5, t6, t7, t8, -, -⟩ := tok_eq l0 l3 (Int.le_refl 0) l0 hB kd pl va so at_ nu wo
  have hy := JE_dn (s' := (9, 0, len, s', a', n', u', w', 0, t)) (by
    show zg_X11_readRow_0 B len sz so at_ en nu wo rm t = _
    unfold zg_X11_readRow_0 zf_X11_begin
    rw [t2]
    rfl) (JE_of ho2)
  exact rn_eq l0 l3 hB 10 0 0 kd pl va q n' k' a' v' s' u' w' 0 t o o2 (by decide) (by decide) t1 t3 t4 (by omega) t6 (fun j hj => absurd hj (by omega)) hx hy
/-! the word -/
theorem zww_iff {len a : Int} {B : Nat} (h0 : 0 ≤ a) (h7 : a + 7 ≤ len) (l3 : len ≤ 300) : ∀ n : Nat, n ≤ 7 → ∃ b : Bool, zww len a B n = some b ∧ (b = true ↔ ∀ j : Nat, j < n → zget B (Int.toNat (a + (6 - (j : Int)))) = zSI (6 - j)) := by
  intro n
  induction n with
  | zero => intro _; exact ⟨true, rfl, ⟨fun _ j hj => absurd hj (by omega), fun _ => rfl⟩⟩
  | succ n ih =>
    intro hn
    obtain ⟨b, hb, hi⟩ := ih (by omega)
    have e : zww len a B (n + 1) = (match decide (a + (6 - (n : Int)) < len) with
      | false => some true
      | true => match decide (a + (6 - (n : Int)) < 0 ∨ 300 ≤ a + (6 - (n : Int))) with
        | true => none
        | false => match decide (zget B (Int.toNat (a + (6 - (n : Int)))) = zSI (6 - n)) with
          | true => zww len a B n
          | false => some false) := rfl
    rw [e, decide_eq_true (show a + (6 - (n : Int)) < len by omega), decide_eq_false (show ¬ (a + (6 - (n : Int)) < 0 ∨ 300 ≤ a + (6 - (n : Int))) by omega)]
    by_cases c : zget B (Int.toNat (a + (6 - (n : Int)))) = zSI (6 - n)
    · rw [decide_eq_true c]
      refine ⟨b, hb, ?_⟩
      rw [hi]
      constructor
      · intro h j hj
        by_cases z : j = n
        · rw [z]; exact c
        · exact h j (by omega)
      · intro h j hj
        exact h j (by omega)
    · rw [decide_eq_false c]
      refine ⟨false, rfl, ⟨(fun h => by cases h), fun h => absurd (h n (by omega)) c⟩⟩
set_option maxHeartbeats 1000000 in
theorem word_eq {B : Nat} {len n a w : Int} (l3 : len ≤ 300) (h0 : 0 ≤ a) (hn : n ≤ len) (hw : w = hor B a (n - a).toNat) (h8 : n - a ≤ 8) (h1 : a < n) (hl : ∀ q : Int, a ≤ q → q < n → isLe (zget B q.toNat)) : zf_X8_isWordF len n 1 a B = some (decide (w = 3743880787)) := by
  have s0 : hor B a 0 = 0 := rfl
  have s1 : hor B a 1 = 32 * hor B a 0 + zget B (Int.toNat (a + ((0 : Nat) : Int))) - 97 + 1 := rfl
  have s2 : hor B a 2 = 32 * hor B a 1 + zget B (Int.toNat (a + ((1 : Nat) : Int))) - 97 + 1 := rfl
  have s3 : hor B a 3 = 32 * hor B a 2 + zget B (Int.toNat (a + ((2 : Nat) : Int))) - 97 + 1 := rfl
  have s4 : hor B a 4 = 32 * hor B a 3 + zget B (Int.toNat (a + ((3 : Nat) : Int))) - 97 + 1 := rfl
  have s5 : hor B a 5 = 32 * hor B a 4 + zget B (Int.toNat (a + ((4 : Nat) : Int))) - 97 + 1 := rfl
  have s6 : hor B a 6 = 32 * hor B a 5 + zget B (Int.toNat (a + ((5 : Nat) : Int))) - 97 + 1 := rfl
  have s7 : hor B a 7 = 32 * hor B a 6 + zget B (Int.toNat (a + ((6 : Nat) : Int))) - 97 + 1 := rfl
  have s8 : hor B a 8 = 32 * hor B a 7 + zget B (Int.toNat (a + ((7 : Nat) : Int))) - 97 + 1 := rfl
  have g : ∀ j : Nat, a + (j : Int) < n → 97 ≤ zget B (Int.toNat (a + (j : Int))) ∧ zget B (Int.toNat (a + (j : Int))) ≤ 122 := fun j hj => hl (a + (j : Int)) (by omega) hj
  unfold zf_X8_isWordF
  rw [if_neg (by decide), if_pos rfl, if_neg (by unfold zout; omega)]
  by_cases e7 : n - a = 7
  · rw [if_pos e7, if_neg (by unfold zout; omega)]
    obtain ⟨b, hb, hi⟩ := zww_iff (B := B) h0 (show a + 7 ≤ len by omega) l3 7 (Nat.le_refl _)
    rw [hb]
    have w7 : w = hor B a 7 := by rw [hw, show (n - a).toNat = 7 by omega]
    have g0 := g 0 (by omega)
    have g1 := g 1 (by omega)
    have g2 := g 2 (by omega)
    have g3 := g 3 (by omega)
    have g4 := g 4 (by omega)
    have g5 := g 5 (by omega)
    have g6 := g 6 (by omega)
    have x0 : a + (6 - ((6 : Nat) : Int)) = a + ((0 : Nat) : Int) := by omega
    have x1 : a + (6 - ((5 : Nat) : Int)) = a + ((1 : Nat) : Int) := by omega
    have x2 : a + (6 - ((4 : Nat) : Int)) = a + ((2 : Nat) : Int) := by omega
    have x3 : a + (6 - ((3 : Nat) : Int)) = a + ((3 : Nat) : Int) := by omega
    have x4 : a + (6 - ((2 : Nat) : Int)) = a + ((4 : Nat) : Int) := by omega
    have x5 : a + (6 - ((1 : Nat) : Int)) = a + ((5 : Nat) : Int) := by omega
    have x6 : a + (6 - ((0 : Nat) : Int)) = a + ((6 : Nat) : Int) := by omega
    have z0 : zSI (6 - 6) = 99 := rfl
    have z1 : zSI (6 - 5) = 111 := rfl
    have z2 : zSI (6 - 4) = 114 := rfl
    have z3 : zSI (6 - 3) = 110 := rfl
    have z4 : zSI (6 - 2) = 101 := rfl
    have z5 : zSI (6 - 1) = 114 := rfl
    have z6 : zSI (6 - 0) = 115 := rfl
    by_cases ew : w = 3743880787
    · rw [decide_eq_true ew]
      have : b = true := by
        rw [hi]
        intro j hj
        have hj7 : j = 0 ∨ j = 1 ∨ j = 2 ∨ j = 3 ∨ j = 4 ∨ j = 5 ∨ j = 6 := by omega
        rcases hj7 with rfl | rfl | rfl | rfl | rfl | rfl | rfl
        · rw [x6, z6]; omega
        · rw [x5, z5]; omega
        · rw [x4, z4]; omega
        · rw [x3, z3]; omega
        · rw [x2, z2]; omega
        · rw [x1, z1]; omega
        · rw [x0, z0]; omega
      rw [this]
    · rw [decide_eq_false ew]
      cases b with
      | false => rfl
      | true =>
        exfalso
        apply ew
        have f := hi.mp rfl
        have f0 := f 0 (by decide)
        have f1 := f 1 (by decide)
        have f2 := f 2 (by decide)
        have f3 := f 3 (by decide)
        have f4 := f 4 (by decide)
        have f5 := f 5 (by decide)
        have f6 := f 6 (by decide)
        rw [x6, z6] at f0
        rw [x5, z5] at f1
        rw [x4, z4] at f2
        rw [x3, z3] at f3
        rw [x2, z2] at f4
        rw [x1, z1] at f5
        rw [x0, z0] at f6
        omega
  · rw [if_neg e7]
    have ew : ¬ w = 3743880787 := by
      have hm : (n - a).toNat = 1 ∨ (n - a).toNat = 2 ∨ (n - a).toNat = 3 ∨ (n - a).toNat = 4 ∨ (n - a).toNat = 5 ∨ (n - a).toNat = 6 ∨ (n - a).toNat = 8 := by omega
      have g0 := g 0 (by omega)
      rcases hm with e | e | e | e | e | e | e
      · rw [e] at hw; omega
      · have g1 := g 1 (by omega)
        rw [e] at hw; omega
      · have g1 := g 1 (by omega)
        have g2 := g 2 (by omega)
        rw [e] at hw; omega
      · have g1 := g 1 (by omega)
        have g2 := g 2 (by omega)
        have g3 := g 3 (by omega)
        rw [e] at hw; omega
      · have g1 := g 1 (by omega)
        have g2 := g 2 (by omega)
        have g3 := g 3 (by omega)
        have g4 := g 4 (by omega)
        rw [e] at hw; omega
      · have g1 := g 1 (by omega)
        have g2 := g 2 (by omega)
        have g3 := g 3 (by omega)
        have g4 := g 4 (by omega)
        have g5 := g 5 (by omega)
        rw [e] at hw; omega
      · have g1 := g 1 (by omega)
        have g2 := g 2 (by omega)
        have g3 := g 3 (by omega)
        have g4 := g 4 (by omega)
        have g5 := g 5 (by omega)
        have g6 := g 6 (by omega)
        have g7 := g 7 (by omega)
        rw [e] at hw; omega
    rw [decide_eq_false ew]
