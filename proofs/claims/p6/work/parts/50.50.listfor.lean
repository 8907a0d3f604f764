/-! listFor from any state, out of a canonical run -/
theorem lf_gen {i1 a b c d a1 b1 m : Int} {e f g l e1 f1 g1 l1 : Nat} (h : zf_X11_linesOf a b e f g i1 = some (a1, b1, e1, f1, g1)) (h1 : ¬ zout d) (h2 : ¬ zout i1) (h3 : ¬ d = i1) (h4 : zf_X11_grow 9 a1 0 f1 g1 l i1 0 0 0 = some (m, l1)) : zg_X11_listFor (0, i1, 0, 0, 0, a, b, c, d, e, f, g, l) = some (.inr (34, i1, 1, 0, 0, a1, b1, m, i1, e1, f1, g1, l1)) := by
  show zg_X11_listFor_0 i1 0 0 0 a b c d e f g l = _
  unfold zg_X11_listFor_0
  rw [h]
  simp only [Option.bind_some]
  rw [if_neg h1, if_neg h2, if_neg h3, h4]
  rfl
theorem lf_same {i1 a b c d a1 b1 : Int} {e f g l e1 f1 g1 : Nat} (h : zf_X11_linesOf a b e f g i1 = some (a1, b1, e1, f1, g1)) (h1 : ¬ zout d) (h2 : ¬ zout i1) (h3 : d = i1) : zg_X11_listFor (0, i1, 0, 0, 0, a, b, c, d, e, f, g, l) = some (.inl (a1, b1, c, d, e1, f1, g1, l)) := by
  show zg_X11_listFor_0 i1 0 0 0 a b c d e f g l = _
  unfold zg_X11_listFor_0
  rw [h]
  simp only [Option.bind_some]
  rw [if_neg h1, if_neg h2, if_pos h3]
theorem jstep_l {S O : Type} (f : S → Option O) (o : O) : jstep f (some (.inl o)) = some o := rfl
theorem ok_listFor (m : Nat) (h4 : 4 ≤ m) (h9 : m ≤ 9) {ls0 gr0 nf0 L0 Lg F : Nat} {ln0 lf0 lc0 : Int} {o0 : zO_X11_listFor} (hl0 : LL m ls0 gr0 (pg7 m)) (hg : zf_X11_grow 9 (pg7 m) 0 ls0 gr0 L0 (m : Int) 0 0 0 = some (pg8 m, Lg)) (hs : jrun zg_X11_listFor F (34, (m : Int), 1, 0, 0, ln0, lf0, pg8 m, lc0, nf0, ls0, gr0, Lg) = some o0) (hF : F ≤ 999999999) (hc : ∀ k : Nat, (k : Int) < pg8 m → zgetL o0.2.2.2.2.2.2.2 k = zget (pg6 m) k)
    (ln lf lm lc : Int) (nf ls gr li : Nat) (hf1 : -2147483648 ≤ lf) (hf2 : lf ≤ 2147483647) (hd1 : -2147483648 ≤ lc) (hd2 : lc ≤ 2147483647) (hT : lf = (m : Int) → LT m ln nf ls gr) (hI : lc = (m : Int) → lm = pg8 m ∧ ∀ k : Nat, (k : Int) < pg8 m → zgetL li k = zget (pg6 m) k) :
    Go (fun o => o.2.1 = (m : Int) ∧ LT m o.1 o.2.2.2.2.1 o.2.2.2.2.2.1 o.2.2.2.2.2.2.1 ∧ o.2.2.1 = pg8 m ∧ o.2.2.2.1 = (m : Int) ∧ ∀ k : Nat, (k : Int) < pg8 m → zgetL o.2.2.2.2.2.2.2 k = zget (pg6 m) k) (zf_X11_listFor ln lf lm lc nf ls gr li (m : Int)) := by
  obtain ⟨⟨a1, b1, e1, f1, g1⟩, ho, q1, q2⟩ := ok_linesOf m h4 h9 ln lf nf ls gr hf1 hf2 hT
  have q1 : b1 = (m : Int) := q1
  have q2 : LT m a1 e1 f1 g1 := q2
  have z1 : ¬ zout lc := by unfold zout; omega
  have z2 : ¬ zout (m : Int) := by unfold zout; omega
  unfold zf_X11_listFor
  rw [jrun_u]
  by_cases e : lc = (m : Int)
  · rw [lf_same ho z1 z2 e, jstep_l]
    exact ⟨_, rfl, q1, q2, (hI e).1, e, (hI e).2⟩
  · have hL : ∀ t : Nat, (t : Int) < pg7 m → zget f1 t = zget ls0 t ∧ zget g1 t = zget gr0 t := fun t ht => ⟨(q2.2.2 t ht).1.trans (hl0 t ht).1.symm, (q2.2.2 t ht).2.trans (hl0 t ht).2.symm⟩
    obtain ⟨l1, r1, -, r3⟩ := grow_sim hL 9 0 li L0 (m : Int) 0 0 0 (pg8 m) Lg hg (by decide) (by decide) (fun k hk => absurd hk (by omega))
    rw [← q2.1] at r1
    rw [lf_gen ho z1 z2 e r1, jstep_r]
    obtain ⟨l2, s1, s2⟩ := so_run (ln := a1) (lf := b1) (lc := (m : Int)) (nf := e1) (ls := f1) (gr := g1) F 34 (m : Int) 1 0 0 l1 Lg o0 (Or.inl ⟨rfl, by decide⟩) r3 hs
    exact ⟨_, jrun_le s1 hF, q1, q2, rfl, rfl, fun k hk => (s2 k hk).trans (hc k hk)⟩
