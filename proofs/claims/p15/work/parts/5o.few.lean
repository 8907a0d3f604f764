/-! fewest, farthest -/
theorem JE_post {S O : Type} {g : S → Option (O ⊕ S)} (Inv : S → Prop) (Post : O → Prop) (h1 : ∀ s o, Inv s → g s = some (.inl o) → Post o) (h2 : ∀ s s', Inv s → g s = some (.inr s') → Inv s') {s : S} {o : O} (hI : Inv s) (hJ : JE g s o) : Post o := by
  obtain ⟨n, hn⟩ := hJ
  induction n generalizing s with
  | zero => cases hn
  | succ n ih =>
    rw [jrun_s] at hn
    cases e : g s with
    | none => rw [e] at hn; cases hn
    | some r =>
      rw [e] at hn
      cases r with
      | inl o' =>
        have hn : some o' = some o := hn
        cases hn
        exact h1 s o hI e
      | inr s' => exact ih (h2 s s' hI e) hn
theorem lay_tot {mk m : Nat} {tot : Int} {o : zO_X4_layWay} {a b h f w q : Int} {st qu wy : Nat} (hJ : JE (zg_X4_layWay mk m) (24, a, b, tot, h, f, w, q, st, qu, wy) o) : o.1 = tot := by
  refine JE_post (fun (s : zS_X4_layWay) => s.1 = 24 ∧ s.2.2.2.1 = tot) (fun o => o.1 = tot) ?_ ?_ ⟨rfl, rfl⟩ hJ
  · intro s o hI hs
    obtain ⟨lab, i2, i3, i4, i5, i6, tw, tq, ts, tu, ty⟩ := s
    obtain ⟨e1, e2⟩ := hI
    have e1 : lab = 24 := e1
    have e2 : i4 = tot := e2
    subst e1 e2
    have hs : zg_X4_layWay_24 mk m i2 i3 i4 i5 i6 tw tq ts tu ty = some (.inl o) := hs
    unfold zg_X4_layWay_24 at hs
    by_cases c1 : zout i6
    · rw [if_pos c1] at hs; cases hs
    · rw [if_neg c1] at hs
      by_cases c2 : zout i4
      · rw [if_pos c2] at hs; cases hs
      · rw [if_neg c2] at hs
        by_cases c3 : i4 < i6
        · rw [if_pos c3] at hs; cases hs; rfl
        · rw [if_neg c3] at hs
          by_cases c4 : (429 : Int) ≤ i6
          · rw [if_pos c4] at hs; cases hs; rfl
          · rw [if_neg c4] at hs
            by_cases c5 : i6 < 0 ∨ 429 ≤ i6
            · rw [if_pos c5] at hs; cases hs
            · rw [if_neg c5] at hs
              cases e : zf_X4_leastNearer mk ts m i5 with
              | none => rw [e] at hs; cases hs
              | some r => rw [e] at hs; cases hs
  · intro s s' hI hs
    obtain ⟨lab, i2, i3, i4, i5, i6, tw, tq, ts, tu, ty⟩ := s
    obtain ⟨e1, e2⟩ := hI
    have e1 : lab = 24 := e1
    have e2 : i4 = tot := e2
    subst e1 e2
    have hs : zg_X4_layWay_24 mk m i2 i3 i4 i5 i6 tw tq ts tu ty = some (.inr s') := hs
    unfold zg_X4_layWay_24 at hs
    by_cases c1 : zout i6
    · rw [if_pos c1] at hs; cases hs
    · rw [if_neg c1] at hs
      by_cases c2 : zout i4
      · rw [if_pos c2] at hs; cases hs
      · rw [if_neg c2] at hs
        by_cases c3 : i4 < i6
        · rw [if_pos c3] at hs; cases hs
        · rw [if_neg c3] at hs
          by_cases c4 : (429 : Int) ≤ i6
          · rw [if_pos c4] at hs; cases hs
          · rw [if_neg c4] at hs
            by_cases c5 : i6 < 0 ∨ 429 ≤ i6
            · rw [if_pos c5] at hs; cases hs
            · rw [if_neg c5] at hs
              cases e : zf_X4_leastNearer mk ts m i5 with
              | none => rw [e] at hs; cases hs
              | some r => rw [e] at hs; cases hs; exact ⟨rfl, rfl⟩
theorem st_e {st : Nat} {k : Nat} (hk : k < 429) : zf_X4_stepsTo st (k : Int) = some (zget st k) := by
  unfold zf_X4_stepsTo
  rw [if_neg (by unfold zout; omega), if_neg (by omega), if_neg (by omega), if_neg (by omega), Int.toNat_natCast]
theorem ite_imp {α : Type} {c : Prop} [Decidable c] {a b x : α} {P : Prop} (ha : a = x → P) (hb : b = x → P) : (if c then a else b) = x → P := by
  by_cases h : c
  · rw [if_pos h]; exact ha
  · rw [if_neg h]; exact hb
/-- the reference's answer is the distance -/
theorem few_tot {c own : Int} {tot : Int} {o : zO_X11_fewest} {s : zS_X11_fewest} (h1 : s.1 = 63 ∨ s.1 = 83) (h2 : s.2.2.2.1 = tot) (hJ : JE (zg_X11_fewest c own) s o) : o.1 = tot := by
  refine JE_post (fun (s : zS_X11_fewest) => (s.1 = 63 ∨ s.1 = 83) ∧ s.2.2.2.1 = tot) (fun o => o.1 = tot) ?_ ?_ ⟨h1, h2⟩ hJ
  · intro s o hI hs
    obtain ⟨lab, i1, i2, i3, i4, i5, i6, i8, ln, lf, lm, lc, fo, ft, pm_, nf, ls, gr, li, fa, qu, pb⟩ := s
    obtain ⟨e1, e2⟩ := hI
    have e1 : lab = 63 ∨ lab = 83 := e1
    have e2 : i3 = tot := e2
    subst e2
    rcases e1 with rfl | rfl
    · have hs : zg_X11_fewest_63 c own i1 i2 i3 i4 i5 i6 i8 ln lf lm lc fo ft pm_ nf ls gr li fa qu pb = some (.inl o) := hs
      unfold zg_X11_fewest_63 at hs
      repeat' split at hs
      all_goals first | (cases hs; rfl) | cases hs
    · have hs : zg_X11_fewest_83 c own i1 i2 i3 i4 i5 i6 i8 ln lf lm lc fo ft pm_ nf ls gr li fa qu pb = some (.inl o) := hs
      unfold zg_X11_fewest_83 at hs
      cases e : zf_X11_flipped fo ft nf c i6 (zget ls (Int.toNat i8)) (zget gr (Int.toNat i8)) with
      | none =>
        rw [e] at hs
        simp only [Option.bind_none] at hs
        repeat' split at hs
        all_goals cases hs
      | some r =>
        rw [e] at hs
        simp only [Option.bind_some] at hs
        cases e' : zf_X11_placeOf lm li r.1 with
        | none =>
          rw [e'] at hs
          simp only [Option.bind_none] at hs
          revert hs
          repeat' (first | refine ite_imp ?_ ?_ | (intro h; cases h; done))
        | some r' =>
          rw [e'] at hs
          simp only [Option.bind_some] at hs
          revert hs
          repeat' (first | refine ite_imp ?_ ?_ | (intro h; cases h; done))
  · intro s s' hI hs
    obtain ⟨lab, i1, i2, i3, i4, i5, i6, i8, ln, lf, lm, lc, fo, ft, pm_, nf, ls, gr, li, fa, qu, pb⟩ := s
    obtain ⟨e1, e2⟩ := hI
    have e1 : lab = 63 ∨ lab = 83 := e1
    have e2 : i3 = tot := e2
    subst e2
    rcases e1 with rfl | rfl
    · have hs : zg_X11_fewest_63 c own i1 i2 i3 i4 i5 i6 i8 ln lf lm lc fo ft pm_ nf ls gr li fa qu pb = some (.inr s') := hs
      unfold zg_X11_fewest_63 at hs
      repeat' split at hs
      all_goals first | (cases hs; exact ⟨Or.inr rfl, rfl⟩) | cases hs
    · have hs : zg_X11_fewest_83 c own i1 i2 i3 i4 i5 i6 i8 ln lf lm lc fo ft pm_ nf ls gr li fa qu pb = some (.inr s') := hs
      unfold zg_X11_fewest_83 at hs
      cases e : zf_X11_flipped fo ft nf c i6 (zget ls (Int.toNat i8)) (zget gr (Int.toNat i8)) with
      | none =>
        rw [e] at hs
        simp only [Option.bind_none] at hs
        repeat' split at hs
        all_goals first | (cases hs; exact ⟨Or.inl rfl, rfl⟩) | (cases hs; exact ⟨Or.inr rfl, rfl⟩) | cases hs
      | some r =>
        rw [e] at hs
        simp only [Option.bind_some] at hs
        cases e' : zf_X11_placeOf lm li r.1 with
        | none =>
          rw [e'] at hs
          simp only [Option.bind_none] at hs
          revert hs
          repeat' (first | refine ite_imp ?_ ?_ | (intro h; first | (cases h; done) | (cases h; exact ⟨Or.inl rfl, rfl⟩) | (cases h; exact ⟨Or.inr rfl, rfl⟩)))
        | some r' =>
          rw [e'] at hs
          simp only [Option.bind_some] at hs
          revert hs
          repeat' (first | refine ite_imp ?_ ?_ | (intro h; first | (cases h; done) | (cases h; exact ⟨Or.inl rfl, rfl⟩) | (cases h; exact ⟨Or.inr rfl, rfl⟩)))
set_option maxHeartbeats 1000000 in
theorem eq_fewest {mk m : Nat} (p0 : ¬ zno mk m) {b : Int} (hb : isCut m b) {k : Int} (hk : ¬ zout k) {wl fq : Int} {st0 qu0 wy0 : Nat} {ln lf lm lc f1 f2 pm_ : Int} {nf ls gr li fa qu pb : Nat} (hT : TL lf ln nf ls gr) (hK : LK lc lm li) {o : Int × Int × Int × Nat × Nat × Nat} {o2 : zO_X11_fewest} (ho : zf_X10_fewest mk m b wl fq st0 qu0 wy0 k = some o) (ho2 : zf_X11_fewest (m : Int) ln lf lm lc b f1 f2 pm_ nf ls gr li fa qu pb k = some o2) : o.1 = o2.1 := by
  obtain ⟨h4, h9⟩ := zno_rng p0
  have r8 := rpg8 h4 h9
  have hy := JE_of ho2
  have ey : zg_X11_fewest (m : Int) b (0, k, 0, 0, 0, 0, 0, 0, ln, lf, lm, lc, f1, f2, pm_, nf, ls, gr, li, fa, qu, pb) = zg_X11_fewest_0 (m : Int) b k 0 0 0 0 0 0 ln lf lm lc f1 f2 pm_ nf ls gr li fa qu pb := rfl
  unfold zg_X11_fewest_0 at ey
  unfold zf_X10_fewest at ho
  obtain ⟨u, hu, w0, w1, w2, w3, w4, w5, w6, -⟩ := oy_listFor ln lf lm lc nf ls gr li (m : Int) hT hK (by omega) (by omega)
  have el := (LIof w6).1
  rw [if_neg p0, hasCut_e h4 h9 hk] at ho
  rw [hu] at ey
  simp only [Option.bind_some] at ho ey
  rw [in_e hk (by decide) (by unfold zout; omega)] at ey
  simp only [Option.bind_some] at ey
  by_cases c : 0 ≤ k ∧ k < pg8 m
  · obtain ⟨k, rfl⟩ : ∃ z : Nat, k = (z : Int) := ⟨k.toNat, by omega⟩
    rw [decide_eq_true c, if_neg (by decide)] at ho
    rw [decide_eq_true (by omega), if_neg (by decide)] at ey
    obtain ⟨x, hx, rfl⟩ := hb
    obtain ⟨s, hs, s1⟩ := ok_spreadZ h4 h9 (LTof w1) (LIof w6) c.2 f1 f2 fa qu
    obtain ⟨g, hg, g1⟩ := ok_measureZ p0 c.2 fq st0 qu0
    have de := dist_eq p0 c.2 s1 g1 x hx
    rw [hs, pl_ok h4 h9 (LIof w6) hx] at ey
    simp only [Option.bind_some] at ey
    rw [if_neg (by omega)] at ey
    have hy := JE_dn ey hy
    have t2 := few_tot (Or.inl rfl) rfl hy
    rw [num_e h4 h9 hx] at ho
    simp only [Option.bind_some] at ho
    cases e : zf_X4_layWay mk wl fq st0 qu0 wy0 m (x : Int) (k : Int) with
    | none => rw [e] at ho; cases ho
    | some r =>
      rw [e] at ho
      simp only [Option.bind_some] at ho
      have hx1 := JE_of (show jrun (zg_X4_layWay mk m) jfuel (0, (x : Int), (k : Int), 0, 0, 0, wl, fq, st0, qu0, wy0) = some r from e)
      have hx1 := JE_dn (s' := (24, (x : Int), (k : Int), zget g.2.1 x, (x : Int), 0, 0, g.1, g.2.1, g.2.2, wy0)) (by
        show zg_X4_layWay_0 mk m (x : Int) (k : Int) 0 0 0 wl fq st0 qu0 wy0 = _
        unfold zg_X4_layWay_0
        rw [hg]
        simp only [Option.bind_some]
        rw [st_e (by omega)]
        rfl) hx1
      have t1 := lay_tot hx1
      cases ho
      rw [t2]
      show r.1 = _
      rw [t1, de]
      rfl
  · rw [decide_eq_false c, if_pos rfl] at ho
    rw [decide_eq_false (by omega), if_pos rfl] at ey
    have := JE_end ey hy
    cases ho
    rw [this]
/-- farthest: the greatest distance, and how many have it -/
theorem most_run {mk m : Nat} (p0 : ¬ zno mk m) {c own w ln lf lm lc fo ft : Int} {st nf ls gr li fa qu : Nat} (el : lm = pg8 m) (hd : ∀ y : Nat, (y : Int) < pg8 m → zget st y = zget fa y) {o : Int} {o2 : zO_X11_farthest} : ∀ (d k : Nat) (x z : Int), (k : Int) + (d : Int) = pg8 m → ¬ zout x → JE (zg_X4_mostSteps mk st m) (4, x, (k : Int)) o → JE (zg_X11_farthest c own) (23, w, x, (k : Int), z, ln, lf, lm, lc, fo, ft, nf, ls, gr, li, fa, qu) o2 → JE (zg_X11_farthest c own) (63, w, o, 0, 0, ln, lf, lm, lc, fo, ft, nf, ls, gr, li, fa, qu) o2 ∧ ¬ zout o := by
  obtain ⟨h4, h9⟩ := zno_rng p0
  have r8 := rpg8 h4 h9
  intro d
  induction d with
  | zero =>
    intro k x z hk hx h1 h2
    have e1 := JE_end (o' := x) (by
      show zg_X4_mostSteps_4 mk st m x (k : Int) = _
      unfold zg_X4_mostSteps_4 zf_X5_cutCount
      rw [if_neg p0]
      simp only [Option.bind_some]
      rw [if_neg (by unfold zout; omega), if_neg (by unfold zout; omega), if_pos (by omega)]) h1
    subst e1
    have h2 := JE_dn (s' := (63, w, o, 0, 0, ln, lf, lm, lc, fo, ft, nf, ls, gr, li, fa, qu)) (by
      show zg_X11_farthest_23 c own w o (k : Int) z ln lf lm lc fo ft nf ls gr li fa qu = _
      unfold zg_X11_farthest_23
      rw [if_neg (by unfold zout; omega), if_neg (by unfold zout; omega), if_pos (by omega)]) h2
    exact ⟨h2, hx⟩
  | succ d ih =>
    intro k x z hk hx h1 h2
    have hd' := hd k (by omega)
    have mx := rmax x (zget st k)
    have rg := rget st k
    have h1 := JE_dn (s' := (4, zmax x (zget st k), (k : Int) + 1)) (by
      show zg_X4_mostSteps_4 mk st m x (k : Int) = _
      unfold zg_X4_mostSteps_4 zf_X5_cutCount
      rw [if_neg p0]
      simp only [Option.bind_some]
      rw [if_neg (by unfold zout; omega), if_neg (by unfold zout; omega), if_neg (by omega), st_e (by omega)]
      simp only [Option.bind_some]
      rw [if_neg hx, if_neg (by unfold zout; omega)]) h1
    rw [show (k : Int) + 1 = ((k + 1 : Nat) : Int) by omega] at h1
    by_cases cc : zget fa k ≤ x
    · have h2 := JE_dn (s' := (23, w, x, (k : Int) + 1, 0, ln, lf, lm, lc, fo, ft, nf, ls, gr, li, fa, qu)) (by
        show zg_X11_farthest_23 c own w x (k : Int) z ln lf lm lc fo ft nf ls gr li fa qu = _
        unfold zg_X11_farthest_23
        rw [if_neg (by unfold zout; omega), if_neg (by unfold zout; omega), if_neg (by omega), if_neg (by omega), if_neg hx, Int.toNat_natCast, if_pos cc]) h2
      rw [show (k : Int) + 1 = ((k + 1 : Nat) : Int) by omega] at h2
      have ex : zmax x (zget st k) = x := by omega
      rw [ex] at h1
      exact ih (k + 1) x 0 (by omega) hx h1 h2
    · have h2 := JE_dn (s' := (23, w, zget fa k, (k : Int) + 1, 0, ln, lf, lm, lc, fo, ft, nf, ls, gr, li, fa, qu)) (by
        show zg_X11_farthest_23 c own w x (k : Int) z ln lf lm lc fo ft nf ls gr li fa qu = _
        unfold zg_X11_farthest_23
        rw [if_neg (by unfold zout; omega), if_neg (by unfold zout; omega), if_neg (by omega), if_neg (by omega), if_neg hx, Int.toNat_natCast, if_neg cc]) h2
      rw [show (k : Int) + 1 = ((k + 1 : Nat) : Int) by omega] at h2
      have ex : zmax x (zget st k) = zget fa k := by omega
      rw [ex] at h1
      exact ih (k + 1) (zget fa k) 0 (by omega) (by unfold zout; omega) h1 h2
theorem many_run {mk m : Nat} (p0 : ¬ zno mk m) {c own w x ln lf lm lc fo ft : Int} {st nf ls gr li fa qu : Nat} (hx : ¬ zout x) (hw : ¬ zout w) (el : lm = pg8 m) (hd : ∀ y : Nat, (y : Int) < pg8 m → zget st y = zget fa y) {o : Int} {o2 : zO_X11_farthest} : ∀ (d k : Nat) (n : Int), (k : Int) + (d : Int) = pg8 m → JE (zg_X4_howManyAt mk st m) (5, x, n, (k : Int)) o → JE (zg_X11_farthest c own) (63, w, x, n, (k : Int), ln, lf, lm, lc, fo, ft, nf, ls, gr, li, fa, qu) o2 → o2.1 = if w = 0 then x else o := by
  obtain ⟨h4, h9⟩ := zno_rng p0
  have r8 := rpg8 h4 h9
  intro d
  induction d with
  | zero =>
    intro k n hk h1 h2
    have e1 := JE_end (o' := n) (by
      show zg_X4_howManyAt_5 mk st m x n (k : Int) = _
      unfold zg_X4_howManyAt_5 zf_X5_cutCount
      rw [if_neg p0]
      simp only [Option.bind_some]
      rw [if_neg (by unfold zout; omega), if_neg (by unfold zout; omega), if_pos (by omega)]) h1
    subst e1
    by_cases cw : w = 0
    · have e2 := JE_end (o' := (x, ln, lf, lm, lc, fo, ft, nf, ls, gr, li, fa, qu)) (by
        show zg_X11_farthest_63 c own w x o (k : Int) ln lf lm lc fo ft nf ls gr li fa qu = _
        unfold zg_X11_farthest_63
        rw [if_neg (by unfold zout; omega), if_neg (by unfold zout; omega), if_pos (by omega), if_neg hw, if_pos cw]) h2
      rw [e2, if_pos cw]
    · have e2 := JE_end (o' := (o, ln, lf, lm, lc, fo, ft, nf, ls, gr, li, fa, qu)) (by
        show zg_X11_farthest_63 c own w x o (k : Int) ln lf lm lc fo ft nf ls gr li fa qu = _
        unfold zg_X11_farthest_63
        rw [if_neg (by unfold zout; omega), if_neg (by unfold zout; omega), if_pos (by omega), if_neg hw, if_neg cw]) h2
      rw [e2, if_neg cw]
  | succ d ih =>
    intro k n hk h1 h2
    have hd' := hd k (by omega)
    have rg := rget st k
    by_cases cc : zget fa k = x
    · have h1 := JE_dn (s' := (5, x, n + 1, (k : Int) + 1)) (by
        show zg_X4_howManyAt_5 mk st m x n (k : Int) = _
        unfold zg_X4_howManyAt_5 zf_X5_cutCount
        rw [if_neg p0]
        simp only [Option.bind_some]
        rw [if_neg (by unfold zout; omega), if_neg (by unfold zout; omega), if_neg (by omega), st_e (by omega)]
        simp only [Option.bind_some]
        rw [if_neg (by unfold zout; omega), if_neg hx, if_pos (by omega)]) h1
      have h2 := JE_dn (s' := (63, w, x, n + 1, (k : Int) + 1, ln, lf, lm, lc, fo, ft, nf, ls, gr, li, fa, qu)) (by
        show zg_X11_farthest_63 c own w x n (k : Int) ln lf lm lc fo ft nf ls gr li fa qu = _
        unfold zg_X11_farthest_63
        rw [if_neg (by unfold zout; omega), if_neg (by unfold zout; omega), if_neg (by omega), if_neg (by omega), if_neg hx, Int.toNat_natCast, if_pos cc]) h2
      rw [show (k : Int) + 1 = ((k + 1 : Nat) : Int) by omega] at h1 h2
      exact ih (k + 1) (n + 1) (by omega) h1 h2
    · have h1 := JE_dn (s' := (5, x, n, (k : Int) + 1)) (by
        show zg_X4_howManyAt_5 mk st m x n (k : Int) = _
        unfold zg_X4_howManyAt_5 zf_X5_cutCount
        rw [if_neg p0]
        simp only [Option.bind_some]
        rw [if_neg (by unfold zout; omega), if_neg (by unfold zout; omega), if_neg (by omega), st_e (by omega)]
        simp only [Option.bind_some]
        rw [if_neg (by unfold zout; omega), if_neg hx, if_neg (by omega)]) h1
      have h2 := JE_dn (s' := (63, w, x, n + 0, (k : Int) + 1, ln, lf, lm, lc, fo, ft, nf, ls, gr, li, fa, qu)) (by
        show zg_X11_farthest_63 c own w x n (k : Int) ln lf lm lc fo ft nf ls gr li fa qu = _
        unfold zg_X11_farthest_63
        rw [if_neg (by unfold zout; omega), if_neg (by unfold zout; omega), if_neg (by omega), if_neg (by omega), if_neg hx, Int.toNat_natCast, if_neg cc]) h2
      rw [Int.add_zero] at h2
      rw [show (k : Int) + 1 = ((k + 1 : Nat) : Int) by omega] at h1 h2
      exact ih (k + 1) n (by omega) h1 h2
set_option maxHeartbeats 1000000 in
theorem eq_farthest {mk m : Nat} (p0 : ¬ zno mk m) {b : Int} (hb : isCut m b) {w : Int} (hw : ¬ zout w) {fq : Int} {st0 qu0 : Nat} {ln lf lm lc f1 f2 : Int} {nf ls gr li fa qu : Nat} (hT : TL lf ln nf ls gr) (hK : LK lc lm li) {o : zO_X10_farthest} {o2 : zO_X11_farthest} (ho : zf_X10_farthest mk m b fq st0 qu0 w = some o) (ho2 : zf_X11_farthest (m : Int) ln lf lm lc b f1 f2 nf ls gr li fa qu w = some o2) : o.1 = o2.1 := by
  obtain ⟨h4, h9⟩ := zno_rng p0
  have r8 := rpg8 h4 h9
  have hy := JE_of ho2
  have hx := JE_of ho
  have ey : zg_X11_farthest (m : Int) b (0, w, 0, 0, 0, ln, lf, lm, lc, f1, f2, nf, ls, gr, li, fa, qu) = zg_X11_farthest_0 (m : Int) b w 0 0 0 ln lf lm lc f1 f2 nf ls gr li fa qu := rfl
  unfold zg_X11_farthest_0 at ey
  rw [in_e hw (by decide) (by decide)] at ey
  simp only [Option.bind_some] at ey
  by_cases c : 0 ≤ w ∧ w ≤ 1
  · rw [decide_eq_true c, if_neg (by decide)] at ey
    obtain ⟨x, hx0, rfl⟩ := hb
    obtain ⟨u, hu, w0, w1, w2, w3, w4, w5, w6, -⟩ := oy_listFor ln lf lm lc nf ls gr li (m : Int) hT hK (by omega) (by omega)
    have el := (LIof w6).1
    have eo : zf_X11_ownNumber (m : Int) ln lf lm lc (zget (pg6 m) x) nf ls gr li = some ((x : Int), u.1, u.2.1, u.2.2.1, u.2.2.2.1, u.2.2.2.2.1, u.2.2.2.2.2.1, u.2.2.2.2.2.2.1, u.2.2.2.2.2.2.2) := by
      unfold zf_X11_ownNumber
      rw [hu]
      simp only [Option.bind_some]
      rw [pl_ok h4 h9 (LIof w6) hx0]
      rfl
    obtain ⟨s, hs, s1⟩ := ok_spreadZ h4 h9 (LTof w1) (LIof w6) hx0 f1 f2 fa qu
    obtain ⟨g, hg, g1⟩ := ok_measureZ p0 hx0 fq st0 qu0
    have de := dist_eq p0 hx0 s1 g1
    rw [eo] at ey
    simp only [Option.bind_some] at ey
    rw [hs] at ey
    simp only [Option.bind_some] at ey
    have hy := JE_dn ey hy
    have hx := JE_dn (s' := (11, w, fq, st0, qu0)) (by
      show zg_X10_farthest_0 mk m (zget (pg6 m) x) w fq st0 qu0 = _
      unfold zg_X10_farthest_0
      rw [if_neg hw]
      by_cases e : w = 0
      · rw [if_pos e]
      · rw [if_neg e, if_pos (by omega)]) hx
    obtain ⟨g', hg', -, -, gr3⟩ := ok_X4_measure mk fq st0 qu0 m (x : Int) p0 (by omega) (by omega)
    have eg : g' = g := Option.some.inj (hg'.symm.trans hg)
    subst eg
    obtain ⟨mo, hmo, mo1, mo2⟩ := ok_X4_mostSteps mk g'.2.1 m p0 gr3
    have jm := JE_dn (s' := (4, 0, ((0 : Nat) : Int))) rfl (JE_of (show jrun (zg_X4_mostSteps mk g'.2.1 m) jfuel (0, 0, 0) = some mo from hmo))
    obtain ⟨hy, zo⟩ := most_run p0 (o := mo) el de (pg8 m).toNat 0 0 0 (by omega) (by decide) jm hy
    obtain ⟨ma, hma, -⟩ := ok_X4_howManyAt mk g'.2.1 m mo p0 gr3 (by omega) (by omega)
    have jn := JE_dn (s' := (5, mo, 0, ((0 : Nat) : Int))) rfl (JE_of (show jrun (zg_X4_howManyAt mk g'.2.1 m) jfuel (0, mo, 0, 0) = some ma from hma))
    have r2 := many_run p0 zo hw el de (pg8 m).toNat 0 0 (by omega) jn hy
    by_cases e : w = 0
    · have e1 := JE_end (o' := (mo, g'.1, g'.2.1, g'.2.2)) (by
        show zg_X10_farthest_11 mk m (zget (pg6 m) x) w fq st0 qu0 = _
        unfold zg_X10_farthest_11
        rw [if_neg p0, num_e h4 h9 hx0]
        simp only [Option.bind_some]
        rw [hg]
        simp only [Option.bind_some]
        rw [hmo]
        simp only [Option.bind_some]
        rw [if_neg hw, if_pos e]) hx
      rw [e1, r2, if_pos e]
    · have e1 := JE_end (o' := (ma, g'.1, g'.2.1, g'.2.2)) (by
        show zg_X10_farthest_11 mk m (zget (pg6 m) x) w fq st0 qu0 = _
        unfold zg_X10_farthest_11
        rw [if_neg p0, num_e h4 h9 hx0]
        simp only [Option.bind_some]
        rw [hg]
        simp only [Option.bind_some]
        rw [hmo]
        simp only [Option.bind_some]
        rw [if_neg hw, if_neg e, hma]
        rfl) hx
      rw [e1, r2, if_neg e]
  · rw [decide_eq_false (by omega), if_pos rfl] at ey
    have e2 := JE_end ey hy
    have e1 := JE_end (o' := ((-1 : Int), fq, st0, qu0)) (by
      show zg_X10_farthest_0 mk m b w fq st0 qu0 = _
      unfold zg_X10_farthest_0
      rw [if_neg hw, if_neg (by omega), if_neg (by omega)]) hx
    rw [e1, e2]
