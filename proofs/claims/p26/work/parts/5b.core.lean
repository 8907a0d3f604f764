/-! core, breaks, period, ofCut -/
def F1 (P : Nat) (s f : Int) : Prop := 0 ≤ f ∧ f ≤ s ∧ (∀ j : Nat, (j : Int) < f → ¬ zget P j = 1) ∧ (f < s → zget P f.toNat = 1)
theorem F1_u {P : Nat} {s f g : Int} (hf : F1 P s f) (hg : F1 P s g) : f = g := by
  obtain ⟨f0, f1, f2, f3⟩ := hf
  obtain ⟨g0, g1, g2, g3⟩ := hg
  by_cases c : f < g
  · exact absurd (f3 (by omega)) (g2 f.toNat (by omega))
  · by_cases d : g < f
    · exact absurd (g3 (by omega)) (f2 g.toNat (by omega))
    · omega
theorem first_x {P : Nat} {s : Int} (s1 : 1 ≤ s) (s10 : s ≤ 10) : Go (fun (o : Int) => (o = -1 ∧ F1 P s s) ∨ (0 ≤ o ∧ o < s ∧ F1 P s o)) (zf_X2_firstOne s P) := by
  refine jok (fun (st : zS_X2_firstOne) => match st with | (lab, i) => lab = 0 ∨ (lab = 2 ∧ 0 ≤ i ∧ i ≤ s ∧ ∀ j : Nat, (j : Int) < i → ¬ zget P j = 1)) (fun (st : zS_X2_firstOne) => match st with | (lab, i) => if lab = 0 then 100 else (s - i).toNat) _ ?_ _ ?_ ?_
  · intro st h
    obtain ⟨lab, i⟩ := st
    rcases h with rfl | ⟨rfl, h0, h1, h2⟩
    · show Go _ (zg_X2_firstOne_0 s P i)
      unfold zg_X2_firstOne_0
      refine Go_i ⟨Or.inr ⟨rfl, Int.le_refl 0, by show (0 : Int) ≤ s; omega, fun j hj => absurd hj (by show ¬ (j : Int) < 0; omega)⟩, ?_⟩
      show (if (2 : Nat) = 0 then 100 else (s - 0).toNat) < (if (0 : Nat) = 0 then 100 else (s - i).toNat)
      rw [if_neg (by decide), if_pos rfl]
      omega
    · show Go _ (zg_X2_firstOne_2 s P i)
      unfold zg_X2_firstOne_2
      refine Go_chk (by unfold zout; omega) ?_
      refine Go_chk (by unfold zout; omega) ?_
      refine Go_ite (fun c => ?_) (fun c => ?_)
      · have : i = s := by omega
        subst this
        exact Go_i (Or.inl ⟨rfl, h0, h1, h2, fun z => absurd z (by omega)⟩)
      · refine Go_chk (by omega) ?_
        refine Go_ite (fun c1 => ?_) (fun c1 => ?_)
        · exact Go_i (Or.inr ⟨h0, by show i < s; omega, h0, h1, h2, fun _ => c1⟩)
        · refine Go_i ⟨Or.inr ⟨rfl, by show 0 ≤ i + 1; omega, by show i + 1 ≤ s; omega, ?_⟩, ?_⟩
          · intro j hj
            replace hj : (j : Int) < i + 1 := hj
            by_cases e : (j : Int) = i
            · rw [show j = i.toNat by omega]; exact c1
            · exact h2 j (by omega)
          · show (if (2 : Nat) = 0 then 100 else (s - (i + 1)).toNat) < (if (2 : Nat) = 0 then 100 else (s - i).toNat)
            rw [if_neg (by decide), if_neg (by decide)]
            omega
  · exact Or.inl rfl
  · show (if (0 : Nat) = 0 then 100 else (s - 0).toNat) < jfuel
    rw [if_pos rfl]
    unfold jfuel
    decide
/-- the reference's way to the first one -/
theorem first_y {P : Nat} {s n : Int} (s1 : 1 ≤ s) (s10 : s ≤ 10) {o : zO_X11_core} : ∀ (d : Nat) (i : Int), i + (d : Int) = s → 0 ≤ i → (∀ j : Nat, (j : Int) < i → ¬ zget P j = 1) → JE zg_X11_core (4, n, i, s, P) o → ∃ f : Int, F1 P s f ∧ JE zg_X11_core (28, n, f, s, P) o := by
  intro d
  induction d with
  | zero =>
    intro i hi h0 hp h
    have hi : i = s := by omega
    subst hi
    refine ⟨i, ⟨h0, Int.le_refl _, hp, fun z => absurd z (by omega)⟩, ?_⟩
    exact JE_dn (by
      show zg_X11_core_4 n i i P = _
      unfold zg_X11_core_4
      rw [if_neg (by unfold zout; omega), if_neg (by unfold zout; omega), if_pos (Int.le_refl _)]) h
  | succ d ih =>
    intro i hi h0 hp h
    by_cases c : zget P (Int.toNat i) = 1
    · refine ⟨i, ⟨h0, by omega, hp, fun _ => c⟩, ?_⟩
      exact JE_dn (by
        show zg_X11_core_4 n i s P = _
        unfold zg_X11_core_4
        rw [if_neg (by unfold zout; omega), if_neg (by unfold zout; omega), if_neg (by omega), if_neg (by omega), if_pos c]) h
    · refine ih (i + 1) (by omega) (by omega) ?_ (JE_dn (by
        show zg_X11_core_4 n i s P = _
        unfold zg_X11_core_4
        rw [if_neg (by unfold zout; omega), if_neg (by unfold zout; omega), if_neg (by omega), if_neg (by omega), if_neg c]) h)
      intro j hj
      by_cases e : (j : Int) = i
      · rw [show j = i.toNat by omega]; exact c
      · exact hp j (by omega)
theorem JE_none {S O : Type} {g : S → Option (O ⊕ S)} {s : S} {o : O} (e : g s = none) (h : JE g s o) : False := by
  obtain ⟨n, hn⟩ := h
  cases n with
  | zero => rw [jrun_0] at hn; cases hn
  | succ n => rw [jrun_s, e] at hn; cases hn
set_option maxHeartbeats 1000000 in
theorem core_run : ∀ (m : Nat) (s n r i2 : Int) (P : Nat) (o : zO_X2_loseAll) (o2 : zO_X11_core), s ≤ (m : Int) → 1 ≤ s → s + r ≤ 10 → 0 ≤ r → (∀ k : Nat, k < 10 → 0 ≤ zget P k ∧ zget P k ≤ 20) → JE zg_X2_loseAll (4, n, r, s, P) o → JE zg_X11_core (2, n, i2, s, P) o2 → o = o2 := by
  intro m
  induction m with
  | zero => intro s n r i2 P o o2 h1 h2; omega
  | succ m ih =>
    intro s n r i2 P o o2 hm s1 hsr r0 hP hx hy
    obtain ⟨f, hf, hq⟩ := first_x (P := P) s1 (show s ≤ 10 by omega)
    have hy1 := JE_dn (s' := (4, n, 0, s, P)) rfl hy
    obtain ⟨g, hg, hy2⟩ := first_y s1 (by omega) s.toNat 0 (by omega) (Int.le_refl 0) (fun j hj => absurd hj (by omega)) hy1
    rcases hq with ⟨rfl, hq⟩ | ⟨f0, f1, hq⟩
    · have e := F1_u hq hg
      subst e
      have e1 := JE_end (o' := (n, s, P)) (by
        show zg_X2_loseAll_4 n r s P = _
        unfold zg_X2_loseAll_4
        rw [if_neg (by unfold zout; omega), if_neg (by omega), hf]
        rfl) hx
      have e2 := JE_end (o' := (n, s, P)) (by
        show zg_X11_core_28 n s s P = _
        unfold zg_X11_core_28
        rw [if_neg (by unfold zout; omega), if_neg (by unfold zout; omega), if_pos rfl]) hy2
      rw [e1, e2]
    · have e := F1_u hq hg
      subst e
      have el := lose_e s1 (show s ≤ 10 by omega) hP f0 f1
      cases hc : zf_X2_canLose s P f with
      | none =>
        obtain ⟨q, hq, -⟩ := ok_X2_canLose s P f s1 (by omega) hP f0 f1
        rw [hc] at hq
        cases hq
      | some b =>
        rw [hc] at el
        cases b with
        | false =>
          have e1 := JE_end (o' := (n, s, P)) (by
            show zg_X2_loseAll_4 n r s P = _
            unfold zg_X2_loseAll_4
            rw [if_neg (by unfold zout; omega), if_neg (by omega), hf]
            simp only [Option.bind_some]
            rw [if_neg (by unfold zout; omega), if_neg (by omega), hc]
            rfl) hx
          have e2 := JE_end (o' := (n, s, P)) (by
            show zg_X11_core_28 n f s P = _
            unfold zg_X11_core_28
            rw [if_neg (by unfold zout; omega), if_neg (by unfold zout; omega), if_neg (by omega), ← el]
            rfl) hy2
          rw [e1, e2]
        | true =>
          have s3 : 3 ≤ s := by
            by_cases q : s < 3
            · unfold zf_X2_canLose at hc
              rw [if_neg (by unfold zout; omega), if_pos q] at hc
              cases hc
            · omega
          obtain ⟨u, hu, u1, u2, u3, u4⟩ := ok_X2_lose s P f s1 (by omega) hP (by omega) (by omega)
          have hx2 := JE_dn (s' := (4, n + 1, r + 1, u.2.1, u.2.2)) (by
            show zg_X2_loseAll_4 n r s P = _
            unfold zg_X2_loseAll_4
            rw [if_neg (by unfold zout; omega), if_neg (by omega), hf]
            simp only [Option.bind_some]
            rw [if_neg (by unfold zout; omega), if_neg (by omega), hc]
            simp only [Option.bind_some]
            rw [if_neg (by decide), hu]
            rfl) hx
          cases hv : zf_X11_off s P f with
          | none =>
            exfalso
            refine JE_none ?_ hy2
            show zg_X11_core_28 n f s P = _
            unfold zg_X11_core_28
            rw [if_neg (by unfold zout; omega), if_neg (by unfold zout; omega), if_neg (by omega), ← el]
            simp only [Option.bind_some]
            rw [if_neg (by decide), hv]
            rfl
          | some v =>
            have q := off_e s3 (by omega) f0 f1 hc hu hv
            have hy3 := JE_dn (s' := (2, n + 1, f, v.1, v.2)) (by
              show zg_X11_core_28 n f s P = _
              unfold zg_X11_core_28
              rw [if_neg (by unfold zout; omega), if_neg (by unfold zout; omega), if_neg (by omega), ← el]
              simp only [Option.bind_some]
              rw [if_neg (by decide), hv]
              rfl) hy2
            have q2 := q.2
            have q1 := q.1
            subst q1
            exact ih v.1 (n + 1) (r + 1) f v.2 o o2 (by omega) (by omega) (by omega) (by omega) u3 hx2 hy3
theorem eq_core (mk : Nat) {s : Int} {P : Nat} (s1 : 1 ≤ s) (s10 : s ≤ 10) (hP : ∀ k : Nat, k < 10 → 0 ≤ zget P k ∧ zget P k ≤ 20) {o o2 : Int × Int × Nat} (ho : zf_X10_core mk s P = some o) (ho2 : zf_X11_core s P = some o2) : o = o2 := by
  unfold zf_X10_core at ho
  cases h : zf_X2_loseAll s P with
  | none => rw [h] at ho; cases ho
  | some u =>
    rw [h] at ho
    have hx := JE_dn (s' := (4, 0, 0, s, P)) rfl (JE_of h)
    have hy := JE_dn (s' := (2, 0, 0, s, P)) rfl (JE_of ho2)
    have e := core_run s.toNat s 0 0 0 P u o2 (by omega) s1 (by omega) (by omega) hP hx hy
    cases ho
    rw [← e]
/-! breaks -/
def BPl (s : Int) (P : Nat) (l r : Int) : Prop := 0 ≤ r ∧ r ≤ s ∧ (∀ j : Nat, (j : Int) < r → ∃ v : Int, zf_X11_alongOf s P (j : Int) l = some v ∧ 0 < v ∧ ¬ zoutL v) ∧ (r < s → ∃ v : Int, zf_X11_alongOf s P r l = some v ∧ v ≤ 0 ∧ ¬ zoutL v)
theorem along_v {s : Int} {P : Nat} (s1 : 1 ≤ s) (s10 : s ≤ 10) (hP : ∀ k : Nat, k < 11 → 0 ≤ zget P k ∧ zget P k ≤ 20) {i l : Int} (i0 : 0 ≤ i) (i9 : i ≤ 10) (l0 : 0 ≤ l) (l9 : l ≤ 12) : ∃ v : Int, zf_X11_alongOf s P i l = some v ∧ zf_X2_entryAt s P i l = some v ∧ ¬ zoutL v := by
  obtain ⟨v, hv, h1, h2⟩ := ok_X11_alongOf s P i l s1 s10 hP i0 i9 l0 (by omega)
  refine ⟨v, hv, ?_, by unfold zoutL; omega⟩
  rw [eq_ent s1 s10 (fun k hk => hP k (by omega)) i0 (by omega) l0 l9]
  exact hv
theorem break_x {s : Int} {P : Nat} (s1 : 1 ≤ s) (s10 : s ≤ 10) (hP : ∀ k : Nat, k < 11 → 0 ≤ zget P k ∧ zget P k ≤ 20) {l : Int} (l0 : 0 ≤ l) (l9 : l ≤ 12) : Go (fun (o : Int) => (o = -1 ∧ BPl s P l s) ∨ (0 ≤ o ∧ o < s ∧ BPl s P l o)) (zf_X2_breakPlace s P l) := by
  refine jok (fun (st : zS_X2_breakPlace) => match st with | (lab, a, i) => a = l ∧ (lab = 0 ∨ (lab = 2 ∧ 0 ≤ i ∧ i ≤ s ∧ ∀ j : Nat, (j : Int) < i → ∃ v : Int, zf_X11_alongOf s P (j : Int) l = some v ∧ 0 < v ∧ ¬ zoutL v))) (fun (st : zS_X2_breakPlace) => match st with | (lab, a, i) => if lab = 0 then 100 else (s - i).toNat) _ ?_ _ ?_ ?_
  · intro st h
    obtain ⟨lab, a, i⟩ := st
    obtain ⟨rfl, h⟩ := h
    rcases h with rfl | ⟨rfl, h0, h1, h2⟩
    · show Go _ (zg_X2_breakPlace_0 s P a i)
      unfold zg_X2_breakPlace_0
      refine Go_i ⟨⟨rfl, Or.inr ⟨rfl, Int.le_refl 0, by show (0 : Int) ≤ s; omega, fun j hj => absurd hj (by show ¬ (j : Int) < 0; omega)⟩⟩, ?_⟩
      show (if (2 : Nat) = 0 then 100 else (s - 0).toNat) < (if (0 : Nat) = 0 then 100 else (s - i).toNat)
      rw [if_neg (by decide), if_pos rfl]
      omega
    · show Go _ (zg_X2_breakPlace_2 s P a i)
      unfold zg_X2_breakPlace_2
      refine Go_chk (by unfold zout; omega) ?_
      refine Go_chk (by unfold zout; omega) ?_
      refine Go_ite (fun c => ?_) (fun c => ?_)
      · have : i = s := by omega
        subst this
        exact Go_i (Or.inl ⟨rfl, h0, h1, h2, fun z => absurd z (by omega)⟩)
      · obtain ⟨v, v1, v2, v3⟩ := along_v s1 s10 hP (i := i) (l := a) h0 (by omega) l0 l9
        rw [v2]
        simp only [Option.bind_some]
        refine Go_chk v3 ?_
        refine Go_ite (fun c1 => ?_) (fun c1 => ?_)
        · refine Go_i ⟨⟨rfl, Or.inr ⟨rfl, by show 0 ≤ i + 1; omega, by show i + 1 ≤ s; omega, ?_⟩⟩, ?_⟩
          · intro j hj
            replace hj : (j : Int) < i + 1 := hj
            by_cases e : (j : Int) = i
            · rw [e]; exact ⟨v, v1, c1, v3⟩
            · exact h2 j (by omega)
          · show (if (2 : Nat) = 0 then 100 else (s - (i + 1)).toNat) < (if (2 : Nat) = 0 then 100 else (s - i).toNat)
            rw [if_neg (by decide), if_neg (by decide)]
            omega
        · exact Go_i (Or.inr ⟨h0, by show i < s; omega, h0, h1, h2, fun _ => ⟨v, v1, by omega, v3⟩⟩)
  · exact ⟨rfl, Or.inl rfl⟩
  · show (if (0 : Nat) = 0 then 100 else (s - 0).toNat) < jfuel
    rw [if_pos rfl]
    unfold jfuel
    decide
theorem eq_all {s : Int} {P : Nat} (s1 : 1 ≤ s) (s10 : s ≤ 10) (hP : ∀ k : Nat, k < 11 → 0 ≤ zget P k ∧ zget P k ≤ 20) {l w : Int} (l0 : 0 ≤ l) (l9 : l ≤ 12) : zf_X2_allAre s P l w = zf_X11_isAll s P l w := by
  unfold zf_X2_allAre zf_X11_isAll
  refine jrun_congr (fun (st : zS_X2_allAre) => match st with | (lab, a, b, i) => a = l ∧ b = w ∧ (lab = 0 ∨ (lab = 3 ∧ 0 ≤ i ∧ i ≤ s))) ?_ ?_ jfuel _ ⟨rfl, rfl, Or.inl rfl⟩
  · intro st h
    obtain ⟨lab, a, b, i⟩ := st
    obtain ⟨rfl, rfl, h⟩ := h
    rcases h with rfl | ⟨rfl, h0, h1⟩
    · show zg_X2_allAre_0 s P a b i = zg_X11_isAll_0 s P a b i
      unfold zg_X2_allAre_0 zg_X11_isAll_0
      rfl
    · show zg_X2_allAre_3 s P a b i = zg_X11_isAll_3 s P a b i
      unfold zg_X2_allAre_3 zg_X11_isAll_3
      by_cases c : s ≤ i
      · rw [if_neg (by unfold zout; omega), if_neg (by unfold zout; omega), if_pos c, if_neg (by unfold zout; omega), if_neg (by unfold zout; omega), if_pos c]
      · rw [eq_ent s1 s10 (fun k hk => hP k (by omega)) h0 (by omega) l0 l9]
  · intro st st' h e
    obtain ⟨lab, a, b, i⟩ := st
    obtain ⟨rfl, rfl, h⟩ := h
    rcases h with rfl | ⟨rfl, h0, h1⟩
    · replace e : zg_X2_allAre_0 s P a b i = some (.inr st') := e
      unfold zg_X2_allAre_0 at e
      cases e
      exact ⟨rfl, rfl, Or.inr ⟨rfl, Int.le_refl 0, by show (0 : Int) ≤ s; omega⟩⟩
    · replace e : zg_X2_allAre_3 s P a b i = some (.inr st') := e
      unfold zg_X2_allAre_3 at e
      by_cases c : s ≤ i
      · rw [if_neg (by unfold zout; omega), if_neg (by unfold zout; omega), if_pos c] at e
        cases e
      · obtain ⟨v, v1, v2, v3⟩ := along_v s1 s10 hP (i := i) (l := a) h0 (by omega) l0 l9
        rw [if_neg (by unfold zout; omega), if_neg (by unfold zout; omega), if_neg c, v2] at e
        simp only [Option.bind_some] at e
        rw [if_neg v3] at e
        by_cases zb : zoutL b
        · rw [if_pos zb] at e; cases e
        · rw [if_neg zb] at e
          by_cases q : v = b
          · rw [if_pos q] at e
            cases e
            exact ⟨rfl, rfl, Or.inr ⟨rfl, by show 0 ≤ i + 1; omega, by show i + 1 ≤ s; omega⟩⟩
          · rw [if_neg q] at e
            cases e
theorem BPl_u {s : Int} {P : Nat} {l r q : Int} (hr : BPl s P l r) (hq : BPl s P l q) : r = q := by
  obtain ⟨r0, r1, r2, r3⟩ := hr
  obtain ⟨q0, q1, q2, q3⟩ := hq
  by_cases c : r < q
  · obtain ⟨v, v1, v2, -⟩ := r3 (by omega)
    obtain ⟨w, w1, w2, -⟩ := q2 r.toNat (by omega)
    rw [show ((r.toNat : Nat) : Int) = r by omega, v1] at w1
    cases w1
    omega
  · by_cases d : q < r
    · obtain ⟨v, v1, v2, -⟩ := q3 (by omega)
      obtain ⟨w, w1, w2, -⟩ := r2 q.toNat (by omega)
      rw [show ((q.toNat : Nat) : Int) = q by omega, v1] at w1
      cases w1
      omega
    · omega
theorem y21 {s : Int} {P : Nat} (s1 : 1 ≤ s) (s10 : s ≤ 10) {w l r : Int} (hr : BPl s P l r) {o : zO_X11_breaks} : ∀ (d : Nat) (i : Int), i + (d : Int) = r → 0 ≤ i → JE (zg_X11_breaks s P) (21, w, l, i) o → JE (zg_X11_breaks s P) (21, w, l, r) o := by
  obtain ⟨r0, r1, r2, r3⟩ := hr
  intro d
  induction d with
  | zero => intro i hi h0 h; have : i = r := (by omega); subst this; exact h
  | succ d ih =>
    intro i hi h0 h
    obtain ⟨v, v1, v2, v3⟩ := r2 i.toNat (by omega)
    rw [show ((i.toNat : Nat) : Int) = i by omega] at v1
    refine ih (i + 1) (by omega) (by omega) (JE_dn (by
      show zg_X11_breaks_21 s P w l i = _
      unfold zg_X11_breaks_21
      rw [if_neg (by unfold zout; omega), if_neg (by unfold zout; omega), if_neg (by omega), v1]
      simp only [Option.bind_some]
      rw [if_neg v3, if_neg (by omega)]) h)
theorem break_run {s : Int} {P : Nat} (s1 : 1 ≤ s) (s10 : s ≤ 10) (hP : ∀ k : Nat, k < 11 → 0 ≤ zget P k ∧ zget P k ≤ 20) {w : Int} {b : Int} {o2 : zO_X11_breaks} : ∀ (d : Nat) (l i3 : Int), l + (d : Int) = 13 → 2 ≤ l → JE (zg_X2_breakLength s P) (2, l) b → JE (zg_X11_breaks s P) (13, w, l, i3) o2 → (b = -1 ∧ o2 = -1) ∨ (2 ≤ b ∧ b ≤ 12 ∧ ∃ r : Int, 0 ≤ r ∧ r < s ∧ BPl s P b r ∧ JE (zg_X11_breaks s P) (21, w, b, r) o2) := by
  intro d
  induction d with
  | zero =>
    intro l i3 hl h2 hx hy
    have hl : l = 13 := by omega
    subst hl
    have e1 := JE_end (o' := -1) rfl hx
    have e2 := JE_end (o' := -1) rfl hy
    exact Or.inl ⟨e1, e2⟩
  | succ d ih =>
    intro l i3 hl h2 hx hy
    have hy1 := JE_dn (s' := (21, w, l, 0)) (by
      show zg_X11_breaks_13 s P w l i3 = _
      unfold zg_X11_breaks_13
      rw [if_neg (by unfold zout; omega), if_neg (by omega)]) hy
    obtain ⟨r, hr, hq⟩ := break_x s1 s10 hP (l := l) (by omega) (by omega)
    rcases hq with ⟨rfl, hq⟩ | ⟨r0, r1, hq⟩
    · have hx1 := JE_dn (s' := (2, l + 1)) (by
        show zg_X2_breakLength_2 s P l = _
        unfold zg_X2_breakLength_2
        rw [if_neg (by unfold zout; omega), if_neg (by omega), hr]
        rfl) hx
      have hy2 := y21 s1 s10 hq s.toNat 0 (by omega) (Int.le_refl 0) hy1
      have hy3 := JE_dn (s' := (13, w, l + 1, s)) (by
        show zg_X11_breaks_21 s P w l s = _
        unfold zg_X11_breaks_21
        rw [if_neg (by unfold zout; omega), if_neg (by unfold zout; omega), if_pos (Int.le_refl _)]) hy2
      exact ih (l + 1) s (by omega) (by omega) hx1 hy3
    · have e1 := JE_end (o' := l) (by
        show zg_X2_breakLength_2 s P l = _
        unfold zg_X2_breakLength_2
        rw [if_neg (by unfold zout; omega), if_neg (by omega), hr]
        simp only [Option.bind_some]
        rw [if_neg (by unfold zout; omega), if_neg (by omega)]) hx
      subst e1
      exact Or.inr ⟨h2, by omega, r, r0, r1, hq, y21 s1 s10 hq r.toNat 0 (by omega) (Int.le_refl 0) hy1⟩
theorem eq_breaks (mk : Nat) {s w : Int} {P : Nat} (s1 : 1 ≤ s) (s10 : s ≤ 10) (hP : ∀ k : Nat, k < 11 → 0 ≤ zget P k ∧ zget P k ≤ 20) (hw : ¬ zout w) {o o2 : Int} (ho : zf_X10_breaks mk s P w = some o) (ho2 : zf_X11_breaks s P w = some o2) : o = o2 := by
  have hy := JE_of ho2
  unfold zf_X10_breaks at ho
  cases hb : zf_X2_breakLength s P with
  | none => rw [hb] at ho; cases ho
  | some b =>
    rw [hb] at ho
    simp only [Option.bind_some] at ho
    have hx := JE_dn (s' := (2, 2)) rfl (JE_of hb)
    by_cases c : 0 ≤ w ∧ w ≤ 2
    · have hy1 := JE_dn (s' := (13, w, 2, 0)) (by
        show zg_X11_breaks_0 s P w 0 0 = _
        unfold zg_X11_breaks_0
        rw [in_e hw (by decide) (by decide), decide_eq_true c]
        rfl) hy
      rcases break_run s1 s10 hP 11 2 0 (by decide) (by decide) hx hy1 with ⟨rfl, rfl⟩ | ⟨b2, b12, r, r0, r1, hr, hy2⟩
      · rw [if_neg (by decide), if_pos rfl] at ho
        cases ho
        rfl
      · rw [if_neg (by unfold zout; omega), if_neg (by omega), if_neg hw] at ho
        obtain ⟨v, v1, v2, v3⟩ := hr.2.2.2 r1
        have ey : zg_X11_breaks s P (21, w, b, r) = (if w = 0 then some (.inl b) else if w = 1 then some (.inl r) else Option.bind (zf_X11_isAll s P b (0 : Int)) (fun o10 => if o10 = false then some (.inl ((0 : Int))) else if zout b then none else if b = (12 : Int) then some (.inl ((1 : Int))) else Option.bind (zf_X11_isAll s P (b + (1 : Int)) (-1 : Int)) (fun o12 => if o12 = false then some (.inl ((0 : Int))) else some (.inl ((1 : Int)))))) := by
          show zg_X11_breaks_21 s P w b r = _
          unfold zg_X11_breaks_21
          rw [if_neg (by unfold zout; omega), if_neg (by unfold zout; omega), if_neg (by omega), v1]
          simp only [Option.bind_some]
          rw [if_neg v3, if_pos v2, if_neg hw]
        by_cases w0 : w = 0
        · rw [if_pos w0] at ho ey
          have e := JE_end ey hy2
          cases ho
          exact e.symm
        · rw [if_neg w0] at ho ey
          by_cases w1 : w = 1
          · rw [if_pos w1] at ho ey
            have e := JE_end ey hy2
            obtain ⟨r', hr', hq⟩ := break_x s1 s10 hP (l := b) (by omega) b12
            rw [hr'] at ho
            cases ho
            rcases hq with ⟨_, hq⟩ | ⟨_, _, hq⟩
            · exact absurd (BPl_u hq hr) (by omega)
            · rw [e]; exact BPl_u hq hr
          · rw [if_neg w1] at ho ey
            rw [if_pos (by omega)] at ho
            unfold zf_X2_comesBack at ho
            rw [eq_all s1 s10 hP (by omega) b12] at ho
            cases h1 : zf_X11_isAll s P b 0 with
            | none => rw [h1] at ho; cases ho
            | some b1 =>
              rw [h1] at ho ey
              simp only [Option.bind_some] at ho ey
              cases b1 with
              | false =>
                rw [if_pos rfl] at ho ey
                have e := JE_end ey hy2
                cases ho
                exact e.symm
              | true =>
                rw [if_neg (by decide), if_neg (by unfold zout; omega)] at ho ey
                by_cases c12 : b = 12
                · rw [if_pos c12] at ho ey
                  have e := JE_end ey hy2
                  cases ho
                  exact e.symm
                · rw [if_neg c12] at ho ey
                  rw [eq_all s1 s10 hP (by omega) (by omega)] at ho
                  cases h2 : zf_X11_isAll s P (b + 1) (-1) with
                  | none => rw [h2] at ho; cases ho
                  | some b2 =>
                    rw [h2] at ho ey
                    simp only [Option.bind_some] at ho ey
                    cases b2 with
                    | false =>
                      rw [if_pos rfl] at ho ey
                      have e := JE_end ey hy2
                      cases ho
                      exact e.symm
                    | true =>
                      rw [if_neg (by decide)] at ho ey
                      have e := JE_end ey hy2
                      cases ho
                      exact e.symm
    · have e := JE_end (o' := -1) (by
        show zg_X11_breaks_0 s P w 0 0 = _
        unfold zg_X11_breaks_0
        rw [in_e hw (by decide) (by decide), decide_eq_false c]
        rfl) hy
      subst e
      by_cases q1 : zout b
      · rw [if_pos q1] at ho; cases ho
      · rw [if_neg q1] at ho
        by_cases q2 : b = -1
        · rw [if_pos q2] at ho; cases ho; rfl
        · rw [if_neg q2, if_neg hw, if_neg (by omega), if_neg (by omega), if_neg (by omega)] at ho
          cases ho
          rfl
