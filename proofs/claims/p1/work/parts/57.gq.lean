noncomputable def gq47 (ent : Int → Int → Int → Nat → Nat → Nat → Nat → Nat → Nat → Nat → Int → Int → Int → Option (Int × Int × Nat × Nat × Nat × Nat × Nat × Nat × Nat))   (i1 : Int) (i2 : Int) (i3 : Int) (i4 : Int) (i5 : Int) (i6 : Int) (i7 : Int) (t_lines : Int) (t_linesFor : Int) (t_listMany : Int) (t_listCorners : Int) (t_numberOf : Nat) (t_lesser : Nat) (t_greater : Nat) (t_list : Nat) (t_tA : Nat) (t_tB : Nat) (t_tC : Nat) (t_from : Nat) : Option (zO_X11_greatest ⊕ zS_X11_greatest) :=
  if zout i6 then none else
  if zout i1 then none else
  if i1 ≤ i6 then
  some (.inr (35, i1, i2, i3, i4, (i5 + (1 : Int)), i6, 0, t_lines, t_linesFor, t_listMany, t_listCorners, t_numberOf, t_lesser, t_greater, t_list, t_tA, t_tB, t_tC, t_from))
  else
  if i5 < 0 ∨ 429 ≤ i5 then none else
  Option.bind (ent i5 t_lines t_linesFor t_numberOf t_lesser t_greater t_tA t_tB t_tC t_from i1 (zgetL t_list (Int.toNat i5)) i6) (fun o14 =>
  some (.inr (70, i1, i2, i3, i4, i5, i6, (0 : Int), (o14.1), (o14.2.1), t_listMany, t_listCorners, (o14.2.2.1), (o14.2.2.2.1), (o14.2.2.2.2.1), t_list, (o14.2.2.2.2.2.1), (o14.2.2.2.2.2.2.1), (o14.2.2.2.2.2.2.2.1), (o14.2.2.2.2.2.2.2.2))))
noncomputable def gq (ent : Int → Int → Int → Nat → Nat → Nat → Nat → Nat → Nat → Nat → Int → Int → Int → Option (Int × Int × Nat × Nat × Nat × Nat × Nat × Nat × Nat)) (st : zS_X11_greatest) : Option (zO_X11_greatest ⊕ zS_X11_greatest) := match st with
  | (lab, i1, i2, i3, i4, i5, i6, i7, t_lines, t_linesFor, t_listMany, t_listCorners, t_numberOf, t_lesser, t_greater, t_list, t_tA, t_tB, t_tC, t_from) => if lab = 47 then gq47 ent i1 i2 i3 i4 i5 i6 i7 t_lines t_linesFor t_listMany t_listCorners t_numberOf t_lesser t_greater t_list t_tA t_tB t_tC t_from else zg_X11_greatest (lab, i1, i2, i3, i4, i5, i6, i7, t_lines, t_linesFor, t_listMany, t_listCorners, t_numberOf, t_lesser, t_greater, t_list, t_tA, t_tB, t_tC, t_from)
theorem gq_eq : gq ent0 = zg_X11_greatest := by
  funext st
  obtain ⟨lab, i1, i2, i3, i4, i5, i6, i7, t_lines, t_linesFor, t_listMany, t_listCorners, t_numberOf, t_lesser, t_greater, t_list, t_tA, t_tB, t_tC, t_from⟩ := st
  show (if lab = 47 then gq47 ent0 i1 i2 i3 i4 i5 i6 i7 t_lines t_linesFor t_listMany t_listCorners t_numberOf t_lesser t_greater t_list t_tA t_tB t_tC t_from else zg_X11_greatest (lab, i1, i2, i3, i4, i5, i6, i7, t_lines, t_linesFor, t_listMany, t_listCorners, t_numberOf, t_lesser, t_greater, t_list, t_tA, t_tB, t_tC, t_from)) = _
  by_cases h : lab = 47
  · rw [if_pos h, h]
    show gq47 ent0 i1 i2 i3 i4 i5 i6 i7 t_lines t_linesFor t_listMany t_listCorners t_numberOf t_lesser t_greater t_list t_tA t_tB t_tC t_from = zg_X11_greatest_47 i1 i2 i3 i4 i5 i6 i7 t_lines t_linesFor t_listMany t_listCorners t_numberOf t_lesser t_greater t_list t_tA t_tB t_tC t_from
    rfl
  · rw [if_neg h]
theorem gw_step (ent : Int → Int → Int → Nat → Nat → Nat → Nat → Nat → Nat → Nat → Int → Int → Int → Option (Int × Int × Nat × Nat × Nat × Nat × Nat × Nat × Nat)) (w : Int) (lab : Nat) (i1 i2 i3 i4 i5 i6 i7 : Int) (t_lines : Int) (t_linesFor : Int) (t_listMany : Int) (t_listCorners : Int) (t_numberOf : Nat) (t_lesser : Nat) (t_greater : Nat) (t_list : Nat) (t_tA : Nat) (t_tB : Nat) (t_tC : Nat) (t_from : Nat) (t : zS_X11_greatest) (h0 : ¬ lab = 0) (h : gq ent (lab, i1, i2, i3, i4, i5, i6, i7, t_lines, t_linesFor, t_listMany, t_listCorners, t_numberOf, t_lesser, t_greater, t_list, t_tA, t_tB, t_tC, t_from) = some (.inr t)) : ¬ t.1 = 0 ∧ gq ent (lab, i1, w, i3, i4, i5, i6, i7, t_lines, t_linesFor, t_listMany, t_listCorners, t_numberOf, t_lesser, t_greater, t_list, t_tA, t_tB, t_tC, t_from) = some (.inr (t.1, t.2.1, w, t.2.2.2)) := by
  have h : Go (fun y => y = .inr t) (if lab = 47 then gq47 ent i1 i2 i3 i4 i5 i6 i7 t_lines t_linesFor t_listMany t_listCorners t_numberOf t_lesser t_greater t_list t_tA t_tB t_tC t_from else zg_X11_greatest (lab, i1, i2, i3, i4, i5, i6, i7, t_lines, t_linesFor, t_listMany, t_listCorners, t_numberOf, t_lesser, t_greater, t_list, t_tA, t_tB, t_tC, t_from)) := ⟨_, h, rfl⟩
  by_cases l47 : lab = 47
  · have h := Go_t l47 h
    have hF : gq ent (lab, i1, w, i3, i4, i5, i6, i7, t_lines, t_linesFor, t_listMany, t_listCorners, t_numberOf, t_lesser, t_greater, t_list, t_tA, t_tB, t_tC, t_from) = gq47 ent i1 w i3 i4 i5 i6 i7 t_lines t_linesFor t_listMany t_listCorners t_numberOf t_lesser t_greater t_list t_tA t_tB t_tC t_from := if_pos l47
    rw [hF]
    unfold gq47 at h ⊢
    obtain ⟨c1, h⟩ := Go_n h
    obtain ⟨c2, h⟩ := Go_n h
    rw [if_neg c1, if_neg c2]
    by_cases c3 : i1 ≤ i6
    · have h := Go_s (Go_t c3 h)
      have h := Sum.inr.inj h
      subst h
      rw [if_pos c3]
      exact ⟨by simp, rfl⟩
    · have h := Go_f c3 h
      obtain ⟨c4, h⟩ := Go_n h
      obtain ⟨o14, e14, h⟩ := Go_b h
      have h := Go_s h
      have h := Sum.inr.inj h
      subst h
      rw [if_neg c3, if_neg c4, e14]
      exact ⟨by simp, rfl⟩
  · have h := Go_f l47 h
    have hF : gq ent (lab, i1, w, i3, i4, i5, i6, i7, t_lines, t_linesFor, t_listMany, t_listCorners, t_numberOf, t_lesser, t_greater, t_list, t_tA, t_tB, t_tC, t_from) = zg_X11_greatest (lab, i1, w, i3, i4, i5, i6, i7, t_lines, t_linesFor, t_listMany, t_listCorners, t_numberOf, t_lesser, t_greater, t_list, t_tA, t_tB, t_tC, t_from) := if_neg l47
    rw [hF]
    have h : Go (fun y => y = .inr t) (if lab = 0 then zg_X11_greatest_0 i1 i2 i3 i4 i5 i6 i7 t_lines t_linesFor t_listMany t_listCorners t_numberOf t_lesser t_greater t_list t_tA t_tB t_tC t_from else if lab = 35 then zg_X11_greatest_35 i1 i2 i3 i4 i5 i6 i7 t_lines t_linesFor t_listMany t_listCorners t_numberOf t_lesser t_greater t_list t_tA t_tB t_tC t_from else if lab = 47 then zg_X11_greatest_47 i1 i2 i3 i4 i5 i6 i7 t_lines t_linesFor t_listMany t_listCorners t_numberOf t_lesser t_greater t_list t_tA t_tB t_tC t_from else if lab = 70 then zg_X11_greatest_70 i1 i2 i3 i4 i5 i6 i7 t_lines t_linesFor t_listMany t_listCorners t_numberOf t_lesser t_greater t_list t_tA t_tB t_tC t_from else none) := h
    have h := Go_f h0 h
    by_cases l35 : lab = 35
    · have h := Go_t l35 h
      have hG : zg_X11_greatest (lab, i1, w, i3, i4, i5, i6, i7, t_lines, t_linesFor, t_listMany, t_listCorners, t_numberOf, t_lesser, t_greater, t_list, t_tA, t_tB, t_tC, t_from) = zg_X11_greatest_35 i1 w i3 i4 i5 i6 i7 t_lines t_linesFor t_listMany t_listCorners t_numberOf t_lesser t_greater t_list t_tA t_tB t_tC t_from := (if_neg h0).trans (if_pos l35)
      rw [hG]
      unfold zg_X11_greatest_35 at h ⊢
      obtain ⟨c1, h⟩ := Go_n h
      obtain ⟨c2, h⟩ := Go_n h
      rw [if_neg c1, if_neg c2]
      by_cases c3 : t_listMany ≤ i5
      · have h := Go_t c3 h
        obtain ⟨c4, h⟩ := Go_n h
        by_cases c5 : i2 = 0
        · have h := Go_s (Go_t c5 h); cases h
        · have h := Go_s (Go_f c5 h); cases h
      · have h := Go_s (Go_f c3 h)
        have h := Sum.inr.inj h
        subst h
        rw [if_neg c3]
        exact ⟨by simp, rfl⟩
    · have h := Go_f l35 h
      have h := Go_f l47 h
      by_cases l70 : lab = 70
      · have h := Go_t l70 h
        have hG : zg_X11_greatest (lab, i1, w, i3, i4, i5, i6, i7, t_lines, t_linesFor, t_listMany, t_listCorners, t_numberOf, t_lesser, t_greater, t_list, t_tA, t_tB, t_tC, t_from) = zg_X11_greatest_70 i1 w i3 i4 i5 i6 i7 t_lines t_linesFor t_listMany t_listCorners t_numberOf t_lesser t_greater t_list t_tA t_tB t_tC t_from := (if_neg h0).trans ((if_neg l35).trans ((if_neg l47).trans (if_pos l70)))
        rw [hG]
        unfold zg_X11_greatest_70 at h ⊢
        obtain ⟨c1, h⟩ := Go_n h
        obtain ⟨c2, h⟩ := Go_n h
        rw [if_neg c1, if_neg c2]
        by_cases c3 : i1 ≤ i7
        · have h := Go_s (Go_t c3 h)
          have h := Sum.inr.inj h
          subst h
          rw [if_pos c3]
          exact ⟨by simp, rfl⟩
        · have h := Go_f c3 h
          obtain ⟨c4, h⟩ := Go_n h
          obtain ⟨c5, h⟩ := Go_n h
          rw [if_neg c3, if_neg c4, if_neg c5]
          by_cases c6 : i3 < (zget t_from (Int.toNat i7))
          · have h := Go_s (Go_t c6 h)
            have h := Sum.inr.inj h
            subst h
            rw [if_pos c6]
            exact ⟨by simp, rfl⟩
          · have h := Go_s (Go_f c6 h)
            have h := Sum.inr.inj h
            subst h
            rw [if_neg c6]
            exact ⟨by simp, rfl⟩
      · have h := Go_f l70 h
        obtain ⟨_, h, -⟩ := h
        cases h
theorem jst_in {S O : Type} {g : S → Option (O ⊕ S)} {n : Nat} {s s' : S} (h : jst g (n + 1) s = some (.inr s')) : ∃ t, g s = some (.inr t) ∧ jst g n t = some (.inr s') := by
  have h2 : (match g s with
    | none => none
    | some (.inl o) => some (.inl o)
    | some (.inr s'') => jst g n s'') = some (.inr s') := h
  cases hg : g s with
  | none => rw [hg] at h2; cases h2
  | some z =>
    cases z with
    | inl o => rw [hg] at h2; cases h2
    | inr t => rw [hg] at h2; exact ⟨t, rfl, h2⟩
theorem jst_s {S O : Type} {g : S → Option (O ⊕ S)} {n : Nat} {s t : S} {x : Option (O ⊕ S)} (h : g s = some (.inr t)) (hk : jst g n t = x) : jst g (n + 1) s = x := by
  show (match g s with
    | none => none
    | some (.inl o) => some (.inl o)
    | some (.inr s'') => jst g n s'') = x
  rw [h]
  exact hk
def gwS (w : Int) (s : zS_X11_greatest) : zS_X11_greatest := (s.1, s.2.1, w, s.2.2.2)
theorem gw_run (ent : Int → Int → Int → Nat → Nat → Nat → Nat → Nat → Nat → Nat → Int → Int → Int → Option (Int × Int × Nat × Nat × Nat × Nat × Nat × Nat × Nat)) (w : Int) : ∀ (n : Nat) (s s' : zS_X11_greatest), ¬ s.1 = 0 → jst (gq ent) n s = some (.inr s') → jst (gq ent) n (gwS w s) = some (.inr (gwS w s')) := by
  intro n
  induction n with
  | zero => intro s s' _ h; have e : s = s' := Sum.inr.inj (Option.some.inj h); rw [e]; rfl
  | succ n ih =>
    intro s s' h0 h
    obtain ⟨t, hg, h2⟩ := jst_in h
    obtain ⟨lab, i1, i2, i3, i4, i5, i6, i7, t_lines, t_linesFor, t_listMany, t_listCorners, t_numberOf, t_lesser, t_greater, t_list, t_tA, t_tB, t_tC, t_from⟩ := s
    obtain ⟨k1, k2⟩ := gw_step ent w lab i1 i2 i3 i4 i5 i6 i7 t_lines t_linesFor t_listMany t_listCorners t_numberOf t_lesser t_greater t_list t_tA t_tB t_tC t_from t h0 hg
    exact jst_s k2 (ih t s' k1 h2)
theorem jst_add {S O : Type} {g : S → Option (O ⊕ S)} {b : Nat} {x : Option (O ⊕ S)} : ∀ (a : Nat) (s s' : S), jst g a s = some (.inr s') → jst g b s' = x → jst g (a + b) s = x := by
  intro a
  induction a with
  | zero => intro s s' h hb; have e : s = s' := Sum.inr.inj (Option.some.inj h); rw [Nat.zero_add, e]; exact hb
  | succ a ih =>
    intro s s' h hb
    rw [show a + 1 + b = (a + b) + 1 by omega]
    have h2 : (match g s with
      | none => none
      | some (.inl o) => some (.inl o)
      | some (.inr s'') => jst g a s'') = some (.inr s') := h
    show (match g s with
      | none => none
      | some (.inl o) => some (.inl o)
      | some (.inr s'') => jst g (a + b) s'') = x
    cases hg : g s with
    | none => rw [hg] at h2; cases h2
    | some z =>
      cases z with
      | inl o => rw [hg] at h2; cases h2
      | inr t => rw [hg] at h2; exact ih t s' h2 hb
theorem gt_end {w i1 i3 i4 i5 i6 i7 a b c d : Int} {e f g l A B C fr : Nat} (h1 : ¬ zout i5) (h2 : ¬ zout c) (h3 : c ≤ i5) (h4 : ¬ zout w) : zg_X11_greatest (35, i1, w, i3, i4, i5, i6, i7, a, b, c, d, e, f, g, l, A, B, C, fr) = some (.inl ((if w = 0 then i3 else i4), a, b, c, d, e, f, g, l, A, B, C, fr)) := by
  show zg_X11_greatest_35 i1 w i3 i4 i5 i6 i7 a b c d e f g l A B C fr = _
  unfold zg_X11_greatest_35
  rw [if_neg h1, if_neg h2, if_pos h3, if_neg h4]
  by_cases q : w = 0
  · rw [if_pos q, if_pos q]
  · rw [if_neg q, if_neg q]
theorem gt_gen {n w : Int} {a b c d a1 b1 c1 d1 : Int} {e f g l A B C fr e1 f1 g1 l1 : Nat} (h1 : zf_X11_in n 4 9 = some true) (h2 : zf_X11_in w 0 1 = some true) (h : zf_X11_listFor a b c d e f g l n = some (a1, b1, c1, d1, e1, f1, g1, l1)) : zg_X11_greatest (0, n, w, 0, 0, 0, 0, 0, a, b, c, d, e, f, g, l, A, B, C, fr) = some (.inr (35, n, w, 0, (-1), 0, 0, 0, a1, b1, c1, d1, e1, f1, g1, l1, A, B, C, fr)) := by
  show zg_X11_greatest_0 n w 0 0 0 0 0 a b c d e f g l A B C fr = _
  unfold zg_X11_greatest_0
  rw [h1]
  simp only [Option.bind_some]
  rw [if_neg (by decide), h2]
  simp only [Option.bind_some]
  rw [if_neg (by decide), h]
  rfl
theorem gt_out {n w : Int} {a b c d : Int} {e f g l A B C fr : Nat} (h1 : zf_X11_in n 4 9 = some true) (h2 : zf_X11_in w 0 1 = some false) : zf_X11_greatest a b c d e f g l A B C fr n w = some ((-2), a, b, c, d, e, f, g, l, A, B, C, fr) := by
  unfold zf_X11_greatest
  rw [jrun_u]
  have hg : zg_X11_greatest (0, n, w, 0, 0, 0, 0, 0, a, b, c, d, e, f, g, l, A, B, C, fr) = some (.inl ((-2), a, b, c, d, e, f, g, l, A, B, C, fr)) := by
    show zg_X11_greatest_0 n w 0 0 0 0 0 a b c d e f g l A B C fr = _
    unfold zg_X11_greatest_0
    rw [h1]
    simp only [Option.bind_some]
    rw [if_neg (by decide), h2]
    rfl
  rw [hg]
  rfl
