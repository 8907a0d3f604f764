/-- isWay with more left: the same, that much more left -/
def iwP (k : Int) (F : Int → Option (zO_X11_isWay ⊕ zS_X11_isWay)) : zO_X11_isWay ⊕ zS_X11_isWay → Prop
  | .inl (b, k1, w1) => b = false → 0 ≤ k1 → k1 ≤ k ∧ ∀ dl : Int, 0 ≤ dl → ¬ zout (k + dl) → F (k + dl) = some (.inl (false, k1 + dl, w1))
  | .inr (l, a, b, c, d, e, f, k1, w1) => 0 ≤ k1 → k1 ≤ k ∧ ∀ dl : Int, 0 ≤ dl → ¬ zout (k + dl) → F (k + dl) = some (.inr (l, a, b, c, d, e, f, k1 + dl, w1))
theorem iw_step (rec : Int → Int → Nat → Nat → Nat → Nat → Int → Int → Int → Int → Option (Bool × Int × Nat)) (C : Int) (tA tB tC : Nat)
    (hr : ∀ (k : Int) (w : Nat) (i j s u k' : Int) (w' : Nat), rec C k tA tB tC w i j s u = some (false, k', w') → 0 ≤ k' → k' ≤ k ∧ ∀ dl : Int, 0 ≤ dl → ¬ zout (k + dl) → rec C (k + dl) tA tB tC w i j s u = some (false, k' + dl, w'))
    (lab : Nat) (i1 i2 i3 i4 i5 i6 k : Int) (w : Nat) (x : zO_X11_isWay ⊕ zS_X11_isWay) (h : zg_X11_isWay rec C tA tB tC (lab, i1, i2, i3, i4, i5, i6, k, w) = some x) :
    iwP k (fun q => zg_X11_isWay rec C tA tB tC (lab, i1, i2, i3, i4, i5, i6, q, w)) x := by
  have h : Go (fun y => y = x) (if lab = 0 then zg_X11_isWay_0 rec C tA tB tC i1 i2 i3 i4 i5 i6 k w else if lab = 42 then zg_X11_isWay_42 rec C tA tB tC i1 i2 i3 i4 i5 i6 k w else none) := ⟨x, h, rfl⟩
  by_cases l0 : lab = 0
  · have h := Go_t l0 h
    have hF : ∀ q, zg_X11_isWay rec C tA tB tC (lab, i1, i2, i3, i4, i5, i6, q, w) = zg_X11_isWay_0 rec C tA tB tC i1 i2 i3 i4 i5 i6 q w := fun q => if_pos l0
    unfold zg_X11_isWay_0 at h
    obtain ⟨c1, h⟩ := Go_n h
    obtain ⟨c2, h⟩ := Go_n h
    obtain ⟨c3, h⟩ := Go_n h
    obtain ⟨c4, h⟩ := Go_n h
    obtain ⟨c5, h⟩ := Go_n h
    by_cases c6 : Int.tmod (i1 + i3) C = i2
    · have h := Go_t c6 h
      obtain ⟨c7, h⟩ := Go_n h
      by_cases c8 : 0 ≤ k - (1 : Int)
      · have h := Go_s (Go_t c8 h)
        have h : _ = x := h
        subst h
        intro _ _
        refine ⟨by omega, fun dl hd hz => ?_⟩
        show zg_X11_isWay rec C tA tB tC (lab, i1, i2, i3, i4, i5, i6, k + dl, w) = _
        rw [hF]
        unfold zg_X11_isWay_0
        rw [if_neg c1, if_neg c2, if_neg c3, if_neg c4, if_neg c5, if_pos c6, if_neg (by unfold zout at *; omega), if_pos (by omega), show k + dl - 1 = k - 1 + dl by omega]
      · have h := Go_s (Go_f c8 h)
        have h : _ = x := h
        subst h
        intro hb
        cases hb
    · have h := Go_s (Go_f c6 h)
      have h : _ = x := h
      subst h
      intro _
      refine ⟨Int.le_refl _, fun dl hd hz => ?_⟩
      show zg_X11_isWay rec C tA tB tC (lab, i1, i2, i3, i4, i5, i6, k + dl, w) = _
      rw [hF]
      unfold zg_X11_isWay_0
      rw [if_neg c1, if_neg c2, if_neg c3, if_neg c4, if_neg c5, if_neg c6]
  · have h := Go_f l0 h
    by_cases l1 : lab = 42
    · have h := Go_t l1 h
      have hF : ∀ q, zg_X11_isWay rec C tA tB tC (lab, i1, i2, i3, i4, i5, i6, q, w) = zg_X11_isWay_42 rec C tA tB tC i1 i2 i3 i4 i5 i6 q w := fun q => (if_neg l0).trans (if_pos l1)
      unfold zg_X11_isWay_42 at h
      obtain ⟨c1, h⟩ := Go_n h
      obtain ⟨c2, h⟩ := Go_n h
      by_cases c3 : C - (2 : Int) ≤ i6
      · have h := Go_s (Go_t c3 h)
        have h : _ = x := h
        subst h
        intro _ _
        refine ⟨Int.le_refl _, fun dl hd hz => ?_⟩
        show zg_X11_isWay rec C tA tB tC (lab, i1, i2, i3, i4, i5, i6, k + dl, w) = _
        rw [hF]
        unfold zg_X11_isWay_42
        rw [if_neg c1, if_neg c2, if_pos c3]
      · have h := Go_f c3 h
        by_cases c4 : (zand (zshr i4 i6) (1 : Int)) = (1 : Int)
        · have h := Go_s (Go_t c4 h)
          have h : _ = x := h
          subst h
          intro _
          refine ⟨Int.le_refl _, fun dl hd hz => ?_⟩
          show zg_X11_isWay rec C tA tB tC (lab, i1, i2, i3, i4, i5, i6, k + dl, w) = _
          rw [hF]
          unfold zg_X11_isWay_42
          rw [if_neg c1, if_neg c2, if_neg c3, if_pos c4]
        · have h := Go_f c4 h
          obtain ⟨o11, e11, h⟩ := Go_b h
          by_cases c5 : o11 = false
          · have h := Go_s (Go_t c5 h)
            have h : _ = x := h
            subst h
            intro _
            refine ⟨Int.le_refl _, fun dl hd hz => ?_⟩
            show zg_X11_isWay rec C tA tB tC (lab, i1, i2, i3, i4, i5, i6, k + dl, w) = _
            rw [hF]
            unfold zg_X11_isWay_42
            rw [if_neg c1, if_neg c2, if_neg c3, if_neg c4, e11]
            simp only [Option.bind_some]
            rw [if_pos c5]
          · have h := Go_f c5 h
            obtain ⟨c6, h⟩ := Go_n h
            obtain ⟨⟨b13, k13, w13⟩, e13, h⟩ := Go_b h
            by_cases c7 : b13 = false
            · have h := Go_s (Go_t (show ((b13, k13, w13) : Bool × Int × Nat).1 = false from c7) h)
              have h : _ = x := h
              subst h
              subst c7
              intro hk
              obtain ⟨q1, q2⟩ := hr _ _ _ _ _ _ _ _ e13 hk
              refine ⟨q1, fun dl hd hz => ?_⟩
              show zg_X11_isWay rec C tA tB tC (lab, i1, i2, i3, i4, i5, i6, k + dl, w) = _
              rw [hF]
              unfold zg_X11_isWay_42
              rw [if_neg c1, if_neg c2, if_neg c3, if_neg c4, e11]
              simp only [Option.bind_some]
              rw [if_neg c5, if_neg c6, q2 dl hd hz]
              rfl
            · have h := Go_s (Go_f (show ¬ ((b13, k13, w13) : Bool × Int × Nat).1 = false from c7) h)
              have h : _ = x := h
              subst h
              intro hb
              cases hb
    · have h := Go_f l1 h
      obtain ⟨_, h, -⟩ := h
      cases h
theorem iw_run (rec : Int → Int → Nat → Nat → Nat → Nat → Int → Int → Int → Int → Option (Bool × Int × Nat)) (C : Int) (tA tB tC : Nat)
    (hr : ∀ (k : Int) (w : Nat) (i j s u k' : Int) (w' : Nat), rec C k tA tB tC w i j s u = some (false, k', w') → 0 ≤ k' → k' ≤ k ∧ ∀ dl : Int, 0 ≤ dl → ¬ zout (k + dl) → rec C (k + dl) tA tB tC w i j s u = some (false, k' + dl, w')) :
    ∀ (n : Nat) (lab : Nat) (i1 i2 i3 i4 i5 i6 k : Int) (w : Nat) (k' : Int) (w' : Nat), jrun (zg_X11_isWay rec C tA tB tC) n (lab, i1, i2, i3, i4, i5, i6, k, w) = some (false, k', w') → 0 ≤ k' →
      k' ≤ k ∧ ∀ dl : Int, 0 ≤ dl → ¬ zout (k + dl) → jrun (zg_X11_isWay rec C tA tB tC) n (lab, i1, i2, i3, i4, i5, i6, k + dl, w) = some (false, k' + dl, w') := by
  intro n
  induction n with
  | zero => intro lab i1 i2 i3 i4 i5 i6 k w k' w' h _; rw [jrun_0] at h; cases h
  | succ n ih =>
    intro lab i1 i2 i3 i4 i5 i6 k w k' w' h hk
    rw [jrun_s] at h
    cases hg : zg_X11_isWay rec C tA tB tC (lab, i1, i2, i3, i4, i5, i6, k, w) with
    | none => rw [hg] at h; cases h
    | some x =>
      have hs := iw_step rec C tA tB tC hr lab i1 i2 i3 i4 i5 i6 k w x hg
      rw [hg] at h
      cases x with
      | inl o =>
        obtain ⟨b, k1, w1⟩ := o
        have h : some (b, k1, w1) = some (false, k', w') := h
        cases h
        have hs : false = false → 0 ≤ k' → (k' ≤ k ∧ ∀ dl : Int, 0 ≤ dl → ¬ zout (k + dl) → zg_X11_isWay rec C tA tB tC (lab, i1, i2, i3, i4, i5, i6, k + dl, w) = some (.inl (false, k' + dl, w'))) := hs
        obtain ⟨q1, q2⟩ := hs rfl hk
        refine ⟨q1, fun dl hd hz => ?_⟩
        rw [jrun_s, q2 dl hd hz]
        rfl
      | inr t =>
        obtain ⟨l, a, b, c, d, e, f, k1, w1⟩ := t
        have h : jrun (zg_X11_isWay rec C tA tB tC) n (l, a, b, c, d, e, f, k1, w1) = some (false, k', w') := h
        obtain ⟨r1, r2⟩ := ih _ _ _ _ _ _ _ _ _ _ _ h hk
        have hs : 0 ≤ k1 → (k1 ≤ k ∧ ∀ dl : Int, 0 ≤ dl → ¬ zout (k + dl) → zg_X11_isWay rec C tA tB tC (lab, i1, i2, i3, i4, i5, i6, k + dl, w) = some (.inr (l, a, b, c, d, e, f, k1 + dl, w1))) := hs
        obtain ⟨q1, q2⟩ := hs (by omega)
        refine ⟨by omega, fun dl hd hz => ?_⟩
        rw [jrun_s, q2 dl hd hz]
        exact r2 dl hd (by unfold zout at *; omega)
theorem iw_sh (C : Int) (tA tB tC : Nat) : ∀ (d : Nat) (k : Int) (w : Nat) (i j s u k' : Int) (w' : Nat), zf_X11_isWay d C k tA tB tC w i j s u = some (false, k', w') → 0 ≤ k' → k' ≤ k ∧ ∀ dl : Int, 0 ≤ dl → ¬ zout (k + dl) → zf_X11_isWay d C (k + dl) tA tB tC w i j s u = some (false, k' + dl, w') := by
  intro d
  induction d with
  | zero => intro k w i j s u k' w' h _; have h : (none : Option (Bool × Int × Nat)) = some (false, k', w') := h; cases h
  | succ d ih => intro k w i j s u k' w' h hk; exact iw_run (zf_X11_isWay d) C tA tB tC ih jfuel 0 i j s u 0 0 k w k' w' h hk
theorem jrun_stp {S O : Type} {g : S → Option (O ⊕ S)} {n : Nat} {s t : S} {o : O} (h : g s = some (.inr t)) (hk : jrun g n t = some o) : jrun g (n + 1) s = some o := by
  rw [jrun_s, h]; exact hk
theorem jrun_fin {S O : Type} {g : S → Option (O ⊕ S)} {n : Nat} {s : S} {o : O} (h : g s = some (.inl o)) : jrun g (n + 1) s = some o := by
  rw [jrun_s, h]; rfl
theorem jfu (n : Nat) (h : Nat.ble n 1000000000 = true) : n ≤ jfuel := Nat.le_of_ble_eq_true h
theorem cw_step {n : Nat} {i j v a k e : Int} (h1 : ¬ zout k) (h2 : ¬ zout (pg8 n)) (h3 : ¬ (pg8 n) ≤ k) (h4 : ¬ (k < 0 ∨ 429 ≤ k)) (he : zf_X5_entryOf n (zget (pg6 n) (Int.toNat k)) i j = some e) (h5 : ¬ zout e) (h6 : ¬ zout v) : zg_X5_countWith n (6, i, j, v, a, k) = some (.inr (6, i, j, v, a + (if e = v then 1 else 0), k + 1)) := by
  show zg_X5_countWith_6 n i j v a k = _
  unfold zg_X5_countWith_6
  rw [if_neg h1, if_neg h2, if_neg h3, if_neg h4, he]
  simp only [Option.bind_some]
  rw [if_neg h5, if_neg h6]
  by_cases q : e = v
  · rw [if_pos q, if_pos q]
  · rw [if_neg q, if_neg q, Int.add_zero]
theorem cw_end {n : Nat} {i j v a k : Int} (h1 : ¬ zout k) (h2 : ¬ zout (pg8 n)) (h3 : (pg8 n) ≤ k) : zg_X5_countWith n (6, i, j, v, a, k) = some (.inl a) := by
  show zg_X5_countWith_6 n i j v a k = _
  unfold zg_X5_countWith_6
  rw [if_neg h1, if_neg h2, if_pos h3]
theorem sp_step {C i j v a k e s1 s2 m lc s1' s2' : Int} {n1 n2 n3 l tA tB tC fr n1' n2' n3' tA' tB' tC' fr' : Nat} (h1 : ¬ zout k) (h2 : ¬ zout m) (h3 : ¬ m ≤ k) (h4 : ¬ (k < 0 ∨ 429 ≤ k)) (he : zf_X11_entryOf s1 s2 n1 n2 n3 tA tB tC fr C (zgetL l (Int.toNat k)) i j = some (e, s1', s2', n1', n2', n3', tA', tB', tC', fr')) (h5 : ¬ zout e) (h6 : ¬ zout v) : zg_X11_spread C (33, i, j, v, a, k, s1, s2, m, lc, n1, n2, n3, l, tA, tB, tC, fr) = some (.inr (33, i, j, v, a + (if e = v then 1 else 0), k + 1, s1', s2', m, lc, n1', n2', n3', l, tA', tB', tC', fr')) := by
  show zg_X11_spread_33 C i j v a k s1 s2 m lc n1 n2 n3 l tA tB tC fr = _
  unfold zg_X11_spread_33
  rw [if_neg h1, if_neg h2, if_neg h3, if_neg h4, he]
  simp only [Option.bind_some]
  rw [if_neg h5, if_neg h6]
  by_cases q : e = v
  · rw [if_pos q, if_pos q]
  · rw [if_neg q, if_neg q]
theorem sp_end {C i j v a k s1 s2 m lc : Int} {n1 n2 n3 l tA tB tC fr : Nat} (h1 : ¬ zout k) (h2 : ¬ zout m) (h3 : m ≤ k) : zg_X11_spread C (33, i, j, v, a, k, s1, s2, m, lc, n1, n2, n3, l, tA, tB, tC, fr) = some (.inl (a, s1, s2, m, lc, n1, n2, n3, l, tA, tB, tC, fr)) := by
  show zg_X11_spread_33 C i j v a k s1 s2 m lc n1 n2 n3 l tA tB tC fr = _
  unfold zg_X11_spread_33
  rw [if_neg h1, if_neg h2, if_pos h3]
theorem sp_zero {C i j v s1 s2 m lc s1' s2' m' lc' : Int} {n1 n2 n3 l tA tB tC fr n1' n2' n3' l' : Nat} (h1 : zf_X11_isCorner C i = some true) (h2 : zf_X11_isCorner C j = some true) (h3 : zf_X11_listFor s1 s2 m lc n1 n2 n3 l C = some (s1', s2', m', lc', n1', n2', n3', l')) : zg_X11_spread C (0, i, j, v, 0, 0, s1, s2, m, lc, n1, n2, n3, l, tA, tB, tC, fr) = some (.inr (33, i, j, v, 0, 0, s1', s2', m', lc', n1', n2', n3', l', tA, tB, tC, fr)) := by
  show zg_X11_spread_0 C i j v 0 0 s1 s2 m lc n1 n2 n3 l tA tB tC fr = _
  unfold zg_X11_spread_0
  rw [h1]
  simp only [Option.bind_some]
  rw [if_neg (by decide), h2]
  simp only [Option.bind_some]
  rw [if_neg (by decide), h3]
  rfl
theorem wx1 {mk p : Nat} {bt a1 : Int} {a2 : Nat} {a3 a4 a5 : Int} {a6 a7 : Nat} {i j k c : Int} (h1 : zf_X10_areCorners mk p i j = some false) : ∃ o1, zf_X10_way mk p bt a1 a2 a3 a4 a5 a6 a7 i j k c = some o1 ∧ o1.1 = -2 := by
  unfold zf_X10_way
  rw [h1]
  exact ⟨_, rfl, rfl⟩
theorem wx2 {mk p : Nat} {bt a1 : Int} {a2 : Nat} {a3 a4 a5 : Int} {a6 a7 : Nat} {i j k c : Int} (h1 : zf_X10_areCorners mk p i j = some true) (h2 : ¬ zno mk p) (h3 : zf_X5_hasCorner p c = some false) : ∃ o1, zf_X10_way mk p bt a1 a2 a3 a4 a5 a6 a7 i j k c = some o1 ∧ o1.1 = -2 := by
  unfold zf_X10_way
  rw [h1]
  simp only [Option.bind_some]
  rw [if_neg (by decide), if_neg h2, h3]
  exact ⟨_, rfl, rfl⟩
theorem wx3 {mk p : Nat} {bt a1 : Int} {a2 : Nat} {a3 a4 a5 : Int} {a6 a7 : Nat} {i j k c : Int} (h1 : zf_X10_areCorners mk p i j = some true) (h2 : ¬ zno mk p) (h3 : zf_X5_hasCorner p c = some true) (h4 : ¬ zout k) (h5 : k < 0) : ∃ o1, zf_X10_way mk p bt a1 a2 a3 a4 a5 a6 a7 i j k c = some o1 ∧ o1.1 = -2 := by
  unfold zf_X10_way
  rw [h1]
  simp only [Option.bind_some]
  rw [if_neg (by decide), if_neg h2, h3]
  simp only [Option.bind_some]
  rw [if_neg (by decide), if_neg h4, if_pos h5]
  exact ⟨_, rfl, rfl⟩
theorem wx4 {mk p : Nat} {bt a1 : Int} {a2 : Nat} {a3 a4 a5 : Int} {a6 a7 : Nat} {i j k c e : Int} (h1 : zf_X10_areCorners mk p i j = some true) (h2 : ¬ zno mk p) (h3 : zf_X5_hasCorner p c = some true) (h4 : ¬ zout k) (h5 : ¬ k < 0) (h6 : zf_X5_entryOf p bt i j = some e) (h7 : ¬ zout e) (h8 : ¬ k < e) : ∃ o1, zf_X10_way mk p bt a1 a2 a3 a4 a5 a6 a7 i j k c = some o1 ∧ o1.1 = -2 := by
  unfold zf_X10_way
  rw [h1]
  simp only [Option.bind_some]
  rw [if_neg (by decide), if_neg h2, h3]
  simp only [Option.bind_some]
  rw [if_neg (by decide), if_neg h4, if_neg h5, h6]
  simp only [Option.bind_some]
  rw [if_neg h7, if_neg h8]
  exact ⟨_, rfl, rfl⟩
theorem wy1 {C a b ow l : Int} {n1 n2 n3 tA tB tC wa : Nat} {i j k c : Int} (h1 : zf_X11_isCorner C i = some false) : ∃ o2, zf_X11_way C a b ow l n1 n2 n3 tA tB tC wa i j k c = some o2 ∧ o2.1 = -2 := by
  unfold zf_X11_way
  rw [h1]
  exact ⟨_, rfl, rfl⟩
theorem wy2 {C a b ow l : Int} {n1 n2 n3 tA tB tC wa : Nat} {i j k c : Int} (h1 : zf_X11_isCorner C i = some true) (h2 : zf_X11_isCorner C j = some false) : ∃ o2, zf_X11_way C a b ow l n1 n2 n3 tA tB tC wa i j k c = some o2 ∧ o2.1 = -2 := by
  unfold zf_X11_way
  rw [h1]
  simp only [Option.bind_some]
  rw [if_neg (by decide), h2]
  exact ⟨_, rfl, rfl⟩
theorem wy3 {C a b ow l : Int} {n1 n2 n3 tA tB tC wa : Nat} {i j k c : Int} (h1 : zf_X11_isCorner C i = some true) (h2 : zf_X11_isCorner C j = some true) (h3 : ¬ zout i) (h4 : ¬ zout j) (h5 : i = j) : ∃ o2, zf_X11_way C a b ow l n1 n2 n3 tA tB tC wa i j k c = some o2 ∧ o2.1 = -2 := by
  unfold zf_X11_way
  rw [h1]
  simp only [Option.bind_some]
  rw [if_neg (by decide), h2]
  simp only [Option.bind_some]
  rw [if_neg (by decide), if_neg h3, if_neg h4, if_pos h5]
  exact ⟨_, rfl, rfl⟩
theorem wy4 {C a b ow l : Int} {n1 n2 n3 tA tB tC wa : Nat} {i j k c : Int} (h1 : zf_X11_isCorner C i = some true) (h2 : zf_X11_isCorner C j = some true) (h3 : ¬ zout i) (h4 : ¬ zout j) (h5 : ¬ i = j) (h6 : zf_X11_isCorner C c = some false) : ∃ o2, zf_X11_way C a b ow l n1 n2 n3 tA tB tC wa i j k c = some o2 ∧ o2.1 = -2 := by
  unfold zf_X11_way
  rw [h1]
  simp only [Option.bind_some]
  rw [if_neg (by decide), h2]
  simp only [Option.bind_some]
  rw [if_neg (by decide), if_neg h3, if_neg h4, if_neg h5, h6]
  exact ⟨_, rfl, rfl⟩
theorem wy5 {C a b ow l : Int} {n1 n2 n3 tA tB tC wa : Nat} {i j k c : Int} (h1 : zf_X11_isCorner C i = some true) (h2 : zf_X11_isCorner C j = some true) (h3 : ¬ zout i) (h4 : ¬ zout j) (h5 : ¬ i = j) (h6 : zf_X11_isCorner C c = some true) (h7 : ¬ zout k) (h8 : ¬ 0 ≤ k) : ∃ o2, zf_X11_way C a b ow l n1 n2 n3 tA tB tC wa i j k c = some o2 ∧ o2.1 = -2 := by
  unfold zf_X11_way
  rw [h1]
  simp only [Option.bind_some]
  rw [if_neg (by decide), h2]
  simp only [Option.bind_some]
  rw [if_neg (by decide), if_neg h3, if_neg h4, if_neg h5, h6]
  simp only [Option.bind_some]
  rw [if_neg (by decide), if_neg h7, if_neg h8]
  exact ⟨_, rfl, rfl⟩
theorem wy6 {C a b ow l : Int} {n1 n2 n3 tA tB tC wa : Nat} {i j k c : Int} {t1 t2 k' : Int} {t3 t4 t5 t6 t7 t8 w' : Nat} (h1 : zf_X11_isCorner C i = some true) (h2 : zf_X11_isCorner C j = some true) (h3 : ¬ zout i) (h4 : ¬ zout j) (h5 : ¬ i = j) (h6 : zf_X11_isCorner C c = some true) (h7 : ¬ zout k) (h8 : 0 ≤ k) (h9 : zf_X11_trianglesOf a b n1 n2 n3 tA tB tC C ow = some (t1, t2, t3, t4, t5, t6, t7, t8)) (ha : zf_X11_isWay 11 C k t6 t7 t8 wa i j 1 0 = some (false, k', w')) : ∃ o2, zf_X11_way C a b ow l n1 n2 n3 tA tB tC wa i j k c = some o2 ∧ o2.1 = -2 := by
  unfold zf_X11_way
  rw [h1]
  simp only [Option.bind_some]
  rw [if_neg (by decide), h2]
  simp only [Option.bind_some]
  rw [if_neg (by decide), if_neg h3, if_neg h4, if_neg h5, h6]
  simp only [Option.bind_some]
  rw [if_neg (by decide), if_neg h7, if_pos h8, h9]
  simp only [Option.bind_some]
  rw [ha]
  exact ⟨_, rfl, rfl⟩
theorem sx1 {mk p : Nat} {i j v : Int} (h1 : zf_X10_areCorners mk p i j = some false) : zf_X10_spread mk p i j v = some (-2) := by
  unfold zf_X10_spread
  rw [h1]
  rfl
theorem sx2 {mk p : Nat} {i j v r : Int} (h1 : zf_X10_areCorners mk p i j = some true) (h2 : ¬ zno mk p) (h3 : zf_X5_countWith p i j v = some r) : zf_X10_spread mk p i j v = some r := by
  unfold zf_X10_spread
  rw [h1]
  simp only [Option.bind_some]
  rw [if_neg (by decide), if_neg h2, h3]
  rfl
theorem sy1 {C i j v s1 s2 m lc : Int} {n1 n2 n3 l tA tB tC fr : Nat} (h1 : zf_X11_isCorner C i = some false) : ∃ o2, zf_X11_spread C s1 s2 m lc n1 n2 n3 l tA tB tC fr i j v = some o2 ∧ o2.1 = -2 := by
  have hg : zg_X11_spread C (0, i, j, v, 0, 0, s1, s2, m, lc, n1, n2, n3, l, tA, tB, tC, fr) = some (.inl ((-2), s1, s2, m, lc, n1, n2, n3, l, tA, tB, tC, fr)) := by
    show zg_X11_spread_0 C i j v 0 0 s1 s2 m lc n1 n2 n3 l tA tB tC fr = _
    unfold zg_X11_spread_0
    rw [h1]
    rfl
  exact ⟨_, jrun_le (jrun_fin (n := 0) hg) (jfu _ rfl), rfl⟩
theorem sy2 {C i j v s1 s2 m lc : Int} {n1 n2 n3 l tA tB tC fr : Nat} (h1 : zf_X11_isCorner C i = some true) (h2 : zf_X11_isCorner C j = some false) : ∃ o2, zf_X11_spread C s1 s2 m lc n1 n2 n3 l tA tB tC fr i j v = some o2 ∧ o2.1 = -2 := by
  have hg : zg_X11_spread C (0, i, j, v, 0, 0, s1, s2, m, lc, n1, n2, n3, l, tA, tB, tC, fr) = some (.inl ((-2), s1, s2, m, lc, n1, n2, n3, l, tA, tB, tC, fr)) := by
    show zg_X11_spread_0 C i j v 0 0 s1 s2 m lc n1 n2 n3 l tA tB tC fr = _
    unfold zg_X11_spread_0
    rw [h1]
    simp only [Option.bind_some]
    rw [if_neg (by decide), h2]
    rfl
  exact ⟨_, jrun_le (jrun_fin (n := 0) hg) (jfu _ rfl), rfl⟩
theorem areF1 {i j : Int} (zi : ¬ zout i) (zj : ¬ zout j) (h : ¬ Rg i 3 ∨ ¬ Rg j 3) : zf_X10_areCorners 16 4 i j = some false := by
  rw [areC zi zj]
  congr 1
  rw [Bool.and_eq_false_iff]
  rcases h with h | h
  · exact Or.inl (decide_eq_false h)
  · exact Or.inr (decide_eq_false h)
theorem areT1 {i j : Int} (zi : ¬ zout i) (zj : ¬ zout j) (h : Rg i 3) (h' : Rg j 3) : zf_X10_areCorners 16 4 i j = some true := by
  rw [areC zi zj, decide_eq_true h, decide_eq_true h']
  rfl
theorem hasF {i : Int} (z : ¬ zout i) (h : ¬ Rg i 3) : zf_X5_hasCorner 4 i = some false := by rw [hasC z, decide_eq_false h]
theorem hasT {i : Int} (z : ¬ zout i) (h : Rg i 3) : zf_X5_hasCorner 4 i = some true := by rw [hasC z, decide_eq_true h]
theorem yF {i : Int} (z : ¬ zout i) (h : ¬ Rg i 3) : zf_X11_isCorner 4 i = some false := by rw [yC z, decide_eq_false h]
theorem yT {i : Int} (z : ¬ zout i) (h : Rg i 3) : zf_X11_isCorner 4 i = some true := by rw [yC z, decide_eq_true h]
theorem both2 {A B : Type} {x : Option (Int × A)} {y : Option (Int × B)} (h1 : ∃ o1, x = some o1 ∧ o1.1 = -2) (h2 : ∃ o2, y = some o2 ∧ o2.1 = -2) : ∃ o1 o2, x = some o1 ∧ y = some o2 ∧ o1.1 = o2.1 := by
  obtain ⟨o1, x1, x2⟩ := h1
  obtain ⟨o2, y1, y2⟩ := h2
  exact ⟨o1, o2, x1, y1, x2.trans y2.symm⟩
