/-! greatest -/
noncomputable def Ev (m : Nat) (c : Int) (i j : Nat) : Int := (zf_X5_entryOf m c (i : Int) (j : Int)).getD 0
/-- every entry is one -/
theorem Ev_c {m : Nat} (h4 : 4 ≤ m) (h9 : m ≤ 9) {c : Int} (hc : isCut m c) {i j : Nat} (hi : i < m) (hj : j < m) : zf_X5_entryOf m c (i : Int) (j : Int) = some (Ev m c i j) ∧ 0 ≤ Ev m c i j ∧ Ev m c i j ≤ 21 := by
  obtain ⟨o, -, -, -, -, q⟩ := ok_ent m h4 h9 c hc (i : Int) (by omega) (by omega) 0 0 0 0 0 0 0 0 0 (by decide) (by decide) (fun h => by omega)
  obtain ⟨r, r1, r2, r3, r4⟩ := q j hj
  unfold Ev
  rw [r1]
  exact ⟨rfl, r3, r4⟩
theorem Ev_r {m : Nat} (h4 : 4 ≤ m) (h9 : m ≤ 9) {c : Int} (hc : isCut m c) {i k : Nat} (hk : i + 1 + k < m) : (rcE m c i k).2 = Ev m c i (i + 1 + k) := by
  have t := (Ev_c h4 h9 hc (i := i) (j := i + 1 + k) (by omega) hk).1
  have e := Ev_up h4 h9 (by omega) hk t
  rw [e, show i + 1 + k - (i + 1) = k by omega]
theorem Ev_sym {m : Nat} (h4 : 4 ≤ m) (h9 : m ≤ 9) {c : Int} (hc : isCut m c) {i j : Nat} (hij : i < j) (hj : j < m) : Ev m c j i = Ev m c i j := by
  rw [Ev_up h4 h9 hij hj (Ev_c h4 h9 hc (by omega) hj).1, Ev_dn h4 h9 hij hj (Ev_c h4 h9 hc hj (by omega)).1]
def gfI (m : Nat) (c : Int) (i : Nat) (lab : Nat) (i1 i2 i3 i4 i5 i6 : Int) : Prop := i1 = c ∧ ((lab = 0 ∧ i2 = (i : Int)) ∨ (lab = 13 ∧ ∃ k : Nat, i + 1 + k ≤ m ∧ i6 = ((i + 1 + k : Nat) : Int) ∧ i4 = (rcE m c i k).1 ∧ i5 = (rcE m c i k).2 ∧ (i3 = 0 ∨ ∃ j, i < j ∧ j < i + 1 + k ∧ i3 = Ev m c i j) ∧ 0 ≤ i3 ∧ i3 ≤ 21 ∧ ∀ j, i < j → j < i + 1 + k → Ev m c i j ≤ i3))
set_option maxHeartbeats 1000000 in
theorem gf_ok {m : Nat} (h4 : 4 ≤ m) (h9 : m ≤ 9) {c : Int} (hc : isCut m c) {i : Nat} (hi : i < m) : Go (fun o => (o = 0 ∨ ∃ j, i < j ∧ j < m ∧ o = Ev m c i j) ∧ 0 ≤ o ∧ o ≤ 21 ∧ ∀ j, i < j → j < m → Ev m c i j ≤ o) (zf_X5_greatestFrom m c (i : Int)) := by
  unfold zf_X5_greatestFrom
  refine jok (fun (s : zS_X5_greatestFrom) => match s with | (lab, i1, i2, i3, i4, i5, i6) => gfI m c i lab i1 i2 i3 i4 i5 i6) (fun (s : zS_X5_greatestFrom) => match s with | (lab, i1, i2, i3, i4, i5, i6) => if lab = 0 then 100 else (60 - i6).toNat) (fun (o : zO_X5_greatestFrom) => (o = 0 ∨ ∃ j, i < j ∧ j < m ∧ o = Ev m c i j) ∧ 0 ≤ o ∧ o ≤ 21 ∧ ∀ j, i < j → j < m → Ev m c i j ≤ o) ?_ _ ?_ ?_
  · intro s hI
    obtain ⟨lab, i1, i2, i3, i4, i5, i6⟩ := s
    have hI : gfI m c i lab i1 i2 i3 i4 i5 i6 := hI
    unfold gfI at hI
    obtain ⟨e1, hI⟩ := hI
    subst e1
    rcases hI with ⟨rfl, rfl⟩ | ⟨rfl, k, v1, rfl, v2, v3, v4, v5, v6, v7⟩
    · show Go _ (zg_X5_greatestFrom_0 m i1 (i : Int) i3 i4 i5 i6)
      unfold zg_X5_greatestFrom_0
      exact Go_i (show gfI m i1 i 13 i1 (i : Int) 0 0 1 ((i : Int) + 1) ∧ (60 - ((i : Int) + 1)).toNat < 100 from ⟨⟨rfl, Or.inr ⟨rfl, 0, by omega, by omega, rfl, rfl, Or.inl rfl, by omega, by omega, fun j h1 h2 => by omega⟩⟩, by omega⟩)
    · show Go _ (zg_X5_greatestFrom_13 m i1 i2 i3 i4 i5 ((i + 1 + k : Nat) : Int))
      unfold zg_X5_greatestFrom_13
      refine Go_chk (by unfold zout; omega) ?_
      refine Go_chk (by unfold zout; omega) ?_
      refine Go_ite (fun x => ?_) (fun x => ?_)
      · refine Go_i (show (i3 = 0 ∨ ∃ j, i < j ∧ j < m ∧ i3 = Ev m i1 i j) ∧ 0 ≤ i3 ∧ i3 ≤ 21 ∧ ∀ j, i < j → j < m → Ev m i1 i j ≤ i3 from ⟨?_, v5, v6, fun j h1 h2 => v7 j h1 (by omega)⟩)
        rcases v4 with e | ⟨j, h1, h2, h3⟩
        · exact Or.inl e
        · exact Or.inr ⟨j, h1, by omega, h3⟩
      · have hk : i + 1 + k < m := by omega
        have ee := Ev_r h4 h9 hc hk
        have eb := (Ev_c h4 h9 hc hi hk).2
        have mx := rmax i3 i5
        refine Go_chk (by unfold zout; omega) ?_
        refine Go_chk (by unfold zout; omega) ?_
        refine Go_bind (triV_e h4 h9 i1 (by omega)) ?_
        refine Go_i (show gfI m i1 i 13 i1 0 (zmax i3 i5) i5 (triV m i1 (i + 1 + k) * i5 - i4) (((i + 1 + k : Nat) : Int) + 1) ∧ (60 - (((i + 1 + k : Nat) : Int) + 1)).toNat < (60 - ((i + 1 + k : Nat) : Int)).toNat from ⟨⟨rfl, Or.inr ⟨rfl, k + 1, by omega, by omega, ?_, ?_, ?_, by omega, by omega, ?_⟩⟩, by omega⟩)
        · rw [v3]; rfl
        · rw [v3, v2]; rfl
        · rcases mx.2.2 with e | e
          · rcases v4 with z | ⟨j, h1, h2, h3⟩
            · exact Or.inl (e.trans z)
            · exact Or.inr ⟨j, h1, by omega, e.trans h3⟩
          · exact Or.inr ⟨i + 1 + k, by omega, by omega, by rw [e, v3, ee]⟩
        · intro j h1 h2
          by_cases e : j = i + 1 + k
          · subst e; rw [← ee, ← v3]; exact mx.2.1
          · exact Int.le_trans (v7 j h1 (by omega)) mx.1
  · exact ⟨rfl, Or.inl ⟨rfl, rfl⟩⟩
  · show 100 < jfuel
    unfold jfuel
    omega
def giI (m : Nat) (c : Int) (lab : Nat) (i1 i2 i3 : Int) : Prop := i1 = c ∧ (lab = 0 ∨ (lab = 4 ∧ 0 ≤ i3 ∧ i3 ≤ (m : Int) ∧ (i2 = 0 ∨ ∃ i j, i < j ∧ j < m ∧ i2 = Ev m c i j) ∧ 0 ≤ i2 ∧ i2 ≤ 21 ∧ ∀ i j : Nat, (i : Int) < i3 → i < j → j < m → Ev m c i j ≤ i2))
/-- G is the greatest entry of the cut -/
def isG (m : Nat) (c G : Int) : Prop := (G = 0 ∨ ∃ i j, i < m ∧ j < m ∧ G = Ev m c i j) ∧ 0 ≤ G ∧ G ≤ 21 ∧ ∀ i j, i < m → j < m → Ev m c i j ≤ G
set_option maxHeartbeats 1000000 in
theorem gi_ok {m : Nat} (h4 : 4 ≤ m) (h9 : m ≤ 9) {c : Int} (hc : isCut m c) : Go (fun o => isG m c o) (zf_X5_greatestIn m c) := by
  have g : Go (fun o => (o = 0 ∨ ∃ i j, i < j ∧ j < m ∧ o = Ev m c i j) ∧ 0 ≤ o ∧ o ≤ 21 ∧ ∀ i j, i < j → j < m → Ev m c i j ≤ o) (zf_X5_greatestIn m c) := by
    unfold zf_X5_greatestIn
    refine jok (fun (s : zS_X5_greatestIn) => match s with | (lab, i1, i2, i3) => giI m c lab i1 i2 i3) (fun (s : zS_X5_greatestIn) => match s with | (lab, i1, i2, i3) => if lab = 0 then 100 else (60 - i3).toNat) (fun (o : zO_X5_greatestIn) => (o = 0 ∨ ∃ i j, i < j ∧ j < m ∧ o = Ev m c i j) ∧ 0 ≤ o ∧ o ≤ 21 ∧ ∀ i j, i < j → j < m → Ev m c i j ≤ o) ?_ _ ?_ ?_
    · intro s hI
      obtain ⟨lab, i1, i2, i3⟩ := s
      have hI : giI m c lab i1 i2 i3 := hI
      unfold giI at hI
      obtain ⟨e1, hI⟩ := hI
      subst e1
      rcases hI with rfl | ⟨rfl, v1, v2, v4, v5, v6, v7⟩
      · show Go _ (zg_X5_greatestIn_0 m i1 i2 i3)
        unfold zg_X5_greatestIn_0
        exact Go_i (show giI m i1 4 i1 0 0 ∧ (60 - (0 : Int)).toNat < 100 from ⟨⟨rfl, Or.inr ⟨rfl, by omega, by omega, Or.inl rfl, by omega, by omega, fun i j h => by omega⟩⟩, by decide⟩)
      · show Go _ (zg_X5_greatestIn_4 m i1 i2 i3)
        unfold zg_X5_greatestIn_4
        refine Go_chk (by unfold zout; omega) ?_
        refine Go_chk (by unfold zout; omega) ?_
        refine Go_ite (fun x => ?_) (fun x => ?_)
        · exact Go_i (show (i2 = 0 ∨ ∃ i j, i < j ∧ j < m ∧ i2 = Ev m i1 i j) ∧ 0 ≤ i2 ∧ i2 ≤ 21 ∧ ∀ i j, i < j → j < m → Ev m i1 i j ≤ i2 from ⟨v4, v5, v6, fun i j h1 h2 => v7 i j (by omega) h1 h2⟩)
        · obtain ⟨a, rfl⟩ : ∃ a : Nat, i3 = (a : Int) := ⟨i3.toNat, by omega⟩
          refine Go_bindP (gf_ok h4 h9 hc (show a < m by omega)) (fun r q => ?_)
          obtain ⟨q1, q2, q3, q4⟩ := q
          have mx := rmax i2 r
          refine Go_chk (by unfold zout; omega) ?_
          refine Go_chk (by unfold zout; omega) ?_
          refine Go_i (show giI m i1 4 i1 (zmax i2 r) ((a : Int) + 1) ∧ (60 - ((a : Int) + 1)).toNat < (60 - (a : Int)).toNat from ⟨⟨rfl, Or.inr ⟨rfl, by omega, by omega, ?_, by omega, by omega, ?_⟩⟩, by omega⟩)
          · rcases mx.2.2 with e | e
            · rcases v4 with z | ⟨i, j, h1, h2, h3⟩
              · exact Or.inl (e.trans z)
              · exact Or.inr ⟨i, j, h1, h2, e.trans h3⟩
            · rcases q1 with z | ⟨j, h1, h2, h3⟩
              · exact Or.inl (e.trans z)
              · exact Or.inr ⟨a, j, h1, h2, e.trans h3⟩
          · intro i j h1 h2 h3
            by_cases e : i = a
            · subst e; exact Int.le_trans (q4 j h2 h3) mx.2.1
            · exact Int.le_trans (v7 i j (by omega) h2 h3) mx.1
    · exact ⟨rfl, Or.inl rfl⟩
    · show 100 < jfuel
      unfold jfuel
      omega
  refine Go_w g (fun o q => ?_)
  obtain ⟨q1, q2, q3, q4⟩ := q
  refine ⟨?_, q2, q3, ?_⟩
  · rcases q1 with z | ⟨i, j, h1, h2, h3⟩
    · exact Or.inl z
    · exact Or.inr ⟨i, j, by omega, h2, h3⟩
  · intro i j hi hj
    by_cases e : i < j
    · exact q4 i j e hj
    · by_cases e' : j < i
      · rw [Ev_sym h4 h9 hc e' hi]; exact q4 j i e' hi
      · rw [Ev_eq (by omega) (by omega) (Ev_c h4 h9 hc hi hj).1]; exact q2
/-- the reference goes through the entries of one row -/
def stp (P : Int → Prop) (k B I B' I' : Int) : Prop := ((B' = B ∧ I' = I) ∨ (B < B' ∧ I' = k ∧ P B')) ∧ B ≤ B'
theorem stp_2 {P : Int → Prop} {k B I B1 I1 B2 I2 : Int} (h : stp P k B I B1 I1) (h' : stp P k B1 I1 B2 I2) : stp P k B I B2 I2 := by
  obtain ⟨h, l⟩ := h
  obtain ⟨h', l'⟩ := h'
  refine ⟨?_, Int.le_trans l l'⟩
  rcases h' with ⟨rfl, rfl⟩ | ⟨a1, a2, a3⟩
  · exact h
  · exact Or.inr ⟨by omega, a2, a3⟩
set_option maxHeartbeats 1000000 in
theorem g70_run {m : Nat} (h4 : 4 ≤ m) (h9 : m ≤ 9) {w k a ln lf lm lc : Int} {nf ls gr li tA tB tC fr : Nat} (P : Int → Prop) {o2 : zO_X11_greatest} (hP : ∀ j, j < m → P (zget fr j) ∧ 0 ≤ zget fr j ∧ zget fr j ≤ 21) : ∀ (d b : Nat) (B I : Int), b + d = m → 0 ≤ B → B ≤ 21 → JE zg_X11_greatest (70, (m : Int), w, B, I, k, a, (b : Int), ln, lf, lm, lc, nf, ls, gr, li, tA, tB, tC, fr) o2 → ∃ B' I', stp P k B I B' I' ∧ B' ≤ 21 ∧ (∀ j, b ≤ j → j < m → zget fr j ≤ B') ∧ JE zg_X11_greatest (47, (m : Int), w, B', I', k, a + 1, (m : Int), ln, lf, lm, lc, nf, ls, gr, li, tA, tB, tC, fr) o2 := by
  intro d
  induction d with
  | zero =>
    intro b B I hb h0 h21 h
    have h := JE_dn (s' := (47, (m : Int), w, B, I, k, a + 1, (b : Int), ln, lf, lm, lc, nf, ls, gr, li, tA, tB, tC, fr)) (by
      show zg_X11_greatest_70 (m : Int) w B I k a (b : Int) ln lf lm lc nf ls gr li tA tB tC fr = _
      unfold zg_X11_greatest_70
      rw [if_neg (by unfold zout; omega), if_neg (by unfold zout; omega), if_pos (by omega)]) h
    rw [show (b : Int) = (m : Int) by omega] at h
    exact ⟨B, I, ⟨Or.inl ⟨rfl, rfl⟩, Int.le_refl _⟩, h21, fun j h1 h2 => by omega, h⟩
  | succ d ih =>
    intro b B I hb h0 h21 h
    obtain ⟨pb, p0, p21⟩ := hP b (by omega)
    by_cases c : B < zget fr b
    · have h := JE_dn (s' := (70, (m : Int), w, zget fr b, k, k, a, (b : Int) + 1, ln, lf, lm, lc, nf, ls, gr, li, tA, tB, tC, fr)) (by
        show zg_X11_greatest_70 (m : Int) w B I k a (b : Int) ln lf lm lc nf ls gr li tA tB tC fr = _
        unfold zg_X11_greatest_70
        rw [if_neg (by unfold zout; omega), if_neg (by unfold zout; omega), if_neg (by omega), if_neg (by omega), if_neg (by unfold zout; omega), Int.toNat_natCast, if_pos c]) h
      rw [show (b : Int) + 1 = ((b + 1 : Nat) : Int) by omega] at h
      obtain ⟨B', I', s, l21, al, j⟩ := ih (b + 1) (zget fr b) k (by omega) p0 p21 h
      refine ⟨B', I', stp_2 ⟨Or.inr ⟨c, rfl, pb⟩, Int.le_of_lt c⟩ s, l21, fun z h1 h2 => ?_, j⟩
      by_cases e : z = b
      · subst e; exact s.2
      · exact al z (by omega) h2
    · have h := JE_dn (s' := (70, (m : Int), w, B, I, k, a, (b : Int) + 1, ln, lf, lm, lc, nf, ls, gr, li, tA, tB, tC, fr)) (by
        show zg_X11_greatest_70 (m : Int) w B I k a (b : Int) ln lf lm lc nf ls gr li tA tB tC fr = _
        unfold zg_X11_greatest_70
        rw [if_neg (by unfold zout; omega), if_neg (by unfold zout; omega), if_neg (by omega), if_neg (by omega), if_neg (by unfold zout; omega), Int.toNat_natCast, if_neg c]) h
      rw [show (b : Int) + 1 = ((b + 1 : Nat) : Int) by omega] at h
      obtain ⟨B', I', s, l21, al, j⟩ := ih (b + 1) B I (by omega) h0 h21 h
      refine ⟨B', I', s, l21, fun z h1 h2 => ?_, j⟩
      by_cases e : z = b
      · subst e
        have := s.2
        omega
      · exact al z (by omega) h2
theorem TLat {m : Nat} {lf ln : Int} {nf ls gr : Nat} (hT : TL lf ln nf ls gr) : (-2147483648 ≤ lf ∧ lf ≤ 2147483647) ∧ (lf = (m : Int) → LT m ln nf ls gr) := by
  obtain ⟨a, b, c⟩ := hT
  refine ⟨by omega, fun e => ?_⟩
  rw [e] at c
  exact c
set_option maxHeartbeats 1000000 in
theorem g47_run {m : Nat} (h4 : 4 ≤ m) (h9 : m ≤ 9) {w lm lc : Int} {k li : Nat} (hk : (k : Int) < pg8 m) (hL : LI m lm li) {o2 : zO_X11_greatest} : ∀ (d a : Nat) (B I z ln lf : Int) (nf ls gr tA tB tC fr : Nat), a + d = m → 0 ≤ B → B ≤ 21 → TL lf ln nf ls gr → JE zg_X11_greatest (47, (m : Int), w, B, I, (k : Int), (a : Int), z, ln, lf, lm, lc, nf, ls, gr, li, tA, tB, tC, fr) o2 → ∃ (B' I' ln' lf' : Int) (nf' ls' gr' tA' tB' tC' fr' : Nat), stp (fun v => ∃ i j, i < m ∧ j < m ∧ v = Ev m (zget (pg6 m) k) i j) (k : Int) B I B' I' ∧ B' ≤ 21 ∧ (∀ i j, a ≤ i → i < m → j < m → Ev m (zget (pg6 m) k) i j ≤ B') ∧ TL lf' ln' nf' ls' gr' ∧ JE zg_X11_greatest (35, (m : Int), w, B', I', (k : Int) + 1, (m : Int), 0, ln', lf', lm, lc, nf', ls', gr', li, tA', tB', tC', fr') o2 := by
  have r8 := rpg8 h4 h9
  have hc : isCut m (zget (pg6 m) k) := pg6_cut hk
  intro d
  induction d with
  | zero =>
    intro a B I z ln lf nf ls gr tA tB tC fr ha h0 h21 hT h
    have h := JE_dn (s' := (35, (m : Int), w, B, I, (k : Int) + 1, (a : Int), 0, ln, lf, lm, lc, nf, ls, gr, li, tA, tB, tC, fr)) (by
      show zg_X11_greatest_47 (m : Int) w B I (k : Int) (a : Int) z ln lf lm lc nf ls gr li tA tB tC fr = _
      unfold zg_X11_greatest_47
      rw [if_neg (by unfold zout; omega), if_neg (by unfold zout; omega), if_pos (by omega)]) h
    rw [show (a : Int) = (m : Int) by omega] at h
    exact ⟨B, I, ln, lf, nf, ls, gr, tA, tB, tC, fr, ⟨Or.inl ⟨rfl, rfl⟩, Int.le_refl _⟩, h21, fun i j h1 h2 => by omega, hT, h⟩
  | succ d ih =>
    intro a B I z ln lf nf ls gr tA tB tC fr ha h0 h21 hT h
    have ek : zgetL li (Int.toNat (k : Int)) = zget (pg6 m) k := by rw [Int.toNat_natCast]; exact hL.2 k hk
    have hf := TLat (m := m) hT
    obtain ⟨u, hu, u0, u1, u2, u3⟩ := ok_ent m h4 h9 (zget (pg6 m) k) hc (a : Int) (by omega) (by omega) ln lf nf ls gr tA tB tC fr hf.1.1 hf.1.2 hf.2
    have h := JE_dn (s' := (70, (m : Int), w, B, I, (k : Int), (a : Int), 0, u.1, u.2.1, lm, lc, u.2.2.1, u.2.2.2.1, u.2.2.2.2.1, li, u.2.2.2.2.2.1, u.2.2.2.2.2.2.1, u.2.2.2.2.2.2.2.1, u.2.2.2.2.2.2.2.2)) (by
      show zg_X11_greatest_47 (m : Int) w B I (k : Int) (a : Int) z ln lf lm lc nf ls gr li tA tB tC fr = _
      unfold zg_X11_greatest_47
      rw [if_neg (by unfold zout; omega), if_neg (by unfold zout; omega), if_neg (by omega), if_neg (by omega), ek, hu]
      rfl) h
    have hP : ∀ j, j < m → (∃ i j', i < m ∧ j' < m ∧ zget u.2.2.2.2.2.2.2.2 j = Ev m (zget (pg6 m) k) i j') ∧ 0 ≤ zget u.2.2.2.2.2.2.2.2 j ∧ zget u.2.2.2.2.2.2.2.2 j ≤ 21 := by
      intro j hj
      obtain ⟨r, r1, r2, r3, r4⟩ := u3 j hj
      refine ⟨⟨a, j, by omega, hj, ?_⟩, by omega, by omega⟩
      unfold Ev
      rw [r1, r2]
      rfl
    obtain ⟨B1, I1, s1, l1, al1, h⟩ := g70_run h4 h9 (fun v => ∃ i j, i < m ∧ j < m ∧ v = Ev m (zget (pg6 m) k) i j) hP m 0 B I (by omega) h0 h21 h
    rw [show (a : Int) + 1 = ((a + 1 : Nat) : Int) by omega] at h
    have hT1 : TL u.2.1 u.1 u.2.2.1 u.2.2.2.1 u.2.2.2.2.1 := by
      rw [u0]
      exact ⟨by omega, by omega, u1⟩
    have := s1.2
    obtain ⟨B', I', ln', lf', nf', ls', gr', tA', tB', tC', fr', s2, l2, al2, t2, h⟩ := ih (a + 1) B1 I1 _ _ _ _ _ _ _ _ _ _ (by omega) (by omega) l1 hT1 h
    refine ⟨B', I', ln', lf', nf', ls', gr', tA', tB', tC', fr', stp_2 s1 s2, l2, fun i j h1 h2 h3 => ?_, t2, h⟩
    by_cases e : i = a
    · subst e
      obtain ⟨r, r1, r2, r3, r4⟩ := u3 j h3
      have := al1 j (by omega) h3
      have := s2.2
      have : Ev m (zget (pg6 m) k) i j = r := by
        unfold Ev
        rw [r1]
        rfl
      omega
    · exact al2 i j (by omega) h2 h3
/-- one cut -/
theorem stp_G {m : Nat} {c G k B I B' I' : Int} (h0 : 0 ≤ B) (hG : isG m c G) (s : stp (fun v => ∃ i j, i < m ∧ j < m ∧ v = Ev m c i j) k B I B' I') (al : ∀ i j, i < m → j < m → Ev m c i j ≤ B') : (G ≤ B → B' = B ∧ I' = I) ∧ (B < G → B' = G ∧ I' = k) := by
  obtain ⟨g1, g2, g3, g4⟩ := hG
  obtain ⟨s, l⟩ := s
  constructor
  · intro h
    rcases s with s | ⟨a1, a2, i, j, hi, hj, e⟩
    · exact s
    · have := g4 i j hi hj
      omega
  · intro h
    rcases g1 with z | ⟨i, j, hi, hj, e⟩
    · omega
    · have t := al i j hi hj
      rcases s with ⟨a1, a2⟩ | ⟨a1, a2, i', j', hi', hj', e'⟩
      · omega
      · have := g4 i' j' hi' hj'
        exact ⟨by omega, a2⟩
set_option maxHeartbeats 1000000 in
theorem gr_run {m : Nat} (h4 : 4 ≤ m) (h9 : m ≤ 9) {w : Int} (hw0 : 0 ≤ w) (hw1 : w ≤ 1) {o : Int} {o2 : zO_X11_greatest} {lm lc : Int} {li : Nat} (hL : LI m lm li) : ∀ (d k : Nat) (B I J y ln lf : Int) (nf ls gr tA tB tC fr : Nat), (k : Int) + (d : Int) = pg8 m → 0 ≤ B → B ≤ 21 → TL lf ln nf ls gr → ((k = 0 ∧ B = 0) ∨ (I = J ∧ 0 ≤ I ∧ I < (k : Int) ∧ isG m (zget (pg6 m) I.toNat) B)) → JE (zg_X5_numberOfGreatest m) (6, I, B, (k : Int)) o → JE zg_X11_greatest (35, (m : Int), w, B, J, (k : Int), y, 0, ln, lf, lm, lc, nf, ls, gr, li, tA, tB, tC, fr) o2 → 0 ≤ o ∧ o < pg8 m ∧ ∃ G, isG m (zget (pg6 m) o.toNat) G ∧ o2.1 = (if w = 1 then o else G) := by
  have r8 := rpg8 h4 h9
  have el := hL.1
  intro d
  induction d with
  | zero =>
    intro k B I J y ln lf nf ls gr tA tB tC fr hk h0 h21 hT hR hx hy
    have e1 := JE_end (o' := I) (by
      show zg_X5_numberOfGreatest_6 m I B (k : Int) = _
      unfold zg_X5_numberOfGreatest_6
      rw [if_neg (by unfold zout; omega), if_neg (by unfold zout; omega), if_pos (by omega)]) hx
    rcases hR with ⟨a1, a2⟩ | ⟨rfl, a2, a3, a4⟩
    · omega
    · subst e1
      refine ⟨a2, by omega, B, a4, ?_⟩
      by_cases c : w = 0
      · have e2 := JE_end (o' := (B, ln, lf, lm, lc, nf, ls, gr, li, tA, tB, tC, fr)) (by
          show zg_X11_greatest_35 (m : Int) w B o (k : Int) y 0 ln lf lm lc nf ls gr li tA tB tC fr = _
          unfold zg_X11_greatest_35
          rw [if_neg (by unfold zout; omega), if_neg (by unfold zout; omega), if_pos (by omega), if_neg (by unfold zout; omega), if_pos c]) hy
        rw [e2, if_neg (by omega)]
      · have e2 := JE_end (o' := (o, ln, lf, lm, lc, nf, ls, gr, li, tA, tB, tC, fr)) (by
          show zg_X11_greatest_35 (m : Int) w B o (k : Int) y 0 ln lf lm lc nf ls gr li tA tB tC fr = _
          unfold zg_X11_greatest_35
          rw [if_neg (by unfold zout; omega), if_neg (by unfold zout; omega), if_pos (by omega), if_neg (by unfold zout; omega), if_neg c]) hy
        rw [e2, if_pos (by omega)]
  | succ d ih =>
    intro k B I J y ln lf nf ls gr tA tB tC fr hk h0 h21 hT hR hx hy
    have hk' : (k : Int) < pg8 m := by omega
    have hc : isCut m (zget (pg6 m) k) := pg6_cut hk'
    have hy0 := JE_dn (s' := (47, (m : Int), w, B, J, (k : Int), ((0 : Nat) : Int), 0, ln, lf, lm, lc, nf, ls, gr, li, tA, tB, tC, fr)) (by
      show zg_X11_greatest_35 (m : Int) w B J (k : Int) y 0 ln lf lm lc nf ls gr li tA tB tC fr = _
      unfold zg_X11_greatest_35
      rw [if_neg (by unfold zout; omega), if_neg (by unfold zout; omega), if_neg (by omega)]
      rfl) hy
    obtain ⟨B', I', ln', lf', nf', ls', gr', tA', tB', tC', fr', s, l21, al, t2, hy2⟩ := g47_run h4 h9 hk' hL m 0 B J 0 ln lf nf ls gr tA tB tC fr (by omega) h0 h21 hT hy0
    obtain ⟨G, hG, gG⟩ := gi_ok h4 h9 hc
    have sG := stp_G h0 gG s (fun i j hi hj => al i j (by omega) hi hj)
    have gb := gG.2
    rw [show (k : Int) + 1 = ((k + 1 : Nat) : Int) by omega] at hy2
    by_cases c : G ≤ B
    · obtain ⟨rfl, rfl⟩ := sG.1 c
      have hx2 := JE_dn (s' := (6, I, B', (k : Int) + 1)) (by
        show zg_X5_numberOfGreatest_6 m I B' (k : Int) = _
        unfold zg_X5_numberOfGreatest_6
        rw [if_neg (by unfold zout; omega), if_neg (by unfold zout; omega), if_neg (by omega), if_neg (by omega), Int.toNat_natCast, hG]
        simp only [Option.bind_some]
        rw [if_neg (by unfold zout; omega), if_neg (by unfold zout; omega), if_pos c]) hx
      rw [show (k : Int) + 1 = ((k + 1 : Nat) : Int) by omega] at hx2
      refine ih (k + 1) B' I I' _ _ _ _ _ _ _ _ _ _ (by omega) h0 l21 t2 ?_ hx2 hy2
      rcases hR with ⟨a1, a2⟩ | ⟨a1, a2, a3, a4⟩
      · exfalso
        have e01 := Ev_r h4 h9 hc (i := 0) (k := 0) (by omega)
        have e01 : (1 : Int) = Ev m (zget (pg6 m) k) 0 (0 + 1 + 0) := e01
        have := gb.2.2 0 (0 + 1 + 0) (by omega) (by omega)
        omega
      · exact Or.inr ⟨a1, a2, by omega, a4⟩
    · obtain ⟨rfl, rfl⟩ := sG.2 (by omega)
      have hx2 := JE_dn (s' := (6, (k : Int), B', (k : Int) + 1)) (by
        show zg_X5_numberOfGreatest_6 m I B (k : Int) = _
        unfold zg_X5_numberOfGreatest_6
        rw [if_neg (by unfold zout; omega), if_neg (by unfold zout; omega), if_neg (by omega), if_neg (by omega), Int.toNat_natCast, hG]
        simp only [Option.bind_some]
        rw [if_neg (by unfold zout; omega), if_neg (by unfold zout; omega), if_neg c]) hx
      rw [show (k : Int) + 1 = ((k + 1 : Nat) : Int) by omega] at hx2
      refine ih (k + 1) B' (k : Int) (k : Int) _ _ _ _ _ _ _ _ _ _ (by omega) gb.1 l21 t2 (Or.inr ⟨rfl, by omega, by omega, ?_⟩) hx2 hy2
      rw [Int.toNat_natCast]
      exact gG
theorem isG_u {m : Nat} {c G G' : Int} (h : isG m c G) (h' : isG m c G') : G = G' := by
  obtain ⟨a1, a2, a3, a4⟩ := h
  obtain ⟨b1, b2, b3, b4⟩ := h'
  have l : G ≤ G' := by
    rcases a1 with e | ⟨i, j, hi, hj, e⟩
    · omega
    · rw [e]; exact b4 i j hi hj
  have l' : G' ≤ G := by
    rcases b1 with e | ⟨i, j, hi, hj, e⟩
    · omega
    · rw [e]; exact a4 i j hi hj
  omega
theorem great_n {v w : Int} (hv : ¬ zout v) (hw : ¬ zout w) (h : (v < 4 ∨ 9 < v) ∨ (w < 0 ∨ 1 < w)) {ln lf lm lc : Int} {nf ls gr li tA tB tC fr : Nat} {o2 : zO_X11_greatest} (ho2 : zf_X11_greatest ln lf lm lc nf ls gr li tA tB tC fr v w = some o2) : o2.1 = -2 := by
  have hy := JE_of ho2
  have e2 := JE_end (o' := ((-2 : Int), ln, lf, lm, lc, nf, ls, gr, li, tA, tB, tC, fr)) (by
    show zg_X11_greatest_0 v w 0 0 0 0 0 ln lf lm lc nf ls gr li tA tB tC fr = _
    unfold zg_X11_greatest_0
    rw [in_e hv (by decide) (by decide), in_e hw (by decide) (by decide)]
    simp only [Option.bind_some]
    by_cases c : v < 4 ∨ 9 < v
    · rw [decide_eq_false (by omega), if_pos rfl]
    · rw [decide_eq_true (by omega), if_neg (by decide), decide_eq_false (by omega), if_pos rfl]) hy
  rw [e2]
theorem great_m {m : Nat} (h4 : 4 ≤ m) (h9 : m ≤ 9) {w : Int} (hw : ¬ zout w) {ln lf lm lc : Int} {nf ls gr li tA tB tC fr : Nat} (hT : TL lf ln nf ls gr) (hK : LK lc lm li) {o oc og : Int} {o2 : zO_X11_greatest} (ho : zf_X5_numberOfGreatest m = some o) (hoc : zf_X5_cutAt m o = some oc) (hog : zf_X5_greatestIn m oc = some og) (ho2 : zf_X11_greatest ln lf lm lc nf ls gr li tA tB tC fr (m : Int) w = some o2) : (if w < 0 ∨ 1 < w then (-2 : Int) else if w = 1 then o else og) = o2.1 := by
  by_cases c : w < 0 ∨ 1 < w
  · rw [if_pos c, great_n (by unfold zout; omega) hw (Or.inr c) ho2]
  · rw [if_neg c]
    have r8 := rpg8 h4 h9
    have hy := JE_of ho2
    have hx := JE_dn (s' := (6, 0, 0, 0)) rfl (JE_of ho)
    have ey : zg_X11_greatest (0, (m : Int), w, 0, 0, 0, 0, 0, ln, lf, lm, lc, nf, ls, gr, li, tA, tB, tC, fr) = zg_X11_greatest_0 (m : Int) w 0 0 0 0 0 ln lf lm lc nf ls gr li tA tB tC fr := rfl
    unfold zg_X11_greatest_0 at ey
    obtain ⟨u, hu, w0, w1, w2, w3, w4, w5, w6, -⟩ := oy_listFor ln lf lm lc nf ls gr li (m : Int) hT hK (by omega) (by omega)
    rw [in_e (by unfold zout; omega) (by decide) (by decide), in_e hw (by decide) (by decide), hu] at ey
    simp only [Option.bind_some] at ey
    rw [decide_eq_true (by omega), if_neg (by decide), decide_eq_true (by omega), if_neg (by decide)] at ey
    have hy := JE_dn ey hy
    obtain ⟨a1, a2, G, a3, a4⟩ := gr_run h4 h9 (by omega) (by omega) (LIof w6) (pg8 m).toNat 0 0 0 (-1) _ _ _ _ _ _ _ _ _ _ (by omega) (by omega) (by omega) w2 (Or.inl ⟨rfl, rfl⟩) hx hy
    have hco := cutAt_o h4 h9 ⟨a1, a2⟩ hoc
    obtain ⟨G', hG', gG'⟩ := gi_ok h4 h9 (isCut_at a1 a2)
    rw [hco, hG'] at hog
    cases hog
    rw [a4, isG_u gG' a3]
