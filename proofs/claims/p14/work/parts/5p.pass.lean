/-! the way of fewest flips: both go to the least of the nearer ones -/
/-- r is the least of those that P says, up to now; -1: none -/
def LM (P : Nat → Prop) (r : Int) : Prop := (r = -1 ∧ ∀ y, ¬ P y) ∨ (∃ y : Nat, r = (y : Int) ∧ P y ∧ ∀ z, P z → y ≤ z)
theorem LM_u {P : Nat → Prop} {r r' : Int} (h : LM P r) (h' : LM P r') : r = r' := by
  rcases h with ⟨a, b⟩ | ⟨y, a, b, c⟩
  · rcases h' with ⟨a', b'⟩ | ⟨y', a', b', c'⟩
    · omega
    · exact absurd b' (b y')
  · rcases h' with ⟨a', b'⟩ | ⟨y', a', b', c'⟩
    · exact absurd b (b' y)
    · have := c y' b'
      have := c' y b
      omega
theorem LM_w {P P' : Nat → Prop} {r : Int} (h : LM P r) (e : ∀ y, P y ↔ P' y) : LM P' r := by
  rcases h with ⟨a, b⟩ | ⟨y, a, b, c⟩
  · exact Or.inl ⟨a, fun y hy => b y ((e y).mpr hy)⟩
  · exact Or.inr ⟨y, a, (e y).mp b, fun z hz => c z ((e z).mpr hz)⟩
theorem LM_add {P P' : Nat → Prop} {r : Int} {t : Nat} (h : LM P r) (e : ∀ y, P' y ↔ (P y ∨ y = t)) : LM P' (if r = -1 then (t : Int) else if r ≤ (t : Int) then r else (t : Int)) := by
  rcases h with ⟨a, b⟩ | ⟨y, a, b, c⟩
  · rw [if_pos a]
    refine Or.inr ⟨t, rfl, (e t).mpr (Or.inr rfl), fun z hz => ?_⟩
    rcases (e z).mp hz with q | q
    · exact absurd q (b z)
    · omega
  · rw [if_neg (by omega)]
    by_cases q : r ≤ (t : Int)
    · rw [if_pos q]
      refine Or.inr ⟨y, a, (e y).mpr (Or.inl b), fun z hz => ?_⟩
      rcases (e z).mp hz with q' | q'
      · exact c z q'
      · omega
    · rw [if_neg q]
      refine Or.inr ⟨t, rfl, (e t).mpr (Or.inr rfl), fun z hz => ?_⟩
      rcases (e z).mp hz with q' | q'
      · have := c z q'
        omega
      · omega
theorem LM_in {P : Nat → Prop} {r : Int} (h : LM P r) (hP : ∀ y, P y → y < 429) : -1 ≤ r ∧ r < 429 := by
  rcases h with ⟨a, b⟩ | ⟨y, a, b, c⟩
  · omega
  · have := hP y b
    omega
def NP (m x st : Nat) (v : Int) (l : Int) (y : Nat) : Prop := (y : Int) < pg8 m ∧ zget st y = v ∧ ∃ l' : Nat, (l' : Int) < l ∧ zf_X5_neighbourWith m (zget (pg6 m) x) (l' : Int) = some (y : Int)
def CP (m x st : Nat) (v : Int) (y : Nat) : Prop := (y : Int) < pg8 m ∧ zget st y = v ∧ CE m x y
theorem NP_CP {m : Nat} (h4 : 4 ≤ m) (h9 : m ≤ 9) {x st : Nat} (hx : (x : Int) < pg8 m) (v : Int) (y : Nat) : NP m x st v (pg7 m) y ↔ CP m x st v y := by
  constructor
  · intro h
    obtain ⟨a, b, l, c, d⟩ := h
    exact ⟨a, b, (nb_f h4 h9 hx c d).2⟩
  · intro h
    obtain ⟨a, b, c⟩ := h
    obtain ⟨l, d, e⟩ := nb_b h4 h9 hx a c
    exact ⟨a, b, l, d, e⟩
def lnI (m x st : Nat) (lab : Nat) (i2 i3 i4 i5 i6 : Int) : Prop := i2 = (x : Int) ∧ (lab = 0 ∨ (lab = 12 ∧ i3 = zget (pg6 m) x ∧ 0 ≤ i5 ∧ i5 ≤ pg7 m ∧ LM (NP m x st (zget st x - 1) i5) i4) ∨ (lab = 56 ∧ i3 = zget (pg6 m) x ∧ 0 ≤ i5 ∧ i5 < pg7 m ∧ LM (NP m x st (zget st x - 1) (i5 + 1)) i4))
set_option maxHeartbeats 1000000 in
theorem ln_ok {mk m : Nat} (p0 : ¬ zno mk m) {x st : Nat} (hx : (x : Int) < pg8 m) (hst : ∀ k : Nat, k < 429 → -1 ≤ zget st k ∧ zget st k ≤ 429) : Go (fun r => LM (CP m x st (zget st x - 1)) r) (zf_X4_leastNearer mk st m (x : Int)) := by
  obtain ⟨h4, h9⟩ := zno_rng p0
  have r8 := rpg8 h4 h9
  have r7 := rpg7 h4 h9
  have sx := hst x (by omega)
  unfold zf_X4_leastNearer
  refine jok (fun (s : zS_X4_leastNearer) => match s with | (lab, i2, i3, i4, i5, i6) => lnI m x st lab i2 i3 i4 i5 i6) (fun (s : zS_X4_leastNearer) => match s with | (lab, i2, i3, i4, i5, i6) => if lab = 0 then 200 else if lab = 12 then (80 - 2 * i5).toNat else (79 - 2 * i5).toNat) (fun (r : zO_X4_leastNearer) => LM (CP m x st (zget st x - 1)) r) ?_ _ ?_ ?_
  · intro s hI
    obtain ⟨lab, i2, i3, i4, i5, i6⟩ := s
    have hI : lnI m x st lab i2 i3 i4 i5 i6 := hI
    unfold lnI at hI
    obtain ⟨qs0, hI2⟩ := hI
    subst qs0
    rcases hI2 with rfl | ⟨rfl, rfl, v1, v2, v3⟩ | ⟨rfl, rfl, v1, v2, v3⟩
    · show Go _ (zg_X4_leastNearer_0 mk st m (x : Int) i3 i4 i5 i6)
      unfold zg_X4_leastNearer_0
      refine Go_chk p0 ?_
      refine Go_bind (cutAt_e h4 h9 (by omega) hx) ?_
      rw [Int.toNat_natCast]
      refine Go_i (show lnI m x st 12 (x : Int) (zget (pg6 m) x) (-1) 0 0 ∧ (80 - 2 * (0 : Int)).toNat < 200 from ⟨⟨rfl, Or.inr (Or.inl ⟨rfl, rfl, by omega, by omega, Or.inl ⟨rfl, fun y hy => ?_⟩⟩)⟩, by decide⟩)
      obtain ⟨_, _, l, a, _⟩ := hy
      omega
    · show Go _ (zg_X4_leastNearer_12 mk st m (x : Int) (zget (pg6 m) x) i4 i5 i6)
      unfold zg_X4_leastNearer_12 zf_X5_lineCount
      have b4 := LM_in v3 (fun y hy => by have := hy.1; omega)
      refine Go_chk p0 ?_
      refine Go_bind rfl ?_
      refine Go_chk (by unfold zout; omega) ?_
      refine Go_chk (by unfold zout; omega) ?_
      refine Go_ite (fun c1 => ?_) (fun c1 => ?_)
      · refine Go_i (show LM (CP m x st (zget st x - 1)) i4 from ?_)
        rw [show i5 = pg7 m by omega] at v3
        exact LM_w v3 (NP_CP h4 h9 hx _)
      · obtain ⟨l, rfl⟩ : ∃ l : Nat, i5 = (l : Int) := ⟨i5.toNat, by omega⟩
        obtain ⟨r, hr, r1, r2⟩ := ok_X5_neighbourWith m (zget (pg6 m) x) (l : Int) h4 h9 (by omega) (by omega)
        refine Go_bind hr ?_
        refine Go_chk (by unfold zout; omega) ?_
        have nxt : (¬ ∃ y : Nat, r = (y : Int) ∧ zget st y = zget st x - 1) → ∀ y, NP m x st (zget st x - 1) (l : Int) y ↔ NP m x st (zget st x - 1) ((l : Int) + 1) y := by
          intro hn y
          constructor
          · intro h
            obtain ⟨a, b, l', c, d⟩ := h
            exact ⟨a, b, l', by omega, d⟩
          · intro h
            obtain ⟨a, b, l', c, d⟩ := h
            by_cases e : l' = l
            · subst e
              rw [hr] at d
              exact absurd ⟨y, Option.some.inj d, b⟩ hn
            · exact ⟨a, b, l', by omega, d⟩
        refine Go_ite (fun c2 => ?_) (fun c2 => ?_)
        · refine Go_i (show lnI m x st 56 (x : Int) (zget (pg6 m) x) i4 (l : Int) r ∧ (79 - 2 * (l : Int)).toNat < (80 - 2 * (l : Int)).toNat from ⟨⟨rfl, Or.inr (Or.inr ⟨rfl, rfl, by omega, by omega, LM_w v3 (nxt (fun z => ?_))⟩)⟩, by omega⟩)
          obtain ⟨y, hy, _⟩ := z
          omega
        · obtain ⟨t, rfl⟩ : ∃ t : Nat, r = (t : Int) := ⟨r.toNat, by omega⟩
          have stt := hst t (by omega)
          refine Go_bind (st_e (by omega)) ?_
          refine Go_bind (st_e (by omega)) ?_
          refine Go_chk (by unfold zout; omega) ?_
          refine Go_chk (by unfold zout; omega) ?_
          refine Go_ite (fun c3 => ?_) (fun c3 => ?_)
          · have ad : ∀ y, NP m x st (zget st x - 1) ((l : Int) + 1) y ↔ (NP m x st (zget st x - 1) (l : Int) y ∨ y = t) := by
              intro y
              constructor
              · intro h
                obtain ⟨a, b, l', c, d⟩ := h
                by_cases e : l' = l
                · subst e
                  rw [hr] at d
                  have := Option.some.inj d
                  exact Or.inr (by omega)
                · exact Or.inl ⟨a, b, l', by omega, d⟩
              · intro h
                rcases h with ⟨a, b, l', c, d⟩ | rfl
                · exact ⟨a, b, l', by omega, d⟩
                · exact ⟨by omega, c3, l, by omega, hr⟩
            have la := LM_add v3 ad
            refine Go_ite (fun z => absurd z (by decide)) (fun _ => ?_)
            refine Go_chk (by unfold zout; omega) ?_
            refine Go_ite (fun d1 => ?_) (fun d1 => ?_)
            · rw [if_pos d1] at la
              exact Go_i (show lnI m x st 12 (x : Int) (zget (pg6 m) x) (t : Int) ((l : Int) + 1) (t : Int) ∧ (80 - 2 * ((l : Int) + 1)).toNat < (80 - 2 * (l : Int)).toNat from ⟨⟨rfl, Or.inr (Or.inl ⟨rfl, rfl, by omega, by omega, la⟩)⟩, by omega⟩)
            · rw [if_neg d1] at la
              refine Go_ite (fun d2 => ?_) (fun d2 => ?_)
              · rw [if_pos d2] at la
                exact Go_i (show lnI m x st 12 (x : Int) (zget (pg6 m) x) i4 ((l : Int) + 1) (t : Int) ∧ (80 - 2 * ((l : Int) + 1)).toNat < (80 - 2 * (l : Int)).toNat from ⟨⟨rfl, Or.inr (Or.inl ⟨rfl, rfl, by omega, by omega, la⟩)⟩, by omega⟩)
              · rw [if_neg d2] at la
                exact Go_i (show lnI m x st 12 (x : Int) (zget (pg6 m) x) (t : Int) ((l : Int) + 1) (t : Int) ∧ (80 - 2 * ((l : Int) + 1)).toNat < (80 - 2 * (l : Int)).toNat from ⟨⟨rfl, Or.inr (Or.inl ⟨rfl, rfl, by omega, by omega, la⟩)⟩, by omega⟩)
          · refine Go_i (show lnI m x st 56 (x : Int) (zget (pg6 m) x) i4 (l : Int) (t : Int) ∧ (79 - 2 * (l : Int)).toNat < (80 - 2 * (l : Int)).toNat from ⟨⟨rfl, Or.inr (Or.inr ⟨rfl, rfl, by omega, by omega, LM_w v3 (nxt (fun z => ?_))⟩)⟩, by omega⟩)
            obtain ⟨y, hy, e⟩ := z
            rw [show y = t by omega] at e
            exact c3 e
    · show Go _ (zg_X4_leastNearer_56 mk st m (x : Int) (zget (pg6 m) x) i4 i5 i6)
      unfold zg_X4_leastNearer_56
      refine Go_ite (fun _ => ?_) (fun z => absurd rfl z)
      exact Go_i (show lnI m x st 12 (x : Int) (zget (pg6 m) x) i4 (i5 + 1) i6 ∧ (80 - 2 * (i5 + 1)).toNat < (79 - 2 * i5).toNat from ⟨⟨rfl, Or.inr (Or.inl ⟨rfl, rfl, by omega, by omega, v3⟩)⟩, by omega⟩)
  · exact ⟨rfl, Or.inl rfl⟩
  · show 200 < jfuel
    unfold jfuel
    omega
/-- the reference: the flips of the lines below l -/
def FP (m x fa : Nat) (v : Int) (l : Int) (y : Nat) : Prop := (y : Int) < pg8 m ∧ zget fa y = v ∧ ∃ l' o : Int, 0 ≤ l' ∧ l' < l ∧ ¬ zand (zshr (zget (pg6 m) x) l') 1 = 0 ∧ zf_X5_otherLine m (zget (pg6 m) x) l' = some o ∧ zget (pg6 m) y = flipN (zget (pg6 m) x) l' o
theorem FP_CP {m x fa : Nat} (v : Int) (y : Nat) : FP m x fa v (pg7 m) y ↔ CP m x fa v y := by
  constructor
  · intro h
    obtain ⟨a, b, l, o, c, d, e, f, g⟩ := h
    exact ⟨a, b, l, o, c, d, e, f, g⟩
  · intro h
    obtain ⟨a, b, l, o, c, d, e, f, g⟩ := h
    exact ⟨a, b, l, o, c, d, e, f, g⟩
set_option maxHeartbeats 2000000 in
theorem f83_run {m : Nat} (h4 : 4 ≤ m) (h9 : m ≤ 9) {own n i ln lf lm lc pm_ : Int} {nf ls gr li fa qu pb x : Nat} (hx : (x : Int) < pg8 m) (hT : LT m ln nf ls gr) (hI : LI m lm li) (hn : ¬ zout (n - i)) {o2 : zO_X11_fewest} : ∀ (d l : Nat) (best f1 f2 : Int) (z2 : Int), (l : Int) + (d : Int) = pg7 m → LM (FP m x fa (n - i) (l : Int)) best → JE (zg_X11_fewest (m : Int) own) (83, 0, z2, n, i, best, zget (pg6 m) x, (l : Int), ln, lf, lm, lc, f1, f2, pm_, nf, ls, gr, li, fa, qu, pb) o2 → ∃ b' f1' f2' z6 z8, LM (CP m x fa (n - i)) b' ∧ 0 ≤ i ∧ i < 64 ∧ JE (zg_X11_fewest (m : Int) own) (63, 0, b', n, i + 1, b', z6, z8, ln, lf, lm, lc, f1', f2', pm_, nf, ls, gr, li, fa, qu, zset pb i.toNat b') o2 := by
  have r8 := rpg8 h4 h9
  have r7 := rpg7 h4 h9
  have el := hT.1
  have hc : isCut m (zget (pg6 m) x) := ⟨x, hx, rfl⟩
  intro d
  induction d with
  | zero =>
    intro l best f1 f2 z2 hl hL h
    rw [show (l : Int) = pg7 m by omega] at hL
    by_cases c : i < 0 ∨ 64 ≤ i
    · exact (JE_none (by
        show zg_X11_fewest_83 (m : Int) own 0 z2 n i best (zget (pg6 m) x) (l : Int) ln lf lm lc f1 f2 pm_ nf ls gr li fa qu pb = _
        unfold zg_X11_fewest_83
        rw [if_neg (by unfold zout; omega), if_neg (by unfold zout; omega), if_pos (by omega), if_pos c]) h).elim
    · have h := JE_dn (s' := (63, 0, best, n, i + 1, best, zget (pg6 m) x, (l : Int), ln, lf, lm, lc, f1, f2, pm_, nf, ls, gr, li, fa, qu, zset pb i.toNat best)) (by
        show zg_X11_fewest_83 (m : Int) own 0 z2 n i best (zget (pg6 m) x) (l : Int) ln lf lm lc f1 f2 pm_ nf ls gr li fa qu pb = _
        unfold zg_X11_fewest_83
        rw [if_neg (by unfold zout; omega), if_neg (by unfold zout; omega), if_pos (by omega), if_neg c]) h
      exact ⟨best, f1, f2, _, _, LM_w hL (FP_CP _), by omega, by omega, h⟩
  | succ d ih =>
    intro l best f1 f2 z2 hl hL h
    have hl' : (l : Int) < pg7 m := by omega
    have be := (bit_eq h4 h9 hc (l := (l : Int)) (by omega) (by omega)).1
    have b4 := LM_in hL (fun y hy => by have := hy.1; omega)
    have up : ∀ y, FP m x fa (n - i) (l : Int) y → FP m x fa (n - i) ((l + 1 : Nat) : Int) y := by
      intro y hy
      obtain ⟨a, b, l', o, c, d', e, f, g⟩ := hy
      exact ⟨a, b, l', o, c, by omega, e, f, g⟩
    by_cases c2 : zandL (zshrL (zget (pg6 m) x) (l : Int)) 1 = 0
    · have h := JE_dn (s' := (83, 0, 0, n, i, best, zget (pg6 m) x, (l : Int) + 1, ln, lf, lm, lc, f1, f2, pm_, nf, ls, gr, li, fa, qu, pb)) (by
        show zg_X11_fewest_83 (m : Int) own 0 z2 n i best (zget (pg6 m) x) (l : Int) ln lf lm lc f1 f2 pm_ nf ls gr li fa qu pb = _
        unfold zg_X11_fewest_83
        rw [if_neg (by unfold zout; omega), if_neg (by unfold zout; omega), if_neg (by omega), if_pos c2]) h
      rw [show (l : Int) + 1 = ((l + 1 : Nat) : Int) by omega] at h
      refine ih (l + 1) best f1 f2 0 (by omega) (LM_w hL (fun y => ⟨up y, fun hy => ?_⟩)) h
      obtain ⟨a, b, l', o, c, d', e, f, g⟩ := hy
      by_cases q : l' = (l : Int)
      · subst q
        rw [be] at c2
        exact absurd c2 e
      · exact ⟨a, b, l', o, c, by omega, e, f, g⟩
    · obtain ⟨o, b1, b2, b3, ⟨t, ht, et⟩, b5, b6⟩ := fl_line h4 h9 hT hc hl' c2 f1 f2
      have hpl := pl_ok h4 h9 hI ht
      rw [← et] at hpl
      have uq : ∀ (y : Nat) (o' : Int), (y : Int) < pg8 m → zf_X5_otherLine m (zget (pg6 m) x) (l : Int) = some o' → zget (pg6 m) y = flipN (zget (pg6 m) x) (l : Int) o' → y = t := by
        intro y o' hy ho' e
        rw [b1] at ho'
        cases ho'
        rw [et] at e
        exact pg6_inj h4 h9 hy ht e
      by_cases c3 : zget fa t = n - i
      · have ad : ∀ y, FP m x fa (n - i) ((l + 1 : Nat) : Int) y ↔ (FP m x fa (n - i) (l : Int) y ∨ y = t) := by
          intro y
          constructor
          · intro hy
            obtain ⟨a, b, l', o', c, d', e, f, g⟩ := hy
            by_cases q : l' = (l : Int)
            · subst q
              exact Or.inr (uq y o' a f g)
            · exact Or.inl ⟨a, b, l', o', c, by omega, e, f, g⟩
          · intro hy
            rcases hy with hy | rfl
            · exact up y hy
            · exact ⟨ht, c3, (l : Int), o, by omega, by omega, b5, b1, et.symm⟩
        have la := LM_add hL ad
        have h := JE_dn (s' := (83, 0, 0, n, i, (if best = -1 then (t : Int) else if best ≤ (t : Int) then best else (t : Int)), zget (pg6 m) x, (l : Int) + 1, ln, lf, lm, lc, zget (pg1 m) o.toNat, zget (pg2 m) o.toNat, pm_, nf, ls, gr, li, fa, qu, pb)) (by
          show zg_X11_fewest_83 (m : Int) own 0 z2 n i best (zget (pg6 m) x) (l : Int) ln lf lm lc f1 f2 pm_ nf ls gr li fa qu pb = _
          unfold zg_X11_fewest_83
          rw [if_neg (by unfold zout; omega), if_neg (by unfold zout; omega), if_neg (by omega), if_neg c2, if_neg (by omega), Int.toNat_natCast, b6]
          simp only [Option.bind_some]
          rw [hpl]
          simp only [Option.bind_some]
          rw [if_neg (by omega), if_neg hn, Int.toNat_natCast, if_pos c3, if_neg (by unfold zout; omega)]
          by_cases d1 : best = -1
          · rw [if_pos d1, if_pos d1]
          · rw [if_neg d1, if_neg d1, if_neg (by unfold zout; omega)]
            by_cases d2 : best ≤ (t : Int)
            · rw [if_pos d2, if_pos d2]
            · rw [if_neg d2, if_neg d2]) h
        rw [show (l : Int) + 1 = ((l + 1 : Nat) : Int) by omega] at h
        exact ih (l + 1) _ _ _ 0 (by omega) la h
      · have h := JE_dn (s' := (83, 0, 0, n, i, best, zget (pg6 m) x, (l : Int) + 1, ln, lf, lm, lc, zget (pg1 m) o.toNat, zget (pg2 m) o.toNat, pm_, nf, ls, gr, li, fa, qu, pb)) (by
          show zg_X11_fewest_83 (m : Int) own 0 z2 n i best (zget (pg6 m) x) (l : Int) ln lf lm lc f1 f2 pm_ nf ls gr li fa qu pb = _
          unfold zg_X11_fewest_83
          rw [if_neg (by unfold zout; omega), if_neg (by unfold zout; omega), if_neg (by omega), if_neg c2, if_neg (by omega), Int.toNat_natCast, b6]
          simp only [Option.bind_some]
          rw [hpl]
          simp only [Option.bind_some]
          rw [if_neg (by omega), if_neg hn, Int.toNat_natCast, if_neg c3]) h
        rw [show (l : Int) + 1 = ((l + 1 : Nat) : Int) by omega] at h
        refine ih (l + 1) best _ _ 0 (by omega) (LM_w hL (fun y => ⟨up y, fun hy => ?_⟩)) h
        obtain ⟨a, b, l', o', c, d', e, f, g⟩ := hy
        by_cases q : l' = (l : Int)
        · subst q
          have := uq y o' a f g
          subst this
          exact absurd b c3
        · exact ⟨a, b, l', o', c, by omega, e, f, g⟩
/-- both ways, step by step -/
def WE (w : Int) (wy pb : Nat) : Prop := ∀ k : Nat, (k : Int) < w → zget wy k = zget pb k
set_option maxHeartbeats 2000000 in
theorem way_run {mk m : Nat} (p0 : ¬ zno mk m) {own ln lf lm lc pm_ : Int} {n g st sq : Nat} {nf ls gr li fa qu : Nat} (hg : (g : Int) < pg8 m) (hT : LT m ln nf ls gr) (hI : LI m lm li) (hd : ∀ y : Nat, (y : Int) < pg8 m → zget st y = zget fa y) (hst : ∀ k : Nat, k < 429 → -1 ≤ zget st k ∧ zget st k ≤ 429) (hB : BFE (pg8 m).toNat g (CE m) (FA fa)) (hn : n ≤ 62) {o : zO_X4_layWay} {o2 : zO_X11_fewest} {tq : Int} : ∀ (d i x : Nat) (a b f1 f2 z1 z5 z6 z8 : Int) (wy pb : Nat), i + d = n → (x : Int) < pg8 m → zget fa x = (d : Int) → WE (i : Int) wy pb → zget pb i = (x : Int) → JE (zg_X4_layWay mk m) (24, a, b, (n : Int), (x : Int), (i : Int), (i : Int), tq, st, sq, wy) o → JE (zg_X11_fewest (m : Int) own) (63, z1, (x : Int), (n : Int), (i : Int) + 1, z5, z6, z8, ln, lf, lm, lc, f1, f2, pm_, nf, ls, gr, li, fa, qu, pb) o2 → o.2.1 = (n : Int) + 1 ∧ o2.2.2.2.2.2.2.2.1 = pm_ ∧ WE ((n : Int) + 1) o.2.2.2.2.2 o2.2.2.2.2.2.2.2.2.2.2.2.2.2.2 := by
  obtain ⟨h4, h9⟩ := zno_rng p0
  have r8 := rpg8 h4 h9
  intro d
  induction d with
  | zero =>
    intro i x a b f1 f2 z1 z5 z6 z8 wy pb hi hx hf hW hp h1 h2
    obtain ⟨r, hr, -⟩ := ln_ok p0 hx hst
    have h1 := JE_dn (s' := (24, 0, 0, (n : Int), r, (i : Int) + 1, (i : Int) + 1, tq, st, sq, zset wy i (x : Int))) (by
      show zg_X4_layWay_24 mk m a b (n : Int) (x : Int) (i : Int) (i : Int) tq st sq wy = _
      unfold zg_X4_layWay_24
      rw [if_neg (by unfold zout; omega), if_neg (by unfold zout; omega), if_neg (by omega), if_neg (by omega), if_neg (by omega), hr]
      rfl) h1
    have e1 := JE_end (o' := ((n : Int), (i : Int) + 1, tq, st, sq, zset wy i (x : Int))) (by
      show zg_X4_layWay_24 mk m 0 0 (n : Int) r ((i : Int) + 1) ((i : Int) + 1) tq st sq (zset wy i (x : Int)) = _
      unfold zg_X4_layWay_24
      rw [if_neg (by unfold zout; omega), if_neg (by unfold zout; omega), if_pos (by omega)]) h1
    have e2 := JE_end (o' := ((n : Int), ln, lf, lm, lc, f1, f2, pm_, nf, ls, gr, li, fa, qu, pb)) (by
      show zg_X11_fewest_63 (m : Int) own z1 (x : Int) (n : Int) ((i : Int) + 1) z5 z6 z8 ln lf lm lc f1 f2 pm_ nf ls gr li fa qu pb = _
      unfold zg_X11_fewest_63
      rw [if_neg (by unfold zout; omega), if_neg (by unfold zout; omega), if_pos (by omega)]) h2
    rw [e1, e2]
    refine ⟨by show (i : Int) + 1 = (n : Int) + 1; omega, rfl, ?_⟩
    intro k hk
    show zget (zset wy i (x : Int)) k = zget pb k
    rcases zget_set_c wy i k (v := (x : Int)) (by unfold zout; omega) with ⟨e, e'⟩ | ⟨e, e'⟩
    · rw [e', e, hp]
    · rw [e']; exact hW k (by omega)
  | succ d ih =>
    intro i x a b f1 f2 z1 z5 z6 z8 wy pb hi hx hf hW hp h1 h2
    have fx := far_ok h4 h9 hg hB x hx
    have sx := hd x hx
    obtain ⟨r, hr, lr⟩ := ln_ok p0 hx hst
    -- the reference's best
    have h2 := JE_dn (s' := (83, 0, (x : Int), (n : Int), (i : Int) + 1, (-1 : Int), zget (pg6 m) x, ((0 : Nat) : Int), ln, lf, lm, lc, f1, f2, pm_, nf, ls, gr, li, fa, qu, pb)) (by
      show zg_X11_fewest_63 (m : Int) own z1 (x : Int) (n : Int) ((i : Int) + 1) z5 z6 z8 ln lf lm lc f1 f2 pm_ nf ls gr li fa qu pb = _
      unfold zg_X11_fewest_63
      rw [if_neg (by unfold zout; omega), if_neg (by unfold zout; omega), if_neg (by omega), if_neg (by omega), Int.toNat_natCast, hI.2 x hx]
      rfl) h2
    obtain ⟨b', f1', f2', y6, y8, lb, _, _, h2⟩ := f83_run h4 h9 hx hT hI (by unfold zout; omega) (pg7 m).toNat 0 (-1) f1 f2 (x : Int) (by have := rpg7 h4 h9; omega) (Or.inl ⟨rfl, fun y hy => by
      obtain ⟨_, _, l', _, _, q, _⟩ := hy
      omega⟩) h2
    have lr' : LM (CP m x fa ((n : Int) - ((i : Int) + 1))) r := by
      refine LM_w lr (fun y => ?_)
      constructor
      · intro hy
        exact ⟨hy.1, by rw [← hd y hy.1, hy.2.1, sx, hf]; omega, hy.2.2⟩
      · intro hy
        exact ⟨hy.1, by rw [hd y hy.1, hy.2.1, sx, hf]; omega, hy.2.2⟩
    have er := LM_u lr' lb
    subst er
    -- there is a nearer one
    have ex : ∃ y : Nat, CP m x fa ((n : Int) - ((i : Int) + 1)) y := by
      obtain ⟨y, hy, e, he⟩ := hB.2.1 x (by omega) (by unfold FA; omega)
      have e : zget fa y = zget fa x - 1 := e
      exact ⟨y, by omega, by omega, FR_sym h4 h9 ⟨y, by omega, rfl⟩ he⟩
    obtain ⟨y0, hy0⟩ := ex
    rcases lb with ⟨_, q⟩ | ⟨y, ey, hy, _⟩
    · exact absurd hy0 (q y0)
    · subst ey
      have h1 := JE_dn (s' := (24, 0, 0, (n : Int), (y : Int), (i : Int) + 1, (i : Int) + 1, tq, st, sq, zset wy i (x : Int))) (by
        show zg_X4_layWay_24 mk m a b (n : Int) (x : Int) (i : Int) (i : Int) tq st sq wy = _
        unfold zg_X4_layWay_24
        rw [if_neg (by unfold zout; omega), if_neg (by unfold zout; omega), if_neg (by omega), if_neg (by omega), if_neg (by omega), hr]
        rfl) h1
      rw [show (i : Int) + 1 = ((i + 1 : Nat) : Int) by omega] at h1 h2
      refine ih (i + 1) y _ _ _ _ _ _ _ _ _ _ (by omega) hy.1 (by have := hy.2.1; omega) ?_ ?_ h1 h2
      · intro k hk
        rw [Int.toNat_natCast]
        rcases zget_set_c wy i k (v := (x : Int)) (by unfold zout; omega) with ⟨e, e'⟩ | ⟨e, e'⟩
        · rw [e', e]
          rcases zget_set_c pb (i + 1) i (v := (y : Int)) (by have := hy.1; unfold zout; omega) with ⟨q, _⟩ | ⟨_, q⟩
          · omega
          · rw [q, hp]
        · rw [e']
          rcases zget_set_c pb (i + 1) k (v := (y : Int)) (by have := hy.1; unfold zout; omega) with ⟨q, _⟩ | ⟨_, q⟩
          · omega
          · rw [q]; exact hW k (by omega)
      · rw [Int.toNat_natCast]
        rcases zget_set_c pb (i + 1) (i + 1) (v := (y : Int)) (by have := hy.1; unfold zout; omega) with ⟨_, q⟩ | ⟨q, _⟩
        · exact q
        · exact absurd rfl q
set_option maxHeartbeats 1000000 in
theorem eq_fewest2 {mk m : Nat} (p0 : ¬ zno mk m) {b : Int} (hb : isCut m b) {k : Int} (hk : ¬ zout k) {wl fq : Int} {st0 qu0 wy0 : Nat} {ln lf lm lc f1 f2 : Int} {nf ls gr li fa qu pb : Nat} (hW : WE wl wy0 pb) (hT : TL lf ln nf ls gr) (hK : LK lc lm li) {o : Int × Int × Int × Nat × Nat × Nat} {o2 : zO_X11_fewest} (ho : zf_X10_fewest mk m b wl fq st0 qu0 wy0 k = some o) (ho2 : zf_X11_fewest (m : Int) ln lf lm lc b f1 f2 wl nf ls gr li fa qu pb k = some o2) : o.2.1 = o2.2.2.2.2.2.2.2.1 ∧ WE o.2.1 o.2.2.2.2.2 o2.2.2.2.2.2.2.2.2.2.2.2.2.2.2 := by
  obtain ⟨h4, h9⟩ := zno_rng p0
  have r8 := rpg8 h4 h9
  have hy := JE_of ho2
  have ey : zg_X11_fewest (m : Int) b (0, k, 0, 0, 0, 0, 0, 0, ln, lf, lm, lc, f1, f2, wl, nf, ls, gr, li, fa, qu, pb) = zg_X11_fewest_0 (m : Int) b k 0 0 0 0 0 0 ln lf lm lc f1 f2 wl nf ls gr li fa qu pb := rfl
  unfold zg_X11_fewest_0 at ey
  unfold zf_X10_fewest at ho
  obtain ⟨u, hu, w0, w1, w2, w3, w4, w5, w6, -⟩ := oy_listFor ln lf lm lc nf ls gr li (m : Int) hT hK (by omega) (by omega)
  have el := (LIof w6).1
  rw [if_neg p0, hasCut_e h4 h9 hk] at ho
  rw [hu] at ey
  simp only [Option.bind_some] at ho ey
  rw [in_e hk (by decide) (by unfold zout; omega)] at ey
  simp only [Option.bind_some] at ey
  by_cases c : 0 ≤ k ∧ k < pg8 m
  · obtain ⟨k, rfl⟩ : ∃ z : Nat, k = (z : Int) := ⟨k.toNat, by omega⟩
    rw [decide_eq_true c, if_neg (by decide)] at ho
    rw [decide_eq_true (by omega), if_neg (by decide)] at ey
    obtain ⟨x, hx, rfl⟩ := hb
    obtain ⟨s, hs, s1⟩ := ok_spreadZ h4 h9 (LTof w1) (LIof w6) c.2 f1 f2 fa qu
    obtain ⟨g, hg, g1⟩ := ok_measureZ p0 c.2 fq st0 qu0
    obtain ⟨g', hg', -, -, gr3⟩ := ok_X4_measure mk fq st0 qu0 m (k : Int) p0 (by omega) (by omega)
    have eg : g' = g := Option.some.inj (hg'.symm.trans hg)
    subst eg
    have de := dist_eq p0 c.2 s1 g1
    have fb := far_ok h4 h9 c.2 s1.1 x hx
    obtain ⟨n, en⟩ : ∃ n : Nat, zget s.2.2.1 x = (n : Int) := ⟨(zget s.2.2.1 x).toNat, by omega⟩
    rw [hs, pl_ok h4 h9 (LIof w6) hx] at ey
    simp only [Option.bind_some] at ey
    rw [if_neg (by omega), Int.toNat_natCast, en] at ey
    have hy := JE_dn ey hy
    rw [num_e h4 h9 hx] at ho
    simp only [Option.bind_some] at ho
    cases e : zf_X4_layWay mk wl fq st0 qu0 wy0 m (x : Int) (k : Int) with
    | none => rw [e] at ho; cases ho
    | some r =>
      rw [e] at ho
      simp only [Option.bind_some] at ho
      have hx1 := JE_of (show jrun (zg_X4_layWay mk m) jfuel (0, (x : Int), (k : Int), 0, 0, 0, wl, fq, st0, qu0, wy0) = some r from e)
      have hx1 := JE_dn (s' := (24, (x : Int), (k : Int), (n : Int), (x : Int), ((0 : Nat) : Int), ((0 : Nat) : Int), g'.1, g'.2.1, g'.2.2, wy0)) (by
        show zg_X4_layWay_0 mk m (x : Int) (k : Int) 0 0 0 wl fq st0 qu0 wy0 = _
        unfold zg_X4_layWay_0
        rw [hg']
        simp only [Option.bind_some]
        rw [st_e (by omega), de x hx, en]
        rfl) hx1
      have t := way_run p0 c.2 (LTof w1) (LIof w6) de gr3 s1.1 (n := n) (by omega) n 0 x _ _ _ _ _ _ _ _ wy0 _ (by omega) hx en (fun z hz => by omega) (by
        rcases zget_set_c pb (Int.toNat 0) 0 (v := (x : Int)) (by unfold zout; omega) with ⟨_, q⟩ | ⟨q, _⟩
        · exact q
        · exact absurd rfl q) hx1 hy
      cases ho
      refine ⟨by rw [t.2.1]; exact t.1, ?_⟩
      show WE r.2.1 r.2.2.2.2.2 _
      rw [t.1]
      exact t.2.2
  · rw [decide_eq_false c, if_pos rfl] at ho
    rw [decide_eq_false (by omega), if_pos rfl] at ey
    have := JE_end ey hy
    cases ho
    rw [this]
    exact ⟨rfl, hW⟩
theorem eq_passed {mk : Nat} {w i : Int} {wy pb : Nat} (hi : ¬ zout i) (h0 : 0 ≤ w) (h64 : w ≤ 64) (hW : WE w wy pb) {o o2 : Int} (ho : zf_X10_passed mk w wy i = some o) (ho2 : zf_X11_passed w pb i = some o2) : o = o2 := by
  unfold zf_X10_passed zf_X4_onWay at ho
  unfold zf_X11_passed at ho2
  rw [in_e hi (by decide) (by unfold zout; omega)] at ho2
  simp only [Option.bind_some] at ho2
  rw [if_neg hi] at ho
  by_cases c : i < 0
  · rw [if_pos c] at ho
    rw [decide_eq_false (by omega), if_pos rfl] at ho2
    cases ho; cases ho2; rfl
  · rw [if_neg c, if_neg (by unfold zout; omega)] at ho
    by_cases d : w ≤ i
    · rw [if_pos d] at ho
      rw [decide_eq_false (by omega), if_pos rfl] at ho2
      cases ho; cases ho2; rfl
    · rw [if_neg d, if_neg (by omega)] at ho
      rw [decide_eq_true (by omega), if_neg (by decide), if_neg (by omega)] at ho2
      cases ho; cases ho2
      exact hW i.toNat (by omega)
