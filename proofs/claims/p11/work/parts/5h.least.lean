/-! turning a cut: the image of a set of lines; least, kinds -/
noncomputable def im (f : Nat → Nat) (T : Nat) (L : Nat) : Nat := Nat.rec (motive := fun _ => Nat) 0 (fun l ih => match T.testBit l with
  | true => ih ||| 2 ^ f l
  | false => ih) L
theorem im_t {f : Nat → Nat} {T L : Nat} (h : T.testBit L = true) : im f T (L + 1) = im f T L ||| 2 ^ f L := by
  show (match T.testBit L with
    | true => im f T L ||| 2 ^ f L
    | false => im f T L) = _
  rw [h]
theorem im_f {f : Nat → Nat} {T L : Nat} (h : T.testBit L = false) : im f T (L + 1) = im f T L := by
  show (match T.testBit L with
    | true => im f T L ||| 2 ^ f L
    | false => im f T L) = _
  rw [h]
theorem im_bit (f : Nat → Nat) (T b : Nat) : ∀ L : Nat, (im f T L).testBit b = true ↔ ∃ l, l < L ∧ T.testBit l = true ∧ f l = b := by
  intro L
  induction L with
  | zero =>
    constructor
    · intro h
      have h : (0 : Nat).testBit b = true := h
      rw [Nat.zero_testBit] at h
      cases h
    · intro h
      obtain ⟨l, hl, _⟩ := h
      omega
  | succ L ih =>
    cases q : T.testBit L with
    | true =>
      rw [im_t q, or_bit, Bool.or_eq_true]
      constructor
      · intro h
        rcases h with h | h
        · obtain ⟨l, h1, h2, h3⟩ := ih.mp h
          exact ⟨l, by omega, h2, h3⟩
        · exact ⟨L, by omega, q, of_decide_eq_true h⟩
      · intro h
        obtain ⟨l, h1, h2, h3⟩ := h
        by_cases e : l = L
        · subst e
          exact Or.inr (decide_eq_true h3)
        · exact Or.inl (ih.mpr ⟨l, by omega, h2, h3⟩)
    | false =>
      rw [im_f q]
      constructor
      · intro h
        obtain ⟨l, h1, h2, h3⟩ := ih.mp h
        exact ⟨l, by omega, h2, h3⟩
      · intro h
        obtain ⟨l, h1, h2, h3⟩ := h
        by_cases e : l = L
        · subst e
          rw [q] at h2
          cases h2
        · exact ih.mpr ⟨l, by omega, h2, h3⟩
theorem im_im {f g h : Nat → Nat} {L T : Nat} (hf : ∀ l, l < L → f l < L) (hg : ∀ l, l < L → g (f l) = h l) : im g (im f T L) L = im h T L := by
  apply Nat.eq_of_testBit_eq
  intro b
  rw [Bool.eq_iff_iff, im_bit, im_bit]
  constructor
  · intro z
    obtain ⟨x, h1, h2, h3⟩ := z
    obtain ⟨l, a1, a2, a3⟩ := (im_bit f T x L).mp h2
    exact ⟨l, a1, a2, by rw [← hg l a1, a3]; exact h3⟩
  · intro z
    obtain ⟨l, a1, a2, a3⟩ := z
    exact ⟨f l, hf l a1, (im_bit f T (f l) L).mpr ⟨l, a1, a2, rfl⟩, by rw [hg l a1]; exact a3⟩
theorem im_id {f : Nat → Nat} {L T : Nat} (hf : ∀ l, l < L → f l = l) (hT : T < 2 ^ L) : im f T L = T := by
  apply Nat.eq_of_testBit_eq
  intro b
  rw [Bool.eq_iff_iff, im_bit]
  constructor
  · intro z
    obtain ⟨l, a1, a2, a3⟩ := z
    rw [hf l a1] at a3
    rw [← a3]
    exact a2
  · intro h
    by_cases hb : b < L
    · exact ⟨b, hb, h, hf b hb⟩
    · rw [Nat.testBit_lt_two_pow (Nat.lt_of_lt_of_le hT (Nat.pow_le_pow_right (by decide) (by omega)))] at h
      cases h
theorem im_lt {f : Nat → Nat} {T N : Nat} : ∀ L : Nat, (∀ l, l < L → f l < N) → im f T L < 2 ^ N := by
  intro L
  induction L with
  | zero => intro _; exact Nat.two_pow_pos _
  | succ L ih =>
    intro h
    have i := ih (fun l hl => h l (by omega))
    cases q : T.testBit L with
    | true => rw [im_t q]; exact Nat.or_lt_two_pow i (Nat.pow_lt_pow_right (by decide) (h L (by omega)))
    | false => rw [im_f q]; exact i
noncomputable def pmA (m k : Nat) (mir : Bool) (a : Nat) : Nat := match mir with
  | false => (a + k) % m
  | true => (m - 1 - a + k) % m
noncomputable def pmV (m k : Nat) (mir : Bool) (l : Nat) : Int := zget (pg3 m) (9 * pmA m k mir (zget (pg1 m) l).toNat + pmA m k mir (zget (pg2 m) l).toNat)
noncomputable def pm (m k : Nat) (mir : Bool) (l : Nat) : Nat := (pmV m k mir l).toNat
noncomputable def pmK (m k : Nat) (mir : Bool) (l : Nat) : Bool := match decide (k < m ∧ (l : Int) < pg7 m) with
  | false => true
  | true => decide (0 ≤ pmV m k mir l ∧ (k + 1 < m → pm m 1 false (pm m k mir l) = pm m (k + 1) mir l) ∧ pm m 0 false l = l)
theorem pm_tab : ∀ m : Nat, 4 ≤ m → m ≤ 9 → allF (fun k => allF (fun l => pmK m k false l && pmK m k true l) 0 27) 0 9 = true := pg_cases (by decide +kernel) (by decide +kernel) (by decide +kernel) (by decide +kernel) (by decide +kernel) (by decide +kernel)
theorem pm_c {m k l : Nat} (h4 : 4 ≤ m) (h9 : m ≤ 9) (mir : Bool) (hk : k < m) (hl : l < lnN m) : 0 ≤ pmV m k mir l ∧ (k + 1 < m → pm m 1 false (pm m k mir l) = pm m (k + 1) mir l) ∧ pm m 0 false l = l := by
  have r7 := rpg7 h4 h9
  have hl' : (l : Int) < pg7 m := by unfold lnN at hl; omega
  have t := allF_at (allF_at (pm_tab m h4 h9) (m := k) (by omega)) (m := l) (by omega)
  have t : (pmK m k false l && pmK m k true l) = true := t
  rw [Bool.and_eq_true] at t
  have t : pmK m k mir l = true := by
    cases mir with
    | false => exact t.1
    | true => exact t.2
  unfold pmK at t
  rw [decide_eq_true (show k < m ∧ (l : Int) < pg7 m from ⟨hk, hl'⟩)] at t
  exact of_decide_eq_true t
theorem pmA_lt {m k : Nat} (h4 : 4 ≤ m) (mir : Bool) (a : Nat) : pmA m k mir a < m := by
  cases mir with
  | false => exact Nat.mod_lt _ (by omega)
  | true => exact Nat.mod_lt _ (by omega)
theorem pm_e {m k l : Nat} (h4 : 4 ≤ m) (h9 : m ≤ 9) (mir : Bool) (hk : k < m) (hl : l < lnN m) : pmV m k mir l = ((pm m k mir l : Nat) : Int) ∧ pm m k mir l < lnN m := by
  have t := (pm_c h4 h9 mir hk hl).1
  have a1 := pmA_lt (k := k) h4 mir (zget (pg1 m) l).toNat
  have a2 := pmA_lt (k := k) h4 mir (zget (pg2 m) l).toNat
  have r := of_decide_eq_true (allF_at (pg3_lt_tab m h4 h9) (m := 9 * pmA m k mir (zget (pg1 m) l).toNat + pmA m k mir (zget (pg2 m) l).toNat) (by omega))
  have r : pmV m k mir l < pg7 m := r
  constructor
  · unfold pm; omega
  · unfold pm lnN; omega
/-- what both turn to: set T, turned k times, mirrored ahead or not -/
noncomputable def tF (m T k : Nat) (mir : Bool) : Nat := im (pm m k mir) T (lnN m)
theorem tF_lt {m T k : Nat} (h4 : 4 ≤ m) (h9 : m ≤ 9) (mir : Bool) (hk : k < m) : tF m T k mir < 134217728 := Nat.lt_of_lt_of_le (im_lt (lnN m) (fun l hl => (pm_e h4 h9 mir hk hl).2)) (lnN_2 h4 h9)
theorem tF_s {m T k : Nat} (h4 : 4 ≤ m) (h9 : m ≤ 9) (mir : Bool) (hk : k + 1 < m) : tF m (tF m T k mir) 1 false = tF m T (k + 1) mir := by
  unfold tF
  exact im_im (fun l hl => (pm_e h4 h9 mir (by omega) hl).2) (fun l hl => (pm_c h4 h9 mir (by omega) hl).2.1 hk)
theorem tF_0 {m T : Nat} (h4 : 4 ≤ m) (h9 : m ≤ 9) (hT : T < 2 ^ lnN m) : tF m T 0 false = T := im_id (fun l hl => (pm_c (k := 0) h4 h9 false (by omega) hl).2.2) hT
theorem has_b {m T l : Nat} (h4 : 4 ≤ m) (h9 : m ≤ 9) (hT : T < 134217728) (hl : l < lnN m) : zf_X5_has m (T : Int) (l : Int) = some (T.testBit l) := by
  have r := lnN_27 h4 h9
  have hl' : (l : Int) < pg7 m := by unfold lnN at hl; omega
  unfold zf_X5_has
  rw [hasLine_e h4 h9 (by omega) hl']
  simp only [Option.bind_some]
  rw [if_neg (by decide)]
  cases hb : T.testBit l with
  | true => rw [bitI_t hT (by omega) hb, if_neg (by decide)]
  | false => rw [bitI_f hT (by omega) hb, if_pos rfl]
/-- the class moves once -/
noncomputable def kk (mir : Bool) : Nat := match mir with
  | false => 1
  | true => 0
theorem mc_e {m : Nat} (h4 : 4 ≤ m) (h9 : m ≤ 9) (mir : Bool) {a : Int} (h0 : 0 ≤ a) (h : a ≤ (m : Int) - 1) : zf_X5_movedCorner m a mir = some ((pmA m (kk mir) mir a.toNat : Nat) : Int) := by
  unfold zf_X5_movedCorner
  cases mir with
  | false =>
    rw [if_pos rfl, if_neg (by unfold zout; omega), if_neg (by unfold zout; omega)]
    show _ = some (((a.toNat + 1) % m : Nat) : Int)
    by_cases e : a + 1 = (m : Int)
    · rw [if_pos e, show a.toNat + 1 = m by omega, Nat.mod_self]
      rfl
    · rw [if_neg e, Nat.mod_eq_of_lt (by omega)]
      congr 1
      omega
  | true =>
    rw [if_neg (by decide)]
    show _ = some (((m - 1 - a.toNat + 0) % m : Nat) : Int)
    rw [Nat.mod_eq_of_lt (by omega)]
    congr 1
    omega
def mvI (m T : Nat) (mir : Bool) (lab : Nat) (i1 : Int) (i2 : Bool) (i3 i4 : Int) : Prop := i1 = (T : Int) ∧ i2 = mir ∧ (lab = 0 ∨ (lab = 5 ∧ 0 ≤ i4 ∧ i4 ≤ pg7 m ∧ i3 = ((im (pm m (kk mir) mir) T i4.toNat : Nat) : Int)))
set_option maxHeartbeats 1000000 in
theorem mv_ok {m T : Nat} (h4 : 4 ≤ m) (h9 : m ≤ 9) (mir : Bool) (hT : T < 134217728) : zf_X5_moved m (T : Int) mir = some ((tF m T (kk mir) mir : Nat) : Int) := by
  have r7 := rpg7 h4 h9
  have r27 := lnN_27 h4 h9
  have hkk : kk mir < m := by
    cases mir with
    | false => show 1 < m; omega
    | true => show 0 < m; omega
  have g : Go (fun o => o = ((tF m T (kk mir) mir : Nat) : Int)) (zf_X5_moved m (T : Int) mir) := by
    unfold zf_X5_moved
    refine jok (fun (s : zS_X5_moved) => match s with | (lab, i1, i2, i3, i4) => mvI m T mir lab i1 i2 i3 i4) (fun (s : zS_X5_moved) => match s with | (lab, i1, i2, i3, i4) => if lab = 0 then 100 else (60 - i4).toNat) (fun (o : zO_X5_moved) => o = ((tF m T (kk mir) mir : Nat) : Int)) ?_ _ ?_ ?_
    · intro s hI
      obtain ⟨lab, i1, i2, i3, i4⟩ := s
      have hI : mvI m T mir lab i1 i2 i3 i4 := hI
      unfold mvI at hI
      obtain ⟨rfl, rfl, hI⟩ := hI
      rcases hI with rfl | ⟨rfl, v1, v2, v3⟩
      · show Go _ (zg_X5_moved_0 m (T : Int) i2 i3 i4)
        unfold zg_X5_moved_0
        exact Go_i (show mvI m T i2 5 (T : Int) i2 0 0 ∧ (60 - (0 : Int)).toNat < 100 from ⟨⟨rfl, rfl, Or.inr ⟨rfl, by omega, by omega, rfl⟩⟩, by decide⟩)
      · show Go _ (zg_X5_moved_5 m (T : Int) i2 i3 i4)
        unfold zg_X5_moved_5
        refine Go_chk (by unfold zout; omega) ?_
        refine Go_chk (by unfold zout; omega) ?_
        refine Go_ite (fun x => ?_) (fun x => ?_)
        · refine Go_i (show i3 = ((tF m T (kk i2) i2 : Nat) : Int) from ?_)
          rw [v3]
          unfold tF lnN
          rw [show i4.toNat = (pg7 m).toNat by omega]
        · obtain ⟨l, rfl⟩ : ∃ l : Nat, i4 = (l : Int) := ⟨i4.toNat, by omega⟩
          have hl : l < lnN m := by unfold lnN; omega
          rw [show Int.toNat (l : Int) = l from rfl] at v3
          refine Go_bind (has_b h4 h9 hT hl) ?_
          refine Go_ite (fun y => ?_) (fun y => ?_)
          · refine Go_i (show mvI m T i2 5 (T : Int) i2 i3 ((l : Int) + 1) ∧ (60 - ((l : Int) + 1)).toNat < (60 - (l : Int)).toNat from ⟨⟨rfl, rfl, Or.inr ⟨rfl, by omega, by omega, ?_⟩⟩, by omega⟩)
            rw [show Int.toNat ((l : Int) + 1) = l + 1 by omega, im_f y]
            exact v3
          · have a1 := rpg1n h4 h9 l (by omega)
            have a2 := rpg2n h4 h9 l (by omega)
            have pe := pm_e h4 h9 i2 hkk hl
            have b1 := pmA_lt (k := kk i2) h4 i2 (zget (pg1 m) l).toNat
            have b2 := pmA_lt (k := kk i2) h4 i2 (zget (pg2 m) l).toNat
            have bi : im (pm m (kk i2) i2) T l < 134217728 := Nat.lt_of_lt_of_le (im_lt l (fun z hz => (pm_e h4 h9 i2 hkk (by omega)).2)) (lnN_2 h4 h9)
            have b1' : pmA m (kk i2) i2 (zget (pg1 m) (Int.toNat (l : Int))).toNat < m := b1
            have b2' : pmA m (kk i2) i2 (zget (pg2 m) (Int.toNat (l : Int))).toNat < m := b2
            refine Go_chk (by omega) ?_
            refine Go_bind (mc_e h4 h9 i2 a1.1 a1.2) ?_
            refine Go_bind (mc_e h4 h9 i2 a2.1 a2.2) ?_
            refine Go_bind (lineOf_e h4 h9 (by omega) (by omega) (by omega) (by omega)) ?_
            refine Go_i (show mvI m T i2 5 (T : Int) i2 (zor i3 (zshl (1 : Int) (pmV m (kk i2) i2 l))) ((l : Int) + 1) ∧ (60 - ((l : Int) + 1)).toNat < (60 - (l : Int)).toNat from ⟨⟨rfl, rfl, Or.inr ⟨rfl, by omega, by omega, ?_⟩⟩, by omega⟩)
            rw [show Int.toNat ((l : Int) + 1) = l + 1 by omega, im_t (bnf y), v3, pe.1, orI bi (by omega)]
    · exact ⟨rfl, rfl, Or.inl rfl⟩
    · show 100 < jfuel
      unfold jfuel
      omega
  obtain ⟨o, ho, rfl⟩ := g
  exact ho
/-- the reference turns -/
theorem tm_e {x : Int} {m : Nat} (hx : 0 ≤ x) : Int.tmod x (m : Int) = ((x.toNat % m : Nat) : Int) := by
  obtain ⟨n, rfl⟩ := Int.eq_ofNat_of_zero_le hx
  rfl
def tuI (m T k : Nat) (mir : Bool) (lab : Nat) (i1 i2 i4 : Int) (i5 : Bool) (i6 i8 : Int) : Prop := i1 = (m : Int) ∧ i2 = (T : Int) ∧ i4 = (k : Int) ∧ i5 = mir ∧ (lab = 0 ∨ (lab = 6 ∧ 0 ≤ i8 ∧ i8 ≤ pg7 m ∧ i6 = ((im (pm m k mir) T i8.toNat : Nat) : Int)))
set_option maxHeartbeats 2000000 in
theorem tu_ok {m T k : Nat} (h4 : 4 ≤ m) (h9 : m ≤ 9) (mir : Bool) (hk : k < m) (hT : T < 134217728) {ln : Int} {nf ls gr : Nat} (hL : LT m ln nf ls gr) : zf_X11_turned ln nf ls gr (m : Int) (T : Int) (k : Int) mir = some ((tF m T k mir : Nat) : Int) := by
  have r7 := rpg7 h4 h9
  have r27 := lnN_27 h4 h9
  obtain ⟨e7, hN, hL⟩ := hL
  have g : Go (fun o => o = ((tF m T k mir : Nat) : Int)) (zf_X11_turned ln nf ls gr (m : Int) (T : Int) (k : Int) mir) := by
    unfold zf_X11_turned
    refine jok (fun (s : zS_X11_turned) => match s with | (lab, i1, i2, i4, i5, i6, i8) => tuI m T k mir lab i1 i2 i4 i5 i6 i8) (fun (s : zS_X11_turned) => match s with | (lab, i1, i2, i4, i5, i6, i8) => if lab = 0 then 100 else (60 - i8).toNat) (fun (o : zO_X11_turned) => o = ((tF m T k mir : Nat) : Int)) ?_ _ ?_ ?_
    · intro s hI
      obtain ⟨lab, i1, i2, i4, i5, i6, i8⟩ := s
      have hI : tuI m T k mir lab i1 i2 i4 i5 i6 i8 := hI
      unfold tuI at hI
      obtain ⟨rfl, rfl, rfl, rfl, hI⟩ := hI
      rcases hI with rfl | ⟨rfl, v1, v2, v3⟩
      · show Go _ (zg_X11_turned_0 ln nf ls gr (m : Int) (T : Int) (k : Int) i5 i6 i8)
        unfold zg_X11_turned_0
        exact Go_i (show tuI m T k i5 6 (m : Int) (T : Int) (k : Int) i5 0 0 ∧ (60 - (0 : Int)).toNat < 100 from ⟨⟨rfl, rfl, rfl, rfl, Or.inr ⟨rfl, by omega, by omega, rfl⟩⟩, by decide⟩)
      · show Go _ (zg_X11_turned_6 ln nf ls gr (m : Int) (T : Int) (k : Int) i5 i6 i8)
        unfold zg_X11_turned_6
        refine Go_chk (by unfold zout; omega) ?_
        refine Go_chk (by unfold zout; omega) ?_
        refine Go_ite (fun x => ?_) (fun x => ?_)
        · refine Go_i (show i6 = ((tF m T k i5 : Nat) : Int) from ?_)
          rw [v3]
          unfold tF lnN
          rw [show i8.toNat = (pg7 m).toNat by omega]
        · obtain ⟨l, rfl⟩ : ∃ l : Nat, i8 = (l : Int) := ⟨i8.toNat, by omega⟩
          have hl : l < lnN m := by unfold lnN; omega
          rw [show Int.toNat (l : Int) = l from rfl] at v3 ⊢
          rw [bitL hT (show l < 27 by omega)]
          refine Go_ite (fun y => ?_) (fun y => ?_)
          · have y' : T.testBit l = false := by
              cases z : T.testBit l with
              | false => rfl
              | true => rw [z, if_pos rfl] at y; exact absurd y (by decide)
            refine Go_i (show tuI m T k i5 6 (m : Int) (T : Int) (k : Int) i5 i6 ((l : Int) + 1) ∧ (60 - ((l : Int) + 1)).toNat < (60 - (l : Int)).toNat from ⟨⟨rfl, rfl, rfl, rfl, Or.inr ⟨rfl, by omega, by omega, ?_⟩⟩, by omega⟩)
            rw [show Int.toNat ((l : Int) + 1) = l + 1 by omega, im_f y']
            exact v3
          · have y' : T.testBit l = true := by
              cases z : T.testBit l with
              | true => rfl
              | false => rw [z, if_neg (by decide)] at y; exact absurd rfl y
            have a1 := rpg1n h4 h9 l (by omega)
            have a2 := rpg2n h4 h9 l (by omega)
            obtain ⟨l1, l2⟩ := hL l (by omega)
            have pe := pm_e h4 h9 i5 hk hl
            have pv := (pm_c h4 h9 i5 hk hl).1
            have bi : im (pm m k i5) T l < 134217728 := Nat.lt_of_lt_of_le (im_lt l (fun z hz => (pm_e h4 h9 i5 hk (by omega)).2)) (lnN_2 h4 h9)
            have b1 := pmA_lt (k := k) h4 i5 (zget (pg1 m) l).toNat
            have b2 := pmA_lt (k := k) h4 i5 (zget (pg2 m) l).toNat
            have ne : ¬ pmA m k i5 (zget (pg1 m) l).toNat = pmA m k i5 (zget (pg2 m) l).toNat := by
              intro q
              have dg := of_decide_eq_true (allF_at (diag_tab m h4 h9) (m := pmA m k i5 (zget (pg1 m) l).toNat) (by omega)) (by omega)
              unfold pmV at pv
              rw [← q] at pv
              omega
            have gn := LN_get hN b1 b2 ne
            have fin : tuI m T k i5 6 (m : Int) (T : Int) (k : Int) i5 (zorL i6 (zshlL (1 : Int) (zget nf (10 * pmA m k i5 (zget (pg1 m) l).toNat + pmA m k i5 (zget (pg2 m) l).toNat)))) ((l : Int) + 1) ∧ (60 - ((l : Int) + 1)).toNat < (60 - (l : Int)).toNat := by
              refine ⟨⟨rfl, rfl, rfl, rfl, Or.inr ⟨rfl, by omega, by omega, ?_⟩⟩, by omega⟩
              rw [gn]
              show zorL i6 (zshlL 1 (pmV m k i5 l)) = _
              rw [show Int.toNat ((l : Int) + 1) = l + 1 by omega, im_t y', v3, pe.1, orL bi (by omega)]
            rw [l1, l2]
            cases i5 with
            | false =>
              have t1 : Int.tmod (zget (pg1 m) l + (k : Int)) (m : Int) = ((pmA m k false (zget (pg1 m) l).toNat : Nat) : Int) := by
                rw [tm_e (by omega), show (zget (pg1 m) l + (k : Int)).toNat = (zget (pg1 m) l).toNat + k by omega]
                rfl
              have t2 : Int.tmod (zget (pg2 m) l + (k : Int)) (m : Int) = ((pmA m k false (zget (pg2 m) l).toNat : Nat) : Int) := by
                rw [tm_e (by omega), show (zget (pg2 m) l + (k : Int)).toNat = (zget (pg2 m) l).toNat + k by omega]
                rfl
              rw [if_pos rfl, if_pos rfl, t1, t2]
              refine Go_chk (by omega) ?_
              refine Go_chk (by unfold zout; omega) ?_
              refine Go_chk (by unfold zout; omega) ?_
              refine Go_chk (by omega) ?_
              refine Go_chk (by unfold zout; omega) ?_
              refine Go_chk (by omega) ?_
              refine Go_chk (by omega) ?_
              refine Go_i (show tuI m T k false 6 (m : Int) (T : Int) (k : Int) false (zorL i6 (zshlL (1 : Int) (zget nf (Int.toNat ((10 : Int) * ((pmA m k false (zget (pg1 m) l).toNat : Nat) : Int) + ((pmA m k false (zget (pg2 m) l).toNat : Nat) : Int)))))) ((l : Int) + 1) ∧ (60 - ((l : Int) + 1)).toNat < (60 - (l : Int)).toNat from ?_)
              rw [show Int.toNat ((10 : Int) * ((pmA m k false (zget (pg1 m) l).toNat : Nat) : Int) + ((pmA m k false (zget (pg2 m) l).toNat : Nat) : Int)) = 10 * pmA m k false (zget (pg1 m) l).toNat + pmA m k false (zget (pg2 m) l).toNat by omega]
              exact fin
            | true =>
              have t1 : Int.tmod ((m : Int) - (1 : Int) - zget (pg1 m) l + (k : Int)) (m : Int) = ((pmA m k true (zget (pg1 m) l).toNat : Nat) : Int) := by
                rw [tm_e (by omega), show ((m : Int) - (1 : Int) - zget (pg1 m) l + (k : Int)).toNat = m - 1 - (zget (pg1 m) l).toNat + k by omega]
                rfl
              have t2 : Int.tmod ((m : Int) - (1 : Int) - zget (pg2 m) l + (k : Int)) (m : Int) = ((pmA m k true (zget (pg2 m) l).toNat : Nat) : Int) := by
                rw [tm_e (by omega), show ((m : Int) - (1 : Int) - zget (pg2 m) l + (k : Int)).toNat = m - 1 - (zget (pg2 m) l).toNat + k by omega]
                rfl
              rw [if_neg (show ¬ true = false by decide), if_neg (show ¬ true = false by decide), t1, t2]
              refine Go_chk (by omega) ?_
              refine Go_chk (by unfold zout; omega) ?_
              refine Go_chk (by unfold zout; omega) ?_
              refine Go_chk (by omega) ?_
              refine Go_chk (by unfold zout; omega) ?_
              refine Go_chk (by omega) ?_
              refine Go_chk (by omega) ?_
              refine Go_i (show tuI m T k true 6 (m : Int) (T : Int) (k : Int) true (zorL i6 (zshlL (1 : Int) (zget nf (Int.toNat ((10 : Int) * ((pmA m k true (zget (pg1 m) l).toNat : Nat) : Int) + ((pmA m k true (zget (pg2 m) l).toNat : Nat) : Int)))))) ((l : Int) + 1) ∧ (60 - ((l : Int) + 1)).toNat < (60 - (l : Int)).toNat from ?_)
              rw [show Int.toNat ((10 : Int) * ((pmA m k true (zget (pg1 m) l).toNat : Nat) : Int) + ((pmA m k true (zget (pg2 m) l).toNat : Nat) : Int)) = 10 * pmA m k true (zget (pg1 m) l).toNat + pmA m k true (zget (pg2 m) l).toNat by omega]
              exact fin
    · exact ⟨rfl, rfl, rfl, rfl, Or.inl rfl⟩
    · show 100 < jfuel
      unfold jfuel
      omega
  obtain ⟨o, ho, rfl⟩ := g
  exact ho
