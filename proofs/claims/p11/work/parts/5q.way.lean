/-! way: both choose triangles for the corners between, one behind another; so many ways as the entry says -/
noncomputable def sumT (f : Nat → Nat) (n : Nat) : Nat := Nat.rec (motive := fun _ => Nat) 0 (fun t s => s + f t) n
theorem sumT_s (f : Nat → Nat) (n : Nat) : sumT f (n + 1) = sumT f n + f n := rfl
theorem sumT_le {f : Nat → Nat} {a b : Nat} (h : a ≤ b) : sumT f a ≤ sumT f b := by
  obtain ⟨d, rfl⟩ : ∃ d, b = a + d := ⟨b - a, by omega⟩
  clear h
  induction d with
  | zero => exact Nat.le_refl _
  | succ d ih =>
    rw [show a + (d + 1) = (a + d) + 1 by omega, sumT_s]
    omega
noncomputable def Wn (m TA TB TC : Nat) (r : Nat) : Nat → Nat → Nat := Nat.rec (motive := fun _ => Nat → Nat → Nat) (fun _ _ => 1) (fun _ ih x u => sumT (fun t => match u.testBit t with
  | true => 0
  | false => match cI TA TB TC x t with
    | false => 0
    | true => ih ((x + 1) % m) (u ||| 2 ^ t)) (m - 2)) r
noncomputable def ctb (m TA TB TC r x u t : Nat) : Nat := match u.testBit t with
  | true => 0
  | false => match cI TA TB TC x t with
    | false => 0
    | true => Wn m TA TB TC r ((x + 1) % m) (u ||| 2 ^ t)
theorem Wn_0 (m TA TB TC x u : Nat) : Wn m TA TB TC 0 x u = 1 := rfl
theorem Wn_s (m TA TB TC r x u : Nat) : Wn m TA TB TC (r + 1) x u = sumT (ctb m TA TB TC r x u) (m - 2) := rfl
theorem ctb_u {m TA TB TC r x u t : Nat} (h : u.testBit t = true) : ctb m TA TB TC r x u t = 0 := by unfold ctb; rw [h]
theorem ctb_n {m TA TB TC r x u t : Nat} (h : u.testBit t = false) (h' : cI TA TB TC x t = false) : ctb m TA TB TC r x u t = 0 := by unfold ctb; rw [h, h']
theorem ctb_y {m TA TB TC r x u t : Nat} (h : u.testBit t = false) (h' : cI TA TB TC x t = true) : ctb m TA TB TC r x u t = Wn m TA TB TC r ((x + 1) % m) (u ||| 2 ^ t) := by unfold ctb; rw [h, h']
/-- the w-th way: p tells the triangles -/
def PW (m TA TB TC : Nat) (r : Nat) : Nat → Nat → Nat → (Nat → Nat) → Prop := Nat.rec (motive := fun _ => Nat → Nat → Nat → (Nat → Nat) → Prop) (fun _ _ _ _ => True) (fun r ih x u w p => ∃ t, t < m - 2 ∧ u.testBit t = false ∧ cI TA TB TC x t = true ∧ sumT (ctb m TA TB TC r x u) t ≤ w ∧ w < sumT (ctb m TA TB TC r x u) (t + 1) ∧ p 0 = t ∧ ih ((x + 1) % m) (u ||| 2 ^ t) (w - sumT (ctb m TA TB TC r x u) t) (fun q => p (q + 1))) r
theorem PW_u {m TA TB TC : Nat} : ∀ (r x u w : Nat) (p p' : Nat → Nat), PW m TA TB TC r x u w p → PW m TA TB TC r x u w p' → ∀ q, q < r → p q = p' q := by
  intro r
  induction r with
  | zero => intro x u w p p' _ _ q hq; omega
  | succ r ih =>
    intro x u w p p' h h' q hq
    obtain ⟨t, a1, a2, a3, a4, a5, a6, a7⟩ := h
    obtain ⟨t', b1, b2, b3, b4, b5, b6, b7⟩ := h'
    have e : t = t' := by
      by_cases l : t < t'
      · have := sumT_le (f := ctb m TA TB TC r x u) (show t + 1 ≤ t' by omega)
        omega
      · by_cases l' : t' < t
        · have := sumT_le (f := ctb m TA TB TC r x u) (show t' + 1 ≤ t by omega)
          omega
        · omega
    subst e
    cases q with
    | zero => rw [a6, b6]
    | succ q => exact ih _ _ _ _ _ a7 b7 q (by omega)
/-- so many ways as the entry says -/
noncomputable def wyK (m k : Nat) : Bool := frc (sl (trA m) k) (fun TA => frc (sl (trB m) k) (fun TB => frc (sl (trC m) k) (fun TC => frc (sE m k) (fun E => allF (fun i => Nat.ble m i || allF (fun d => Nat.ble (m - 1) d || Nat.beq (Wn m TA TB TC d ((i + 1) % m) 0) (eR E i ((i + 1 + d) % m))) 0 8) 0 9))))
theorem wy8 : allF (fun k => wyK 8 k) 0 132 = true := by decide +kernel
theorem wy9_0 : allF (fun k => wyK 9 k) 0 72 = true := by decide +kernel
theorem wy9_72 : allF (fun k => wyK 9 k) 72 72 = true := by decide +kernel
theorem wy9_144 : allF (fun k => wyK 9 k) 144 72 = true := by decide +kernel
theorem wy9_216 : allF (fun k => wyK 9 k) 216 72 = true := by decide +kernel
theorem wy9_288 : allF (fun k => wyK 9 k) 288 72 = true := by decide +kernel
theorem wy9_360 : allF (fun k => wyK 9 k) 360 69 = true := by decide +kernel
theorem wy9 (k : Nat) (hk : (k : Int) < pg8 9) : wyK 9 k = true := by
  have hk : (k : Int) < 429 := hk
  by_cases h0 : k < 72
  · have q := allF_ok _ wy9_0 k h0
    rw [Nat.zero_add] at q
    exact q
  by_cases h1 : k < 144
  · have q := allF_ok _ wy9_72 (k - 72) (by omega)
    rw [show 72 + (k - 72) = k by omega] at q
    exact q
  by_cases h2 : k < 216
  · have q := allF_ok _ wy9_144 (k - 144) (by omega)
    rw [show 144 + (k - 144) = k by omega] at q
    exact q
  by_cases h3 : k < 288
  · have q := allF_ok _ wy9_216 (k - 216) (by omega)
    rw [show 216 + (k - 216) = k by omega] at q
    exact q
  by_cases h4 : k < 360
  · have q := allF_ok _ wy9_288 (k - 288) (by omega)
    rw [show 288 + (k - 288) = k by omega] at q
    exact q
  have q := allF_ok _ wy9_360 (k - 360) (by omega)
  rw [show 360 + (k - 360) = k by omega] at q
  exact q
theorem wy_all : ∀ m : Nat, 4 ≤ m → m ≤ 9 → ∀ k : Nat, (k : Int) < pg8 m → wyK m k = true := pg_cases (fun k hk => allF_at (show allF (fun k => wyK 4 k) 0 2 = true by decide +kernel) (by have hk : (k : Int) < 2 := hk; omega)) (fun k hk => allF_at (show allF (fun k => wyK 5 k) 0 5 = true by decide +kernel) (by have hk : (k : Int) < 5 := hk; omega)) (fun k hk => allF_at (show allF (fun k => wyK 6 k) 0 14 = true by decide +kernel) (by have hk : (k : Int) < 14 := hk; omega)) (fun k hk => allF_at (show allF (fun k => wyK 7 k) 0 42 = true by decide +kernel) (by have hk : (k : Int) < 42 := hk; omega)) (fun k hk => allF_at wy8 (by have hk : (k : Int) < 132 := hk; omega)) wy9
theorem wy_at {m k : Nat} (h4 : 4 ≤ m) (h9 : m ≤ 9) (hk : (k : Int) < pg8 m) {i d : Nat} (hi : i < m) (hd : d < m - 1) : Wn m (sl (trA m) k) (sl (trB m) k) (sl (trC m) k) d ((i + 1) % m) 0 = eR (sE m k) i ((i + 1 + d) % m) := by
  have t := wy_all m h4 h9 k hk
  unfold wyK at t
  rw [frc_e, frc_e, frc_e, frc_e] at t
  have q := allF_at t (m := i) (by omega)
  have q : (Nat.ble m i || allF (fun d => Nat.ble (m - 1) d || Nat.beq (Wn m (sl (trA m) k) (sl (trB m) k) (sl (trC m) k) d ((i + 1) % m) 0) (eR (sE m k) i ((i + 1 + d) % m))) 0 8) = true := q
  have q := allF_at (orF q (bleF hi)) (m := d) (by omega)
  have q : (Nat.ble (m - 1) d || Nat.beq (Wn m (sl (trA m) k) (sl (trB m) k) (sl (trC m) k) d ((i + 1) % m) 0) (eR (sE m k) i ((i + 1 + d) % m))) = true := q
  exact beqE (orF q (bleF hd))
/-! the corner so many steps behind -/
theorem md_e {a m : Nat} (h : a < 2 * m) : a % m = if a < m then a else a - m := by
  by_cases c : a < m
  · rw [if_pos c, Nat.mod_eq_of_lt c]
  · rw [if_neg c, Nat.mod_eq_sub_mod (by omega), Nat.mod_eq_of_lt (by omega)]
theorem ah_b {m i j : Nat} (hi : i < m) (hj : j < m) : ahN m i j < m ∧ (¬ i = j → 1 ≤ ahN m i j) := by
  unfold ahN
  constructor
  · split <;> omega
  · intro h
    split <;> omega
theorem ah_j {m i j s : Nat} (hi : i < m) (hj : j < m) (hs : s < m) : (i + s) % m = j ↔ s = ahN m i j := by
  rw [md_e (by omega)]
  unfold ahN
  constructor
  · intro h
    split at h <;> split <;> omega
  · intro h
    split at h <;> split <;> omega
theorem md_n {m i s q : Nat} (hi : i < m) (hs : s < m) (hq : q < m) (h : ¬ s = q) : ¬ (i + s) % m = (i + q) % m := by
  rw [md_e (show i + s < 2 * m by omega), md_e (show i + q < 2 * m by omega)]
  split <;> split <;> omega
theorem md_s {m i s : Nat} : ((i + s) % m + 1) % m = (i + (s + 1)) % m := by
  rw [Nat.mod_add_mod, show i + s + 1 = i + (s + 1) by omega]
/-! the reference -/
theorem isAt_e {m k : Nat} (h4 : 4 ≤ m) (h9 : m ≤ 9) (hk : (k : Int) < pg8 m) {tA tB tC : Nat} (hT : TAI m (zget (pg6 m) k) tA tB tC 729) {t x : Nat} (ht : t < m - 2) (hx : x < 100) : zf_X11_isAt tA tB tC (t : Int) (x : Int) = some (cI (sl (trA m) k) (sl (trB m) k) (sl (trC m) k) x t) := by
  obtain ⟨a, b, d, o, ⟨hA, hB, hC⟩, es, -⟩ := tri_at h4 h9 hk hT ht
  unfold zf_X11_isAt cI
  rw [if_neg (by omega), if_neg (by unfold zout; omega), Int.toNat_natCast, hA, hB, hC, es.1, es.2.1, es.2.2]
  by_cases e1 : a = x
  · rw [if_pos (by omega), e1, Nat.beq_refl]; rfl
  · rw [if_neg (by omega), beqF e1]
    by_cases e2 : b = x
    · rw [if_pos (by omega), e2, Nat.beq_refl]; rfl
    · rw [if_neg (by omega), beqF e2]
      by_cases e3 : d = x
      · rw [if_pos (by omega), e3, Nat.beq_refl]; rfl
      · rw [if_neg (by omega), beqF e3]; rfl
def lateN (m i r s y : Nat) : Prop := ∃ q, q < r ∧ y = (i + (s + q)) % m
def WO (m k i r s u : Nat) (w : Int) (wa : Nat) (o : Bool × Int × Nat) : Prop := (o.1 = true → w < (Wn m (sl (trA m) k) (sl (trB m) k) (sl (trC m) k) r ((i + s) % m) u : Int) ∧ PW m (sl (trA m) k) (sl (trB m) k) (sl (trC m) k) r ((i + s) % m) u w.toNat (fun q => (zget o.2.2 ((i + (s + q)) % m)).toNat) ∧ ∀ q, q < r → 0 ≤ zget o.2.2 ((i + (s + q)) % m)) ∧ (o.1 = false → (Wn m (sl (trA m) k) (sl (trB m) k) (sl (trC m) k) r ((i + s) % m) u : Int) ≤ w ∧ o.2.1 = w - (Wn m (sl (trA m) k) (sl (trB m) k) (sl (trC m) k) r ((i + s) % m) u : Int)) ∧ ∀ y, ¬ lateN m i r s y → zget o.2.2 y = zget wa y
def wI (m k i j r s u : Nat) (w : Int) (wa : Nat) (lab : Nat) (i1 i2 i3 i4 i5 i6 wl : Int) (wa' : Nat) : Prop := i1 = (i : Int) ∧ i2 = (j : Int) ∧ i3 = (s : Int) ∧ i4 = (u : Int) ∧ ((lab = 0 ∧ wl = w ∧ wa' = wa) ∨ (lab = 42 ∧ i5 = (((i + s) % m : Nat) : Int) ∧ 0 ≤ i6 ∧ i6 ≤ (m : Int) - 2 ∧ 1 ≤ r ∧ (sumT (ctb m (sl (trA m) k) (sl (trB m) k) (sl (trC m) k) (r - 1) ((i + s) % m) u) i6.toNat : Int) ≤ w ∧ wl = w - (sumT (ctb m (sl (trA m) k) (sl (trB m) k) (sl (trC m) k) (r - 1) ((i + s) % m) u) i6.toNat : Int) ∧ ∀ y, ¬ lateN m i r s y → zget wa' y = zget wa y))
set_option maxHeartbeats 4000000 in
theorem isWay_ok {m k : Nat} (h4 : 4 ≤ m) (h9 : m ≤ 9) (hk : (k : Int) < pg8 m) {i j : Nat} (hi : i < m) (hj : j < m) {tA tB tC : Nat} (hT : TAI m (zget (pg6 m) k) tA tB tC 729) : ∀ (d r s u : Nat) (w : Int) (wa : Nat), r < d → s + r = ahN m i j → 1 ≤ s → u < 128 → 0 ≤ w → w ≤ 2147483647 → Go (fun o => WO m k i r s u w wa o) (zf_X11_isWay d (m : Int) w tA tB tC wa (i : Int) (j : Int) (s : Int) (u : Int)) := by
  have ab := ah_b hi hj
  intro d
  induction d with
  | zero => intro r s u w wa h; omega
  | succ d ih =>
    intro r s u w wa hr hs s1 hu w0 w9
    show Go _ (jrun (zg_X11_isWay (zf_X11_isWay d) (m : Int) tA tB tC) jfuel (0, (i : Int), (j : Int), (s : Int), (u : Int), 0, 0, w, wa))
    have hx : (i + s) % m < m := Nat.mod_lt _ (by omega)
    refine jok (fun (st : zS_X11_isWay) => match st with | (lab, i1, i2, i3, i4, i5, i6, wl, wa') => wI m k i j r s u w wa lab i1 i2 i3 i4 i5 i6 wl wa') (fun (st : zS_X11_isWay) => match st with | (lab, i1, i2, i3, i4, i5, i6, wl, wa') => if lab = 0 then 100 else (60 - i6).toNat) (fun (o : zO_X11_isWay) => WO m k i r s u w wa o) ?_ _ ?_ ?_
    · intro st hI
      obtain ⟨lab, i1, i2, i3, i4, i5, i6, wl, wa'⟩ := st
      have hI : wI m k i j r s u w wa lab i1 i2 i3 i4 i5 i6 wl wa' := hI
      unfold wI at hI
      obtain ⟨qs0, qs1, qs2, qs3, hI2⟩ := hI
      subst qs0
      subst qs1
      subst qs2
      subst qs3
      rcases hI2 with ⟨rfl, rfl, rfl⟩ | ⟨rfl, rfl, v1, v2, v3, v4, v5, v6⟩
      · show Go _ (zg_X11_isWay_0 (zf_X11_isWay d) (m : Int) tA tB tC (i : Int) (j : Int) (s : Int) (u : Int) i5 i6 wl wa')
        unfold zg_X11_isWay_0
        have et : Int.tmod ((i : Int) + (s : Int)) (m : Int) = (((i + s) % m : Nat) : Int) := by
          rw [tm_e (by omega), show ((i : Int) + (s : Int)).toNat = i + s by omega]
        rw [et]
        refine Go_chk (by unfold zout; omega) ?_
        refine Go_chk (by unfold zout; omega) ?_
        refine Go_chk (by omega) ?_
        refine Go_chk (by unfold zout; omega) ?_
        refine Go_chk (by unfold zout; omega) ?_
        refine Go_ite (fun c1 => ?_) (fun c1 => ?_)
        · have e := (ah_j hi hj (s := s) (by omega)).mp (by omega)
          have r0 : r = 0 := by omega
          subst r0
          refine Go_chk (by unfold zout; omega) ?_
          refine Go_ite (fun c2 => ?_) (fun c2 => ?_)
          · refine Go_i (show WO m k i 0 s u wl wa' (false, wl - 1, wa') from ⟨(fun z => by cases z), fun _ => ?_, fun y _ => rfl⟩)
            rw [Wn_0]
            exact ⟨by omega, by show wl - 1 = wl - ((1 : Nat) : Int); omega⟩
          · refine Go_i (show WO m k i 0 s u wl wa' (true, wl - 1, wa') from ⟨fun _ => ?_, (fun z => by cases z), fun y _ => rfl⟩)
            rw [Wn_0]
            exact ⟨by omega, True.intro, fun q hq => by omega⟩
        · have r1 : 1 ≤ r := by
            apply Classical.byContradiction
            intro z
            have := (ah_j hi hj (s := s) (by omega)).mpr (by omega)
            omega
          refine Go_i (show wI m k i j r s u wl wa' 42 (i : Int) (j : Int) (s : Int) (u : Int) (((i + s) % m : Nat) : Int) 0 wl wa' ∧ (60 - (0 : Int)).toNat < 100 from ⟨⟨rfl, rfl, rfl, rfl, Or.inr ⟨rfl, rfl, by omega, by omega, r1, ?_, ?_, fun y _ => rfl⟩⟩, by decide⟩)
          · show ((0 : Nat) : Int) ≤ wl
            omega
          · show wl = wl - ((0 : Nat) : Int)
            omega
      · show Go _ (zg_X11_isWay_42 (zf_X11_isWay d) (m : Int) tA tB tC (i : Int) (j : Int) (s : Int) (u : Int) (((i + s) % m : Nat) : Int) i6 wl wa')
        unfold zg_X11_isWay_42
        obtain ⟨r', rfl⟩ : ∃ r', r = r' + 1 := ⟨r - 1, by omega⟩
        rw [show r' + 1 - 1 = r' by omega] at v4 v5
        refine Go_chk (by unfold zout; omega) ?_
        refine Go_chk (by unfold zout; omega) ?_
        refine Go_ite (fun c1 => ?_) (fun c1 => ?_)
        · rw [show i6.toNat = m - 2 by omega, ← Wn_s] at v4 v5
          exact Go_i (show WO m k i (r' + 1) s u w wa (false, wl, wa') from ⟨(fun z => by cases z), fun _ => ⟨v4, v5⟩, v6⟩)
        · obtain ⟨t, rfl⟩ : ∃ t : Nat, i6 = (t : Int) := ⟨i6.toNat, by omega⟩
          have ht : t < m - 2 := by omega
          rw [Int.toNat_natCast] at v4 v5
          have es : Int.toNat ((t : Int) + 1) = t + 1 := by omega
          rw [bitI (show u < 134217728 by omega) (show t < 27 by omega)]
          -- on, with nothing added
          have on : ctb m (sl (trA m) k) (sl (trB m) k) (sl (trC m) k) r' ((i + s) % m) u t = 0 → wI m k i j (r' + 1) s u w wa 42 (i : Int) (j : Int) (s : Int) (u : Int) (((i + s) % m : Nat) : Int) ((t : Int) + 1) wl wa' := by
            intro z
            refine ⟨rfl, rfl, rfl, rfl, Or.inr ⟨rfl, rfl, by omega, by omega, v3, ?_, ?_, v6⟩⟩
            · rw [show r' + 1 - 1 = r' by omega, es, sumT_s, z]; exact v4
            · rw [show r' + 1 - 1 = r' by omega, es, sumT_s, z]; exact v5
          refine Go_ite (fun c2 => ?_) (fun c2 => ?_)
          · have b : u.testBit t = true := by
              cases z : u.testBit t with
              | true => rfl
              | false => rw [z, if_neg (by decide)] at c2; exact absurd c2 (by decide)
            exact Go_i (show wI m k i j (r' + 1) s u w wa 42 (i : Int) (j : Int) (s : Int) (u : Int) (((i + s) % m : Nat) : Int) ((t : Int) + 1) wl wa' ∧ (60 - ((t : Int) + 1)).toNat < (60 - (t : Int)).toNat from ⟨on (ctb_u b), by omega⟩)
          · have b : u.testBit t = false := by
              cases z : u.testBit t with
              | false => rfl
              | true => rw [z, if_pos rfl] at c2; exact absurd rfl c2
            refine Go_bind (isAt_e h4 h9 hk hT ht (by omega)) ?_
            refine Go_ite (fun c3 => ?_) (fun c3 => ?_)
            · exact Go_i (show wI m k i j (r' + 1) s u w wa 42 (i : Int) (j : Int) (s : Int) (u : Int) (((i + s) % m : Nat) : Int) ((t : Int) + 1) wl wa' ∧ (60 - ((t : Int) + 1)).toNat < (60 - (t : Int)).toNat from ⟨on (ctb_n b c3), by omega⟩)
            · have c3 := bnf c3
              have cy := ctb_y (m := m) (r := r') (x := (i + s) % m) b c3
              rw [md_s] at cy
              have u' : u ||| 2 ^ t < 128 := Nat.or_lt_two_pow (n := 7) hu (Nat.pow_lt_pow_right (by decide) (by omega))
              refine Go_chk (by omega) ?_
              rw [Int.toNat_natCast, orI (show u < 134217728 by omega) (show t < 27 by omega), show (s : Int) + 1 = ((s + 1 : Nat) : Int) by omega]
              refine Go_bindP (ih r' (s + 1) (u ||| 2 ^ t) wl (zset wa' ((i + s) % m) (t : Int)) (by omega) (by omega) (by omega) u' (by omega) (by omega)) (fun o q => ?_)
              obtain ⟨q1, q2, q3⟩ := q
              have zt : ¬ zout (t : Int) := by unfold zout; omega
              -- what stands at the corner itself
              have nl : ¬ lateN m i r' (s + 1) ((i + s) % m) := by
                intro z
                obtain ⟨q, hq, e⟩ := z
                exact md_n hi (s := s) (q := s + 1 + q) (by omega) (by omega) (by omega) e
              have gx : zget o.2.2 ((i + s) % m) = (t : Int) := by
                rw [q3 _ nl]
                rcases zget_set_c wa' ((i + s) % m) ((i + s) % m) zt with ⟨_, y⟩ | ⟨y, _⟩
                · exact y
                · exact absurd rfl y
              have gy : ∀ y, ¬ lateN m i (r' + 1) s y → zget o.2.2 y = zget wa y := by
                intro y hy
                have h1 : ¬ lateN m i r' (s + 1) y := fun z => by
                  obtain ⟨q, hq, e⟩ := z
                  exact hy ⟨q + 1, by omega, by rw [e, show s + 1 + q = s + (q + 1) by omega]⟩
                have h2 : ¬ y = (i + s) % m := fun z => hy ⟨0, by omega, by rw [z, Nat.add_zero]⟩
                rw [q3 y h1]
                rcases zget_set_c wa' ((i + s) % m) y zt with ⟨z, _⟩ | ⟨_, z⟩
                · exact absurd z h2
                · rw [z]; exact v6 y hy
              refine Go_ite (fun c4 => ?_) (fun c4 => ?_)
              · obtain ⟨f1, f2⟩ := q2 c4
                refine Go_i (show wI m k i j (r' + 1) s u w wa 42 (i : Int) (j : Int) (s : Int) (u : Int) (((i + s) % m : Nat) : Int) ((t : Int) + 1) o.2.1 o.2.2 ∧ (60 - ((t : Int) + 1)).toNat < (60 - (t : Int)).toNat from ⟨⟨rfl, rfl, rfl, rfl, Or.inr ⟨rfl, rfl, by omega, by omega, v3, ?_, ?_, gy⟩⟩, by omega⟩)
                · rw [show r' + 1 - 1 = r' by omega, es, sumT_s, cy]; omega
                · rw [show r' + 1 - 1 = r' by omega, es, sumT_s, cy]; omega
              · obtain ⟨f1, f2, f3⟩ := q1 (bnf c4)
                refine Go_i (show WO m k i (r' + 1) s u w wa (true, o.2.1, o.2.2) from ⟨fun _ => ⟨?_, ?_, ?_⟩, (fun z => by cases z), gy⟩)
                · have l := sumT_le (f := ctb m (sl (trA m) k) (sl (trB m) k) (sl (trC m) k) r' ((i + s) % m) u) (show t + 1 ≤ m - 2 by omega)
                  rw [sumT_s, cy] at l
                  rw [Wn_s]
                  omega
                · refine ⟨t, ht, b, c3, by omega, ?_, ?_, ?_⟩
                  · rw [sumT_s, cy]; omega
                  · show (zget o.2.2 ((i + (s + 0)) % m)).toNat = t
                    rw [Nat.add_zero, gx]; rfl
                  · rw [md_s]
                    rw [show w.toNat - sumT (ctb m (sl (trA m) k) (sl (trB m) k) (sl (trC m) k) r' ((i + s) % m) u) t = wl.toNat by omega]
                    have e : (fun q => (zget o.2.2 ((i + (s + 1 + q)) % m)).toNat) = (fun q => (zget o.2.2 ((i + (s + (q + 1))) % m)).toNat) := by
                      funext q
                      rw [show s + 1 + q = s + (q + 1) by omega]
                    rw [e] at f2
                    exact f2
                · intro q hq
                  cases q with
                  | zero =>
                    show 0 ≤ zget o.2.2 ((i + (s + 0)) % m)
                    rw [Nat.add_zero, gx]; omega
                  | succ q =>
                    have := f3 q (by omega)
                    rw [show s + 1 + q = s + (q + 1) by omega] at this
                    exact this
    · exact ⟨rfl, rfl, rfl, rfl, Or.inl ⟨rfl, rfl, rfl⟩⟩
    · show 100 < jfuel
      unfold jfuel
      omega
