/-! way: the class -/
theorem cor_e {m : Nat} (h9 : m ≤ 9) {mk co t : Nat} (ht : t < m - 2) : zf_X9_cornerOf mk ((m : Int) - 2) co (t : Int) 0 = some (zget co (3 * t)) ∧ zf_X9_cornerOf mk ((m : Int) - 2) co (t : Int) 1 = some (zget co (3 * t + 1)) ∧ zf_X9_cornerOf mk ((m : Int) - 2) co (t : Int) 2 = some (zget co (3 * t + 2)) := by
  unfold zf_X9_cornerOf
  refine ⟨?_, ?_, ?_⟩
  · rw [if_neg (by unfold zout; omega), if_neg (by omega), if_neg (by unfold zout; omega), if_neg (by omega), if_neg (by decide), if_neg (by decide), if_pos (by decide), if_neg (by omega), show Int.toNat ((3 : Int) * (t : Int) + 0) = 3 * t by omega]
  · rw [if_neg (by unfold zout; omega), if_neg (by omega), if_neg (by unfold zout; omega), if_neg (by omega), if_neg (by decide), if_neg (by decide), if_pos (by decide), if_neg (by omega), show Int.toNat ((3 : Int) * (t : Int) + 1) = 3 * t + 1 by omega]
  · rw [if_neg (by unfold zout; omega), if_neg (by omega), if_neg (by unfold zout; omega), if_neg (by omega), if_neg (by decide), if_neg (by decide), if_pos (by decide), if_neg (by omega), show Int.toNat ((3 : Int) * (t : Int) + 2) = 3 * t + 2 by omega]
theorem tou_e {m k : Nat} (h4 : 4 ≤ m) (h9 : m ≤ 9) (hk : (k : Int) < pg8 m) {co : Nat} (hT : TCI m (zget (pg6 m) k) co 729) (mk : Nat) {t x : Nat} (ht : t < m - 2) (hx : x < 100) : zf_X9_touches mk ((m : Int) - 2) co (t : Int) (x : Int) = some (cI (sl (trA m) k) (sl (trB m) k) (sl (trC m) k) x t) := by
  have hc : isCut m (zget (pg6 m) k) := ⟨k, hk, rfl⟩
  have tc := tcn_cut h4 h9 hc
  obtain ⟨a, b, d, o, ⟨hA, hB, hC⟩, es, -⟩ := tri_at h4 h9 hk (tk_at h4 h9 hk) ht
  obtain ⟨e1, e2, e3⟩ := TCI_TAI hT (tk_at h4 h9 hk) (t := t) (by omega)
  obtain ⟨r1, r2, r3⟩ := cor_e h9 (mk := mk) (co := co) ht
  unfold zf_X9_touches cI
  rw [r1, e1, hA, es.1, es.2.1, es.2.2]
  simp only [Option.bind_some]
  rw [if_neg (by unfold zout; omega), if_neg (by unfold zout; omega)]
  by_cases q1 : a = x
  · rw [if_pos (by omega), q1, Nat.beq_refl]; rfl
  · rw [if_neg (by omega), beqF q1, r2, e2, hB]
    simp only [Option.bind_some]
    rw [if_neg (by unfold zout; omega)]
    by_cases q2 : b = x
    · rw [if_pos (by omega), q2, Nat.beq_refl]; rfl
    · rw [if_neg (by omega), beqF q2, r3, e3, hC]
      simp only [Option.bind_some]
      rw [if_neg (by unfold zout; omega)]
      by_cases q3 : d = x
      · rw [if_pos (by omega), q3, Nat.beq_refl]; rfl
      · rw [if_neg (by omega), beqF q3]; rfl
def CO (m k i r s u : Nat) (w : Int) (ch : Nat) (o : Bool × Int × Nat) : Prop := (o.1 = true → w < (Wn m (sl (trA m) k) (sl (trB m) k) (sl (trC m) k) r ((i + (s + 1)) % m) u : Int) ∧ PW m (sl (trA m) k) (sl (trB m) k) (sl (trC m) k) r ((i + (s + 1)) % m) u w.toNat (fun q => (zget o.2.2 (s + q)).toNat) ∧ ∀ q, q < r → 0 ≤ zget o.2.2 (s + q)) ∧ (o.1 = false → (Wn m (sl (trA m) k) (sl (trB m) k) (sl (trC m) k) r ((i + (s + 1)) % m) u : Int) ≤ w ∧ o.2.1 = w - (Wn m (sl (trA m) k) (sl (trB m) k) (sl (trC m) k) r ((i + (s + 1)) % m) u : Int)) ∧ ∀ y, y < s → zget o.2.2 y = zget ch y
def wchI (m k i r s u : Nat) (w : Int) (ch : Nat) (lab : Nat) (i1 i2 i3 i4 wl : Int) (ch' : Nat) : Prop := i1 = (s : Int) ∧ i2 = (u : Int) ∧ ((lab = 0 ∧ wl = w ∧ ch' = ch) ∨ (lab = 70 ∧ i3 = (((i + (s + 1)) % m : Nat) : Int) ∧ 0 ≤ i4 ∧ i4 ≤ (m : Int) - 2 ∧ 1 ≤ r ∧ (sumT (ctb m (sl (trA m) k) (sl (trB m) k) (sl (trC m) k) (r - 1) ((i + (s + 1)) % m) u) i4.toNat : Int) ≤ w ∧ wl = w - (sumT (ctb m (sl (trA m) k) (sl (trB m) k) (sl (trC m) k) (r - 1) ((i + (s + 1)) % m) u) i4.toNat : Int) ∧ ∀ y, y < s → zget ch' y = zget ch y))
set_option maxRecDepth 100000 in
theorem choose_s (d mk : Nat) (tc : Int) (tp : Nat) (tf tl tw : Int) (tco tch : Nat) (i1 i2 : Int) : zf_X9_choose (d + 1) mk tc tp tf tl tw tco tch i1 i2 = jrun (zg_X9_choose (zf_X9_choose d) mk tc tp tf tl tco) jfuel (0, i1, i2, 0, 0, tw, tch) := rfl
set_option maxRecDepth 100000 in
set_option maxHeartbeats 4000000 in
theorem choose_ok {m k mk : Nat} (p0 : ¬ zno mk m) (hk : (k : Int) < pg8 m) {i L : Nat} (hi : i < m) (hL : L ≤ m - 2) {co : Nat} (hT : TCI m (zget (pg6 m) k) co 729) : ∀ (d r s u : Nat) (w : Int) (ch : Nat), r < d → s + r = L → u < 128 → 0 ≤ w → w ≤ 2147483647 → Go (fun o => CO m k i r s u w ch o) (zf_X9_choose d mk ((m : Int) - 2) m (i : Int) (L : Int) w co ch (s : Int) (u : Int)) := by
  obtain ⟨h4, h9⟩ := zno_rng p0
  intro d
  induction d with
  | zero => intro r s u w ch h; omega
  | succ d ih =>
    intro r s u w ch hr hs hu w0 w9
    rw [choose_s]
    have hx : (i + (s + 1)) % m < m := Nat.mod_lt _ (by omega)
    refine jok (fun (st : zS_X9_choose) => match st with | (lab, i1, i2, i3, i4, wl, ch') => wchI m k i r s u w ch lab i1 i2 i3 i4 wl ch') (fun (st : zS_X9_choose) => match st with | (lab, i1, i2, i3, i4, wl, ch') => if lab = 0 then 100 else (60 - i4).toNat) (fun (o : zO_X9_choose) => CO m k i r s u w ch o) ?_ _ ?_ ?_
    · intro st hI
      obtain ⟨lab, i1, i2, i3, i4, wl, ch'⟩ := st
      have hI : wchI m k i r s u w ch lab i1 i2 i3 i4 wl ch' := hI
      unfold wchI at hI
      obtain ⟨qs0, qs1, hI2⟩ := hI
      subst qs0
      subst qs1
      rcases hI2 with ⟨rfl, rfl, rfl⟩ | ⟨rfl, rfl, v1, v2, v3, v4, v5, v6⟩
      · show Go _ (zg_X9_choose_0 (zf_X9_choose d) mk ((m : Int) - 2) m (i : Int) (L : Int) co (s : Int) (u : Int) i3 i4 wl ch')
        unfold zg_X9_choose_0 zf_X5_corners
        refine Go_chk (by unfold zout; omega) ?_
        refine Go_chk (by unfold zout; omega) ?_
        refine Go_ite (fun c1 => ?_) (fun c1 => ?_)
        · have r0 : r = 0 := by omega
          subst r0
          refine Go_chk (by unfold zout; omega) ?_
          refine Go_ite (fun c2 => ?_) (fun c2 => ?_)
          · refine Go_i (show CO m k i 0 s u wl ch' (false, wl - 1, ch') from ⟨(fun z => by cases z), fun _ => ?_, fun y _ => rfl⟩)
            rw [Wn_0]
            exact ⟨by omega, by show wl - 1 = wl - ((1 : Nat) : Int); omega⟩
          · refine Go_i (show CO m k i 0 s u wl ch' (true, wl - 1, ch') from ⟨fun _ => ?_, (fun z => by cases z), fun y _ => rfl⟩)
            rw [Wn_0]
            exact ⟨by omega, True.intro, fun q hq => by omega⟩
        · have r1 : 1 ≤ r := by omega
          have go : wchI m k i r s u wl ch' 70 (s : Int) (u : Int) (((i + (s + 1)) % m : Nat) : Int) 0 wl ch' := by
            refine ⟨rfl, rfl, Or.inr ⟨rfl, rfl, by omega, by omega, r1, ?_, ?_, fun y _ => rfl⟩⟩
            · show ((0 : Nat) : Int) ≤ wl
              omega
            · show wl = wl - ((0 : Nat) : Int)
              omega
          refine Go_ite (fun c2 => ?_) (fun c2 => by exfalso; omega)
          refine Go_chk p0 ?_
          refine Go_bind rfl ?_
          refine Go_chk (by unfold zout; omega) ?_
          refine Go_chk (by unfold zout; omega) ?_
          have em := md_e (a := i + (s + 1)) (m := m) (by omega)
          refine Go_ite (fun c3 => ?_) (fun c3 => ?_)
          · rw [if_pos (by omega)] at em
            rw [show (i : Int) + 1 + (s : Int) = (((i + (s + 1)) % m : Nat) : Int) by omega]
            exact Go_i (show wchI m k i r s u wl ch' 70 (s : Int) (u : Int) (((i + (s + 1)) % m : Nat) : Int) 0 wl ch' ∧ (60 - (0 : Int)).toNat < 100 from ⟨go, by decide⟩)
          · rw [if_neg (by omega)] at em
            refine Go_bind rfl ?_
            rw [show (i : Int) + 1 + (s : Int) - (m : Int) = (((i + (s + 1)) % m : Nat) : Int) by omega]
            exact Go_i (show wchI m k i r s u wl ch' 70 (s : Int) (u : Int) (((i + (s + 1)) % m : Nat) : Int) 0 wl ch' ∧ (60 - (0 : Int)).toNat < 100 from ⟨go, by decide⟩)
      · show Go _ (zg_X9_choose_70 (zf_X9_choose d) mk ((m : Int) - 2) m (i : Int) (L : Int) co (s : Int) (u : Int) (((i + (s + 1)) % m : Nat) : Int) i4 wl ch')
        unfold zg_X9_choose_70
        obtain ⟨r', rfl⟩ : ∃ r', r = r' + 1 := ⟨r - 1, by omega⟩
        rw [show r' + 1 - 1 = r' by omega] at v4 v5
        refine Go_chk (by unfold zout; omega) ?_
        refine Go_chk (by unfold zout; omega) ?_
        refine Go_ite (fun c1 => ?_) (fun c1 => ?_)
        · rw [show i4.toNat = m - 2 by omega, ← Wn_s] at v4 v5
          exact Go_i (show CO m k i (r' + 1) s u w ch (false, wl, ch') from ⟨(fun z => by cases z), fun _ => ⟨v4, v5⟩, v6⟩)
        · obtain ⟨t, rfl⟩ : ∃ t : Nat, i4 = (t : Int) := ⟨i4.toNat, by omega⟩
          have ht : t < m - 2 := by omega
          rw [Int.toNat_natCast] at v4 v5
          have es : Int.toNat ((t : Int) + 1) = t + 1 := by omega
          rw [bitI (show u < 134217728 by omega) (show t < 27 by omega)]
          have on : ctb m (sl (trA m) k) (sl (trB m) k) (sl (trC m) k) r' ((i + (s + 1)) % m) u t = 0 → wchI m k i (r' + 1) s u w ch 70 (s : Int) (u : Int) (((i + (s + 1)) % m : Nat) : Int) ((t : Int) + 1) wl ch' := by
            intro z
            refine ⟨rfl, rfl, Or.inr ⟨rfl, rfl, by omega, by omega, v3, ?_, ?_, v6⟩⟩
            · rw [show r' + 1 - 1 = r' by omega, es, sumT_s, z]; exact v4
            · rw [show r' + 1 - 1 = r' by omega, es, sumT_s, z]; exact v5
          refine Go_ite (fun c2 => ?_) (fun c2 => ?_)
          · have b : u.testBit t = false := by
              cases z : u.testBit t with
              | false => rfl
              | true => rw [z, if_pos rfl] at c2; exact absurd c2 (by decide)
            refine Go_bind (tou_e h4 h9 hk hT mk ht (by omega)) ?_
            refine Go_ite (fun c3 => ?_) (fun c3 => ?_)
            · exact Go_i (show wchI m k i (r' + 1) s u w ch 70 (s : Int) (u : Int) (((i + (s + 1)) % m : Nat) : Int) ((t : Int) + 1) wl ch' ∧ (60 - ((t : Int) + 1)).toNat < (60 - (t : Int)).toNat from ⟨on (ctb_n b c3), by omega⟩)
            · have c3 := bnf c3
              have cy := ctb_y (m := m) (r := r') (x := (i + (s + 1)) % m) b c3
              rw [md_s] at cy
              have u' : u ||| 2 ^ t < 128 := Nat.or_lt_two_pow (n := 7) hu (Nat.pow_lt_pow_right (by decide) (by omega))
              refine Go_chk (by omega) ?_
              rw [Int.toNat_natCast, orI (show u < 134217728 by omega) (show t < 27 by omega), show (s : Int) + 1 = ((s + 1 : Nat) : Int) by omega]
              refine Go_bindP (ih r' (s + 1) (u ||| 2 ^ t) wl (zset ch' s (t : Int)) (by omega) (by omega) u' (by omega) (by omega)) (fun o q => ?_)
              obtain ⟨q1, q2, q3⟩ := q
              have zt : ¬ zout (t : Int) := by unfold zout; omega
              have gx : zget o.2.2 s = (t : Int) := by
                rw [q3 s (by omega)]
                rcases zget_set_c ch' s s zt with ⟨_, y⟩ | ⟨y, _⟩
                · exact y
                · exact absurd rfl y
              have gy : ∀ y, y < s → zget o.2.2 y = zget ch y := by
                intro y hy
                rw [q3 y (by omega)]
                rcases zget_set_c ch' s y zt with ⟨z, _⟩ | ⟨_, z⟩
                · omega
                · rw [z]; exact v6 y hy
              refine Go_ite (fun c4 => ?_) (fun c4 => ?_)
              · obtain ⟨f1, f2⟩ := q2 c4
                refine Go_i (show wchI m k i (r' + 1) s u w ch 70 (s : Int) (u : Int) (((i + (s + 1)) % m : Nat) : Int) ((t : Int) + 1) o.2.1 o.2.2 ∧ (60 - ((t : Int) + 1)).toNat < (60 - (t : Int)).toNat from ⟨⟨rfl, rfl, Or.inr ⟨rfl, rfl, by omega, by omega, v3, ?_, ?_, gy⟩⟩, by omega⟩)
                · rw [show r' + 1 - 1 = r' by omega, es, sumT_s, cy]; omega
                · rw [show r' + 1 - 1 = r' by omega, es, sumT_s, cy]; omega
              · obtain ⟨f1, f2, f3⟩ := q1 (bnf c4)
                refine Go_i (show CO m k i (r' + 1) s u w ch (true, o.2.1, o.2.2) from ⟨fun _ => ⟨?_, ?_, ?_⟩, (fun z => by cases z), gy⟩)
                · have l := sumT_le (f := ctb m (sl (trA m) k) (sl (trB m) k) (sl (trC m) k) r' ((i + (s + 1)) % m) u) (show t + 1 ≤ m - 2 by omega)
                  rw [sumT_s, cy] at l
                  rw [Wn_s]
                  omega
                · refine ⟨t, ht, b, c3, by omega, ?_, ?_, ?_⟩
                  · rw [sumT_s, cy]; omega
                  · show (zget o.2.2 (s + 0)).toNat = t
                    rw [Nat.add_zero, gx]; rfl
                  · rw [md_s]
                    rw [show w.toNat - sumT (ctb m (sl (trA m) k) (sl (trB m) k) (sl (trC m) k) r' ((i + (s + 1)) % m) u) t = wl.toNat by omega]
                    have e : (fun q => (zget o.2.2 (s + 1 + q)).toNat) = (fun q => (zget o.2.2 (s + (q + 1))).toNat) := by
                      funext q
                      rw [show s + 1 + q = s + (q + 1) by omega]
                    rw [e] at f2
                    exact f2
                · intro q hq
                  cases q with
                  | zero =>
                    show 0 ≤ zget o.2.2 (s + 0)
                    rw [Nat.add_zero, gx]; omega
                  | succ q =>
                    have := f3 q (by omega)
                    rw [show s + 1 + q = s + (q + 1) by omega] at this
                    exact this
          · have b : u.testBit t = true := by
              cases z : u.testBit t with
              | true => rfl
              | false => rw [z, if_neg (by decide)] at c2; exact absurd rfl c2
            exact Go_i (show wchI m k i (r' + 1) s u w ch 70 (s : Int) (u : Int) (((i + (s + 1)) % m : Nat) : Int) ((t : Int) + 1) wl ch' ∧ (60 - ((t : Int) + 1)).toNat < (60 - (t : Int)).toNat from ⟨on (ctb_u b), by omega⟩)
    · exact ⟨rfl, rfl, Or.inl ⟨rfl, rfl, rfl⟩⟩
    · show 100 < jfuel
      unfold jfuel
      omega
set_option maxHeartbeats 2000000 in
theorem eq_way {mk m : Nat} (p0 : ¬ zno mk m) {b : Int} (hb : isCut m b) {i j w x : Int} (hi : ¬ zout i) (hj : ¬ zout j) (hw : ¬ zout w) (hx : ¬ zout x) {tc fr0 le0 wa0 ln lf wl : Int} {pl0 co0 ch0 nf ls gr tA tB tC wa : Nat} (hT : TL lf ln nf ls gr) {o : Int × Int × Nat × Int × Int × Int × Nat × Nat} {o2 : Int × Int × Int × Int × Nat × Nat × Nat × Nat × Nat × Nat × Nat} (ho : zf_X10_way mk m b tc pl0 fr0 le0 wa0 co0 ch0 i j w x = some o) (ho2 : zf_X11_way (m : Int) ln lf b wl nf ls gr tA tB tC wa i j w x = some o2) : o.1 = o2.1 := by
  obtain ⟨h4, h9⟩ := zno_rng p0
  unfold zf_X10_way at ho
  unfold zf_X11_way at ho2
  rw [areC_e p0 hi hj] at ho
  rw [isC_e h9 hi, isC_e h9 hj, isC_e h9 hx] at ho2
  simp only [Option.bind_some] at ho ho2
  by_cases c : 0 ≤ i ∧ i < (m : Int)
  · rw [decide_eq_true c, if_neg (by decide)] at ho2
    by_cases d : 0 ≤ j ∧ j < (m : Int)
    · rw [decide_eq_true ⟨c, d⟩, if_neg (by decide), if_neg p0, ok_hasC m x h4 h9 (by unfold zout at hx; omega) (by unfold zout at hx; omega)] at ho
      rw [decide_eq_true d, if_neg (by decide), if_neg hi, if_neg hj] at ho2
      simp only [Option.bind_some] at ho
      obtain ⟨i, rfl⟩ : ∃ z : Nat, i = (z : Int) := ⟨i.toNat, by omega⟩
      obtain ⟨j, rfl⟩ : ∃ z : Nat, j = (z : Int) := ⟨j.toNat, by omega⟩
      have him : i < m := by omega
      have hjm : j < m := by omega
      obtain ⟨k, hk, rfl⟩ := hb
      have hc : isCut m (zget (pg6 m) k) := ⟨k, hk, rfl⟩
      have ee := ent_tE h4 h9 hk him hjm
      have l21 := (c5_of h9 (ck_at h4 h9 hk him).1 hjm).1
      by_cases f : 0 ≤ x ∧ x < (m : Int)
      · rw [decide_eq_true f, if_neg (by decide), if_neg hw] at ho
        by_cases g : w < 0
        · rw [if_pos g] at ho
          by_cases e : (i : Int) = (j : Int)
          · rw [if_pos e] at ho2
            cases ho; cases ho2; rfl
          · rw [if_neg e, decide_eq_true f, if_neg (by decide), if_neg hw, if_neg (by omega)] at ho2
            cases ho; cases ho2; rfl
        · rw [if_neg g, ee] at ho
          simp only [Option.bind_some] at ho
          rw [if_neg (by unfold zout; omega)] at ho
          by_cases e : (i : Int) = (j : Int)
          · have eij : j = i := by omega
            have z0 := (c5_of h9 (ck_at h4 h9 hk him).1 hjm).2.2.1 eij
            rw [if_pos e] at ho2
            rw [if_neg (by omega)] at ho
            cases ho; cases ho2; rfl
          · rw [if_neg e, decide_eq_true f, if_neg (by decide), if_neg hw, if_pos (by omega)] at ho2
            obtain ⟨x, rfl⟩ : ∃ z : Nat, x = (z : Int) := ⟨x.toNat, by omega⟩
            have hxm : x < m := by omega
            have ab := ah_b him hjm
            have ab1 := ab.2 (by omega)
            obtain ⟨L, eL⟩ : ∃ L, ahN m i j = L + 1 := ⟨ahN m i j - 1, by omega⟩
            obtain ⟨u, hu, u0, u1, u2, u3, u4, u5⟩ := oy_tri ln lf nf ls gr tA tB tC (m : Int) (zget (pg6 m) k) hT (by omega) (by omega) ⟨by omega, by omega, hc⟩
            have u5 : TAI m (zget (pg6 m) k) u.2.2.2.2.2.1 u.2.2.2.2.2.2.1 u.2.2.2.2.2.2.2 729 := u5
            rw [hu] at ho2
            simp only [Option.bind_some] at ho2
            obtain ⟨v, hv, vo⟩ := isWay_ok h4 h9 hk him hjm u5 11 L 1 0 w wa (by omega) (by omega) (by omega) (by decide) (by omega) (by unfold zout at hw; omega)
            have hv : zf_X11_isWay 11 (m : Int) w u.2.2.2.2.2.1 u.2.2.2.2.2.2.1 u.2.2.2.2.2.2.2 wa (i : Int) (j : Int) (1 : Int) (0 : Int) = some v := hv
            rw [hv] at ho2
            simp only [Option.bind_some] at ho2
            obtain ⟨v1, v2, v3⟩ := vo
            -- the number of ways
            have nw : Wn m (sl (trA m) k) (sl (trB m) k) (sl (trC m) k) L ((i + 1) % m) 0 = eR (sE m k) i j := by
              rw [wy_at h4 h9 hk him (d := L) (by omega), show i + 1 + L = i + (L + 1) by omega, ← eL, (ah_j him hjm (s := ahN m i j) (by omega)).mpr rfl]
            rw [nw] at v1 v2
            by_cases q : w < ((eR (sE m k) i j : Nat) : Int)
            · rw [if_pos q] at ho
              have vt : v.1 = true := by
                cases z : v.1 with
                | true => rfl
                | false => have := (v2 z).1; omega
              obtain ⟨w1, w2, w3⟩ := v1 vt
              rw [vt, if_neg (by decide)] at ho2
              rw [ah_e h9 him hxm, ah_e h9 him hjm, eL] at ho
              simp only [Option.bind_some] at ho
              have axm := (ah_b him hxm).1
              rw [if_neg (by unfold zout; omega)] at ho
              by_cases z1 : ((ahN m i x : Nat) : Int) - 1 < 0
              · rw [if_pos z1] at ho
                have exi : x = i := by
                  apply Classical.byContradiction
                  intro z
                  have := (ah_b him hxm).2 (fun y => z y.symm)
                  omega
                have bt : zf_X11_isBetween (m : Int) (i : Int) (x : Int) (j : Int) = some false := by
                  unfold zf_X11_isBetween
                  rw [if_neg (by unfold zout; omega), if_neg (by unfold zout; omega), if_pos (by omega)]
                rw [bt] at ho2
                simp only [Option.bind_some] at ho2
                rw [if_pos trivial] at ho2
                cases ho; cases ho2; rfl
              · rw [if_neg z1, if_neg (by unfold zout; omega)] at ho
                have hxi : ¬ x = i := by
                  intro z
                  subst z
                  have : ahN m x x = 0 := by unfold ahN; rw [if_neg (by omega)]; omega
                  omega
                by_cases z2 : ((ahN m i x : Nat) : Int) - 1 < ((L + 1 : Nat) : Int) - 1
                · rw [if_pos z2] at ho
                  have hxj : ¬ x = j := by
                    intro z
                    subst z
                    omega
                  have bt := bt_e h4 h9 him hxm hjm hxi hxj
                  rw [decide_eq_true (by omega)] at bt
                  rw [bt] at ho2
                  simp only [Option.bind_some] at ho2
                  rw [if_neg (by decide), if_neg (by omega), Int.toNat_natCast] at ho2
                  obtain ⟨G, hG, G0, G1⟩ := ok_gather p0 hc tc co0
                  rw [hG] at ho
                  simp only [Option.bind_some] at ho
                  obtain ⟨st, est⟩ : ∃ st : Nat, ahN m i x = st + 1 := ⟨ahN m i x - 1, by omega⟩
                  obtain ⟨C, hC, C1, C2, C3⟩ := choose_ok p0 hk him (L := L) (by omega) G1 10 L 0 0 w ch0 (by omega) (by omega) (by decide) (by omega) (by unfold zout at hw; omega)
                  have hC : zf_X9_choose 10 mk ((m : Int) - 2) m (i : Int) (L : Int) w G.2 ch0 (0 : Int) (0 : Int) = some C := hC
                  have nw' : Wn m (sl (trA m) k) (sl (trB m) k) (sl (trC m) k) L ((i + (0 + 1)) % m) 0 = eR (sE m k) i j := nw
                  rw [nw'] at C1 C2
                  have Ct : C.1 = true := by
                    cases z : C.1 with
                    | true => rfl
                    | false => have := (C2 z).1; omega
                  obtain ⟨x1, x2, x3⟩ := C1 Ct
                  unfold zf_X9_onWay at ho
                  rw [if_neg p0, ah_e h9 him hjm, eL, G0] at ho
                  simp only [Option.bind_some] at ho
                  rw [show ((L + 1 : Nat) : Int) - 1 = (L : Int) by omega, show ((ahN m i x : Nat) : Int) - 1 = (st : Int) by omega] at ho
                  rw [if_neg (by unfold zout; omega), if_neg (by omega), if_neg (by unfold zout; omega), if_neg (by omega), if_pos (by omega), hC] at ho
                  simp only [Option.bind_some] at ho
                  rw [Ct, if_neg (by decide), if_neg (by omega), Int.toNat_natCast] at ho
                  have pe := PW_u L _ _ _ _ _ x2 w2 st (by omega)
                  have pe : (zget C.2.2 (0 + st)).toNat = (zget v.2.2 ((i + (1 + st)) % m)).toNat := pe
                  have n1 := x3 st (by omega)
                  have n2 := w3 st (by omega)
                  have ex : (i + (1 + st)) % m = x := by
                    rw [show 1 + st = ahN m i x by omega]
                    exact (ah_j him hxm (s := ahN m i x) (by omega)).mpr rfl
                  rw [ex] at pe n2
                  rw [Nat.zero_add] at pe n1
                  cases ho; cases ho2
                  show zget C.2.2 st = zget v.2.2 x
                  omega
                · rw [if_neg z2] at ho
                  have bt : zf_X11_isBetween (m : Int) (i : Int) (x : Int) (j : Int) = some false := by
                    by_cases hxj : x = j
                    · unfold zf_X11_isBetween
                      rw [if_neg (by unfold zout; omega), if_neg (by unfold zout; omega), if_neg (by omega), if_neg (by unfold zout; omega), if_pos (by omega)]
                    · rw [bt_e h4 h9 him hxm hjm hxi hxj, decide_eq_false (by omega)]
                  rw [bt] at ho2
                  simp only [Option.bind_some] at ho2
                  rw [if_pos trivial] at ho2
                  cases ho; cases ho2; rfl
            · rw [if_neg q] at ho
              have vf : v.1 = false := by
                cases z : v.1 with
                | false => rfl
                | true => have := (v1 z).1; omega
              rw [vf, if_pos rfl] at ho2
              cases ho; cases ho2; rfl
      · rw [decide_eq_false f, if_pos rfl] at ho
        by_cases e : (i : Int) = (j : Int)
        · rw [if_pos e] at ho2
          cases ho; cases ho2; rfl
        · rw [if_neg e, decide_eq_false f, if_pos rfl] at ho2
          cases ho; cases ho2; rfl
    · rw [decide_eq_false (fun z => d z.2), if_pos rfl] at ho
      rw [decide_eq_false d, if_pos rfl] at ho2
      cases ho; cases ho2; rfl
  · rw [decide_eq_false (fun z => c z.1), if_pos rfl] at ho
    rw [decide_eq_false c, if_pos rfl] at ho2
    cases ho; cases ho2; rfl
