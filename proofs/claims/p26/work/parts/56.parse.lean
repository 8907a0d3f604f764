/-! the text of a cut: both sides understand the same -/
noncomputable def lnO (c : Nat) (i j : Int) : Int := zget (pg3 c) (9 * i.toNat + j.toNat)
theorem diag_tab : ∀ m : Nat, 4 ≤ m → m ≤ 9 → allF (fun i => decide (i < m → zget (pg3 m) (9 * i + i) < 0)) 0 9 = true := pg_cases (by decide +kernel) (by decide +kernel) (by decide +kernel) (by decide +kernel) (by decide +kernel) (by decide +kernel)
theorem lnO_self {c : Nat} (h4 : 4 ≤ c) (h9 : c ≤ 9) {i : Int} (i0 : 0 ≤ i) (i1 : i < (c : Int)) : lnO c i i < 0 := of_decide_eq_true (allF_at (diag_tab c h4 h9) (m := i.toNat) (by omega)) (by omega)
theorem isLine_c {c : Nat} (h4 : 4 ≤ c) (h9 : c ≤ 9) {i j : Int} (i0 : 0 ≤ i) (i1 : i < (c : Int)) (j0 : 0 ≤ j) (j1 : j < (c : Int)) : zf_X11_isLine (c : Int) i j = some (decide (0 ≤ lnO c i j)) := by
  unfold zf_X11_isLine
  rw [if_neg (by unfold zout; omega), if_neg (by unfold zout; omega)]
  by_cases e : i = j
  · subst e
    have := lnO_self h4 h9 i0 i1
    rw [if_pos rfl, decide_eq_false (by omega)]
  · rw [if_neg e]
    have h := next_c (m := c) (i := i.toNat) (j := j.toNat) h4 h9 (by omega) (by omega) (by omega)
    rw [show ((i.toNat : Nat) : Int) = i by omega, show ((j.toNat : Nat) : Int) = j by omega] at h
    rw [h]
    simp only [Option.bind_some]
    show (if decide (lnO c i j < 0) = false then some true else some false) = _
    by_cases q : lnO c i j < 0
    · rw [decide_eq_true q, if_neg (by decide), decide_eq_false (by omega)]
    · rw [decide_eq_false q, if_pos rfl, decide_eq_true (by omega)]
theorem tt2 (mk : Nat) (fi : Int) (c : Nat) (bi n k a v : Int) : zf_X1_takeToken mk 2 fi c bi n k a v = Option.bind (zf_X1_takeFirst mk fi c bi k v) (fun o11 => some ((o11.1), (3 : Int), (o11.2), bi)) := by
  unfold zf_X1_takeToken
  rw [if_neg (by decide), if_neg (by decide), if_neg (by decide), if_pos rfl]
theorem tt3y (mk : Nat) (fi : Int) (c : Nat) (bi n a v : Int) : zf_X1_takeToken mk 3 fi c bi n 2 a v = Option.bind (zf_X1_takeSecond mk fi c bi v) (fun o16 => some ((o16.1), (4 : Int), fi, (o16.2))) := by
  unfold zf_X1_takeToken
  rw [if_neg (by decide), if_neg (by decide), if_neg (by decide), if_neg (by decide), if_pos rfl]
  rfl
theorem tt3n (mk : Nat) (fi : Int) (c : Nat) (bi n k a v : Int) (hk : ¬ k = 2) (hz : ¬ zout k) : zf_X1_takeToken mk 3 fi c bi n k a v = some (1, 4, fi, bi) := by
  unfold zf_X1_takeToken
  rw [if_neg (by decide), if_neg (by decide), if_neg (by decide), if_neg (by decide), if_pos rfl]
  unfold zf_X8_kind
  simp only [Option.bind_some]
  rw [if_neg hz, if_neg hk]
theorem tt4y (mk : Nat) (fi : Int) (c : Nat) (bi n a v : Int) : zf_X1_takeToken mk 4 fi c bi n 3 a v = some (0, 2, fi, bi) := by
  unfold zf_X1_takeToken
  rw [if_neg (by decide), if_neg (by decide), if_neg (by decide), if_neg (by decide), if_neg (by decide)]
  rfl
theorem tt4n (mk : Nat) (fi : Int) (c : Nat) (bi n k a v : Int) (hk : ¬ k = 3) (hz : ¬ zout k) : zf_X1_takeToken mk 4 fi c bi n k a v = some (1, 2, fi, bi) := by
  unfold zf_X1_takeToken
  rw [if_neg (by decide), if_neg (by decide), if_neg (by decide), if_neg (by decide), if_neg (by decide)]
  unfold zf_X8_kind
  simp only [Option.bind_some]
  rw [if_neg hz, if_neg hk]
theorem tf0 {mk c : Nat} (p0 : ¬ zno mk c) (fi bi v : Int) : zf_X1_takeFirst mk fi c bi 0 v = some (if (c : Int) - 3 ≤ bitc bi then (0, fi) else (6, fi)) := by
  obtain ⟨h4, h9⟩ := zno_rng p0
  have hb : 0 ≤ bitc bi ∧ bitc bi ≤ 63 := rand63 _
  unfold zf_X1_takeFirst
  rw [if_neg (show ¬ c = 0 by omega)]
  unfold zf_X8_kind
  simp only [Option.bind_some]
  rw [if_neg (by decide), if_pos trivial, bitc_eq]
  simp only [Option.bind_some]
  rw [if_neg p0]
  unfold zf_X5_corners
  simp only [Option.bind_some]
  rw [if_neg (by unfold zout; omega), if_neg (by unfold zout; omega)]
  by_cases e : (c : Int) - 3 ≤ bitc bi
  · rw [if_pos e, if_pos e]
  · rw [if_neg e, if_neg e]
theorem tf2 {mk c : Nat} (p0 : ¬ zno mk c) (fi bi v : Int) (v0 : 0 ≤ v) (v9 : v ≤ 999) : zf_X1_takeFirst mk fi c bi 2 v = some (if v < (c : Int) then (0, v) else (2, v)) := by
  obtain ⟨h4, h9⟩ := zno_rng p0
  unfold zf_X1_takeFirst
  rw [if_neg (show ¬ c = 0 by omega)]
  unfold zf_X8_kind zf_X8_value
  simp only [Option.bind_some]
  rw [if_neg (by decide), if_neg (by decide), if_neg (by decide), if_pos trivial, if_neg p0, ok_hasC c v h4 h9 (by omega) (by omega)]
  simp only [Option.bind_some]
  by_cases e : v < (c : Int)
  · rw [if_pos e, decide_eq_true ⟨v0, e⟩, if_neg (by decide)]
  · rw [if_neg e, decide_eq_false (by omega), if_pos rfl]
theorem tfn {mk c : Nat} (p0 : ¬ zno mk c) (fi bi k v : Int) (k0 : ¬ k = 0) (k2 : ¬ k = 2) (kz : ¬ zout k) : zf_X1_takeFirst mk fi c bi k v = some (1, v) := by
  obtain ⟨h4, h9⟩ := zno_rng p0
  unfold zf_X1_takeFirst
  rw [if_neg (show ¬ c = 0 by omega)]
  unfold zf_X8_kind zf_X8_value
  simp only [Option.bind_some]
  rw [if_neg kz, if_neg k0, if_neg kz, if_neg k2]
/-- what the second corner of a line comes to -/
def secP (c T : Nat) (fi v : Int) (o : Int × Int) : Prop := (¬ v < (c : Int) ∧ o = (2, (T : Int))) ∨ (v < (c : Int) ∧ ((lnO c fi v = -1 ∧ o = (4, (T : Int))) ∨ (0 ≤ lnO c fi v ∧ lnO c fi v < pg7 c ∧ ((T.testBit (lnO c fi v).toNat = true ∧ o = (3, (T : Int))) ∨ (T.testBit (lnO c fi v).toNat = false ∧ (((∃ b : Nat, b < lnN c ∧ T.testBit b = true ∧ (crM c (lnO c fi v).toNat).testBit b = true) ∧ o = (5, (T : Int))) ∨ ((∀ b : Nat, b < lnN c → T.testBit b = true → (crM c (lnO c fi v).toNat).testBit b = false) ∧ o = (0, ((T ||| 2 ^ (lnO c fi v).toNat : Nat) : Int)))))))))
set_option maxHeartbeats 1000000 in
theorem ts_e {mk c : Nat} (p0 : ¬ zno mk c) {T : Nat} (hT : T < 2 ^ lnN c) (fi v : Int) (f0 : 0 ≤ fi) (f1 : fi < (c : Int)) (v0 : 0 ≤ v) (v9 : v ≤ 999) : ∃ o, zf_X1_takeSecond mk fi c (T : Int) v = some o ∧ secP c T fi v o := by
  obtain ⟨h4, h9⟩ := zno_rng p0
  unfold zf_X1_takeSecond secP
  rw [if_neg (show ¬ c = 0 by omega), if_neg p0, ok_hasC c v h4 h9 (by omega) (by omega)]
  simp only [Option.bind_some]
  by_cases hv : v < (c : Int)
  · rw [decide_eq_true ⟨v0, hv⟩, if_neg (by decide), lineOf_e h4 h9 f0 f1 v0 hv]
    simp only [Option.bind_some]
    have r3 := rpg3 h4 h9 (9 * fi.toNat + v.toNat) (by omega)
    have r7 := of_decide_eq_true (allF_at (pg3_lt_tab c h4 h9) (m := 9 * fi.toNat + v.toNat) (by omega))
    have g7 := rpg7 h4 h9
    have l2 := lnN_2 h4 h9
    unfold lnO
    generalize hl : zget (pg3 c) (9 * fi.toNat + v.toNat) = l at r3 r7 ⊢
    rw [if_neg (show ¬ zout l by unfold zout; omega)]
    by_cases e1 : l = -1
    · rw [if_pos e1]
      exact ⟨_, rfl, Or.inr ⟨hv, Or.inl ⟨e1, rfl⟩⟩⟩
    · rw [if_neg e1]
      have hl0 : 0 ≤ l := by omega
      obtain ⟨k, rfl⟩ : ∃ k : Nat, l = (k : Int) := ⟨l.toNat, by omega⟩
      have hk27 : k < 27 := by omega
      have hkn : k < lnN c := by unfold lnN; omega
      have eh : zf_X5_has c (T : Int) (k : Int) = some (T.testBit k) := by
        unfold zf_X5_has
        rw [hasLine_e h4 h9 hl0 r7]
        simp only [Option.bind_some]
        rw [if_neg (by decide), bitI (by omega) hk27]
        cases T.testBit k with
        | true => rw [if_pos rfl, if_neg (by decide)]
        | false => first | rfl | decide | simp
      have ec : zf_X5_crossersOf c (k : Int) = some (zget (pg4 c) k) := by
        unfold zf_X5_crossersOf
        rw [hasLine_e h4 h9 hl0 r7]
        simp only [Option.bind_some]
        rw [if_neg (by decide), if_neg (by omega)]
        rfl
      rw [eh]
      simp only [Option.bind_some]
      rw [Int.toNat_natCast]
      cases tb : T.testBit k with
      | true =>
        rw [if_neg (by decide)]
        exact ⟨_, rfl, Or.inr ⟨hv, Or.inr ⟨hl0, r7, Or.inl ⟨rfl, rfl⟩⟩⟩⟩
      | false =>
        rw [if_pos rfl, ec]
        simp only [Option.bind_some]
        have r4 := rpg4 h4 h9 k hk27
        have e1 : zget (pg4 c) k = ((crM c k : Nat) : Int) := by unfold crM; omega
        have hlt : crM c k &&& T < 134217728 := Nat.lt_of_le_of_lt Nat.and_le_right (by omega)
        have ez : zand (zget (pg4 c) k) (T : Int) = ((crM c k &&& T : Nat) : Int) := by
          rw [e1]
          unfold zand
          rw [zu_n (by omega), zu_n (by omega), zs_n hlt]
        rw [ez]
        by_cases z : crM c k &&& T = 0
        · rw [if_pos (by rw [z]; rfl), orI (by omega) hk27]
          refine ⟨_, rfl, Or.inr ⟨hv, Or.inr ⟨hl0, r7, Or.inr ⟨trivial, Or.inr ⟨?_, rfl⟩⟩⟩⟩⟩
          intro b _ hb
          have := congrArg (fun q => Nat.testBit q b) z
          simp only [Nat.testBit_and, Nat.zero_testBit, hb, Bool.and_true] at this
          exact this
        · rw [if_neg (by omega)]
          refine ⟨_, rfl, Or.inr ⟨hv, Or.inr ⟨hl0, r7, Or.inr ⟨trivial, Or.inl ⟨?_, rfl⟩⟩⟩⟩⟩
          obtain ⟨b, hb⟩ := Nat.exists_testBit_of_ne_zero z
          rw [Nat.testBit_and, Bool.and_eq_true] at hb
          refine ⟨b, ?_, hb.2, hb.1⟩
          by_cases q : b < lnN c
          · exact q
          · have := Nat.testBit_lt_two_pow (Nat.lt_of_lt_of_le hT (Nat.pow_le_pow_right (by decide) (by omega : lnN c ≤ b)))
            rw [this] at hb
            exact absurd hb.2 (by decide)
  · rw [decide_eq_false (by omega), if_pos rfl]
    exact ⟨_, rfl, Or.inl ⟨hv, rfl⟩⟩
/-! the reference's look for crossings -/
set_option maxHeartbeats 1000000 in
theorem l191 {B : Nat} {len : Int} {c : Nat} (h4 : 4 ≤ c) (h9 : c ≤ 9) {T : Nat} (hT : T < 2 ^ lnN c) {ln lf : Int} {nf ls gr : Nat} (hL : LT c ln nf ls gr) {i j : Int} (i0 : 0 ≤ i) (i1 : i < (c : Int)) (j0 : 0 ≤ j) (j1 : j < (c : Int)) (hp : 0 ≤ lnO c i j) {many so at_ en nu fk fp wo : Int} {o : zO_X11_readCut} : ∀ d k : Nat, k + d = lnN c → JE (zg_X11_readCut len B) (191, many, i, j, (k : Int), so, at_, en, nu, fk, fp, wo, ln, lf, (c : Int), (T : Int), nf, ls, gr) o → (o = (false, so, at_, en, nu, 5, at_, wo, ln, lf, (c : Int), (T : Int), nf, ls, gr) ∧ ∃ b : Nat, b < lnN c ∧ T.testBit b = true ∧ (crM c (lnO c i j).toNat).testBit b = true) ∨ (JE (zg_X11_readCut len B) (191, many, i, j, (lnN c : Int), so, at_, en, nu, fk, fp, wo, ln, lf, (c : Int), (T : Int), nf, ls, gr) o ∧ ∀ b : Nat, k ≤ b → b < lnN c → T.testBit b = true → (crM c (lnO c i j).toNat).testBit b = false) := by
  have l2 := lnN_2 h4 h9
  have r7 := rpg7 h4 h9
  have e7 : (lnN c : Int) = pg7 c := by unfold lnN; omega
  have eln : ln = (lnN c : Int) := hL.1.trans e7.symm
  intro d
  induction d with
  | zero =>
    intro k hk h
    have : k = lnN c := by omega
    subst this
    exact Or.inr ⟨h, fun b b0 b1 => absurd b1 (by omega)⟩
  | succ d ih =>
    intro k hk h
    have hk27 : k < 27 := by omega
    have bt := bitL (T := T) (l := k) (by omega) hk27
    cases tb : T.testBit k with
    | false =>
      rw [tb, if_neg (by decide)] at bt
      have h' := JE_dn (s' := (191, many, i, j, ((k : Int) + 1), so, at_, en, nu, fk, fp, wo, ln, lf, (c : Int), (T : Int), nf, ls, gr)) (by
        show zg_X11_readCut_191 len B many i j (k : Int) so at_ en nu fk fp wo ln lf (c : Int) (T : Int) nf ls gr = _
        unfold zg_X11_readCut_191
        rw [if_neg (by unfold zout; omega), if_neg (by unfold zout; omega), if_neg (by omega), bt, if_neg (by decide)]) h
      rcases ih (k + 1) (by omega) (by rw [show (((k + 1 : Nat) : Nat) : Int) = (k : Int) + 1 by omega]; exact h') with q | ⟨q1, q2⟩
      · exact Or.inl q
      · refine Or.inr ⟨q1, fun b b0 b1 b2 => ?_⟩
        by_cases e : b = k
        · rw [e, tb] at b2; cases b2
        · exact q2 b (by omega) b1 b2
    | true =>
      rw [tb, if_pos rfl] at bt
      have hll := hL.2.2 k (by omega)
      have hi : zget ls (Int.toNat (k : Int)) = zget (pg1 c) k := by rw [Int.toNat_natCast]; exact hll.1
      have hj : zget gr (Int.toNat (k : Int)) = zget (pg2 c) k := by rw [Int.toNat_natCast]; exact hll.2
      have hcr := cr_ok (m := c) (i := i.toNat) (j := j.toNat) (k := k) h4 h9 (by omega) (by omega) hp (by omega)
      rw [show ((i.toNat : Nat) : Int) = i by omega, show ((j.toNat : Nat) : Int) = j by omega] at hcr
      replace hcr : zf_X11_isCross (c : Int) i j (zget (pg1 c) k) (zget (pg2 c) k) = some ((crM c (lnO c i j).toNat).testBit k) := hcr
      cases cb : (crM c (lnO c i j).toNat).testBit k with
      | false =>
        rw [cb] at hcr
        have h' := JE_dn (s' := (191, many, i, j, ((k : Int) + 1), so, at_, en, nu, fk, fp, wo, ln, lf, (c : Int), (T : Int), nf, ls, gr)) (by
          show zg_X11_readCut_191 len B many i j (k : Int) so at_ en nu fk fp wo ln lf (c : Int) (T : Int) nf ls gr = _
          unfold zg_X11_readCut_191
          rw [if_neg (by unfold zout; omega), if_neg (by unfold zout; omega), if_neg (by omega), bt, if_pos rfl, if_neg (by omega), hi, hj, hcr]
          rfl) h
        rcases ih (k + 1) (by omega) (by rw [show (((k + 1 : Nat) : Nat) : Int) = (k : Int) + 1 by omega]; exact h') with q | ⟨q1, q2⟩
        · exact Or.inl q
        · refine Or.inr ⟨q1, fun b b0 b1 b2 => ?_⟩
          by_cases e : b = k
          · rw [e]; exact cb
          · exact q2 b (by omega) b1 b2
      | true =>
        rw [cb] at hcr
        have e := JE_end (o' := (false, so, at_, en, nu, 5, at_, wo, ln, lf, (c : Int), (T : Int), nf, ls, gr)) (by
          show zg_X11_readCut_191 len B many i j (k : Int) so at_ en nu fk fp wo ln lf (c : Int) (T : Int) nf ls gr = _
          unfold zg_X11_readCut_191
          rw [if_neg (by unfold zout; omega), if_neg (by unfold zout; omega), if_neg (by omega), bt, if_pos rfl, if_neg (by omega), hi, hj, hcr]
          rfl) h
        exact Or.inl ⟨e, k, by omega, tb, cb⟩
/-- class's side: one token at the place ex -/
theorem un31 {mk : Nat} {len : Int} {B : Nat} {i3 fk fp ex fi bi nx kd pl va n k a v : Int} {c : Nat} {r : Int × Int × Int × Int} (hi : 0 ≤ i3) (hi' : i3 ≤ 300) (ht : zf_X8_readToken len nx kd pl va B = some (n, k, a, v)) (hr : zf_X1_takeToken mk ex fi c bi n k a v = some r) (kz : ¬ zout k) (rz : ¬ zout r.1) (hc : ¬ c = 0) : zg_X1_understand_31 mk len B i3 fk fp ex fi c bi nx kd pl va = some (if r.1 = 0 then (if k = 0 then .inl (true, r.1, fp, r.2.1, r.2.2.1, c, r.2.2.2, n, k, a, v) else .inr (31, i3 + 1, r.1, fp, r.2.1, r.2.2.1, c, r.2.2.2, n, k, a, v)) else .inl (false, r.1, a, r.2.1, r.2.2.1, c, r.2.2.2, n, k, a, v)) := by
  unfold zg_X1_understand_31
  rw [if_neg (by unfold zout; omega), if_neg (by omega), ht]
  simp only [Option.bind_some]
  rw [hr]
  simp only [Option.bind_some]
  rw [if_neg rz]
  unfold zf_X8_kind zf_X8_place
  simp only [Option.bind_some]
  by_cases e : r.1 = 0
  · rw [if_pos e, if_pos e, if_neg kz]
    by_cases e2 : k = 0
    · rw [if_pos e2, if_pos e2, if_neg hc]
    · rw [if_neg e2, if_neg e2]
  · rw [if_neg e, if_neg e]
def undQ (c : Nat) (o : zO_X1_understand) (o2 : zO_X11_readCut) : Prop := o.1 = o2.1 ∧ o.2.1 = o2.2.2.2.2.2.1 ∧ o.2.2.1 = o2.2.2.2.2.2.2.1 ∧ o.2.2.2.2.2.1 = c ∧ o2.2.2.2.2.2.2.2.2.2.2.1 = (c : Int) ∧ (o.1 = true → o.2.2.2.2.2.2.1 = o2.2.2.2.2.2.2.2.2.2.2.2.1 ∧ o.2.1 = 0 ∧ o.2.2.1 = -1)
set_option maxHeartbeats 4000000 in
theorem und_eq {B : Nat} {len : Int} (l0 : 0 ≤ len) (l3 : len ≤ 300) (hB : BR B) {mk c : Nat} (p0 : ¬ zno mk c) {ln lf : Int} {nf ls gr : Nat} (hL : LT c ln nf ls gr) : ∀ (m : Nat) (i3 fi nx kd pl va : Int) (T : Nat) (many j2 j3 j4 n k a v s u w : Int) (o : zO_X1_understand) (o2 : zO_X11_readCut), (len - nx).toNat < m → 2 ≤ i3 → i3 ≤ nx → nx ≤ len → T < 2 ^ lnN c → good c T → many = (pop T (lnN c) : Int) → zf_X8_readToken len nx kd pl va B = some (n, k, a, v) → KM k s → (k = 2 → v = u ∧ 0 ≤ v ∧ v ≤ 999) → nx ≤ n → n ≤ len → (¬ k = 0 → nx < n) → JE (zg_X1_understand mk len B) (31, i3, 0, -1, 2, fi, c, (T : Int), nx, kd, pl, va) o → JE (zg_X11_readCut len B) (107, many, j2, j3, j4, s, a, n, u, 0, -1, w, ln, lf, (c : Int), (T : Int), nf, ls, gr) o2 → undQ c o o2 := by
  obtain ⟨h4, h9⟩ := zno_rng p0
  have hc0 : ¬ c = 0 := by omega
  have l2 := lnN_2 h4 h9
  intro m
  induction m with
  | zero => intro i3 fi nx kd pl va T many j2 j3 j4 n k a v s u w o o2 h; exact absurd h (by omega)
  | succ m ih =>
    intro i3 fi nx kd pl va T many j2 j3 j4 n k a v s u w o o2 hm hi2 hin hnl hT hg hmany ht hk hv hn0 hn1 hnp hx hy
    have gp := good_pop h4 h9 hT hg
    rcases hk with ⟨rfl, rfl⟩ | hk
    · -- the end
      have hr : zf_X1_takeToken mk 2 fi c (T : Int) n 0 a v = some (if (c : Int) - 3 ≤ bitc (T : Int) then (0, 3, fi, (T : Int)) else (6, 3, fi, (T : Int))) := by
        rw [tt2, tf0 p0]
        by_cases e : (c : Int) - 3 ≤ bitc (T : Int)
        · rw [if_pos e, if_pos e]; rfl
        · rw [if_neg e, if_neg e]; rfl
      by_cases e : (c : Int) - 3 ≤ bitc (T : Int)
      · rw [if_pos e] at hr
        have e1 := JE_end (o' := (true, 0, -1, 3, fi, c, (T : Int), n, 0, a, v)) (by
          show zg_X1_understand_31 mk len B i3 0 (-1) 2 fi c (T : Int) nx kd pl va = _
          rw [un31 (by omega) (by omega) ht hr (by decide) (by dsimp only; decide) hc0]
          rfl) hx
        have e2 := JE_end (o' := (true, 4, a, n, u, 0, -1, w, ln, lf, (c : Int), (T : Int), nf, ls, gr)) (by
          show zg_X11_readCut_107 len B many j2 j3 j4 4 a n u 0 (-1) w ln lf (c : Int) (T : Int) nf ls gr = _
          unfold zg_X11_readCut_107
          rw [if_neg (by decide), if_pos rfl, if_neg (by unfold zout; omega), if_neg (by unfold zout; omega), if_pos (by omega)]) hy
        subst e1 e2
        exact ⟨rfl, rfl, rfl, rfl, rfl, fun _ => ⟨rfl, rfl, rfl⟩⟩
      · rw [if_neg e] at hr
        have e1 := JE_end (o' := (false, 6, a, 3, fi, c, (T : Int), n, 0, a, v)) (by
          show zg_X1_understand_31 mk len B i3 0 (-1) 2 fi c (T : Int) nx kd pl va = _
          rw [un31 (by omega) (by omega) ht hr (by decide) (by dsimp only; decide) hc0]
          rfl) hx
        have e2 := JE_end (o' := (false, 4, a, n, u, 6, a, w, ln, lf, (c : Int), (T : Int), nf, ls, gr)) (by
          show zg_X11_readCut_107 len B many j2 j3 j4 4 a n u 0 (-1) w ln lf (c : Int) (T : Int) nf ls gr = _
          unfold zg_X11_readCut_107
          rw [if_neg (by decide), if_pos rfl, if_neg (by unfold zout; omega), if_neg (by unfold zout; omega), if_neg (by omega)]
          rfl) hy
        subst e1 e2
        exact ⟨rfl, rfl, rfl, rfl, rfl, fun z => by cases z⟩
    · -- a token
      have bad1 : ¬ k = 0 → ¬ k = 2 → ¬ zout k → ¬ s = 2 → ¬ s = 4 → ¬ zout s → undQ c o o2 := by
        intro k0 k2 kz s2 s4 sz
        have hr : zf_X1_takeToken mk 2 fi c (T : Int) n k a v = some (1, 3, v, (T : Int)) := by
          rw [tt2, tfn p0 fi (T : Int) k v k0 k2 kz]; rfl
        have e1 := JE_end (o' := (false, 1, a, 3, v, c, (T : Int), n, k, a, v)) (by
          show zg_X1_understand_31 mk len B i3 0 (-1) 2 fi c (T : Int) nx kd pl va = _
          rw [un31 (by omega) (by omega) ht hr kz (by dsimp only; decide) hc0]
          rfl) hx
        have e2 := JE_end (o' := (false, s, a, n, u, 1, a, w, ln, lf, (c : Int), (T : Int), nf, ls, gr)) (by
          show zg_X11_readCut_107 len B many j2 j3 j4 s a n u 0 (-1) w ln lf (c : Int) (T : Int) nf ls gr = _
          unfold zg_X11_readCut_107 zf_X11_readCorner
          rw [if_neg sz, if_neg s4, if_neg sz, if_neg s2]
          rfl) hy
        subst e1 e2
        exact ⟨rfl, rfl, rfl, rfl, rfl, fun z => by cases z⟩
      rcases hk with ⟨rfl, rfl⟩ | ⟨rfl, rfl⟩ | ⟨rfl, rfl⟩ | ⟨rfl, rfl⟩
      · exact bad1 (by decide) (by decide) (by decide) (by decide) (by decide) (by decide)
      · -- the first corner
        clear bad1
        obtain ⟨rfl, v0, v9⟩ := hv rfl
        have hnp := hnp (by decide)
        by_cases hvc : v < (c : Int)
        · have hr : zf_X1_takeToken mk 2 fi c (T : Int) n 2 a v = some (0, 3, v, (T : Int)) := by
            rw [tt2, tf2 p0 fi (T : Int) v v0 v9, if_pos hvc]; rfl
          have hx1 := JE_dn (s' := (31, i3 + 1, 0, -1, 3, v, c, (T : Int), n, 2, a, v)) (by
            show zg_X1_understand_31 mk len B i3 0 (-1) 2 fi c (T : Int) nx kd pl va = _
            rw [un31 (by omega) (by omega) ht hr (by decide) (by dsimp only; decide) hc0]
            rfl) hx
          obtain ⟨k2, a2, n2, v2, s2, u2, w2, t1, t2, t3, t4, t5, t6, t7, t8, t9, -⟩ := tok_eq l0 l3 (show 0 ≤ n by omega) hn1 hB 2 a v 2 a v w
          have rc1 : zf_X11_readCorner 2 a v 0 (-1) (c : Int) = some (true, 0, -1) := by
            unfold zf_X11_readCorner zf_X11_in
            rw [if_neg (by decide), if_pos rfl, if_neg (by unfold zout; omega), if_neg (by decide), if_neg (by omega), if_neg (by unfold zout; omega), if_neg (by omega)]
            rfl
          -- the second token is no number of a corner
          have bad2 : ∀ f : Int, zf_X1_takeToken mk 3 v c (T : Int) n2 k2 a2 v2 = some (f, 4, v, (T : Int)) → ¬ f = 0 → ¬ zout f → ¬ zout k2 → zf_X11_readCorner s2 a2 u2 0 (-1) (c : Int) = some (false, f, a2) → undQ c o o2 := by
            intro f hr f0 fz kz hrc
            have e1 := JE_end (o' := (false, f, a2, 4, v, c, (T : Int), n2, k2, a2, v2)) (by
              show zg_X1_understand_31 mk len B (i3 + 1) 0 (-1) 3 v c (T : Int) n 2 a v = _
              rw [un31 (by omega) (by omega) t1 hr kz fz hc0, if_neg f0]) hx1
            have e2 := JE_end (o' := (false, s2, a2, n2, u2, f, a2, w2, ln, lf, (c : Int), (T : Int), nf, ls, gr)) (by
              show zg_X11_readCut_107 len B many j2 j3 j4 2 a n v 0 (-1) w ln lf (c : Int) (T : Int) nf ls gr = _
              unfold zg_X11_readCut_107
              rw [if_neg (by decide), if_neg (by decide), rc1]
              simp only [Option.bind_some]
              rw [if_neg (by decide), t2]
              simp only [Option.bind_some]
              rw [hrc]
              rfl) hy
            subst e1 e2
            exact ⟨rfl, rfl, rfl, rfl, rfl, fun z => by cases z⟩
          have bad2s : ¬ k2 = 2 → ¬ zout k2 → ¬ s2 = 2 → ¬ zout s2 → undQ c o o2 := by
            intro q1 q2 q3 q4
            refine bad2 1 (tt3n mk v c (T : Int) n2 k2 a2 v2 q1 q2) (by decide) (by decide) q2 ?_
            unfold zf_X11_readCorner
            rw [if_neg q4, if_neg q3]
            rfl
          rcases t3 with ⟨rfl, rfl⟩ | ⟨rfl, rfl⟩ | ⟨rfl, rfl⟩ | ⟨rfl, rfl⟩ | ⟨rfl, rfl⟩
          · exact bad2s (by decide) (by decide) (by decide) (by decide)
          · exact bad2s (by decide) (by decide) (by decide) (by decide)
          · obtain ⟨rfl, x0, x9⟩ := t4 rfl
            have t9 := t9 (by decide)
            clear bad2s
            obtain ⟨r, hr, hs⟩ := ts_e p0 hT v v2 v0 hvc x0 x9
            have hr3 : zf_X1_takeToken mk 3 v c (T : Int) n2 2 a2 v2 = some (r.1, 4, v, r.2) := by
              rw [tt3y, hr]; rfl
            rcases hs with ⟨y1, rfl⟩ | ⟨y1, hs⟩
            · refine bad2 2 hr3 (by decide) (by decide) (by decide) ?_
              unfold zf_X11_readCorner zf_X11_in
              rw [if_neg (by decide), if_pos rfl, if_neg (by unfold zout; omega), if_neg (by decide), if_neg (by omega), if_neg (by unfold zout; omega), if_pos (by omega)]
              rfl
            · clear bad2
              have rc2 : zf_X11_readCorner 2 a2 v2 0 (-1) (c : Int) = some (true, 0, -1) := by
                unfold zf_X11_readCorner zf_X11_in
                rw [if_neg (by decide), if_pos rfl, if_neg (by unfold zout; omega), if_neg (by decide), if_neg (by omega), if_neg (by unfold zout; omega), if_neg (by omega)]
                rfl
              have fail3 : ∀ f : Int, r = (f, (T : Int)) → ¬ f = 0 → ¬ zout f → o2 = (false, 2, a2, n2, v2, f, a2, w2, ln, lf, (c : Int), (T : Int), nf, ls, gr) → undQ c o o2 := by
                intro f hf f0 fz e2
                rw [hf] at hr3
                have e1 := JE_end (o' := (false, f, a2, 4, v, c, (T : Int), n2, 2, a2, v2)) (by
                  show zg_X1_understand_31 mk len B (i3 + 1) 0 (-1) 3 v c (T : Int) n 2 a v = _
                  rw [un31 (by omega) (by omega) t1 hr3 (by decide) fz hc0, if_neg f0]) hx1
                subst e1 e2
                exact ⟨rfl, rfl, rfl, rfl, rfl, fun z => by cases z⟩
              rcases hs with ⟨z1, hrr⟩ | ⟨z1, z2, hs⟩
              · -- no line
                refine fail3 4 hrr (by decide) (by decide) ?_
                refine JE_end (by
                  show zg_X11_readCut_107 len B many j2 j3 j4 2 a n v 0 (-1) w ln lf (c : Int) (T : Int) nf ls gr = _
                  unfold zg_X11_readCut_107
                  rw [if_neg (by decide), if_neg (by decide), rc1]
                  simp only [Option.bind_some]
                  rw [if_neg (by decide), t2]
                  simp only [Option.bind_some]
                  rw [rc2]
                  simp only [Option.bind_some]
                  rw [if_neg (by decide), isLine_c h4 h9 v0 hvc x0 y1, decide_eq_false (by omega)]
                  rfl) hy
              · have hij : ¬ v = v2 := by
                  intro q
                  have := lnO_self h4 h9 v0 hvc
                  rw [← q] at z1
                  omega
                have enf : zget nf (Int.toNat (((10 : Int) * v) + v2)) = lnO c v v2 := by
                  have := LN_get hL.2.1 (i := v.toNat) (j := v2.toNat) (by omega) (by omega) (by omega)
                  rw [show Int.toNat (((10 : Int) * v) + v2) = 10 * v.toNat + v2.toNat by omega]
                  exact this
                have hl27 : (lnO c v v2).toNat < 27 := by have := rpg7 h4 h9; omega
                have hbt := bitL (T := T) (l := (lnO c v v2).toNat) (by omega) hl27
                rw [show (((lnO c v v2).toNat : Nat) : Int) = lnO c v v2 by omega] at hbt
                rcases hs with ⟨tb, hrr⟩ | ⟨tb, hs⟩
                · -- twice
                  refine fail3 3 hrr (by decide) (by decide) ?_
                  rw [tb, if_pos rfl] at hbt
                  refine JE_end (by
                    show zg_X11_readCut_107 len B many j2 j3 j4 2 a n v 0 (-1) w ln lf (c : Int) (T : Int) nf ls gr = _
                    unfold zg_X11_readCut_107
                    rw [if_neg (by decide), if_neg (by decide), rc1]
                    simp only [Option.bind_some]
                    rw [if_neg (by decide), t2]
                    simp only [Option.bind_some]
                    rw [rc2]
                    simp only [Option.bind_some]
                    rw [if_neg (by decide), isLine_c h4 h9 v0 hvc x0 y1, decide_eq_true z1]
                    simp only [Option.bind_some]
                    rw [if_neg (by decide), if_neg (by omega), enf, hbt, if_pos rfl]
                    rfl) hy
                · rw [tb, if_neg (by decide)] at hbt
                  have hy1 := JE_dn (s' := (191, many, v, v2, ((0 : Nat) : Int), 2, a2, n2, v2, 0, -1, w2, ln, lf, (c : Int), (T : Int), nf, ls, gr)) (by
                    show zg_X11_readCut_107 len B many j2 j3 j4 2 a n v 0 (-1) w ln lf (c : Int) (T : Int) nf ls gr = _
                    unfold zg_X11_readCut_107
                    rw [if_neg (by decide), if_neg (by decide), rc1]
                    simp only [Option.bind_some]
                    rw [if_neg (by decide), t2]
                    simp only [Option.bind_some]
                    rw [rc2]
                    simp only [Option.bind_some]
                    rw [if_neg (by decide), isLine_c h4 h9 v0 hvc x0 y1, decide_eq_true z1]
                    simp only [Option.bind_some]
                    rw [if_neg (by decide), if_neg (by omega), enf, hbt, if_neg (by decide)]
                    rfl) hy
                  have l1 := l191 (B := B) (len := len) h4 h9 hT hL v0 hvc x0 y1 z1 (lnN c) 0 (by omega) hy1
                  rcases hs with ⟨⟨b, b1, b2, b3⟩, hrr⟩ | ⟨hcr, hrr⟩
                  · rcases l1 with ⟨e2, -⟩ | ⟨-, no⟩
                    · exact fail3 5 hrr (by decide) (by decide) e2
                    · have := no b (by omega) b1 b2
                      rw [b3] at this
                      cases this
                  · rcases l1 with ⟨-, b, b1, b2, b3⟩ | ⟨hy2, -⟩
                    · have := hcr b b1 b2
                      rw [b3] at this
                      cases this
                    · -- the line is taken
                      clear fail3
                      rw [hrr] at hr3
                      have hx2 := JE_dn (s' := (31, i3 + 1 + 1, 0, -1, 4, v, c, ((T ||| 2 ^ (lnO c v v2).toNat : Nat) : Int), n2, 2, a2, v2)) (by
                        show zg_X1_understand_31 mk len B (i3 + 1) 0 (-1) 3 v c (T : Int) n 2 a v = _
                        rw [un31 (by omega) (by omega) t1 hr3 (by decide) (by dsimp only; decide) hc0]
                        rfl) hx1
                      obtain ⟨k3, a3, n3, v3, s3, u3, w3, d1, d2, d3, d4, d5, d6, d7, d8, d9, -⟩ := tok_eq l0 l3 (show 0 ≤ n2 by omega) t6 hB 2 a2 v2 2 a2 v2 w2
                      have e7 : ln ≤ (lnN c : Int) := by have := hL.1; unfold lnN; have := rpg7 h4 h9; omega
                      have hlnz : ¬ zout ln := by have := hL.1; have := rpg7 h4 h9; unfold zout; omega
                      have hln27 : (lnN c : Int) ≤ 27 := by unfold lnN; have := rpg7 h4 h9; omega
                      have hor_ := orL (T := T) (l := (lnO c v v2).toNat) (by omega) hl27
                      rw [show (((lnO c v v2).toNat : Nat) : Int) = lnO c v v2 by omega] at hor_
                      have bad4 : ¬ k3 = 3 → ¬ zout k3 → ¬ s3 = 3 → ¬ zout s3 → undQ c o o2 := by
                        intro q1 q2 q3 q4
                        have e1 := JE_end (o' := (false, 1, a3, 2, v, c, ((T ||| 2 ^ (lnO c v v2).toNat : Nat) : Int), n3, k3, a3, v3)) (by
                          show zg_X1_understand_31 mk len B (i3 + 1 + 1) 0 (-1) 4 v c ((T ||| 2 ^ (lnO c v v2).toNat : Nat) : Int) n2 2 a2 v2 = _
                          rw [un31 (by omega) (by omega) d1 (tt4n mk v c _ n3 k3 a3 v3 q1 q2) q2 (by dsimp only; decide) hc0]
                          rfl) hx2
                        have e2 := JE_end (o' := (false, s3, a3, n3, u3, 1, a3, w3, ln, lf, (c : Int), ((T ||| 2 ^ (lnO c v v2).toNat : Nat) : Int), nf, ls, gr)) (by
                          show zg_X11_readCut_191 len B many v v2 (lnN c : Int) 2 a2 n2 v2 0 (-1) w2 ln lf (c : Int) (T : Int) nf ls gr = _
                          unfold zg_X11_readCut_191
                          rw [if_neg (by unfold zout; omega), if_neg hlnz, if_pos e7, if_neg (by omega), d2]
                          simp only [Option.bind_some]
                          rw [if_neg q4, if_neg q3, enf, hor_]
                          rfl) hy2
                        subst e1 e2
                        exact ⟨rfl, rfl, rfl, rfl, rfl, fun z => by cases z⟩
                      rcases d3 with ⟨rfl, rfl⟩ | ⟨rfl, rfl⟩ | ⟨rfl, rfl⟩ | ⟨rfl, rfl⟩ | ⟨rfl, rfl⟩
                      · exact bad4 (by decide) (by decide) (by decide) (by decide)
                      · exact bad4 (by decide) (by decide) (by decide) (by decide)
                      · exact bad4 (by decide) (by decide) (by decide) (by decide)
                      · have d9 := d9 (by decide)
                        have hx3 := JE_dn (s' := (31, i3 + 1 + 1 + 1, 0, -1, 2, v, c, ((T ||| 2 ^ (lnO c v v2).toNat : Nat) : Int), n3, 3, a3, v3)) (by
                          show zg_X1_understand_31 mk len B (i3 + 1 + 1) 0 (-1) 4 v c ((T ||| 2 ^ (lnO c v v2).toNat : Nat) : Int) n2 2 a2 v2 = _
                          rw [un31 (by omega) (by omega) d1 (tt4y mk v c _ n3 a3 v3) (by decide) (by dsimp only; decide) hc0]
                          rfl) hx2
                        obtain ⟨k4, a4, n4, v4, s4, u4, w4, g1, g2, g3, g4, g5, g6, g7, g8, g9, -⟩ := tok_eq l0 l3 (show 0 ≤ n3 by omega) d6 hB 3 a3 v3 3 a3 u3 w3
                        have hy3 := JE_dn (s' := (107, many + 1, v, v2, (lnN c : Int), s4, a4, n4, u4, 0, -1, w4, ln, lf, (c : Int), ((T ||| 2 ^ (lnO c v v2).toNat : Nat) : Int), nf, ls, gr)) (by
                          show zg_X11_readCut_191 len B many v v2 (lnN c : Int) 2 a2 n2 v2 0 (-1) w2 ln lf (c : Int) (T : Int) nf ls gr = _
                          unfold zg_X11_readCut_191
                          rw [if_neg (by unfold zout; omega), if_neg hlnz, if_pos e7, if_neg (by omega), d2]
                          simp only [Option.bind_some]
                          rw [if_neg (by decide), if_pos trivial, g2, enf, hor_]
                          rfl) hy2
                        have hln : (lnO c v v2).toNat < lnN c := by unfold lnN; omega
                        refine ih (i3 + 1 + 1 + 1) v n3 3 a3 v3 (T ||| 2 ^ (lnO c v v2).toNat) (many + 1) v v2 (lnN c : Int) n4 k4 a4 v4 s4 u4 w4 o o2 (by omega) (by omega) (by omega) d6 (Nat.or_lt_two_pow hT (Nat.pow_lt_pow_right (by decide) hln)) (good_add h4 h9 hg hln hcr) ?_ g1 g3 g4 g5 g6 g9 hx3 hy3
                        rw [pop_add tb (lnN c) hln, hmany]
                        omega
                      · exact bad4 (by decide) (by decide) (by decide) (by decide)
          · exact bad2s (by decide) (by decide) (by decide) (by decide)
          · exact bad2s (by decide) (by decide) (by decide) (by decide)
        · have hr : zf_X1_takeToken mk 2 fi c (T : Int) n 2 a v = some (2, 3, v, (T : Int)) := by
            rw [tt2, tf2 p0 fi (T : Int) v v0 v9, if_neg hvc]; rfl
          have e1 := JE_end (o' := (false, 2, a, 3, v, c, (T : Int), n, 2, a, v)) (by
            show zg_X1_understand_31 mk len B i3 0 (-1) 2 fi c (T : Int) nx kd pl va = _
            rw [un31 (by omega) (by omega) ht hr (by decide) (by dsimp only; decide) hc0]
            rfl) hx
          have e2 := JE_end (o' := (false, 2, a, n, v, 2, a, w, ln, lf, (c : Int), (T : Int), nf, ls, gr)) (by
            show zg_X11_readCut_107 len B many j2 j3 j4 2 a n v 0 (-1) w ln lf (c : Int) (T : Int) nf ls gr = _
            unfold zg_X11_readCut_107 zf_X11_readCorner zf_X11_in
            rw [if_neg (by decide), if_neg (by decide), if_neg (by decide), if_pos rfl, if_neg (by unfold zout; omega), if_neg (by decide), if_neg (by omega), if_neg (by unfold zout; omega), if_pos (by omega)]
            rfl) hy
          subst e1 e2
          exact ⟨rfl, rfl, rfl, rfl, rfl, fun z => by cases z⟩
      · exact bad1 (by decide) (by decide) (by decide) (by decide) (by decide) (by decide)
      · exact bad1 (by decide) (by decide) (by decide) (by decide) (by decide) (by decide)
