/-! listFor of any state: what grows, and what the sort makes of it -/
noncomputable def xt (m k : Nat) : Nat := (pg4 m >>> (32 * k)) % 4294967296
noncomputable def crl (m k q : Nat) : Bool := match decide ((k : Int) < pg7 m ∧ (q : Int) < pg7 m) with
  | false => true
  | true => match zf_X11_isCross (m : Int) (zget (pg1 m) k) (zget (pg2 m) k) (zget (pg1 m) q) (zget (pg2 m) q) with
    | none => false
    | some b => decide (b = (xt m k).testBit q)
theorem crl_tab : ∀ m : Nat, 4 ≤ m → m ≤ 9 → allF (fun k => allF (fun q => crl m k q) 0 27) 0 27 = true := pg_cases (by decide +kernel) (by decide +kernel) (by decide +kernel) (by decide +kernel) (by decide +kernel) (by decide +kernel)
theorem crl_ok {m k q : Nat} (h4 : 4 ≤ m) (h9 : m ≤ 9) (hk : (k : Int) < pg7 m) (hq : (q : Int) < pg7 m) : zf_X11_isCross (m : Int) (zget (pg1 m) k) (zget (pg2 m) k) (zget (pg1 m) q) (zget (pg2 m) q) = some ((xt m k).testBit q) := by
  have r7 := rpg7 h4 h9
  have t := allF_at (allF_at (crl_tab m h4 h9) (m := k) (by omega)) (m := q) (by omega)
  replace t : crl m k q = true := t
  unfold crl at t
  rw [decide_eq_true ⟨hk, hq⟩] at t
  revert t
  simp only []
  cases zf_X11_isCross (m : Int) (zget (pg1 m) k) (zget (pg2 m) k) (zget (pg1 m) q) (zget (pg2 m) q) with
  | none => intro t; cases t
  | some b => intro t; rw [of_decide_eq_true t]
/-- what grows out of T by e of the last r lines, in the order in which it comes -/
noncomputable def enF (X : Nat → Nat) (L r : Nat) : Nat → Nat → List Nat := Nat.rec (motive := fun _ => Nat → Nat → List Nat) (fun T e => match e with
  | 0 => [T]
  | _ + 1 => []) (fun r ih T e => match e with
  | 0 => [T]
  | e + 1 => match Nat.beq (X (L - (r + 1)) &&& T) 0 with
    | true => frN (T ||| 2 ^ (L - (r + 1))) (fun T' => ih T' e) ++ ih T (e + 1)
    | false => ih T (e + 1)) r
theorem enF_0 (X : Nat → Nat) (L r T : Nat) : enF X L r T 0 = [T] := by cases r <;> rfl
theorem enF_z (X : Nat → Nat) (L T e : Nat) : enF X L 0 T (e + 1) = [] := rfl
theorem enF_s (X : Nat → Nat) (L r T e : Nat) : enF X L (r + 1) T (e + 1) = (match Nat.beq (X (L - (r + 1)) &&& T) 0 with
    | true => frN (T ||| 2 ^ (L - (r + 1))) (fun T' => enF X L r T' e) ++ enF X L r T (e + 1)
    | false => enF X L r T (e + 1)) := rfl
theorem enF_t {X : Nat → Nat} {L r T e : Nat} (h : X (L - (r + 1)) &&& T = 0) : enF X L (r + 1) T (e + 1) = enF X L r (T ||| 2 ^ (L - (r + 1))) e ++ enF X L r T (e + 1) := by
  rw [enF_s, h]
  show frN _ _ ++ _ = _
  rw [frN_e]
theorem enF_f {X : Nat → Nat} {L r T e : Nat} (h : ¬ X (L - (r + 1)) &&& T = 0) : enF X L (r + 1) T (e + 1) = enF X L r T (e + 1) := by
  rw [enF_s]
  cases q : Nat.beq (X (L - (r + 1)) &&& T) 0 with
  | true => exact absurd (Nat.eq_of_beq_eq_true q) h
  | false => rfl
/-- an array's places from p on -/
def AP (A : Nat) : List Nat → Nat → Prop
  | [], _ => True
  | x :: r, p => zgetL A p = (x : Int) ∧ AP A r (p + 1)
theorem AP_app {A : Nat} : ∀ (l r : List Nat) (p : Nat), AP A l p → AP A r (p + l.length) → AP A (l ++ r) p := by
  intro l
  induction l with
  | nil => intro r p _ h; exact h
  | cons x l ih =>
    intro r p h1 h2
    refine ⟨h1.1, ih r (p + 1) h1.2 ?_⟩
    rw [List.length_cons, show p + (l.length + 1) = p + 1 + l.length by omega] at h2
    exact h2
theorem AP_fr {A B : Nat} : ∀ (l : List Nat) (p : Nat), AP A l p → (∀ j, p ≤ j → j < p + l.length → zgetL B j = zgetL A j) → AP B l p := by
  intro l
  induction l with
  | nil => intro p _ _; exact True.intro
  | cons x l ih =>
    intro p h1 h2
    rw [List.length_cons] at h2
    exact ⟨(h2 p (by omega) (by omega)).trans h1.1, ih (p + 1) h1.2 (fun j a b => h2 j (by omega) (by omega))⟩
theorem low_or {T k : Nat} (h : T < 2 ^ k) : T ||| 2 ^ k < 2 ^ (k + 1) := Nat.or_lt_two_pow (Nat.lt_of_lt_of_le h (Nat.pow_le_pow_right (by decide) (by omega))) (Nat.pow_lt_pow_right (by decide) (by omega))
theorem and_z {a T k : Nat} (h : T < 2 ^ k) (hn : ∀ q, q < k → ¬ (T.testBit q = true ∧ a.testBit q = true)) : a &&& T = 0 := by
  apply Nat.eq_of_testBit_eq
  intro q
  rw [Nat.testBit_and, Nat.zero_testBit]
  by_cases c : q < k
  · have := hn q c
    cases x : a.testBit q with
    | false => rfl
    | true =>
      cases y : T.testBit q with
      | false => rfl
      | true => exact absurd ⟨y, x⟩ this
  · rw [Nat.testBit_lt_two_pow (Nat.lt_of_lt_of_le h (Nat.pow_le_pow_right (by decide) (by omega))), Bool.and_false]
theorem and_nz {a T q : Nat} (h1 : T.testBit q = true) (h2 : a.testBit q = true) : ¬ a &&& T = 0 := by
  intro h
  have t : (a &&& T).testBit q = false := by rw [h, Nat.zero_testBit]
  rw [Nat.testBit_and, h1, h2] at t
  cases t
def gwI (m e k T p A : Nat) (lab : Nat) (i1 i2 i4 i5 i6 i7 i8 lm : Int) (li : Nat) : Prop := i1 = (m : Int) ∧ i2 = (T : Int) ∧ i4 = (m : Int) - 3 - (e : Int) ∧ ((lab = 0 ∧ i5 = (k : Int) ∧ lm = (p : Int) ∧ li = A) ∨ (1 ≤ e ∧ ∃ (k' : Nat) (dn : List Nat), i6 = (k' : Int) ∧ k ≤ k' ∧ k' ≤ lnN m ∧ enF (xt m) (lnN m) (lnN m - k) T e = dn ++ enF (xt m) (lnN m) (lnN m - k') T e ∧ lm = ((p + dn.length : Nat) : Int) ∧ (∀ j, j < p → zgetL li j = zgetL A j) ∧ AP li dn p ∧ (lab = 33 ∨ (lab = 48 ∧ k' < lnN m ∧ 0 ≤ i8 ∧ i8 ≤ (k' : Int) ∧ ((i7 = 1 ∧ ∀ q : Nat, (q : Int) < i8 → ¬ (T.testBit q = true ∧ (xt m k').testBit q = true)) ∨ (i7 = 0 ∧ ¬ xt m k' &&& T = 0))) ∨ (lab = 119 ∧ k' < lnN m ∧ ((i7 = 1 ∧ xt m k' &&& T = 0) ∨ (i7 = 0 ∧ ¬ xt m k' &&& T = 0))))))
set_option maxRecDepth 100000 in
theorem grow_s (d : Nat) (a b : Int) (c d' e : Nat) (f g h i : Int) : zf_X11_grow (d + 1) a b c d' e f g h i = jrun (zg_X11_grow (zf_X11_grow d) a c d') jfuel (0, f, g, h, i, 0, 0, 0, b, e) := rfl
set_option maxRecDepth 20000 in
set_option maxHeartbeats 4000000 in
theorem grow_ok {m : Nat} (h4 : 4 ≤ m) (h9 : m ≤ 9) {ls gr : Nat} (hL : LL m ls gr (pg7 m)) : ∀ (d e k T p A : Nat), e < d → e ≤ m - 3 → k ≤ lnN m → T < 2 ^ k → p + (enF (xt m) (lnN m) (lnN m - k) T e).length ≤ 429 → Go (fun o => o.1 = ((p + (enF (xt m) (lnN m) (lnN m - k) T e).length : Nat) : Int) ∧ (∀ j, j < p → zgetL o.2 j = zgetL A j) ∧ AP o.2 (enF (xt m) (lnN m) (lnN m - k) T e) p) (zf_X11_grow d (pg7 m) (p : Int) ls gr A (m : Int) (T : Int) ((m : Int) - 3 - (e : Int)) (k : Int)) := by
  have r7 := rpg7 h4 h9
  have e7 : pg7 m = (lnN m : Int) := by unfold lnN; omega
  intro d
  induction d with
  | zero => intro e k T p A h; omega
  | succ d ih =>
    intro e k T p A hd he hk hT hlen
    have hT27 : T < 134217728 := Nat.lt_of_lt_of_le hT (Nat.le_trans (Nat.pow_le_pow_right (by decide) (show k ≤ 27 by omega)) (by decide))
    have zT : ¬ zoutL (T : Int) := by unfold zoutL; omega
    rw [grow_s]
    refine jok (fun (s : zS_X11_grow) => match s with | (lab, i1, i2, i4, i5, i6, i7, i8, lm, li) => gwI m e k T p A lab i1 i2 i4 i5 i6 i7 i8 lm li) (fun (s : zS_X11_grow) => match s with | (lab, i1, i2, i4, i5, i6, i7, i8, lm, li) => if lab = 0 then 100000 else if lab = 33 then ((40 - i6) * 100 + 99).toNat else if lab = 48 then ((40 - i6) * 100 + 60 - i8).toNat else ((40 - i6) * 100 + 10).toNat) (fun (o : zO_X11_grow) => o.1 = ((p + (enF (xt m) (lnN m) (lnN m - k) T e).length : Nat) : Int) ∧ (∀ j, j < p → zgetL o.2 j = zgetL A j) ∧ AP o.2 (enF (xt m) (lnN m) (lnN m - k) T e) p) ?_ _ ?_ ?_
    · intro s hI0
      obtain ⟨lab, i1, i2, i4, i5, i6, i7, i8, lm, li⟩ := s
      have hI1 : gwI m e k T p A lab i1 i2 i4 i5 i6 i7 i8 lm li := hI0
      unfold gwI at hI1
      clear hI0
      obtain ⟨rfl, rfl, rfl, hI2⟩ := hI1
      rcases hI2 with ⟨rfl, rfl, rfl, rfl⟩ | ⟨e1, k', dn, rfl, v1, v2, v3, rfl, v4, v5, hI3⟩
      · show Go _ (zg_X11_grow_0 (zf_X11_grow d) (pg7 m) ls gr (m : Int) (T : Int) ((m : Int) - 3 - (e : Int)) (k : Int) i6 i7 i8 (p : Int) li)
        unfold zg_X11_grow_0
        refine Go_chk (by unfold zout; omega) ?_
        refine Go_chk (by unfold zout; omega) ?_
        refine Go_ite (fun x => ?_) (fun x => ?_)
        · have e0 : e = 0 := by omega
          subst e0
          rw [enF_0] at hlen ⊢
          have hlen : p + 1 ≤ 429 := hlen
          refine Go_chk (by omega) ?_
          refine Go_i (show (p : Int) + 1 = ((p + 1 : Nat) : Int) ∧ (∀ j, j < p → zgetL (zsetL li p (T : Int)) j = zgetL li j) ∧ (zgetL (zsetL li p (T : Int)) p = (T : Int) ∧ True) from ⟨by omega, fun j hj => ?_, ?_, True.intro⟩)
          · rw [zgetL_set, if_neg (by omega)]
          · rw [zgetL_set, if_pos rfl, zwL_id zT]
        · exact Go_i (show gwI m e k T p li 33 (m : Int) (T : Int) ((m : Int) - 3 - (e : Int)) (k : Int) (k : Int) 0 0 (p : Int) li ∧ ((40 - (k : Int)) * 100 + 99).toNat < 100000 from ⟨⟨rfl, rfl, rfl, Or.inr ⟨by omega, k, [], rfl, Nat.le_refl _, hk, rfl, rfl, fun j _ => rfl, True.intro, Or.inl rfl⟩⟩, by omega⟩)
      · rcases hI3 with rfl | ⟨rfl, w1, w2, w3, w4⟩ | ⟨rfl, w1, w4⟩
        · show Go _ (zg_X11_grow_33 (zf_X11_grow d) (pg7 m) ls gr (m : Int) (T : Int) ((m : Int) - 3 - (e : Int)) i5 (k' : Int) i7 i8 ((p + dn.length : Nat) : Int) li)
          unfold zg_X11_grow_33
          refine Go_chk (by unfold zout; omega) ?_
          refine Go_chk (by unfold zout; omega) ?_
          refine Go_ite (fun x => ?_) (fun x => ?_)
          · have ek : lnN m - k' = 0 := by omega
            obtain ⟨e', rfl⟩ : ∃ e', e = e' + 1 := ⟨e - 1, by omega⟩
            rw [ek, enF_z, List.append_nil] at v3
            rw [v3]
            exact Go_i (show ((p + dn.length : Nat) : Int) = ((p + dn.length : Nat) : Int) ∧ (∀ j, j < p → zgetL li j = zgetL A j) ∧ AP li dn p from ⟨rfl, v4, v5⟩)
          · exact Go_i (show gwI m e k T p A 48 (m : Int) (T : Int) ((m : Int) - 3 - (e : Int)) 0 (k' : Int) 1 0 ((p + dn.length : Nat) : Int) li ∧ ((40 - (k' : Int)) * 100 + 60 - 0).toNat < ((40 - (k' : Int)) * 100 + 99).toNat from ⟨⟨rfl, rfl, rfl, Or.inr ⟨e1, k', dn, rfl, v1, v2, v3, rfl, v4, v5, Or.inr (Or.inl ⟨rfl, by omega, by decide, by omega, Or.inl ⟨rfl, fun q hq => absurd hq (by omega)⟩⟩)⟩⟩, by omega⟩)
        · show Go _ (zg_X11_grow_48 (zf_X11_grow d) (pg7 m) ls gr (m : Int) (T : Int) ((m : Int) - 3 - (e : Int)) i5 (k' : Int) i7 i8 ((p + dn.length : Nat) : Int) li)
          unfold zg_X11_grow_48
          have hTk : T < 2 ^ k' := Nat.lt_of_lt_of_le hT (Nat.pow_le_pow_right (by decide) v1)
          refine Go_chk (by unfold zout; omega) ?_
          refine Go_chk (by unfold zout; omega) ?_
          refine Go_ite (fun x => ?_) (fun x => ?_)
          · refine Go_i (show gwI m e k T p A 119 (m : Int) (T : Int) ((m : Int) - 3 - (e : Int)) 0 (k' : Int) i7 i8 ((p + dn.length : Nat) : Int) li ∧ ((40 - (k' : Int)) * 100 + 10).toNat < ((40 - (k' : Int)) * 100 + 60 - i8).toNat from ⟨⟨rfl, rfl, rfl, Or.inr ⟨e1, k', dn, rfl, v1, v2, v3, rfl, v4, v5, Or.inr (Or.inr ⟨rfl, w1, ?_⟩)⟩⟩, by omega⟩)
            rcases w4 with ⟨a, b⟩ | ⟨a, b⟩
            · exact Or.inl ⟨a, and_z hTk (fun q hq => b q (by omega))⟩
            · exact Or.inr ⟨a, b⟩
          · refine Go_chk (by unfold zout; omega) ?_
            refine Go_ite (fun y => ?_) (fun y => ?_)
            · refine Go_i (show gwI m e k T p A 119 (m : Int) (T : Int) ((m : Int) - 3 - (e : Int)) 0 (k' : Int) i7 i8 ((p + dn.length : Nat) : Int) li ∧ ((40 - (k' : Int)) * 100 + 10).toNat < ((40 - (k' : Int)) * 100 + 60 - i8).toNat from ⟨⟨rfl, rfl, rfl, Or.inr ⟨e1, k', dn, rfl, v1, v2, v3, rfl, v4, v5, Or.inr (Or.inr ⟨rfl, w1, ?_⟩)⟩⟩, by omega⟩)
              rcases w4 with ⟨a, b⟩ | ⟨a, b⟩
              · omega
              · exact Or.inr ⟨a, b⟩
            · obtain ⟨a, b⟩ : i7 = 1 ∧ ∀ q : Nat, (q : Int) < i8 → ¬ (T.testBit q = true ∧ (xt m k').testBit q = true) := by
                rcases w4 with w4 | ⟨a, b⟩
                · exact w4
                · exact absurd a y
              obtain ⟨q, rfl⟩ : ∃ q : Nat, i8 = (q : Int) := ⟨i8.toNat, by omega⟩
              have hb := bitL hT27 (show q < 27 by omega)
              refine Go_ite (fun z => ?_) (fun z => ?_)
              · refine Go_i (show gwI m e k T p A 48 (m : Int) (T : Int) ((m : Int) - 3 - (e : Int)) 0 (k' : Int) 1 ((q : Int) + 1) ((p + dn.length : Nat) : Int) li ∧ ((40 - (k' : Int)) * 100 + 60 - ((q : Int) + 1)).toNat < ((40 - (k' : Int)) * 100 + 60 - (q : Int)).toNat from ⟨⟨rfl, rfl, rfl, Or.inr ⟨e1, k', dn, rfl, v1, v2, v3, rfl, v4, v5, Or.inr (Or.inl ⟨rfl, w1, by omega, by omega, Or.inl ⟨rfl, fun q' hq' => ?_⟩⟩)⟩⟩, by omega⟩)
                by_cases g : q' = q
                · subst g
                  intro t
                  rw [if_pos t.1] at hb
                  rw [hb] at z
                  exact absurd z (by decide)
                · exact b q' (by omega)
              · have tq : T.testBit q = true := by
                  cases t : T.testBit q with
                  | true => rfl
                  | false => rw [t, if_neg (by decide)] at hb; exact absurd hb z
                have l1 := hL k' (by omega)
                have l2 := hL q (by omega)
                have cr := crl_ok h4 h9 (k := k') (q := q) (by omega) (by omega)
                refine Go_chk (by omega) ?_
                refine Go_chk (by omega) ?_
                rw [Int.toNat_natCast, Int.toNat_natCast, l1.1, l1.2, l2.1, l2.2, cr]
                refine Go_bind rfl ?_
                refine Go_ite (fun u => ?_) (fun u => ?_)
                · refine Go_i (show gwI m e k T p A 48 (m : Int) (T : Int) ((m : Int) - 3 - (e : Int)) 0 (k' : Int) 1 ((q : Int) + 1) ((p + dn.length : Nat) : Int) li ∧ ((40 - (k' : Int)) * 100 + 60 - ((q : Int) + 1)).toNat < ((40 - (k' : Int)) * 100 + 60 - (q : Int)).toNat from ⟨⟨rfl, rfl, rfl, Or.inr ⟨e1, k', dn, rfl, v1, v2, v3, rfl, v4, v5, Or.inr (Or.inl ⟨rfl, w1, by omega, by omega, Or.inl ⟨rfl, fun q' hq' => ?_⟩⟩)⟩⟩, by omega⟩)
                  by_cases g : q' = q
                  · subst g
                    intro t
                    rw [t.2] at u
                    cases u
                  · exact b q' (by omega)
                · exact Go_i (show gwI m e k T p A 48 (m : Int) (T : Int) ((m : Int) - 3 - (e : Int)) 0 (k' : Int) 0 ((q : Int) + 1) ((p + dn.length : Nat) : Int) li ∧ ((40 - (k' : Int)) * 100 + 60 - ((q : Int) + 1)).toNat < ((40 - (k' : Int)) * 100 + 60 - (q : Int)).toNat from ⟨⟨rfl, rfl, rfl, Or.inr ⟨e1, k', dn, rfl, v1, v2, v3, rfl, v4, v5, Or.inr (Or.inl ⟨rfl, w1, by omega, by omega, Or.inr ⟨rfl, and_nz tq (by
                    cases t : (xt m k').testBit q with
                    | true => rfl
                    | false => exact absurd t u)⟩⟩)⟩⟩, by omega⟩)
        · show Go _ (zg_X11_grow_119 (zf_X11_grow d) (pg7 m) ls gr (m : Int) (T : Int) ((m : Int) - 3 - (e : Int)) i5 (k' : Int) i7 i8 ((p + dn.length : Nat) : Int) li)
          unfold zg_X11_grow_119
          have hTk : T < 2 ^ k' := Nat.lt_of_lt_of_le hT (Nat.pow_le_pow_right (by decide) v1)
          obtain ⟨e', rfl⟩ : ∃ e', e = e' + 1 := ⟨e - 1, by omega⟩
          have sk : lnN m - k' = (lnN m - (k' + 1)) + 1 := by omega
          have sk' : lnN m - (lnN m - (k' + 1) + 1) = k' := by omega
          refine Go_chk (by unfold zout; omega) ?_
          refine Go_ite (fun x => ?_) (fun x => ?_)
          · have nz : ¬ xt m k' &&& T = 0 := by
              rcases w4 with ⟨a, b⟩ | ⟨a, b⟩
              · omega
              · exact b
            rw [sk, enF_f (X := xt m) (L := lnN m) (r := lnN m - (k' + 1)) (T := T) (e := e') (by rw [sk']; exact nz)] at v3
            exact Go_i (show gwI m (e' + 1) k T p A 33 (m : Int) (T : Int) ((m : Int) - 3 - ((e' + 1 : Nat) : Int)) 0 ((k' : Int) + 1) i7 0 ((p + dn.length : Nat) : Int) li ∧ ((40 - ((k' : Int) + 1)) * 100 + 99).toNat < ((40 - (k' : Int)) * 100 + 10).toNat from ⟨⟨rfl, rfl, rfl, Or.inr ⟨e1, k' + 1, dn, rfl, by omega, by omega, v3, rfl, v4, v5, Or.inl rfl⟩⟩, by omega⟩)
          · have iz : xt m k' &&& T = 0 := by
              rcases w4 with ⟨a, b⟩ | ⟨a, b⟩
              · exact b
              · exact absurd a x
            rw [sk, enF_t (X := xt m) (L := lnN m) (r := lnN m - (k' + 1)) (T := T) (e := e') (by rw [sk']; exact iz), sk'] at v3
            have hl := congrArg List.length v3
            rw [List.length_append, List.length_append] at hl
            have g := ih e' (k' + 1) (T ||| 2 ^ k') (p + dn.length) li (by omega) (by omega) (by omega) (low_or hTk) (by omega)
            rw [orL hT27 (show k' < 27 by omega), show (m : Int) - 3 - ((e' + 1 : Nat) : Int) + 1 = (m : Int) - 3 - (e' : Int) by omega]
            refine Go_bindP (x := zf_X11_grow d (pg7 m) ((p + dn.length : Nat) : Int) ls gr li (m : Int) ((T ||| 2 ^ k' : Nat) : Int) ((m : Int) - 3 - (e' : Int)) ((k' + 1 : Nat) : Int)) g (fun o q => ?_)
            obtain ⟨q1, q2, q3⟩ := q
            refine Go_i (show gwI m (e' + 1) k T p A 33 (m : Int) (T : Int) ((m : Int) - 3 - ((e' + 1 : Nat) : Int)) 0 ((k' : Int) + 1) i7 0 o.1 o.2 ∧ ((40 - ((k' : Int) + 1)) * 100 + 99).toNat < ((40 - (k' : Int)) * 100 + 10).toNat from ⟨⟨rfl, rfl, rfl, Or.inr ⟨e1, k' + 1, dn ++ enF (xt m) (lnN m) (lnN m - (k' + 1)) (T ||| 2 ^ k') e', rfl, by omega, by omega, ?_, ?_, fun j hj => ?_, ?_, Or.inl rfl⟩⟩, by omega⟩)
            · rw [v3, List.append_assoc]
            · rw [q1, List.length_append, Nat.add_assoc]
            · rw [q2 j (by omega)]; exact v4 j hj
            · exact AP_app _ _ _ (AP_fr _ _ v5 (fun j a b => q2 j (by omega))) q3
    · exact ⟨rfl, rfl, rfl, Or.inl ⟨rfl, rfl, rfl, rfl⟩⟩
    · show 100000 < jfuel
      unfold jfuel
      omega
/-! the sort -/
noncomputable def insR (v : Nat) (l : List Nat) : List Nat := List.rec (motive := fun _ => List Nat) [v] (fun x r ih => match Nat.ble x v with
  | true => v :: x :: r
  | false => x :: ih) l
theorem insR_t {v x : Nat} {r : List Nat} (h : x ≤ v) : insR v (x :: r) = v :: x :: r := by
  show (match Nat.ble x v with
    | true => v :: x :: r
    | false => x :: insR v r) = _
  rw [Nat.ble_eq_true_of_le h]
theorem insR_f {v x : Nat} {r : List Nat} (h : ¬ x ≤ v) : insR v (x :: r) = x :: insR v r := by
  show (match Nat.ble x v with
    | true => v :: x :: r
    | false => x :: insR v r) = _
  cases q : Nat.ble x v with
  | true => exact absurd (Nat.le_of_ble_eq_true q) h
  | false => rfl
theorem insR_len (v : Nat) (l : List Nat) : (insR v l).length = l.length + 1 := by
  induction l with
  | nil => rfl
  | cons x l ih =>
    by_cases h : x ≤ v
    · rw [insR_t h]; rfl
    · rw [insR_f h, List.length_cons, List.length_cons, ih]
noncomputable def frl (l : List Nat) : (List Nat → List Nat) → List Nat := List.rec (motive := fun _ => (List Nat → List Nat) → List Nat) (fun k => k []) (fun x _ ih k => frN x (fun x => ih (fun r => k (x :: r)))) l
theorem frl_e (l : List Nat) : ∀ k : List Nat → List Nat, frl l k = k l := by
  induction l with
  | nil => intro k; rfl
  | cons x l ih =>
    intro k
    show frN x (fun x => frl l (fun r => k (x :: r))) = _
    rw [frN_e]
    exact ih _
noncomputable def isF (l : List Nat) : List Nat → List Nat := List.rec (motive := fun _ => List Nat → List Nat) (fun a => a) (fun v _ ih a => frN v (fun v => frl (insR v a) ih)) l
theorem isF_c (v : Nat) (r a : List Nat) : isF (v :: r) a = isF r (insR v a) := by
  show frN v (fun v => frl (insR v a) (isF r)) = _
  rw [frN_e, frl_e]
theorem isF_len (l : List Nat) : ∀ a : List Nat, (isF l a).length = l.length + a.length := by
  induction l with
  | nil => intro a; exact (Nat.zero_add _).symm
  | cons v r ih =>
    intro a
    rw [isF_c, ih, insR_len, List.length_cons]
    omega
noncomputable def eqN (l : List Nat) : List Nat → Bool := List.rec (motive := fun _ => List Nat → Bool) (fun r => match r with
  | [] => true
  | _ :: _ => false) (fun x _ ih r => match r with
  | [] => false
  | y :: r => match Nat.beq x y with
    | true => ih r
    | false => false) l
theorem eqN_e (l : List Nat) : ∀ r, eqN l r = true → l = r := by
  induction l with
  | nil =>
    intro r h
    cases r with
    | nil => rfl
    | cons y r => cases h
  | cons x l ih =>
    intro r h
    cases r with
    | nil => cases h
    | cons y r =>
      have h : (match Nat.beq x y with
        | true => eqN l r
        | false => false) = true := h
      cases q : Nat.beq x y with
      | false => rw [q] at h; cases h
      | true =>
        rw [q] at h
        rw [Nat.eq_of_beq_eq_true q, ih r h]
noncomputable def rlN (f : Nat → Nat) (n : Nat) : List Nat := Nat.rec (motive := fun _ => List Nat) [] (fun j ih => f j :: ih) n
theorem rlN_len (f : Nat → Nat) (n : Nat) : (rlN f n).length = n := by
  induction n with
  | zero => rfl
  | succ n ih =>
    show (rlN f n).length + 1 = _
    rw [ih]
noncomputable def lstK (m : Nat) : Bool := frN (lnN m) (fun L => frN (pg4 m) (fun P => eqN (isF (enF (fun k => (P >>> (32 * k)) % 4294967296) L L 0 (m - 3)) []) (rlN (fun j => (zget (pg6 m) j).toNat) (pg8 m).toNat)))
theorem lst_tab : ∀ m : Nat, 4 ≤ m → m ≤ 9 → lstK m = true := pg_cases (by decide +kernel) (by decide +kernel) (by decide +kernel) (by decide +kernel) (by decide +kernel) (by decide +kernel)
theorem lst_ok {m : Nat} (h4 : 4 ≤ m) (h9 : m ≤ 9) : isF (enF (xt m) (lnN m) (lnN m) 0 (m - 3)) [] = rlN (fun j => (zget (pg6 m) j).toNat) (pg8 m).toNat := by
  have t := lst_tab m h4 h9
  unfold lstK at t
  rw [frN_e, frN_e] at t
  exact eqN_e _ _ t
/-- an array's places from s on, the last one first -/
def RV (A : Nat) : List Nat → Nat → Prop
  | [], _ => True
  | x :: r, s => zgetL A (s + r.length) = (x : Int) ∧ RV A r s
theorem RV_app {A : Nat} : ∀ (l r : List Nat) (s : Nat), RV A l (s + r.length) → RV A r s → RV A (l ++ r) s := by
  intro l
  induction l with
  | nil => intro r s _ h; exact h
  | cons x l ih =>
    intro r s h1 h2
    refine ⟨?_, ih r s h1.2 h2⟩
    show zgetL A (s + (l ++ r).length) = (x : Int)
    rw [List.length_append, show s + (l.length + r.length) = s + r.length + l.length by omega]
    exact h1.1
theorem RV_fr {A B : Nat} : ∀ (l : List Nat) (s : Nat), RV A l s → (∀ j, s ≤ j → j < s + l.length → zgetL B j = zgetL A j) → RV B l s := by
  intro l
  induction l with
  | nil => intro s _ _; exact True.intro
  | cons x l ih =>
    intro s h1 h2
    rw [List.length_cons] at h2
    exact ⟨(h2 _ (by omega) (by omega)).trans h1.1, ih s h1.2 (fun j a b => h2 j a (by omega))⟩
theorem RV_at {A : Nat} {f : Nat → Nat} : ∀ n : Nat, RV A (rlN f n) 0 → ∀ k, k < n → zgetL A k = (f k : Int) := by
  intro n
  induction n with
  | zero => intro _ k hk; omega
  | succ n ih =>
    intro h k hk
    have h : zgetL A (0 + (rlN f n).length) = (f n : Int) ∧ RV A (rlN f n) 0 := h
    rw [rlN_len, Nat.zero_add] at h
    by_cases e : k = n
    · rw [e]; exact h.1
    · exact ih h.2 k (by omega)
theorem LI_k {m li c : Nat} (h : allF (fun k => decide (zgetL li k = zget (pg6 m) k)) 0 c = true) (hc : pg8 m = (c : Int)) : ∀ k : Nat, (k : Int) < pg8 m → zgetL li k = zget (pg6 m) k := fun k hk => of_decide_eq_true (allF_at h (m := k) (by omega))
def lfP (m : Nat) : Prop := ∀ (ln lf lm lc : Int) (nf ls gr li : Nat) (_ : -2147483648 ≤ lf) (_ : lf ≤ 2147483647) (_ : -2147483648 ≤ lc) (_ : lc ≤ 2147483647) (_ : lf = (m : Int) → LT m ln nf ls gr) (_ : lc = (m : Int) → LI m lm li), Go (fun o => o.2.1 = (m : Int) ∧ LT m o.1 o.2.2.2.2.1 o.2.2.2.2.2.1 o.2.2.2.2.2.2.1 ∧ o.2.2.2.1 = (m : Int) ∧ LI m o.2.2.1 o.2.2.2.2.2.2.2) (zf_X11_listFor ln lf lm lc nf ls gr li (m : Int))
def srI (m : Nat) (ln0 lf0 lm0 lc0 : Int) (nf0 ls0 gr0 li0 : Nat) (n : Nat) (R : List Nat) (lab : Nat) (i1 i2 i3 i5 a b c d : Int) (e f g li : Nat) : Prop := (lab = 0 ∧ i1 = (m : Int) ∧ a = ln0 ∧ b = lf0 ∧ c = lm0 ∧ d = lc0 ∧ e = nf0 ∧ f = ls0 ∧ g = gr0 ∧ li = li0) ∨ (b = (m : Int) ∧ LT m a e f g ∧ c = (n : Int) ∧ d = (m : Int) ∧ ((lab = 34 ∧ ∃ S rest : List Nat, i2 = (S.length : Int) ∧ S.length + rest.length = n ∧ isF rest S = R ∧ RV li S 0 ∧ AP li rest S.length) ∨ (lab = 52 ∧ ∃ (hi lo rest : List Nat) (v : Nat), ¬ zoutL (v : Int) ∧ i3 = (v : Int) ∧ i5 = (lo.length : Int) ∧ i2 = ((hi.length + lo.length : Nat) : Int) ∧ hi.length + lo.length + 1 + rest.length = n ∧ isF rest (hi ++ insR v lo) = R ∧ RV li hi (lo.length + 1) ∧ RV li lo 0 ∧ AP li rest (hi.length + lo.length + 1))))
set_option maxRecDepth 20000 in
set_option maxHeartbeats 4000000 in
theorem ok_lf : ∀ m : Nat, 4 ≤ m → m ≤ 9 → lfP m := by
  intro m h4 h9 ln lf lm lc nf ls gr li hf1 hf2 hd1 hd2 hT hK
  have r7 := rpg7 h4 h9
  have r8 := rpg8 h4 h9
  have ek := lst_ok h4 h9
  obtain ⟨n, en⟩ : ∃ n : Nat, pg8 m = (n : Int) := ⟨(pg8 m).toNat, by omega⟩
  have el : (enF (xt m) (lnN m) (lnN m) 0 (m - 3)).length = n := by
    have := congrArg List.length ek
    rw [isF_len, rlN_len, List.length_nil] at this
    omega
  obtain ⟨⟨a1, b1, e1, f1, g1⟩, ho, q1, q2⟩ := ok_linesOf m h4 h9 ln lf nf ls gr hf1 hf2 hT
  have q1 : b1 = (m : Int) := q1
  have q2 : LT m a1 e1 f1 g1 := q2
  unfold zf_X11_listFor
  refine jok (fun (s : zS_X11_listFor) => match s with | (lab, i1, i2, i3, i5, a, b, c, d, e, f, g, l) => srI m ln lf lm lc nf ls gr li n (rlN (fun j => (zget (pg6 m) j).toNat) n) lab i1 i2 i3 i5 a b c d e f g l) (fun (s : zS_X11_listFor) => match s with | (lab, i1, i2, i3, i5, a, b, c, d, e, f, g, l) => if lab = 0 then 900000 else if lab = 34 then ((500 - i2) * 1000 + 999).toNat else ((500 - i2) * 1000 + i5).toNat) (fun (o : zO_X11_listFor) => o.2.1 = (m : Int) ∧ LT m o.1 o.2.2.2.2.1 o.2.2.2.2.2.1 o.2.2.2.2.2.2.1 ∧ o.2.2.2.1 = (m : Int) ∧ LI m o.2.2.1 o.2.2.2.2.2.2.2) ?_ _ ?_ ?_
  · intro s hI0
    obtain ⟨lab, i1, i2, i3, i5, a, b, c, d, e, f, g, l⟩ := s
    have hI1 : srI m ln lf lm lc nf ls gr li n (rlN (fun j => (zget (pg6 m) j).toNat) n) lab i1 i2 i3 i5 a b c d e f g l := hI0
    unfold srI at hI1
    clear hI0
    rcases hI1 with ⟨rfl, rfl, rfl, rfl, rfl, rfl, rfl, rfl, rfl, rfl⟩ | ⟨rfl, hLT, rfl, rfl, hI2⟩
    · show Go _ (zg_X11_listFor_0 (m : Int) i2 i3 i5 a b c d e f g l)
      unfold zg_X11_listFor_0
      refine Go_bind ho ?_
      refine Go_chk (by unfold zout; omega) ?_
      refine Go_chk (by unfold zout; omega) ?_
      refine Go_ite (fun x => ?_) (fun x => ?_)
      · exact Go_i (show b1 = (m : Int) ∧ LT m a1 e1 f1 g1 ∧ d = (m : Int) ∧ LI m c l from ⟨q1, q2, x, hK x⟩)
      · have gg := grow_ok h4 h9 q2.2.2 9 (m - 3) 0 0 0 l (by omega) (Nat.le_refl _) (Nat.zero_le _) (by decide) (by rw [Nat.sub_zero, el]; omega)
        rw [Nat.sub_zero, el, show (m : Int) - 3 - ((m - 3 : Nat) : Int) = 0 by omega, ← q2.1] at gg
        refine Go_bindP (x := zf_X11_grow 9 a1 (0 : Int) f1 g1 l (m : Int) (0 : Int) (0 : Int) (0 : Int)) gg (fun o q => ?_)
        obtain ⟨p1, _, p3⟩ := q
        rw [Nat.zero_add] at p1
        cases hE : enF (xt m) (lnN m) (lnN m) 0 (m - 3) with
        | nil => rw [hE, List.length_nil] at el; omega
        | cons v rest =>
          rw [hE] at p3 ek el
          rw [List.length_cons] at el
          rw [isF_c] at ek
          refine Go_i (show srI m a b c d e f g l n (rlN (fun j => (zget (pg6 m) j).toNat) n) 34 (m : Int) 1 0 0 a1 b1 o.1 (m : Int) e1 f1 g1 o.2 ∧ ((500 - (1 : Int)) * 1000 + 999).toNat < 900000 from ⟨Or.inr ⟨q1, q2, p1, rfl, Or.inl ⟨rfl, [v], rest, rfl, ?_, ?_, ⟨p3.1, True.intro⟩, p3.2⟩⟩, by decide⟩)
          · show 1 + rest.length = n
            omega
          · rw [show n = (pg8 m).toNat by omega]
            exact ek
    · rcases hI2 with ⟨rfl, S, rest, rfl, v1, v2, v3, v4⟩ | ⟨rfl, hi, lo, rest, v, v0, rfl, rfl, rfl, v1, v2, v3, v4, v5⟩
      · show Go _ (zg_X11_listFor_34 i1 (S.length : Int) i3 i5 a (m : Int) (n : Int) (m : Int) e f g l)
        unfold zg_X11_listFor_34
        refine Go_chk (by unfold zout; omega) ?_
        refine Go_chk (by unfold zout; omega) ?_
        refine Go_ite (fun x => ?_) (fun x => ?_)
        · cases rest with
          | cons y r => rw [List.length_cons] at v1; omega
          | nil =>
            have v2 : S = rlN (fun j => (zget (pg6 m) j).toNat) n := v2
            rw [v2] at v3
            refine Go_i (show (m : Int) = (m : Int) ∧ LT m a e f g ∧ (m : Int) = (m : Int) ∧ ((n : Int) = pg8 m ∧ ∀ k : Nat, (k : Int) < pg8 m → zgetL l k = zget (pg6 m) k) from ⟨rfl, hLT, rfl, en.symm, fun k hk => ?_⟩)
            have t := RV_at n v3 k (by omega)
            have r6 := rpg6 h4 h9 k (by omega)
            rw [t]
            show (((zget (pg6 m) k).toNat : Nat) : Int) = _
            omega
        · cases rest with
          | nil => rw [List.length_nil] at v1; omega
          | cons y r =>
            rw [List.length_cons] at v1
            rw [isF_c] at v2
            have zi := zgetL_in l S.length
            obtain ⟨v5, v6⟩ := v4
            rw [v5] at zi
            refine Go_chk (by omega) ?_
            rw [Int.toNat_natCast, v5]
            exact Go_i (show srI m ln lf lm lc nf ls gr li n (rlN (fun j => (zget (pg6 m) j).toNat) n) 52 0 (S.length : Int) (y : Int) (S.length : Int) a (m : Int) (n : Int) (m : Int) e f g l ∧ ((500 - (S.length : Int)) * 1000 + (S.length : Int)).toNat < ((500 - (S.length : Int)) * 1000 + 999).toNat from ⟨Or.inr ⟨rfl, hLT, rfl, rfl, Or.inr ⟨rfl, [], S, r, y, zi, rfl, rfl, by rw [List.length_nil, Nat.zero_add], by rw [List.length_nil]; omega, v2, True.intro, v3, by rw [List.length_nil, Nat.zero_add]; exact v6⟩⟩, by omega⟩)
      · show Go _ (zg_X11_listFor_52 i1 ((hi.length + lo.length : Nat) : Int) (v : Int) (lo.length : Int) a (m : Int) (n : Int) (m : Int) e f g l)
        unfold zg_X11_listFor_52
        have put : ∀ j, zgetL (zsetL l lo.length (v : Int)) j = if j = lo.length then (v : Int) else zgetL l j := fun j => by rw [zgetL_set, zwL_id v0]
        have fin : insR v lo = v :: lo → srI m ln lf lm lc nf ls gr li n (rlN (fun j => (zget (pg6 m) j).toNat) n) 34 0 (((hi.length + lo.length : Nat) : Int) + 1) (v : Int) (lo.length : Int) a (m : Int) (n : Int) (m : Int) e f g (zsetL l lo.length (v : Int)) ∧ ((500 - (((hi.length + lo.length : Nat) : Int) + 1)) * 1000 + 999).toNat < ((500 - ((hi.length + lo.length : Nat) : Int)) * 1000 + (lo.length : Int)).toNat := by
          intro hv
          rw [hv] at v2
          refine ⟨Or.inr ⟨rfl, hLT, rfl, rfl, Or.inl ⟨rfl, hi ++ v :: lo, rest, ?_, ?_, v2, ?_, ?_⟩⟩, by omega⟩
          · rw [List.length_append, List.length_cons]; omega
          · rw [List.length_append, List.length_cons]; omega
          · refine RV_app hi (v :: lo) 0 ?_ ⟨?_, ?_⟩
            · rw [List.length_cons, Nat.zero_add]
              exact RV_fr _ _ v3 (fun j x y => by rw [put, if_neg (by omega)])
            · rw [put, if_pos (by omega)]
            · exact RV_fr _ _ v4 (fun j x y => by rw [put, if_neg (by omega)])
          · rw [List.length_append, List.length_cons, ← Nat.add_assoc]
            exact AP_fr _ _ v5 (fun j x y => by rw [put, if_neg (by omega)])
        refine Go_chk (by unfold zout; omega) ?_
        refine Go_ite (fun x => ?_) (fun x => ?_)
        · have lo0 : lo = [] := by
            cases lo with
            | nil => rfl
            | cons y r => rw [List.length_cons] at x; omega
          refine Go_chk (by omega) ?_
          rw [Int.toNat_natCast]
          exact Go_i (fin (by rw [lo0]; rfl))
        · cases lo with
          | nil => exact absurd (show ((([] : List Nat).length : Nat) : Int) ≤ 0 by rw [List.length_nil]; decide) x
          | cons y r =>
            rw [List.length_cons] at v1 v3 v5 put fin x ⊢
            obtain ⟨y1, y2⟩ := v4
            rw [Nat.zero_add] at y1
            have zi := zgetL_in l r.length
            rw [y1] at zi
            refine Go_chk (by omega) ?_
            refine Go_chk v0 ?_
            rw [show Int.toNat (((r.length + 1 : Nat) : Int) - (1 : Int)) = r.length by omega, y1, Int.toNat_natCast]
            refine Go_ite (fun z => ?_) (fun z => ?_)
            · refine Go_chk (by omega) ?_
              exact Go_i (fin (insR_t (by omega)))
            · refine Go_chk (by omega) ?_
              rw [insR_f (by omega)] at v2
              have put2 : ∀ j, zgetL (zsetL l (r.length + 1) (y : Int)) j = if j = r.length + 1 then (y : Int) else zgetL l j := fun j => by rw [zgetL_set, zwL_id zi]
              refine Go_i (show srI m ln lf lm lc nf ls gr li n (rlN (fun j => (zget (pg6 m) j).toNat) n) 52 0 ((hi.length + (r.length + 1) : Nat) : Int) (v : Int) (((r.length + 1 : Nat) : Int) + (-1 : Int)) a (m : Int) (n : Int) (m : Int) e f g (zsetL l (r.length + 1) (y : Int)) ∧ ((500 - ((hi.length + (r.length + 1) : Nat) : Int)) * 1000 + (((r.length + 1 : Nat) : Int) + (-1 : Int))).toNat < ((500 - ((hi.length + (r.length + 1) : Nat) : Int)) * 1000 + ((r.length + 1 : Nat) : Int)).toNat from ⟨Or.inr ⟨rfl, hLT, rfl, rfl, Or.inr ⟨rfl, hi ++ [y], r, rest, v, v0, rfl, by omega, ?_, ?_, ?_, ?_, ?_, ?_⟩⟩, by omega⟩)
              · rw [List.length_append, List.length_cons, List.length_nil]; omega
              · rw [List.length_append, List.length_cons, List.length_nil]; omega
              · rw [List.append_assoc]; exact v2
              · refine RV_app hi [y] (r.length + 1) ?_ ⟨?_, True.intro⟩
                · rw [List.length_cons, List.length_nil, Nat.zero_add]
                  exact RV_fr _ _ v3 (fun j x y => by rw [put2, if_neg (by omega)])
                · rw [List.length_nil, put2, if_pos (by omega)]
              · exact RV_fr _ _ y2 (fun j x y => by rw [put2, if_neg (by omega)])
              · rw [List.length_append, List.length_cons, List.length_nil, Nat.zero_add, show hi.length + 1 + r.length + 1 = hi.length + (r.length + 1) + 1 by omega]
                exact AP_fr _ _ v5 (fun j x y => by rw [put2, if_neg (by omega)])
  · exact Or.inl ⟨rfl, rfl, rfl, rfl, rfl, rfl, rfl, rfl, rfl, rfl⟩
  · show 900000 < jfuel
    unfold jfuel
    omega
