/-! the reference's tables of lines -/
def LN (m nf : Nat) (i j : Int) : Prop := ∀ a b : Nat, a < b → b < m → ((a : Int) < i ∨ ((a : Int) = i ∧ (b : Int) < j)) → zget nf (10 * a + b) = zget (pg3 m) (9 * a + b) ∧ zget nf (10 * b + a) = zget (pg3 m) (9 * b + a)
def LL (m ls gr : Nat) (c : Int) : Prop := ∀ l : Nat, (l : Int) < c → zget ls l = zget (pg1 m) l ∧ zget gr l = zget (pg2 m) l
def LT (m : Nat) (ln : Int) (nf ls gr : Nat) : Prop := ln = pg7 m ∧ LN m nf m 0 ∧ LL m ls gr (pg7 m)
noncomputable def rcF (m i j : Nat) : Nat := Nat.rec 0 (fun l ih => match decide ((l : Int) < pg7 m ∧ (zget (pg1 m) l < (i : Int) ∨ (zget (pg1 m) l = (i : Int) ∧ zget (pg2 m) l < (j : Int)))) with
  | true => ih + 1
  | false => ih) 27
noncomputable def lineC (m i j : Nat) : Prop := zget (pg3 m) (9 * i + j) = zget (pg3 m) (9 * j + i) ∧ zf_X11_isLine (m : Int) (i : Int) (j : Int) = some (decide (0 ≤ zget (pg3 m) (9 * i + j))) ∧ (0 ≤ zget (pg3 m) (9 * i + j) → zget (pg3 m) (9 * i + j) = (rcF m i j : Int) ∧ rcF m i (j + 1) = rcF m i j + 1 ∧ zget (pg1 m) (rcF m i j) = (i : Int) ∧ zget (pg2 m) (rcF m i j) = (j : Int) ∧ rcF m i j < 27) ∧ (zget (pg3 m) (9 * i + j) < 0 → zget (pg3 m) (9 * i + j) = -1 ∧ rcF m i (j + 1) = rcF m i j)
noncomputable def lineK (m i j : Nat) : Bool := match decide (i < j ∧ j < m) with
  | false => true
  | true => decide (zget (pg3 m) (9 * i + j) = zget (pg3 m) (9 * j + i) ∧ zf_X11_isLine (m : Int) (i : Int) (j : Int) = some (decide (0 ≤ zget (pg3 m) (9 * i + j))) ∧ (0 ≤ zget (pg3 m) (9 * i + j) → zget (pg3 m) (9 * i + j) = (rcF m i j : Int) ∧ rcF m i (j + 1) = rcF m i j + 1 ∧ zget (pg1 m) (rcF m i j) = (i : Int) ∧ zget (pg2 m) (rcF m i j) = (j : Int) ∧ rcF m i j < 27) ∧ (zget (pg3 m) (9 * i + j) < 0 → zget (pg3 m) (9 * i + j) = -1 ∧ rcF m i (j + 1) = rcF m i j))
theorem line_tab : ∀ m : Nat, 4 ≤ m → m ≤ 9 → allF (fun i => allF (fun j => lineK m i j) 0 9) 0 9 = true := pg_cases (by decide +kernel) (by decide +kernel) (by decide +kernel) (by decide +kernel) (by decide +kernel) (by decide +kernel)
theorem line_c {m i j : Nat} (h4 : 4 ≤ m) (h9 : m ≤ 9) (hij : i < j) (hj : j < m) : lineC m i j := by
  have t := allF_at (allF_at (line_tab m h4 h9) (m := i) (by omega)) (m := j) (by omega)
  have t : lineK m i j = true := t
  unfold lineK at t
  rw [decide_eq_true (show i < j ∧ j < m from ⟨hij, hj⟩)] at t
  unfold lineC
  exact of_decide_eq_true t
theorem rc_tab : ∀ m : Nat, 4 ≤ m → m ≤ 9 → (allF (fun i => decide (i < m → rcF m i m = rcF m (i + 1) (i + 2))) 0 9 = true ∧ rcF m 0 1 = 0 ∧ (rcF m m (m + 1) : Int) = pg7 m) := pg_cases (by decide +kernel) (by decide +kernel) (by decide +kernel) (by decide +kernel) (by decide +kernel) (by decide +kernel)
theorem rc_row {m i : Nat} (h4 : 4 ≤ m) (h9 : m ≤ 9) (hi : i < m) : rcF m i m = rcF m (i + 1) (i + 2) := of_decide_eq_true (allF_at (rc_tab m h4 h9).1 (m := i) (by omega)) hi
theorem LN_w {m nf nf' : Nat} {i j : Int} (h9 : m ≤ 9) (h : LN m nf i j) (h0 : 0 ≤ i) (hij : i < j) (hj : j < (m : Int)) (hp : zget nf' (Int.toNat (10 * i + j)) = zget (pg3 m) (9 * i.toNat + j.toNat)) (hq : zget nf' (Int.toNat (10 * j + i)) = zget (pg3 m) (9 * j.toNat + i.toNat)) (ho : ∀ k, ¬ k = Int.toNat (10 * i + j) → ¬ k = Int.toNat (10 * j + i) → zget nf' k = zget nf k) : LN m nf' i (j + 1) := by
  intro a b hab hb hl
  by_cases e : (a : Int) = i ∧ (b : Int) = j
  · have ea : a = i.toNat := by omega
    have eb : b = j.toNat := by omega
    have e1 : 10 * a + b = Int.toNat (10 * i + j) := by omega
    have e2 : 10 * b + a = Int.toNat (10 * j + i) := by omega
    rw [e1, e2, hp, hq, ea, eb]
    exact ⟨rfl, rfl⟩
  · rw [ho (10 * a + b) (by omega) (by omega), ho (10 * b + a) (by omega) (by omega)]
    exact h a b hab hb (by omega)
theorem LN_row {m nf : Nat} {i j : Int} (h : LN m nf i j) (hj : (m : Int) ≤ j) : LN m nf (i + 1) 0 := by
  intro a b hab hb hl
  exact h a b hab hb (by omega)
theorem LL_w {m ls gr : Nat} {c v w : Int} (h : LL m ls gr c) (h0 : 0 ≤ c) (hc : c < 27) (hv : v = zget (pg1 m) c.toNat) (hw : w = zget (pg2 m) c.toNat) (zv : ¬ zout v) (zw' : ¬ zout w) : LL m (zset ls (Int.toNat c) v) (zset gr (Int.toNat c) w) (c + 1) := by
  intro l hl
  rw [zget_set, zget_set]
  by_cases e : l = Int.toNat c
  · rw [if_pos e, if_pos e, zw_id zv, zw_id zw', hv, hw, e]
    exact ⟨rfl, rfl⟩
  · rw [if_neg e, if_neg e]
    exact h l (by omega)
set_option maxRecDepth 20000 in
theorem ok_linesOf (m : Nat) (h4 : 4 ≤ m) (h9 : m ≤ 9) (ln lf : Int) (nf ls gr : Nat) (hf1 : -2147483648 ≤ lf) (hf2 : lf ≤ 2147483647) (h : lf = (m : Int) → LT m ln nf ls gr) : Go (fun o => o.2.1 = (m : Int) ∧ LT m o.1 o.2.2.1 o.2.2.2.1 o.2.2.2.2) (zf_X11_linesOf ln lf nf ls gr (m : Int)) := by
  have g7 := rpg7 h4 h9
  obtain ⟨-, r0, rE⟩ := rc_tab m h4 h9
  unfold zf_X11_linesOf
  refine jok (fun (s : zS_X11_linesOf) => match s with | (lab, i1', i2', i3', ln', lf', nf', ls', gr') => (lab = 0 ∧ i1' = (m : Int) ∧ ln' = ln ∧ lf' = lf ∧ nf' = nf ∧ ls' = ls ∧ gr' = gr) ∨ (lab = 21 ∧ i1' = (m : Int) ∧ lf' = (m : Int) ∧ 0 ≤ i2' ∧ i2' ≤ (m : Int) ∧ ln' = (rcF m i2'.toNat (i2'.toNat + 1) : Int) ∧ LN m nf' i2' 0 ∧ LL m ls' gr' ln') ∨ (lab = 30 ∧ i1' = (m : Int) ∧ lf' = (m : Int) ∧ 0 ≤ i2' ∧ i2' < i3' ∧ i3' ≤ (m : Int) ∧ ln' = (rcF m i2'.toNat i3'.toNat : Int) ∧ LN m nf' i2' i3' ∧ LL m ls' gr' ln')) (fun (s : zS_X11_linesOf) => match s with | (lab, i1', i2', i3', ln', lf', nf', ls', gr') => if lab = 0 then 5000 else if lab = 21 then (100 * (20 - i2') + 50).toNat else if lab = 30 then (100 * (20 - i2') + 20 - i3').toNat else 0) (fun (o : zO_X11_linesOf) => o.2.1 = (m : Int) ∧ LT m o.1 o.2.2.1 o.2.2.2.1 o.2.2.2.2) ?_ _ ?_ ?_
  · intro s hI
    obtain ⟨lab, i1', i2', i3', ln', lf', nf', ls', gr'⟩ := s
    have hI : (lab = 0 ∧ i1' = (m : Int) ∧ ln' = ln ∧ lf' = lf ∧ nf' = nf ∧ ls' = ls ∧ gr' = gr) ∨ (lab = 21 ∧ i1' = (m : Int) ∧ lf' = (m : Int) ∧ 0 ≤ i2' ∧ i2' ≤ (m : Int) ∧ ln' = (rcF m i2'.toNat (i2'.toNat + 1) : Int) ∧ LN m nf' i2' 0 ∧ LL m ls' gr' ln') ∨ (lab = 30 ∧ i1' = (m : Int) ∧ lf' = (m : Int) ∧ 0 ≤ i2' ∧ i2' < i3' ∧ i3' ≤ (m : Int) ∧ ln' = (rcF m i2'.toNat i3'.toNat : Int) ∧ LN m nf' i2' i3' ∧ LL m ls' gr' ln') := hI
    rcases hI with ⟨rfl, rfl, rfl, rfl, rfl, rfl, rfl⟩ | ⟨rfl, rfl, rfl, v3, v4, v5, v6, v7⟩ | ⟨rfl, rfl, rfl, v3, v4, v5, v6, v7, v8⟩
    · show Go _ (zg_X11_linesOf_0 (m : Int) i2' i3' ln' lf' nf' ls' gr')
      unfold zg_X11_linesOf_0
      refine Go_chk (by unfold zout; omega) ?_
      refine Go_chk (by unfold zout; omega) ?_
      refine Go_ite (fun c => ?_) (fun c => ?_)
      · exact Go_i (show lf' = (m : Int) ∧ LT m ln' nf' ls' gr' from ⟨c, h c⟩)
      · refine Go_i (show ((((21 : Nat) = 0 ∧ _) ∨ ((21 : Nat) = 21 ∧ (m : Int) = (m : Int) ∧ (m : Int) = (m : Int) ∧ (0 : Int) ≤ 0 ∧ (0 : Int) ≤ (m : Int) ∧ (0 : Int) = (rcF m (0 : Int).toNat ((0 : Int).toNat + 1) : Int) ∧ LN m nf' 0 0 ∧ LL m ls' gr' 0) ∨ _) ∧ (100 * (20 - (0 : Int)) + 50).toNat < 5000) from ⟨Or.inr (Or.inl ⟨rfl, rfl, rfl, by omega, by omega, ?_, ?_, ?_⟩), by omega⟩)
        · show (0 : Int) = (rcF m 0 1 : Int)
          rw [r0]; rfl
        · intro a b _ _ hl; omega
        · intro l hl; omega
    · show Go _ (zg_X11_linesOf_21 (m : Int) i2' i3' ln' (m : Int) nf' ls' gr')
      unfold zg_X11_linesOf_21
      refine Go_chk (by unfold zout; omega) ?_
      refine Go_chk (by unfold zout; omega) ?_
      refine Go_ite (fun c => ?_) (fun c => ?_)
      · have e : i2' = (m : Int) := by omega
        subst e
        have e2 : ln' = pg7 m := by rw [v5]; exact rE
        subst e2
        exact Go_i (show (m : Int) = (m : Int) ∧ LT m (pg7 m) nf' ls' gr' from ⟨rfl, rfl, v6, v7⟩)
      · refine Go_i (show (_ ∨ _ ∨ ((30 : Nat) = 30 ∧ (m : Int) = (m : Int) ∧ (m : Int) = (m : Int) ∧ 0 ≤ i2' ∧ i2' < i2' + 1 ∧ i2' + 1 ≤ (m : Int) ∧ ln' = (rcF m i2'.toNat (i2' + 1).toNat : Int) ∧ LN m nf' i2' (i2' + 1) ∧ LL m ls' gr' ln')) ∧ (100 * (20 - i2') + 20 - (i2' + 1)).toNat < (100 * (20 - i2') + 50).toNat from ⟨Or.inr (Or.inr ⟨rfl, rfl, rfl, v3, by omega, by omega, ?_, ?_, v7⟩), by omega⟩)
        · rw [v5, show (i2' + 1).toNat = i2'.toNat + 1 by omega]
        · intro a b hab hb hl
          exact v6 a b hab hb (by omega)
    · show Go _ (zg_X11_linesOf_30 (m : Int) i2' i3' ln' (m : Int) nf' ls' gr')
      unfold zg_X11_linesOf_30
      refine Go_chk (by unfold zout; omega) ?_
      refine Go_chk (by unfold zout; omega) ?_
      refine Go_ite (fun c => ?_) (fun c => ?_)
      · refine Go_i (show (_ ∨ ((21 : Nat) = 21 ∧ (m : Int) = (m : Int) ∧ (m : Int) = (m : Int) ∧ 0 ≤ i2' + 1 ∧ i2' + 1 ≤ (m : Int) ∧ ln' = (rcF m (i2' + 1).toNat ((i2' + 1).toNat + 1) : Int) ∧ LN m nf' (i2' + 1) 0 ∧ LL m ls' gr' ln') ∨ _) ∧ (100 * (20 - (i2' + 1)) + 50).toNat < (100 * (20 - i2') + 20 - i3').toNat from ⟨Or.inr (Or.inl ⟨rfl, rfl, rfl, by omega, by omega, ?_, LN_row v7 c, v8⟩), by omega⟩)
        rw [v6, show i3'.toNat = m by omega, rc_row h4 h9 (by omega), show (i2' + 1).toNat = i2'.toNat + 1 by omega]
      · refine Go_chk (by omega) ?_
        refine Go_chk (by omega) ?_
        have hij : i2'.toNat < i3'.toNat := by omega
        obtain ⟨k1, k2, k3, k4⟩ := line_c h4 h9 hij (show i3'.toNat < m by omega)
        have e2 : ((i2'.toNat : Nat) : Int) = i2' := by omega
        have e3 : ((i3'.toNat : Nat) : Int) = i3' := by omega
        rw [e2, e3] at k2
        refine Go_bind k2 ?_
        refine Go_ite (fun q => ?_) (fun q => ?_)
        · have q : zget (pg3 m) (9 * i2'.toNat + i3'.toNat) < 0 := by
            have := of_decide_eq_false q
            omega
          obtain ⟨n1, n2⟩ := k4 q
          refine Go_i (show (_ ∨ _ ∨ ((30 : Nat) = 30 ∧ (m : Int) = (m : Int) ∧ (m : Int) = (m : Int) ∧ 0 ≤ i2' ∧ i2' < i3' + 1 ∧ i3' + 1 ≤ (m : Int) ∧ ln' = (rcF m i2'.toNat (i3' + 1).toNat : Int) ∧ LN m (zset (zset nf' (Int.toNat (((10 : Int) * i2') + i3')) (-1 : Int)) (Int.toNat (((10 : Int) * i3') + i2')) (-1 : Int)) i2' (i3' + 1) ∧ LL m ls' gr' ln')) ∧ (100 * (20 - i2') + 20 - (i3' + 1)).toNat < (100 * (20 - i2') + 20 - i3').toNat from ⟨Or.inr (Or.inr ⟨rfl, rfl, rfl, v3, by omega, by omega, ?_, ?_, v8⟩), by omega⟩)
          · rw [v6, show (i3' + 1).toNat = i3'.toNat + 1 by omega, n2]
          · refine LN_w h9 v7 v3 v4 (by omega) ?_ ?_ ?_
            · rw [zget_set, if_neg (by omega), zget_set, if_pos rfl, n1]; decide
            · rw [zget_set, if_pos rfl, ← k1, n1]; decide
            · intro k c1 c2
              rw [zget_set, if_neg c2, zget_set, if_neg c1]
        · have q : 0 ≤ zget (pg3 m) (9 * i2'.toNat + i3'.toNat) := of_decide_eq_true (bnf q)
          obtain ⟨n1, n2, n3, n4, n5⟩ := k3 q
          have hl : ln' = ((rcF m i2'.toNat i3'.toNat : Nat) : Int) := v6
          have hz : ¬ zout ln' := by unfold zout; omega
          refine Go_chk (by omega) ?_
          refine Go_i (show (_ ∨ _ ∨ ((30 : Nat) = 30 ∧ (m : Int) = (m : Int) ∧ (m : Int) = (m : Int) ∧ 0 ≤ i2' ∧ i2' < i3' + 1 ∧ i3' + 1 ≤ (m : Int) ∧ ln' + 1 = (rcF m i2'.toNat (i3' + 1).toNat : Int) ∧ LN m (zset (zset (zset (zset nf' (Int.toNat (((10 : Int) * i2') + i3')) (-1 : Int)) (Int.toNat (((10 : Int) * i3') + i2')) (-1 : Int)) (Int.toNat (((10 : Int) * i2') + i3')) ln') (Int.toNat (((10 : Int) * i3') + i2')) ln') i2' (i3' + 1) ∧ LL m (zset ls' (Int.toNat ln') i2') (zset gr' (Int.toNat ln') i3') (ln' + 1))) ∧ (100 * (20 - i2') + 20 - (i3' + 1)).toNat < (100 * (20 - i2') + 20 - i3').toNat from ⟨Or.inr (Or.inr ⟨rfl, rfl, rfl, v3, by omega, by omega, ?_, ?_, ?_⟩), by omega⟩)
          · rw [hl, show (i3' + 1).toNat = i3'.toNat + 1 by omega, n2]; rfl
          · refine LN_w h9 v7 v3 v4 (by omega) ?_ ?_ ?_
            · rw [zget_set, if_neg (by omega), zget_set, if_pos rfl, zw_id hz, n1, hl]
            · rw [zget_set, if_pos rfl, zw_id hz, ← k1, n1, hl]
            · intro k c1 c2
              rw [zget_set, if_neg c2, zget_set, if_neg c1, zget_set, if_neg c2, zget_set, if_neg c1]
          · refine LL_w v8 (by omega) (by omega) ?_ ?_ (by unfold zout; omega) (by unfold zout; omega)
            · rw [show ln'.toNat = rcF m i2'.toNat i3'.toNat by omega, n3]; omega
            · rw [show ln'.toNat = rcF m i2'.toNat i3'.toNat by omega, n4]; omega
  · exact Or.inl ⟨rfl, rfl, rfl, rfl, rfl, rfl, rfl⟩
  · show 5000 < jfuel
    unfold jfuel
    omega
