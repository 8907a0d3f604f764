/-! flipped of a cut: by the kernel -/
noncomputable def bitK (m k l : Nat) : Bool := decide (zandL (zshrL (zget (pg6 m) k) (l : Int)) 1 = zand (zshr (zget (pg6 m) k) (l : Int)) 1 ∧ (zand (zshr (zget (pg6 m) k) (l : Int)) 1 = 0 ∨ zand (zshr (zget (pg6 m) k) (l : Int)) 1 = 1))
theorem bit_tab : ∀ m : Nat, 4 ≤ m → m ≤ 9 → allF (fun k => allF (fun l => bitK m k l) 0 27) 0 (pg8 m).toNat = true := pg_cases (by decide +kernel) (by decide +kernel) (by decide +kernel) (by decide +kernel) (by decide +kernel) (by decide +kernel)
theorem bit_eq {m : Nat} (h4 : 4 ≤ m) (h9 : m ≤ 9) {c : Int} (hc : isCut m c) {l : Int} (h0 : 0 ≤ l) (h : l < 27) : zandL (zshrL c l) 1 = zand (zshr c l) 1 ∧ (zand (zshr c l) 1 = 0 ∨ zand (zshr c l) 1 = 1) := by
  obtain ⟨k, hk, rfl⟩ := hc
  have t := of_decide_eq_true (allF_at (allF_at (bit_tab m h4 h9) (m := k) (by omega)) (m := l.toNat) (by omega))
  rw [show ((l.toNat : Nat) : Int) = l by omega] at t
  exact t
noncomputable def flK (m k i j : Nat) : Bool := match decide (i < m ∧ j < m ∧ 0 ≤ zget (pg3 m) (9 * i + j) ∧ ¬ zand (zshr (zget (pg6 m) k) (zget (pg3 m) (9 * i + j))) 1 = 0) with
  | false => true
  | true => match zf_X5_otherLine m (zget (pg6 m) k) (zget (pg3 m) (9 * i + j)) with
    | none => false
    | some o => decide (0 ≤ o ∧ o < pg7 m ∧ (flN m (zget (pg6 m) k) i j m).1 = zget (pg1 m) o.toNat ∧ (flN m (zget (pg6 m) k) i j m).2 = zget (pg2 m) o.toNat ∧ zget (pg1 m) o.toNat < zget (pg2 m) o.toNat ∧ zget (pg3 m) (9 * (zget (pg1 m) o.toNat).toNat + (zget (pg2 m) o.toNat).toNat) = o ∧ zorL (zandL (zget (pg6 m) k) (zxorL (zshlL 1 (zget (pg3 m) (9 * i + j))) (-1))) (zshlL 1 o) = flipN (zget (pg6 m) k) (zget (pg3 m) (9 * i + j)) o)
theorem fl_tab : ∀ m : Nat, 4 ≤ m → m ≤ 9 → allF (fun k => allF (fun i => allF (fun j => flK m k i j) 0 9) 0 9) 0 (pg8 m).toNat = true := pg_cases (by decide +kernel) (by decide +kernel) (by decide +kernel) (by decide +kernel) (by decide +kernel) (by decide +kernel)
theorem fl_ok {m : Nat} (h4 : 4 ≤ m) (h9 : m ≤ 9) {nf : Nat} (hn : LN m nf m 0) {c : Int} (hc : isCut m c) {p q : Nat} (hp : p < m) (hq : q < m) (hpq : ¬ p = q) (hl : 0 ≤ zget (pg3 m) (9 * p + q)) (hbit : ¬ zandL (zshrL c (zget (pg3 m) (9 * p + q))) 1 = 0) (f1 f2 : Int) : ∃ o, zf_X5_otherLine m c (zget (pg3 m) (9 * p + q)) = some o ∧ 0 ≤ o ∧ o < pg7 m ∧ isCut m (flipN c (zget (pg3 m) (9 * p + q)) o) ∧ zf_X11_flipped f1 f2 nf (m : Int) c (p : Int) (q : Int) = some (flipN c (zget (pg3 m) (9 * p + q)) o, zget (pg1 m) o.toNat, zget (pg2 m) o.toNat) := by
  have r3 := rpg3 h4 h9 (9 * p + q) (by omega)
  have hb := (bit_eq h4 h9 hc hl (by omega)).1
  rw [hb] at hbit
  obtain ⟨o', ho', hcut⟩ := flip_ok h4 h9 hc hl (by omega) hbit
  obtain ⟨k, hk, rfl⟩ := hc
  have t := allF_at (allF_at (allF_at (fl_tab m h4 h9) (m := k) (by omega)) (m := p) (by omega)) (m := q) (by omega)
  replace t : flK m k p q = true := t
  unfold flK at t
  rw [decide_eq_true ⟨hp, hq, hl, hbit⟩, ho'] at t
  obtain ⟨a1, a2, a3, a4, a5, a6, a7⟩ := of_decide_eq_true t
  have r1 := rpg1 h4 h9 o'.toNat (by have := (rpg7 h4 h9).2; omega)
  obtain ⟨x, hx, e⟩ := fl_run m h4 h9 hn (zget (pg6 m) k) hp hq f1 f2 (by omega) (by omega) (by omega)
  refine ⟨o', ho', a1, a2, hcut, ?_⟩
  rw [hx, e, a3, a4, a6, LN_get hn hp hq hpq, a7]
noncomputable def symK (m k l : Nat) : Bool := match decide (zand (zshr (zget (pg6 m) k) (l : Int)) 1 = 0) with
  | true => true
  | false => match zf_X5_otherLine m (zget (pg6 m) k) (l : Int) with
    | none => false
    | some o => match zf_X5_otherLine m (flipN (zget (pg6 m) k) (l : Int) o) o with
      | none => false
      | some r => decide (r = (l : Int) ∧ 0 ≤ o ∧ o < pg7 m ∧ flipN (flipN (zget (pg6 m) k) (l : Int) o) o r = zget (pg6 m) k ∧ ¬ zand (zshr (flipN (zget (pg6 m) k) (l : Int) o) o) 1 = 0)
theorem sym_tab : ∀ m : Nat, 4 ≤ m → m ≤ 9 → allF (fun k => allF (fun l => symK m k l) 0 (pg7 m).toNat) 0 (pg8 m).toNat = true := pg_cases (by decide +kernel) (by decide +kernel) (by decide +kernel) (by decide +kernel) (by decide +kernel) (by decide +kernel)
/-- c' is a flip of c -/
def FR (m : Nat) (c c' : Int) : Prop := ∃ l o : Int, 0 ≤ l ∧ l < pg7 m ∧ ¬ zand (zshr c l) 1 = 0 ∧ zf_X5_otherLine m c l = some o ∧ c' = flipN c l o
theorem FR_sym {m : Nat} (h4 : 4 ≤ m) (h9 : m ≤ 9) {c c' : Int} (hc : isCut m c) (h : FR m c c') : FR m c' c := by
  obtain ⟨l, o, h0, h1, hb, ho, rfl⟩ := h
  obtain ⟨k, hk, rfl⟩ := hc
  have t := allF_at (allF_at (sym_tab m h4 h9) (m := k) (by omega)) (m := l.toNat) (by omega)
  replace t : symK m k l.toNat = true := t
  unfold symK at t
  rw [show ((l.toNat : Nat) : Int) = l by omega, decide_eq_false hb, ho] at t
  revert t
  simp only []
  cases hr : zf_X5_otherLine m (flipN (zget (pg6 m) k) l o) o with
  | none => intro t; cases t
  | some r =>
    intro t
    obtain ⟨a1, a2, a3, a4, a5⟩ := of_decide_eq_true t
    exact ⟨o, r, a2, a3, a5, hr, a4.symm⟩
