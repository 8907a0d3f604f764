noncomputable def symK (m k l : Nat) : Bool := match decide (zand (zshr (zget (pg6 m) k) (l : Int)) 1 = 0) with
  | true => true
  | false => match zf_X5_otherLine m (zget (pg6 m) k) (l : Int) with
    | none => false
    | some o => match zf_X5_otherLine m (flipN (zget (pg6 m) k) (l : Int) o) o with
      | none => false
      | some r => decide (r = (l : Int) ∧ 0 ≤ o ∧ o < pg7 m ∧ flipN (flipN (zget (pg6 m) k) (l : Int) o) o r = zget (pg6 m) k ∧ ¬ zand (zshr (flipN (zget (pg6 m) k) (l : Int) o) o) 1 = 0)
theorem sym_tab : ∀ m : Nat, 4 ≤ m → m ≤ 9 → allF (fun k => allF (fun l => symK m k l) 0 (pg7 m).toNat) 0 (pg8 m).toNat = true := pg_cases (by decide +kernel) (by decide +kernel) (by decide +kernel) (by decide +kernel) (by decide +kernel) (by decide +kernel)
/-- c' is a flip of c -/
def FR (m : Nat) (c c' : Int) : Prop := ∃ l o : Int, 0 ≤ l ∧ l < pg7 m ∧ ¬ zand (zshr c l) 1 = 0 ∧ zf_X5_otherLine m c l = some o ∧ c' = flipN c l o
theorem FR_sym {m : Nat} (h4 : 4 ≤ m) (h9 : m ≤ 9) {c c' : Int} (hc : isCut m c) (h : FR m c c') : FR m c' c := by
  obtain ⟨l, o, h0, h1, hb, ho, rfl⟩ := h
  obtain ⟨k, hk, rfl⟩ := hc
  have t := allF_at (allF_at (sym_tab m h4 h9) (m := k) (by omega)) (m := l.toNat) (by omega)
  replace t : symK m k l.toNat = true := t
  unfold symK at t
  rw [show ((l.toNat : Nat) : Int) = l by omega, decide_eq_false hb, ho] at t
  revert t
  simp only []
  cases hr : zf_X5_otherLine m (flipN (zget (pg6 m) k) l o) o with
  | none => intro t; cases t
  | some r =>
    intro t
    obtain ⟨a1, a2, a3, a4, a5⟩ := of_decide_eq_true t
    exact ⟨o, r, a2, a3, a5, hr, a4.symm⟩
