noncomputable def flipN (b l o : Int) : Int := zor (zand b (zxor (zshl (1 : Int) l) (-1 : Int))) (zshl (1 : Int) o)
noncomputable def flipChk (n k l : Nat) : Bool := match decide (zand (zshr (zget (pg6 n) k) (l : Int)) 1 = 0) with
  | true => true
  | false => match zf_X5_otherLine n (zget (pg6 n) k) (l : Int) with
    | none => false
    | some o => match zf_X5_numberOf n (flipN (zget (pg6 n) k) (l : Int) o) with
      | none => false
      | some r => decide (0 ≤ r ∧ r < pg8 n ∧ zget (pg6 n) r.toNat = flipN (zget (pg6 n) k) (l : Int) o)
theorem flip_tab : ∀ n : Nat, 4 ≤ n → n ≤ 9 → allF (fun k => allF (fun l => flipChk n k l) 0 27) 0 (pg8 n).toNat = true := pg_cases (by decide +kernel) (by decide +kernel) (by decide +kernel) (by decide +kernel) (by decide +kernel) (by decide +kernel)
theorem flip_ok {n : Nat} (h4 : 4 ≤ n) (h9 : n ≤ 9) {b : Int} (hb : isCut n b) {l : Int} (h0 : 0 ≤ l) (h : l < 27) (hbit : ¬ zand (zshr b l) 1 = 0) : ∃ o, zf_X5_otherLine n b l = some o ∧ isCut n (flipN b l o) := by
  obtain ⟨k, hk, rfl⟩ := hb
  have t := allF_at (allF_at (flip_tab n h4 h9) (m := k) (by omega)) (m := l.toNat) (by omega)
  have e : ((l.toNat : Nat) : Int) = l := by omega
  have t : flipChk n k l.toNat = true := t
  unfold flipChk at t
  rw [e, decide_eq_false hbit] at t
  revert t
  cases ho : zf_X5_otherLine n (zget (pg6 n) k) l with
  | none => intro t; cases t
  | some o =>
    intro t
    refine ⟨o, rfl, ?_⟩
    revert t
    cases hr : zf_X5_numberOf n (flipN (zget (pg6 n) k) l o) with
    | none => intro t; simp only [hr] at t; cases t
    | some r =>
      intro t
      simp only [hr] at t
      have q := of_decide_eq_true t
      exact ⟨r.toNat, by omega, q.2.2.symm⟩
