/-! flipped of a cut: by the kernel -/
noncomputable def bitK (m k l : Nat) : Bool := decide (zandL (zshrL (zget (pg6 m) k) (l : Int)) 1 = zand (zshr (zget (pg6 m) k) (l : Int)) 1 ∧ (zand (zshr (zget (pg6 m) k) (l : Int)) 1 = 0 ∨ zand (zshr (zget (pg6 m) k) (l : Int)) 1 = 1))
theorem bit_tab : ∀ m : Nat, 4 ≤ m → m ≤ 9 → allF (fun k => allF (fun l => bitK m k l) 0 27) 0 (pg8 m).toNat = true := pg_cases (by decide +kernel) (by decide +kernel) (by decide +kernel) (by decide +kernel) (by decide +kernel) (by decide +kernel)
theorem bit_eq {m : Nat} (h4 : 4 ≤ m) (h9 : m ≤ 9) {c : Int} (hc : isCut m c) {l : Int} (h0 : 0 ≤ l) (h : l < 27) : zandL (zshrL c l) 1 = zand (zshr c l) 1 ∧ (zand (zshr c l) 1 = 0 ∨ zand (zshr c l) 1 = 1) := by
  obtain ⟨k, hk, rfl⟩ := hc
  have t := of_decide_eq_true (allF_at (allF_at (bit_tab m h4 h9) (m := k) (by omega)) (m := l.toNat) (by omega))
  rw [show ((l.toNat : Nat) : Int) = l by omega] at t
  exact t
noncomputable def flK (m k i j : Nat) : Bool := match decide (i < m ∧ j < m ∧ 0 ≤ zget (pg3 m) (9 * i + j) ∧ ¬ zand (zshr (zget (pg6 m) k) (zget (pg3 m) (9 * i + j))) 1 = 0) with
  | false => true
  | true => match zf_X5_otherLine m (zget (pg6 m) k) (zget (pg3 m) (9 * i + j)) with
    | none => false
    | some o => decide (0 ≤ o ∧ o < pg7 m ∧ (flN m (zget (pg6 m) k) i j m).1 = zget (pg1 m) o.toNat ∧ (flN m (zget (pg6 m) k) i j m).2 = zget (pg2 m) o.toNat ∧ zget (pg1 m) o.toNat < zget (pg2 m) o.toNat ∧ zget (pg3 m) (9 * (zget (pg1 m) o.toNat).toNat + (zget (pg2 m) o.toNat).toNat) = o ∧ zorL (zandL (zget (pg6 m) k) (zxorL (zshlL 1 (zget (pg3 m) (9 * i + j))) (-1))) (zshlL 1 o) = flipN (zget (pg6 m) k) (zget (pg3 m) (9 * i + j)) o)
