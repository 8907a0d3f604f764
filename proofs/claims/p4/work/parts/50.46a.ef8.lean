noncomputable def entK (m k i : Nat) : Bool := match jrun zg_X11_entriesFrom 999999999 (9, (m : Int), zget (pg6 m) k, (i : Int), 0, 0, 0, (m : Int), nfC m, 0, 0, sl (trA m) k, sl (trB m) k, sl (trC m) k, 0) with
  | none => false
  | some o => allF (fun j => match zf_X5_entryOf m (zget (pg6 m) k) (i : Int) (j : Int) with
    | none => false
    | some r => decide (zget o.2.2.2.2.2.2.2.2 j = r ∧ 0 ≤ r ∧ r ≤ 21)) 0 m
theorem tk4_0 : allF (fun k => (trK 4 (zget (pg6 4) k) (sl (trA 4) k) (sl (trB 4) k) (sl (trC 4) k) 729).1) 0 2 = true := by decide +kernel
theorem ek4_0 : allF (fun k => allF (fun i => entK 4 k i) 0 4) 0 2 = true := by decide +kernel
theorem tk5_0 : allF (fun k => (trK 5 (zget (pg6 5) k) (sl (trA 5) k) (sl (trB 5) k) (sl (trC 5) k) 729).1) 0 5 = true := by decide +kernel
theorem ek5_0 : allF (fun k => allF (fun i => entK 5 k i) 0 5) 0 5 = true := by decide +kernel
theorem tk6_0 : allF (fun k => (trK 6 (zget (pg6 6) k) (sl (trA 6) k) (sl (trB 6) k) (sl (trC 6) k) 729).1) 0 14 = true := by decide +kernel
theorem ek6_0 : allF (fun k => allF (fun i => entK 6 k i) 0 6) 0 14 = true := by decide +kernel
theorem tk7_0 : allF (fun k => (trK 7 (zget (pg6 7) k) (sl (trA 7) k) (sl (trB 7) k) (sl (trC 7) k) 729).1) 0 42 = true := by decide +kernel
theorem ek7_0 : allF (fun k => allF (fun i => entK 7 k i) 0 7) 0 42 = true := by decide +kernel
theorem tk8_0 : allF (fun k => (trK 8 (zget (pg6 8) k) (sl (trA 8) k) (sl (trB 8) k) (sl (trC 8) k) 729).1) 0 60 = true := by decide +kernel
theorem ek8_0 : allF (fun k => allF (fun i => entK 8 k i) 0 8) 0 60 = true := by decide +kernel
theorem tk8_1 : allF (fun k => (trK 8 (zget (pg6 8) k) (sl (trA 8) k) (sl (trB 8) k) (sl (trC 8) k) 729).1) 60 60 = true := by decide +kernel
theorem ek8_1 : allF (fun k => allF (fun i => entK 8 k i) 0 8) 60 60 = true := by decide +kernel
theorem tk8_2 : allF (fun k => (trK 8 (zget (pg6 8) k) (sl (trA 8) k) (sl (trB 8) k) (sl (trC 8) k) 729).1) 120 12 = true := by decide +kernel
theorem ek8_2 : allF (fun k => allF (fun i => entK 8 k i) 0 8) 120 12 = true := by decide +kernel
