abbrev zno (mk n : Nat) : Prop := n < 4 ∨ 9 < n ∨ mk.testBit n = false
