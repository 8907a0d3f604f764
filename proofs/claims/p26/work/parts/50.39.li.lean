def LI (m : Nat) (lm : Int) (li : Nat) : Prop := lm = pg8 m ∧ ∀ k : Nat, (k : Int) < pg8 m → zgetL li k = zget (pg6 m) k
