/-! equal answers, found by the kernel -/
def dqI : DecidableEq Int := fun a b => Int.instDecidableEq a b
def dqN : DecidableEq Nat := fun a b => Nat.decEq a b
def dqB : DecidableEq Bool := fun a b => instDecidableEqBool a b
def dqP {A B : Type} (da : DecidableEq A) (db : DecidableEq B) : DecidableEq (A × B) := fun x y =>
  match da x.1 y.1 with
  | .isFalse h => .isFalse (fun e => h (congrArg Prod.fst e))
  | .isTrue h1 => match db x.2 y.2 with
    | .isFalse h => .isFalse (fun e => h (congrArg Prod.snd e))
    | .isTrue h2 => .isTrue (Prod.ext h1 h2)
def dqO {A : Type} (da : DecidableEq A) : DecidableEq (Option A) := fun x y =>
  match x, y with
  | none, none => .isTrue rfl
  | none, some _ => .isFalse (fun h => by cases h)
  | some _, none => .isFalse (fun h => by cases h)
  | some a, some b => match da a b with
    | .isTrue h => .isTrue (by rw [h])
    | .isFalse h => .isFalse (fun e => h (Option.some.inj e))
theorem dq_of {A : Type} {d : DecidableEq A} {x y : A} (h : @decide (x = y) (d x y) = true) : x = y := @of_decide_eq_true _ (d x y) h
