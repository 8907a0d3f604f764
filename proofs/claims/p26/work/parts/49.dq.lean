/-! equal answers, found by the kernel -/
def dqI : DecidableEq Int := fun a b => Int.instDecidableEq a b
def dqN : DecidableEq Nat := fun a b => Nat.decEq a b
def dqB : DecidableEq Bool := fun a b => instDecidableEqBool a b
def dqP {A B : Type} (da : DecidableEq A) (db : DecidableEq B) : DecidableEq (A × B) := fun x y =>
  match da x.1 y.1 with
  | .isFalse h => .isFalse (fun e => h (congrArg Prod.fst e))
  | .isTrue h1 => match db x.2 y.2 with
    | .isFalse h => .isFalse (fun e => h (congrArg Prod.snd e))
    | .isTrue h2 => .isTrue (Prod.ext h1 h2)
def dqO {A : Type} (da : DecidableEq A) : DecidableEq (Option A) := fun x y =>
  match x, y with
  | none, none => .isTrue rfl
  | none, some _ => .isFalse (fun h => by cases h)
  | some _, none => .isFalse (fun h => by cases h)
  | some a, some b => match da a b with
    | .isTrue h => .isTrue (by rw [h])
    | .isFalse h => .isFalse (fun e => h (Option.some.inj e))
theorem dq_of {A : Type} {d : DecidableEq A} {x y : A} (h : @decide (x = y) (d x y) = true) : x = y := @of_decide_eq_true _ (d x y) h
def dqS {A B : Type} (da : DecidableEq A) (db : DecidableEq B) : DecidableEq (A ⊕ B) := fun x y =>
  match x, y with
  | .inl a, .inl b => match da a b with
    | .isTrue h => .isTrue (by rw [h])
    | .isFalse h => .isFalse (fun e => h (Sum.inl.inj e))
  | .inr a, .inr b => match db a b with
    | .isTrue h => .isTrue (by rw [h])
    | .isFalse h => .isFalse (fun e => h (Sum.inr.inj e))
  | .inl _, .inr _ => .isFalse (fun h => by cases h)
  | .inr _, .inl _ => .isFalse (fun h => by cases h)
/-- so many steps, or fewer if it ends -/
noncomputable def jst {S O : Type} (g : S → Option (O ⊕ S)) (n : Nat) : S → Option (O ⊕ S) := Nat.rec (fun s => some (.inr s)) (fun _ ih s => match g s with
  | none => none
  | some (.inl o) => some (.inl o)
  | some (.inr s') => ih s') n
theorem jst_run {S O : Type} {g : S → Option (O ⊕ S)} {k : Nat} {o : O} : ∀ (n : Nat) (s s' : S), jst g n s = some (.inr s') → jrun g k s' = some o → jrun g (n + k) s = some o := by
  intro n
  induction n with
  | zero => intro s s' h hk; rw [Nat.zero_add]; have e : s = s' := Sum.inr.inj (Option.some.inj h); rw [e]; exact hk
  | succ n ih =>
    intro s s' h hk
    rw [show n + 1 + k = (n + k) + 1 by omega, jrun_s]
    have h2 : (match g s with
      | none => none
      | some (.inl o) => some (.inl o)
      | some (.inr s'') => jst g n s'') = some (.inr s') := h
    cases hg : g s with
    | none => rw [hg] at h2; cases h2
    | some z =>
      cases z with
      | inl o' => rw [hg] at h2; cases h2
      | inr s'' =>
        rw [hg] at h2
        exact ih s'' s' h2 hk
theorem jst_end {S O : Type} {g : S → Option (O ⊕ S)} {o : O} : ∀ (n : Nat) (s : S), jst g n s = some (.inl o) → jrun g n s = some o := by
  intro n
  induction n with
  | zero => intro s h; cases h
  | succ n ih =>
    intro s h
    rw [jrun_s]
    have h2 : (match g s with
      | none => none
      | some (.inl o) => some (.inl o)
      | some (.inr s'') => jst g n s'') = some (.inl o) := h
    cases hg : g s with
    | none => rw [hg] at h2; cases h2
    | some z =>
      cases z with
      | inl o' => rw [hg] at h2; cases h2; rfl
      | inr s'' => rw [hg] at h2; exact ih s'' h2
