/-! runs of segments: a method as a pure function between its labels -/
def jstep {S O : Type} (ih : S → Option O) (x : Option (O ⊕ S)) : Option O := match x with
  | none => none
  | some (.inl o) => some o
  | some (.inr s) => ih s
noncomputable def jrun {S O : Type} (g : S → Option (O ⊕ S)) (n : Nat) : S → Option O := Nat.rec (fun _ => none) (fun _ ih s => jstep ih (g s)) n
theorem jrun_0 {S O : Type} (g : S → Option (O ⊕ S)) (s : S) : jrun g 0 s = none := rfl
theorem jrun_s {S O : Type} (g : S → Option (O ⊕ S)) (n : Nat) (s : S) : jrun g (n + 1) s = jstep (jrun g n) (g s) := rfl
theorem jrun_succ {S O : Type} {g : S → Option (O ⊕ S)} : ∀ (n : Nat) (s : S) (o : O), jrun g n s = some o → jrun g (n + 1) s = some o := by
  intro n
  induction n with
  | zero => intro s o h; rw [jrun_0] at h; cases h
  | succ n ih =>
    intro s o h
    rw [jrun_s] at h ⊢
    revert h
    cases g s with
    | none => intro h; cases h
    | some x =>
      cases x with
      | inl o' => intro h; exact h
      | inr s' => intro h; exact ih s' o h
theorem jrun_le {S O : Type} {g : S → Option (O ⊕ S)} {n k : Nat} {s : S} {o : O} (h : jrun g n s = some o) (hk : n ≤ k) : jrun g k s = some o := by
  induction hk with
  | refl => exact h
  | step _ ih => exact jrun_succ _ _ _ ih
/-- enough for every loop here -/
def jfuel : Nat := 1000000000
/-- an option that stands, and what holds of it -/
def Go {X : Type} (K : X → Prop) (x : Option X) : Prop := ∃ a : X, x = some a ∧ K a
theorem Go_t {X : Type} {K : X → Prop} {c : Prop} [Decidable c] {a b : Option X} (hc : c) (h : Go K (if c then a else b)) : Go K a := by
  rw [if_pos hc] at h; exact h
theorem Go_f {X : Type} {K : X → Prop} {c : Prop} [Decidable c] {a b : Option X} (hc : ¬ c) (h : Go K (if c then a else b)) : Go K b := by
  rw [if_neg hc] at h; exact h
theorem Go_n {X : Type} {K : X → Prop} {c : Prop} [Decidable c] {b : Option X} (h : Go K (if c then none else b)) : ¬ c ∧ Go K b := by
  by_cases hc : c
  · rw [if_pos hc] at h
    obtain ⟨a, h1, -⟩ := h
    cases h1
  · rw [if_neg hc] at h
    exact ⟨hc, h⟩
theorem Go_b {X Y : Type} {K : X → Prop} {x : Option Y} {k : Y → Option X} (h : Go K (x.bind k)) : ∃ y : Y, x = some y ∧ Go K (k y) := by
  cases x with
  | none =>
    obtain ⟨a, h1, -⟩ := h
    cases h1
  | some y => exact ⟨y, rfl, h⟩
theorem Go_s {X : Type} {K : X → Prop} {a : X} (h : Go K (some a)) : K a := by
  obtain ⟨b, h1, h2⟩ := h
  cases h1
  exact h2
theorem Go_i {X : Type} {K : X → Prop} {a : X} (h : K a) : Go K (some a) := ⟨a, rfl, h⟩
theorem Go_ite {X : Type} {K : X → Prop} {c : Prop} [Decidable c] {a b : Option X} (ht : c → Go K a) (hf : ¬ c → Go K b) : Go K (if c then a else b) := by
  by_cases hc : c
  · rw [if_pos hc]; exact ht hc
  · rw [if_neg hc]; exact hf hc
theorem Go_chk {X : Type} {K : X → Prop} {c : Prop} [Decidable c] {b : Option X} (hc : ¬ c) (h : Go K b) : Go K (if c then none else b) := by
  rw [if_neg hc]; exact h
theorem Go_bind {X Y : Type} {K : X → Prop} {x : Option Y} {k : Y → Option X} {y : Y} (hx : x = some y) (h : Go K (k y)) : Go K (x.bind k) := by
  subst hx; exact h
theorem Go_bindP {X Y : Type} {K : X → Prop} {x : Option Y} {k : Y → Option X} {L : Y → Prop} (hx : Go L x) (h : ∀ y, L y → Go K (k y)) : Go K (x.bind k) := by
  obtain ⟨y, h1, h2⟩ := hx
  subst h1
  exact h y h2
theorem Go_w {X : Type} {K K' : X → Prop} {x : Option X} (h : Go K x) (hk : ∀ a, K a → K' a) : Go K' x := by
  obtain ⟨a, h1, h2⟩ := h
  exact ⟨a, h1, hk a h2⟩
/-- where a segment leads: an end, or another label -/
def GoE {S O : Type} (At : S → Prop) (Ret : O → Prop) : O ⊕ S → Prop
  | .inl o => Ret o
  | .inr s => At s
/-- the machine's side: if each segment is walked, a run is walked -/
theorem jwalk {S O : Type} {g : S → Option (O ⊕ S)} {At : S → Prop} {Ret : O → Prop} (hs : ∀ s, Go (GoE At Ret) (g s) → At s) : ∀ (n : Nat) (s : S) (o : O), jrun g n s = some o → Ret o → At s := by
  intro n
  induction n with
  | zero => intro s o h; rw [jrun_0] at h; cases h
  | succ n ih =>
    intro s o h hr
    apply hs
    rw [jrun_s] at h
    revert h
    cases g s with
    | none => intro h; cases h
    | some x =>
      cases x with
      | inl o' => intro h; cases h; exact ⟨_, rfl, hr⟩
      | inr s' => intro h; exact ⟨_, rfl, ih s' o h hr⟩
/-- the pure side: what a run comes to, by an invariant and a measure -/
theorem jok {S O : Type} {g : S → Option (O ⊕ S)} (Inv : S → Prop) (mu : S → Nat) (Post : O → Prop) (h : ∀ s, Inv s → Go (GoE (fun s' => Inv s' ∧ mu s' < mu s) Post) (g s)) (s : S) (hi : Inv s) (hm : mu s < jfuel) : Go Post (jrun g jfuel s) := by
  have key : ∀ (n : Nat) (s : S), Inv s → mu s < n → Go Post (jrun g n s) := by
    intro n
    induction n with
    | zero => intro s _ hm; exact absurd hm (Nat.not_lt_zero _)
    | succ n ih =>
      intro s hi hm
      obtain ⟨x, hx, hk⟩ := h s hi
      rw [jrun_s, hx]
      cases x with
      | inl o => exact ⟨o, rfl, hk⟩
      | inr s' =>
        have hk : Inv s' ∧ mu s' < mu s := hk
        exact ih s' hk.1 (Nat.lt_of_lt_of_le hk.2 (Nat.le_of_lt_succ hm))
  exact key jfuel s hi hm

