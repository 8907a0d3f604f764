def JE {S O : Type} (g : S → Option (O ⊕ S)) (s : S) (o : O) : Prop := ∃ n : Nat, jrun g n s = some o
theorem JE_of {S O : Type} {g : S → Option (O ⊕ S)} {n : Nat} {s : S} {o : O} (h : jrun g n s = some o) : JE g s o := ⟨n, h⟩
theorem JE_det {S O : Type} {g : S → Option (O ⊕ S)} {s : S} {o o' : O} (h : JE g s o) (h' : JE g s o') : o = o' := by
  obtain ⟨n, hn⟩ := h
  obtain ⟨k, hk⟩ := h'
  have a := jrun_le hn (Nat.le_max_left n k)
  have b := jrun_le hk (Nat.le_max_right n k)
  rw [a] at b
  cases b
  rfl
theorem JE_up {S O : Type} {g : S → Option (O ⊕ S)} {s s' : S} {o : O} (e : g s = some (.inr s')) (h : JE g s' o) : JE g s o := by
  obtain ⟨n, hn⟩ := h
  refine ⟨n + 1, ?_⟩
  rw [jrun_s, e]
  exact hn
theorem JE_in {S O : Type} {g : S → Option (O ⊕ S)} {s : S} {o : O} (e : g s = some (.inl o)) : JE g s o := by
  refine ⟨1, ?_⟩
  rw [jrun_s, e]
  rfl
theorem JE_dn {S O : Type} {g : S → Option (O ⊕ S)} {s s' : S} {o : O} (e : g s = some (.inr s')) (h : JE g s o) : JE g s' o := by
  obtain ⟨n, hn⟩ := h
  cases n with
  | zero => rw [jrun_0] at hn; cases hn
  | succ n =>
    rw [jrun_s, e] at hn
    exact ⟨n, hn⟩
theorem JE_end {S O : Type} {g : S → Option (O ⊕ S)} {s : S} {o o' : O} (e : g s = some (.inl o')) (h : JE g s o) : o = o' := JE_det h (JE_in e)
