/-! what stands of the reference's tables -/
def TL (c ln : Int) (nf ls gr : Nat) : Prop := 4 ≤ c ∧ c ≤ 9 ∧ LT c.toNat ln nf ls gr
def LK (c lm : Int) (li : Nat) : Prop := 4 ≤ c ∧ c ≤ 9 ∧ LI c.toNat lm li
def CU (c own : Int) : Prop := 4 ≤ c ∧ c ≤ 9 ∧ isCut c.toNat own
def NO (c own r : Int) : Prop := 0 ≤ r ∧ r < pg8 c.toNat ∧ own = zget (pg6 c.toNat) r.toNat
def EN (n c i : Int) (fr : Nat) : Prop := ∀ j : Nat, (j : Int) < n → ∃ r, zf_X5_entryOf n.toNat c i (j : Int) = some r ∧ zget fr j = r ∧ 0 ≤ r ∧ r ≤ 21
def BFX (c : Int) (fa : Nat) : Prop := ∃ k : Nat, (k : Int) < pg8 c.toNat ∧ BFE (pg8 c.toNat).toNat k (CE c.toNat) (FA fa)
theorem LK_at {c lm : Int} {li : Nat} (h : LK c lm li) {k : Int} (h0 : 0 ≤ k) (h1 : k < lm) : CU c (zgetL li (Int.toNat k)) := by
  obtain ⟨a, b, e, f⟩ := h
  exact ⟨a, b, k.toNat, by omega, f k.toNat (by omega)⟩
theorem CU_rng {c own : Int} (h : CU c own) : 0 ≤ own ∧ own ≤ 134217727 := by
  obtain ⟨a, b, k, hk, rfl⟩ := h
  have r8 := (rpg8 (n := c.toNat) (by omega) (by omega)).2
  exact rpg6 (by omega) (by omega) k (by omega)
theorem TL_less {c ln : Int} {nf ls gr : Nat} (h : TL c ln nf ls gr) : ∀ k : Nat, (k : Int) < ln → 0 ≤ zget ls k ∧ zget ls k < c := by
  obtain ⟨a, b, e, f, g⟩ := h
  intro k hk
  rw [(g k (by omega)).1]
  have := lt_ok (m := c.toNat) (by omega) (by omega) (l := k) (by omega)
  omega
theorem TL_gr {c ln : Int} {nf ls gr : Nat} (h : TL c ln nf ls gr) : ∀ k : Nat, (k : Int) < ln → 0 ≤ zget gr k ∧ zget gr k < c := by
  obtain ⟨a, b, e, f, g⟩ := h
  intro k hk
  rw [(g k (by omega)).2]
  have := lt_ok (m := c.toNat) (by omega) (by omega) (l := k) (by omega)
  omega
theorem TL_n {c ln : Int} {nf ls gr : Nat} (h : TL c ln nf ls gr) : 2 ≤ ln ∧ ln ≤ 27 := by
  obtain ⟨a, b, e, f, g⟩ := h
  rw [e]
  exact rpg7 (by omega) (by omega)
