/-! the smaller ones -/
theorem eq_fault (mk : Nat) {fk fp w : Int} (hw : ¬ zout w) {o o2 : Int} (ho : zf_X10_fault mk fk fp w = some o) (ho2 : zf_X11_fault fk fp w = some o2) : o = o2 := by
  unfold zf_X10_fault zf_X1_faultKind zf_X1_faultPlace at ho
  unfold zf_X11_fault at ho2
  rw [if_neg hw] at ho ho2
  by_cases c : w = 0
  · rw [if_pos c] at ho ho2
    cases ho
    cases ho2
    rfl
  · rw [if_neg c] at ho ho2
    by_cases d : w = 1
    · rw [if_pos d] at ho ho2
      cases ho
      cases ho2
      rfl
    · rw [if_neg d] at ho ho2
      cases ho
      cases ho2
      rfl
theorem eq_mended (mk : Nat) {mn o o2 : Int} (ho : zf_X10_mended mk mn = some o) (ho2 : zf_X11_mended mn = some o2) : o = o2 := by
  cases ho
  cases ho2
  rfl
theorem eq_of2 (mk : Nat) {s i : Int} {P : Nat} (s1 : 1 ≤ s) (s10 : s ≤ 10) (hi : ¬ zout i) {o o2 : Int} (ho : zf_X10_of mk s P i = some o) (ho2 : zf_X11_of s P i = some o2) : o = o2 := by
  rw [eq_of mk s1 s10 hi, ho2] at ho
  exact (Option.some.inj ho).symm
theorem eq_along2 (mk : Nat) {s i len : Int} {P : Nat} (s1 : 1 ≤ s) (s10 : s ≤ 10) (hP : ∀ k : Nat, k < 10 → 0 ≤ zget P k ∧ zget P k ≤ 20) (hi : ¬ zout i) (hl : ¬ zout len) {o o2 : Int} (ho : zf_X10_along mk s P i len = some o) (ho2 : zf_X11_along s P i len = some o2) : o = o2 := by
  rw [eq_along mk s1 s10 hP hi hl, ho2] at ho
  exact (Option.some.inj ho).symm
theorem eq_growth2 (mk : Nat) {s : Int} {P : Nat} (s1 : 1 ≤ s) (s10 : s ≤ 10) (hP : ∀ k : Nat, k < 10 → 0 ≤ zget P k ∧ zget P k ≤ 20) (hP' : ∀ k : Nat, k < 11 → 0 ≤ zget P k ∧ zget P k ≤ 20) {o o2 : Int} (ho : zf_X10_growth mk s P = some o) (ho2 : zf_X11_growth s P = some o2) : o = o2 := by
  rw [eq_growth mk s1 s10 hP hP', ho2] at ho
  exact (Option.some.inj ho).symm
theorem hasCut_e {m : Nat} (h4 : 4 ≤ m) (h9 : m ≤ 9) {k : Int} (hk : ¬ zout k) : zf_X5_hasCut m k = some (decide (0 ≤ k ∧ k < pg8 m)) := by
  have r8 := rpg8 h4 h9
  unfold zf_X5_hasCut
  rw [if_neg hk]
  by_cases c : k < 0
  · rw [if_pos c, decide_eq_false (by omega)]
  · rw [if_neg c, if_neg (by unfold zout; omega)]
    by_cases d : pg8 m ≤ k
    · rw [if_pos d, decide_eq_false (by omega)]
    · rw [if_neg d, decide_eq_true (by omega)]
theorem hasCut_f {m : Nat} (h4 : 4 ≤ m) (h9 : m ≤ 9) {k : Int} (hk : ¬ zout k) (h : zf_X5_hasCut m k = some false) : ¬ (0 ≤ k ∧ k < pg8 m) := by
  rw [hasCut_e h4 h9 hk] at h
  exact of_decide_eq_false (Option.some.inj h)
theorem hasCut_t {m : Nat} (h4 : 4 ≤ m) (h9 : m ≤ 9) {k : Int} (hk : ¬ zout k) (h : zf_X5_hasCut m k = some true) : 0 ≤ k ∧ k < pg8 m := by
  rw [hasCut_e h4 h9 hk] at h
  exact of_decide_eq_true (Option.some.inj h)
theorem cutAt_o {m : Nat} (h4 : 4 ≤ m) (h9 : m ≤ 9) {k o : Int} (hk : 0 ≤ k ∧ k < pg8 m) (h : zf_X5_cutAt m k = some o) : o = zget (pg6 m) k.toNat := by
  rw [cutAt_e h4 h9 hk.1 hk.2] at h
  exact (Option.some.inj h).symm
theorem BR_0 : BR 0 := by
  intro k
  have : zget 0 k = 0 := by
    unfold zget zslot
    rw [Nat.zero_shiftRight]
    rfl
  rw [this]
  decide
theorem LTof {m : Nat} {ln : Int} {nf ls gr : Nat} (h : TL (m : Int) ln nf ls gr) : LT m ln nf ls gr := h.2.2
theorem rcut0 {n : Nat} (h4 : 4 ≤ n) (h9 : n ≤ 9) {b : Int} (h : isCut n b) : 0 ≤ b ∧ b ≤ 134217727 := by
  obtain ⟨k, hk, rfl⟩ := h
  have r8 := (rpg8 h4 h9).2
  exact rpg6 h4 h9 k (by omega)
theorem cutN {m : Nat} (h4 : 4 ≤ m) (h9 : m ≤ 9) {c : Int} (hc : isCut m c) : ∃ T : Nat, c = (T : Int) := by
  obtain ⟨k, hk, rfl⟩ := hc
  have r8 := rpg8 h4 h9
  have := rpg6 h4 h9 k (by omega)
  exact ⟨(zget (pg6 m) k).toNat, by omega⟩
theorem lnN_27 {m : Nat} (h4 : 4 ≤ m) (h9 : m ≤ 9) : 2 ≤ lnN m ∧ lnN m ≤ 27 := by
  have r7 := rpg7 h4 h9
  unfold lnN
  omega
theorem bitL_f {T l : Nat} (h : T < 134217728) (hl : l < 27) (hb : T.testBit l = false) : zandL (zshrL (T : Int) (l : Int)) 1 = 0 := by rw [bitL h hl, hb]; rfl
theorem bitL_t {T l : Nat} (h : T < 134217728) (hl : l < 27) (hb : T.testBit l = true) : zandL (zshrL (T : Int) (l : Int)) 1 = 1 := by rw [bitL h hl, hb]; rfl
theorem bitI_f {T l : Nat} (h : T < 134217728) (hl : l < 27) (hb : T.testBit l = false) : zand (zshr (T : Int) (l : Int)) 1 = 0 := by rw [bitI h hl, hb]; rfl
theorem bitI_t {T l : Nat} (h : T < 134217728) (hl : l < 27) (hb : T.testBit l = true) : zand (zshr (T : Int) (l : Int)) 1 = 1 := by rw [bitI h hl, hb]; rfl
