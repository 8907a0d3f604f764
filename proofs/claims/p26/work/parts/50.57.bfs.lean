/-! going out from a cut until all are come to -/
def cneg (F : Nat → Int) : Nat → Nat
  | 0 => 0
  | n + 1 => cneg F n + (if F n = -1 then 1 else 0)
theorem cneg_same {F F' : Nat → Int} : ∀ n : Nat, (∀ y, y < n → F' y = F y) → cneg F' n = cneg F n := by
  intro n
  induction n with
  | zero => intro _; rfl
  | succ n ih =>
    intro h
    show cneg F' n + _ = cneg F n + _
    rw [ih (fun y hy => h y (by omega)), h n (by omega)]
theorem cneg_all {F : Nat → Int} : ∀ n : Nat, (∀ y, y < n → F y = -1) → cneg F n = n := by
  intro n
  induction n with
  | zero => intro _; rfl
  | succ n ih =>
    intro h
    show cneg F n + _ = n + 1
    rw [ih (fun y hy => h y (by omega)), if_pos (h n (by omega))]
theorem cneg_upd {F F' : Nat → Int} {t : Nat} (ht : F t = -1) (ht' : ¬ F' t = -1) (ho : ∀ y, ¬ y = t → F' y = F y) : ∀ n : Nat, t < n → cneg F' n + 1 = cneg F n := by
  intro n
  induction n with
  | zero => intro h; omega
  | succ n ih =>
    intro h
    show cneg F' n + _ + 1 = cneg F n + _
    by_cases e : t = n
    · subst e
      rw [cneg_same t (fun y hy => ho y (by omega)), if_pos ht, if_neg ht']
    · have := ih (by omega)
      rw [ho n (by omega)]
      omega
def BF (N k : Nat) (E : Nat → Nat → Prop) (F : Nat → Int) (Q : Nat → Nat) (many : Nat) : Prop :=
  (∀ j, j < many → Q j < N ∧ 0 ≤ F (Q j) ∧ F (Q j) ≤ (j : Int)) ∧ (∀ y, y < N → F y = -1 ∨ ∃ j, j < many ∧ Q j = y) ∧ (∀ i j, i ≤ j → j < many → F (Q i) ≤ F (Q j)) ∧ (∀ y, y < N → 0 < F y → ∃ x, x < N ∧ F x = F y - 1 ∧ E x y) ∧ F k = 0 ∧ many + cneg F N = N
def BW (F : Nat → Int) (x y : Nat) : Prop := ¬ F y = -1 ∧ F y ≤ F x + 1
theorem BF_lt {N k : Nat} {E : Nat → Nat → Prop} {F : Nat → Int} {Q : Nat → Nat} {many t : Nat} (h : BF N k E F Q many) (ht : t < N) (hn : F t = -1) : many < N := by
  have e := h.2.2.2.2.2
  have : ∀ n : Nat, t < n → 1 ≤ cneg F n := by
    intro n
    induction n with
    | zero => intro h; omega
    | succ n ih =>
      intro h
      show 1 ≤ cneg F n + _
      by_cases e : t = n
      · subst e; rw [if_pos hn]; omega
      · have := ih (by omega); omega
  have := this N ht
  omega
theorem BF_le {N k : Nat} {E : Nat → Nat → Prop} {F : Nat → Int} {Q : Nat → Nat} {many : Nat} (h : BF N k E F Q many) : many ≤ N := by
  have e := h.2.2.2.2.2
  omega
theorem BF_init {N k : Nat} {E : Nat → Nat → Prop} {F F0 : Nat → Int} {Q : Nat → Nat} (hk : k < N) (h0 : ∀ y, y < N → F0 y = -1) (hF : F k = 0) (ho : ∀ y, ¬ y = k → F y = F0 y) (hQ : Q 0 = k) : BF N k E F Q 1 := by
  have en : ∀ y, y < N → ¬ y = k → F y = -1 := fun y hy h => by rw [ho y h]; exact h0 y hy
  refine ⟨?_, ?_, ?_, ?_, hF, ?_⟩
  · intro j hj
    have : j = 0 := by omega
    subst this
    rw [hQ]
    exact ⟨hk, by omega, by omega⟩
  · intro y hy
    by_cases e : y = k
    · exact Or.inr ⟨0, by omega, by rw [hQ, e]⟩
    · exact Or.inl (en y hy e)
  · intro i j hij hj
    have a : i = 0 := by omega
    have b : j = 0 := by omega
    subst a; subst b
    exact Int.le_refl _
  · intro y hy hp
    by_cases e : y = k
    · subst e; omega
    · have := en y hy e; omega
  · have := cneg_upd (F := F0) (F' := F) (h0 k hk) (by omega) ho N hk
    have := cneg_all (F := F0) N h0
    omega
theorem BF_add {N k : Nat} {E : Nat → Nat → Prop} {F F' : Nat → Int} {Q Q' : Nat → Nat} {many i t : Nat} (h : BF N k E F Q many) (hi : i < many) (hT : ∀ j, j < many → F (Q j) ≤ F (Q i) + 1) (ht : t < N) (hn : F t = -1) (hE : E (Q i) t) (hF : F' t = F (Q i) + 1) (hFo : ∀ y, ¬ y = t → F' y = F y) (hQ : Q' many = t) (hQo : ∀ j, j < many → Q' j = Q j) :
    BF N k E F' Q' (many + 1) ∧ (∀ j, j < many + 1 → F' (Q' j) ≤ F' (Q' i) + 1) ∧ F' (Q' i) = F (Q i) ∧ (∀ j y, j < many → BW F (Q j) y → BW F' (Q' j) y) := by
  obtain ⟨a, b, c, d, e, f⟩ := h
  have ne : ∀ j, j < many → ¬ Q j = t := fun j hj x => by have := (a j hj).2.1; rw [x, hn] at this; omega
  have fq : ∀ j, j < many → F' (Q' j) = F (Q j) := fun j hj => by rw [hQo j hj, hFo _ (ne j hj)]
  have fi := fq i hi
  have ai := a i hi
  refine ⟨⟨?_, ?_, ?_, ?_, ?_, ?_⟩, ?_, fi, ?_⟩
  · intro j hj
    by_cases e : j = many
    · subst e
      rw [hQ, hF]
      exact ⟨ht, by omega, by omega⟩
    · have hj : j < many := by omega
      rw [fq j hj, hQo j hj]
      exact a j hj
  · intro y hy
    by_cases e : y = t
    · exact Or.inr ⟨many, by omega, by rw [hQ, e]⟩
    · rw [hFo y e]
      rcases b y hy with x | ⟨j, hj, x⟩
      · exact Or.inl x
      · exact Or.inr ⟨j, by omega, by rw [hQo j hj, x]⟩
  · intro p q hpq hq
    by_cases e : q = many
    · subst e
      rw [hQ, hF]
      by_cases e' : p = q
      · subst e'; rw [hQ, hF]; exact Int.le_refl _
      · rw [fq p (by omega)]; exact hT p (by omega)
    · rw [fq p (by omega), fq q (by omega)]; exact c p q hpq (by omega)
  · intro y hy hp
    by_cases e : y = t
    · subst e
      exact ⟨Q i, ai.1, by rw [hFo _ (ne i hi), hF]; omega, hE⟩
    · rw [hFo y e] at hp
      obtain ⟨x, hx, h1, h2⟩ := d y hy hp
      have : ¬ x = t := fun z => by rw [z, hn] at h1; omega
      exact ⟨x, hx, by rw [hFo x this, hFo y e, h1], h2⟩
  · have : ¬ k = t := fun z => by rw [z, hn] at e; omega
    rw [hFo k this, e]
  · have := cneg_upd (F := F) (F' := F') hn (by omega) hFo N ht
    omega
  · intro j hj
    rw [fi]
    by_cases e : j = many
    · subst e; rw [hQ, hF]; exact Int.le_refl _
    · rw [fq j (by omega)]; exact hT j (by omega)
  · intro j y hj hw
    have : ¬ y = t := fun z => hw.1 (by rw [z, hn])
    unfold BW
    rw [fq j hj, hFo y this]
    exact hw
theorem BF_next {N k : Nat} {E : Nat → Nat → Prop} {F : Nat → Int} {Q : Nat → Nat} {many i : Nat} (h : BF N k E F Q many) (hT : ∀ j, j < many → F (Q j) ≤ F (Q i) + 1) (hi : i + 1 < many) : ∀ j, j < many → F (Q j) ≤ F (Q (i + 1)) + 1 := fun j hj => by
  have := hT j hj
  have := h.2.2.1 i (i + 1) (by omega) hi
  omega
/-- what a whole going-out comes to -/
def BFE (N k : Nat) (E : Nat → Nat → Prop) (F : Nat → Int) : Prop := F k = 0 ∧ (∀ y, y < N → 0 < F y → ∃ x, x < N ∧ F x = F y - 1 ∧ E x y) ∧ (∀ x y, x < N → y < N → ¬ F x = -1 → E x y → BW F x y) ∧ (∀ y, y < N → -1 ≤ F y ∧ F y ≤ (N : Int))
theorem BF_end {N k : Nat} {E : Nat → Nat → Prop} {F : Nat → Int} {Q : Nat → Nat} {many : Nat} (h : BF N k E F Q many) (hP : ∀ j, j < many → ∀ y, y < N → E (Q j) y → BW F (Q j) y) : BFE N k E F := by
  refine ⟨h.2.2.2.2.1, h.2.2.2.1, ?_, ?_⟩
  · intro x y hx hy hn he
    rcases h.2.1 x hx with z | ⟨j, hj, rfl⟩
    · exact absurd z hn
    · exact hP j hj y hy he
  · intro y hy
    rcases h.2.1 y hy with z | ⟨j, hj, rfl⟩
    · omega
    · have := h.1 j hj
      have := BF_le h
      omega
theorem BFE_all {N k : Nat} {E : Nat → Nat → Prop} {F : Nat → Int} {dep par : Nat → Nat} (h : BFE N k E F) (hk : k < N) (hs : ∀ x y, x < N → y < N → E x y → E y x) (h0 : 0 < N) (hd : ∀ x, x < N → ¬ x = 0 → par x < N ∧ E x (par x) ∧ dep (par x) + 1 = dep x) : ∀ y, y < N → ¬ F y = -1 ∧ F y ≤ (dep k : Int) + (dep y : Int) := by
  have l1 : ∀ d x, x < N → dep x = d → ¬ F x = -1 → ¬ F 0 = -1 ∧ F 0 ≤ F x + (d : Int) := by
    intro d
    induction d with
    | zero =>
      intro x hx e hn
      by_cases z : x = 0
      · subst z; exact ⟨hn, by omega⟩
      · have := (hd x hx z).2.2; omega
    | succ d ih =>
      intro x hx e hn
      by_cases z : x = 0
      · subst z; exact ⟨hn, by omega⟩
      · have p := hd x hx z
        have w := h.2.2.1 x (par x) hx p.1 hn p.2.1
        have := ih (par x) p.1 (by omega) w.1
        exact ⟨this.1, by have := this.2; have := w.2; omega⟩
  have z := l1 (dep k) k hk rfl (by rw [h.1]; omega)
  have zk := h.1
  have l2 : ∀ d x, x < N → dep x = d → ¬ F x = -1 ∧ F x ≤ F 0 + (d : Int) := by
    intro d
    induction d with
    | zero =>
      intro x hx e
      by_cases y : x = 0
      · subst y; exact ⟨z.1, by omega⟩
      · have := (hd x hx y).2.2; omega
    | succ d ih =>
      intro x hx e
      by_cases y : x = 0
      · subst y; exact ⟨z.1, by omega⟩
      · have p := hd x hx y
        have q := ih (par x) p.1 (by omega)
        have w := h.2.2.1 (par x) x p.1 hx q.1 (hs x (par x) hx p.1 p.2.1)
        exact ⟨w.1, by have := w.2; have := q.2; omega⟩
  intro y hy
  have := l2 (dep y) y hy rfl
  exact ⟨this.1, by have := this.2; have := z.2; omega⟩
