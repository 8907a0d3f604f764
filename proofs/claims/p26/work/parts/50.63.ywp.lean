/-! lemmas for way, flip, fewest, cross -/
def WD (c i j s : Int) : Prop := ∃ D : Int, s ≤ D ∧ D ≤ 8 ∧ Int.tmod (i + D) c = j
theorem WD_next {c i j s : Int} (h : WD c i j s) (hn : ¬ Int.tmod (i + s) c = j) : WD c i j (s + 1) := by
  obtain ⟨D, h1, h2, h3⟩ := h
  by_cases e : D = s
  · subst e; exact absurd h3 hn
  · exact ⟨D, by omega, h2, h3⟩
theorem WD_init {c i j : Int} (h4 : 4 ≤ c) (h9 : c ≤ 9) (a : 0 ≤ i) (b : i < c) (e : 0 ≤ j) (f : j < c) (n : ¬ i = j) : WD c i j 1 := by
  by_cases g : i < j
  · exact ⟨j - i, by omega, by omega, by rw [show i + (j - i) = j by omega]; exact Int.tmod_eq_of_lt e f⟩
  · refine ⟨j - i + c, by omega, by omega, ?_⟩
    rw [show i + (j - i + c) = j + c by omega, Int.tmod_eq_emod_of_nonneg (by omega), Int.add_emod_right]
    exact Int.emod_eq_of_lt e f
theorem WD_le {c i j s : Int} (h : WD c i j s) : s ≤ 8 := by
  obtain ⟨D, h1, h2, _⟩ := h
  omega
def LNk (c : Int) (nf : Nat) : Prop := 4 ≤ c ∧ c ≤ 9 ∧ LN c.toNat nf c.toNat 0
theorem TL_ln {c ln : Int} {nf ls gr : Nat} (h : TL c ln nf ls gr) : LNk c nf := ⟨h.1, h.2.1, h.2.2.2.1⟩
def FB (c own i j : Int) : Prop := ¬ i = j ∧ 0 ≤ zget (pg3 c.toNat) (9 * i.toNat + j.toNat) ∧ ¬ zandL (zshrL own (zget (pg3 c.toNat) (9 * i.toNat + j.toNat))) 1 = 0
theorem FB_of {c own i j : Int} (h1 : ¬ i = j ∧ 0 ≤ zget (pg3 c.toNat) (9 * i.toNat + j.toNat)) (h2 : nearB c.toNat own i.toNat j.toNat = true) : FB c own i j := by
  refine ⟨h1.1, h1.2, ?_⟩
  have := of_decide_eq_true h2
  rcases this.2 with z | z
  · omega
  · rw [z]; decide
/-- how many lines below l a cut has -/
noncomputable def pcn (c : Int) (l : Nat) : Nat := Nat.rec 0 (fun k r => match decide (zandL (zshrL c (k : Int)) 1 = 0) with
  | true => r
  | false => r + 1) l
theorem pcn_t {c : Int} {k : Nat} (h : zandL (zshrL c (k : Int)) 1 = 0) : pcn c (k + 1) = pcn c k := by
  show (match decide (zandL (zshrL c (k : Int)) 1 = 0) with | true => pcn c k | false => pcn c k + 1) = _
  rw [decide_eq_true h]
theorem pcn_f {c : Int} {k : Nat} (h : ¬ zandL (zshrL c (k : Int)) 1 = 0) : pcn c (k + 1) = pcn c k + 1 := by
  show (match decide (zandL (zshrL c (k : Int)) 1 = 0) with | true => pcn c k | false => pcn c k + 1) = _
  rw [decide_eq_false h]
theorem pcn_s (c : Int) (k : Nat) : pcn c k ≤ pcn c (k + 1) := by
  by_cases h : zandL (zshrL c (k : Int)) 1 = 0
  · rw [pcn_t h]; omega
  · rw [pcn_f h]; omega
theorem pcn_m (c : Int) (a : Nat) : ∀ d : Nat, pcn c a ≤ pcn c (a + d) := by
  intro d
  induction d with
  | zero => exact Nat.le_refl _
  | succ d ih => exact Nat.le_trans ih (pcn_s c (a + d))
theorem pcn_tab : ∀ m : Nat, 4 ≤ m → m ≤ 9 → allF (fun k => decide (pcn (zget (pg6 m) k) 27 = m - 3)) 0 (pg8 m).toNat = true := pg_cases (by decide +kernel) (by decide +kernel) (by decide +kernel) (by decide +kernel) (by decide +kernel) (by decide +kernel)
noncomputable def PCN (c l : Int) : Int := (pcn c l.toNat : Int)
theorem PC_le {c own l : Int} (h : CU c own) (h0 : 0 ≤ l) (h1 : l ≤ 27) : PCN own l ≤ 6 := by
  obtain ⟨a, b, k, hk, rfl⟩ := h
  have e : pcn (zget (pg6 c.toNat) k) 27 = c.toNat - 3 := of_decide_eq_true (allF_at (pcn_tab c.toNat (by omega) (by omega)) (m := k) (by omega))
  have m := pcn_m (zget (pg6 c.toNat) k) l.toNat (27 - l.toNat)
  rw [show l.toNat + (27 - l.toNat) = 27 by omega, e] at m
  unfold PCN
  omega
theorem PC_mono {c l : Int} (h0 : 0 ≤ l) : PCN c l ≤ PCN c (l + 1) := by
  have := pcn_s c l.toNat
  unfold PCN
  rw [show (l + 1).toNat = l.toNat + 1 by omega]
  omega
theorem PC_bit {c l : Int} (h0 : 0 ≤ l) (h : ¬ zandL (zshrL c l) 1 = 0) : PCN c (l + 1) = PCN c l + 1 := by
  have := pcn_f (c := c) (k := l.toNat) (by rw [show ((l.toNat : Nat) : Int) = l by omega]; exact h)
  unfold PCN
  rw [show (l + 1).toNat = l.toNat + 1 by omega, this]
  omega
theorem PC_0 (c : Int) : PCN c 0 = 0 := rfl
def CV (cl : Nat) (n L : Int) : Prop := ∀ k : Nat, (k : Int) < n → 0 ≤ zget cl k ∧ zget cl k < L
def CH (cl : Nat) (n h L : Int) : Prop := ∀ k : Nat, (k : Int) ≤ n → ¬ (k : Int) = h → 0 ≤ zget cl k ∧ zget cl k < L
theorem CV_0 (cl : Nat) (L : Int) : CV cl 0 L := fun k hk => absurd hk (by omega)
theorem CH_of {cl : Nat} {n L : Int} (h : CV cl n L) : CH cl n n L := fun k h1 h2 => h k (by omega)
theorem CH_shift {cl : Nat} {n h L : Int} (H : CH cl n h L) (h0 : 0 < h) (h1 : h ≤ n) (hL : L ≤ 27) : CH (zset cl (Int.toNat h) (zget cl (Int.toNat (h - (1 : Int))))) n (h + (-1 : Int)) L := by
  have v := H (Int.toNat (h - 1)) (by omega) (by omega)
  intro k hk hn
  rcases zget_set_c cl (Int.toNat h) k (v := zget cl (Int.toNat (h - (1 : Int)))) (by unfold zout; omega) with ⟨a, b⟩ | ⟨a, b⟩
  · rw [b]; exact v
  · rw [b]; exact H k hk (by omega)
theorem CV_of {cl : Nat} {n h L v : Int} (H : CH cl n h L) (h0 : 0 ≤ h) (v0 : 0 ≤ v) (v1 : v < L) (hL : L ≤ 27) : CV (zset cl (Int.toNat h) v) (n + (1 : Int)) L := by
  intro k hk
  rcases zget_set_c cl (Int.toNat h) k (v := v) (by unfold zout; omega) with ⟨a, b⟩ | ⟨a, b⟩
  · rw [b]; exact ⟨v0, v1⟩
  · rw [b]; exact H k (by omega) (by omega)
/-- the least nearer neighbour, as far as looked -/
def FW (c : Int) (fa : Nat) (cut dd l best : Int) : Prop := ∃ h : Nat, (h : Int) < pg8 c.toNat ∧ cut = zget (pg6 c.toNat) h ∧ zget fa h = dd + 1 ∧ ((best = -1 ∧ ∀ l' o : Int, 0 ≤ l' → l' < l → ¬ zand (zshr cut l') 1 = 0 → zf_X5_otherLine c.toNat cut l' = some o → ∀ y : Nat, (y : Int) < pg8 c.toNat → zget (pg6 c.toNat) y = flipN cut l' o → ¬ zget fa y = dd) ∨ (0 ≤ best ∧ best < pg8 c.toNat ∧ zget fa best.toNat = dd))
theorem FW_end {c : Int} {fa : Nat} {cut dd best : Int} (h4 : 4 ≤ c) (h9 : c ≤ 9) (hB : BFX c fa) (hd : 0 ≤ dd) (h : FW c fa cut dd (pg7 c.toNat) best) : 0 ≤ best ∧ best < pg8 c.toNat ∧ zget fa best.toNat = dd := by
  obtain ⟨n, hn, rfl, hf, h | h⟩ := h
  · exfalso
    obtain ⟨k, hk, b⟩ := hB
    obtain ⟨x, hx, fx, ce⟩ := b.2.1 n (by omega) (by show 0 < zget fa n; omega)
    have fx : zget fa x = zget fa n - 1 := fx
    obtain ⟨l, o, z0, z1, z2, z3, z4⟩ := FR_sym (by omega) (by omega) ⟨x, by omega, rfl⟩ ce
    exact h.2 l o z0 z1 z2 z3 x (by omega) z4 (by omega)
  · exact h
