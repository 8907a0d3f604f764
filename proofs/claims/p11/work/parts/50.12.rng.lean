section
theorem bnf {b : Bool} (h : ¬ b = false) : b = true := by cases b <;> simp_all
theorem zno_rng {mk n : Nat} (h : ¬ zno mk n) : 4 ≤ n ∧ n ≤ 9 := by
  unfold zno at h
  omega
/-! ranges of what the pure functions reckon -/
theorem rin {x : Int} (h : ¬ zout x) : -2147483648 ≤ x ∧ x ≤ 2147483647 := by unfold zout at h; omega
theorem rinL {x : Int} (h : ¬ zoutL x) : -9223372036854775808 ≤ x ∧ x ≤ 9223372036854775807 := by unfold zoutL at h; omega
theorem rget (A i : Nat) : -2147483648 ≤ zget A i ∧ zget A i ≤ 2147483647 := rin (zget_in A i)
theorem rgetL (A i : Nat) : -9223372036854775808 ≤ zgetL A i ∧ zgetL A i ≤ 9223372036854775807 := rinL (zgetL_in A i)
theorem rand (x y : Int) : -2147483648 ≤ zand x y ∧ zand x y ≤ 2147483647 := rin (zand_in x y)
theorem ror (x y : Int) : -2147483648 ≤ zor x y ∧ zor x y ≤ 2147483647 := rin (zor_in x y)
theorem rxor (x y : Int) : -2147483648 ≤ zxor x y ∧ zxor x y ≤ 2147483647 := rin (zxor_in x y)
theorem rshl (x y : Int) : -2147483648 ≤ zshl x y ∧ zshl x y ≤ 2147483647 := rin (zshl_in x y)
theorem rshr (x y : Int) : -2147483648 ≤ zshr x y ∧ zshr x y ≤ 2147483647 := rin (zshr_in x y)
theorem rushr (x y : Int) : -2147483648 ≤ zushr x y ∧ zushr x y ≤ 2147483647 := rin (zushr_in x y)
theorem randL (x y : Int) : -9223372036854775808 ≤ zandL x y ∧ zandL x y ≤ 9223372036854775807 := rinL (zandL_in x y)
theorem rorL (x y : Int) : -9223372036854775808 ≤ zorL x y ∧ zorL x y ≤ 9223372036854775807 := rinL (zorL_in x y)
theorem rxorL (x y : Int) : -9223372036854775808 ≤ zxorL x y ∧ zxorL x y ≤ 9223372036854775807 := rinL (zxorL_in x y)
theorem rshlL (x y : Int) : -9223372036854775808 ≤ zshlL x y ∧ zshlL x y ≤ 9223372036854775807 := rinL (zshlL_in x y)
theorem rshrL (x y : Int) : -9223372036854775808 ≤ zshrL x y ∧ zshrL x y ≤ 9223372036854775807 := rinL (zshrL_in x y)
theorem rb (x : Int) : -128 ≤ zb x ∧ zb x ≤ 127 := by unfold zb; split <;> omega
theorem rbI (b : Bool) : 0 ≤ bI b ∧ bI b ≤ 1 := by cases b <;> decide
theorem rabs (x : Int) : 0 ≤ zabs x ∧ (zabs x = x ∨ zabs x = -x) := by unfold zabs; split <;> omega
theorem rmax (x y : Int) : x ≤ zmax x y ∧ y ≤ zmax x y ∧ (zmax x y = x ∨ zmax x y = y) := by unfold zmax; split <;> omega
theorem rmin (x y : Int) : zmin x y ≤ x ∧ zmin x y ≤ y ∧ (zmin x y = x ∨ zmin x y = y) := by unfold zmin; split <;> omega
theorem rtmod {a b : Int} (ha : 0 ≤ a) (hb : 0 < b) : 0 ≤ Int.tmod a b ∧ Int.tmod a b < b := ⟨Int.tmod_nonneg _ ha, Int.tmod_lt_of_pos _ hb⟩
theorem rtdiv {a b : Int} (ha : 0 ≤ a) (hb : 0 < b) : 0 ≤ Int.tdiv a b ∧ Int.tdiv a b ≤ a := ⟨Int.tdiv_nonneg ha (Int.le_of_lt hb), Int.tdiv_le_self _ ha⟩
theorem rand_pos {x y : Int} (h0 : 0 ≤ y) (h : ¬ zout y) : 0 ≤ zand x y ∧ zand x y ≤ y := by
  have h2 : zu y = y.toNat := by unfold zu zout at *; omega
  have h1 : zu x &&& zu y ≤ y.toNat := by rw [h2]; exact Nat.and_le_right
  unfold zand zs
  unfold zout at h
  generalize zu x &&& zu y = q at h1 ⊢
  split <;> omega
theorem rand63 (x : Int) : 0 ≤ zand x 63 ∧ zand x 63 ≤ 63 := rand_pos (by decide) (by decide)
theorem rshr1 {x : Int} (h0 : 0 ≤ x) (h : x ≤ 2147483647) : zshr x 1 = x / 2 := by
  unfold zshr
  rw [zw_id (by unfold zout; omega), show zu 1 = 1 by decide]
  rfl
theorem rpg7 {n : Nat} (h4 : 4 ≤ n) (h9 : n ≤ 9) : 2 ≤ pg7 n ∧ pg7 n ≤ 27 := by
  have h : n = 4 ∨ n = 5 ∨ n = 6 ∨ n = 7 ∨ n = 8 ∨ n = 9 := by omega
  rcases h with rfl | rfl | rfl | rfl | rfl | rfl <;> decide
theorem rpg8 {n : Nat} (h4 : 4 ≤ n) (h9 : n ≤ 9) : 2 ≤ pg8 n ∧ pg8 n ≤ 429 := by
  have h : n = 4 ∨ n = 5 ∨ n = 6 ∨ n = 7 ∨ n = 8 ∨ n = 9 := by omega
  rcases h with rfl | rfl | rfl | rfl | rfl | rfl <;> decide
noncomputable def tabR (A : Nat) (lo hi : Int) (c : Nat) : Bool := Nat.rec true (fun m ih => match decide (lo ≤ zget A m ∧ zget A m ≤ hi) with
  | true => ih
  | false => false) c
theorem tabR_ok {A : Nat} {lo hi : Int} : ∀ (c : Nat), tabR A lo hi c = true → ∀ m, m < c → lo ≤ zget A m ∧ zget A m ≤ hi := by
  intro c
  induction c with
  | zero => intro _ m hm; exact absurd hm (Nat.not_lt_zero _)
  | succ c ih =>
    intro h m hm
    have h2 : (match decide (lo ≤ zget A c ∧ zget A c ≤ hi) with
      | true => tabR A lo hi c
      | false => false) = true := h
    cases hf : decide (lo ≤ zget A c ∧ zget A c ≤ hi) with
    | false => rw [hf] at h2; cases h2
    | true =>
      rw [hf] at h2
      by_cases e : m = c
      · rw [e]; exact of_decide_eq_true hf
      · exact ih h2 m (by omega)
theorem pg_cases {P : Nat → Prop} (h4 : P 4) (h5 : P 5) (h6 : P 6) (h7 : P 7) (h8 : P 8) (h9 : P 9) : ∀ n : Nat, 4 ≤ n → n ≤ 9 → P n := by
  intro n a b
  have h : n = 4 ∨ n = 5 ∨ n = 6 ∨ n = 7 ∨ n = 8 ∨ n = 9 := by omega
  rcases h with rfl | rfl | rfl | rfl | rfl | rfl
  · exact h4
  · exact h5
  · exact h6
  · exact h7
  · exact h8
  · exact h9
theorem rpg1 {n : Nat} (h4 : 4 ≤ n) (h9 : n ≤ 9) : ∀ k : Nat, k < 27 → 0 ≤ zget (pg1 n) k ∧ zget (pg1 n) k ≤ 8 := tabR_ok _ (pg_cases (P := fun n => tabR (pg1 n) 0 8 27 = true) (by decide +kernel) (by decide +kernel) (by decide +kernel) (by decide +kernel) (by decide +kernel) (by decide +kernel) n h4 h9)
theorem rpg1n {n : Nat} (h4 : 4 ≤ n) (h9 : n ≤ 9) (k : Nat) (hk : (k : Int) < pg7 n) : 0 ≤ zget (pg1 n) k ∧ zget (pg1 n) k ≤ (n : Int) - 1 := tabR_ok _ (pg_cases (P := fun n => tabR (pg1 n) 0 ((n : Int) - 1) (pg7 n).toNat = true) (by decide +kernel) (by decide +kernel) (by decide +kernel) (by decide +kernel) (by decide +kernel) (by decide +kernel) n h4 h9) k (by omega)
theorem rpg2 {n : Nat} (h4 : 4 ≤ n) (h9 : n ≤ 9) : ∀ k : Nat, k < 27 → 0 ≤ zget (pg2 n) k ∧ zget (pg2 n) k ≤ 8 := tabR_ok _ (pg_cases (P := fun n => tabR (pg2 n) 0 8 27 = true) (by decide +kernel) (by decide +kernel) (by decide +kernel) (by decide +kernel) (by decide +kernel) (by decide +kernel) n h4 h9)
theorem rpg2n {n : Nat} (h4 : 4 ≤ n) (h9 : n ≤ 9) (k : Nat) (hk : (k : Int) < pg7 n) : 0 ≤ zget (pg2 n) k ∧ zget (pg2 n) k ≤ (n : Int) - 1 := tabR_ok _ (pg_cases (P := fun n => tabR (pg2 n) 0 ((n : Int) - 1) (pg7 n).toNat = true) (by decide +kernel) (by decide +kernel) (by decide +kernel) (by decide +kernel) (by decide +kernel) (by decide +kernel) n h4 h9) k (by omega)
theorem rpg3 {n : Nat} (h4 : 4 ≤ n) (h9 : n ≤ 9) : ∀ k : Nat, k < 81 → -1 ≤ zget (pg3 n) k ∧ zget (pg3 n) k ≤ 26 := tabR_ok _ (pg_cases (P := fun n => tabR (pg3 n) (-1) 26 81 = true) (by decide +kernel) (by decide +kernel) (by decide +kernel) (by decide +kernel) (by decide +kernel) (by decide +kernel) n h4 h9)
theorem rpg4 {n : Nat} (h4 : 4 ≤ n) (h9 : n ≤ 9) : ∀ k : Nat, k < 27 → 0 ≤ zget (pg4 n) k ∧ zget (pg4 n) k ≤ 134217727 := tabR_ok _ (pg_cases (P := fun n => tabR (pg4 n) 0 134217727 27 = true) (by decide +kernel) (by decide +kernel) (by decide +kernel) (by decide +kernel) (by decide +kernel) (by decide +kernel) n h4 h9)
theorem rpg5 {n : Nat} (h4 : 4 ≤ n) (h9 : n ≤ 9) : ∀ k : Nat, k < 9 → 0 ≤ zget (pg5 n) k ∧ zget (pg5 n) k ≤ 134217727 := tabR_ok _ (pg_cases (P := fun n => tabR (pg5 n) 0 134217727 9 = true) (by decide +kernel) (by decide +kernel) (by decide +kernel) (by decide +kernel) (by decide +kernel) (by decide +kernel) n h4 h9)
theorem rpg6 {n : Nat} (h4 : 4 ≤ n) (h9 : n ≤ 9) : ∀ k : Nat, k < 429 → 0 ≤ zget (pg6 n) k ∧ zget (pg6 n) k ≤ 134217727 := tabR_ok _ (pg_cases (P := fun n => tabR (pg6 n) 0 134217727 429 = true) (by decide +kernel) (by decide +kernel) (by decide +kernel) (by decide +kernel) (by decide +kernel) (by decide +kernel) n h4 h9)
def isCut (n : Nat) (b : Int) : Prop := ∃ k : Nat, (k : Int) < pg8 n ∧ b = zget (pg6 n) k
theorem isCut_at {n : Nat} {k : Int} (h0 : 0 ≤ k) (h : k < pg8 n) : isCut n (zget (pg6 n) (Int.toNat k)) := ⟨k.toNat, by omega, rfl⟩
noncomputable def allF (f : Nat → Bool) (s : Nat) (c : Nat) : Bool := Nat.rec true (fun m ih => match f (s + m) with
  | true => ih
  | false => false) c
theorem allF_ok {f : Nat → Bool} {s : Nat} : ∀ (c : Nat), allF f s c = true → ∀ m, m < c → f (s + m) = true := by
  intro c
  induction c with
  | zero => intro _ m hm; exact absurd hm (Nat.not_lt_zero _)
  | succ c ih =>
    intro h m hm
    have h2 : (match f (s + c) with
      | true => allF f s c
      | false => false) = true := h
    cases hf : f (s + c) with
    | false => rw [hf] at h2; cases h2
    | true =>
      rw [hf] at h2
      by_cases e : m = c
      · rw [e]; exact hf
      · exact ih h2 m (by omega)
theorem allF_at {f : Nat → Bool} {c : Nat} (h : allF f 0 c = true) {m : Nat} (hm : m < c) : f m = true := by
  have q := allF_ok c h m hm
  rw [Nat.zero_add] at q
  exact q
noncomputable def bitc (x : Int) : Int := match zf_J6_bitCount_0f7a4 x with
  | some r => r
  | none => 99
theorem bitc_eq (x : Int) : zf_J6_bitCount_0f7a4 x = some (bitc x) := rfl
theorem tri6_tab : ∀ n : Nat, 4 ≤ n → n ≤ 9 → allF (fun k => allF (fun c => decide (bitc (zand (zget (pg6 n) k) (zget (pg5 n) c)) ≤ 6)) 0 9) 0 (pg8 n).toNat = true := pg_cases (by decide +kernel) (by decide +kernel) (by decide +kernel) (by decide +kernel) (by decide +kernel) (by decide +kernel)
theorem tri6 {n : Nat} (h4 : 4 ≤ n) (h9 : n ≤ 9) {b : Int} (hb : isCut n b) {c : Nat} (hc : c < 9) : bitc (zand b (zget (pg5 n) c)) ≤ 6 := by
  obtain ⟨k, hk, rfl⟩ := hb
  exact of_decide_eq_true (allF_at (allF_at (tri6_tab n h4 h9) (by omega)) hc)
theorem ok_hasC (n : Nat) (i1 : Int) (p0 : 4 ≤ n) (p1 : n ≤ 9) (p2 : -2147483648 ≤ i1) (p3 : i1 ≤ 2147483647) : zf_X5_hasCorner n i1 = some (decide (0 ≤ i1 ∧ i1 < (n : Int))) := by
  unfold zf_X5_hasCorner
  rw [if_neg (by unfold zout; omega)]
  by_cases h : i1 < 0
  · rw [if_pos h, decide_eq_false (by omega)]
  · rw [if_neg h, if_neg (by unfold zout; omega)]
    by_cases q : (n : Int) ≤ i1
    · rw [if_pos q, decide_eq_false (by omega)]
    · rw [if_neg q, decide_eq_true (by omega)]
theorem ok_triAt (n : Nat) (i1 i2 : Int) (p0 : 4 ≤ n) (p1 : n ≤ 9) (p2 : -2147483648 ≤ i2) (p3 : i2 ≤ 2147483647) : Go (fun o => 0 ≤ o ∧ o ≤ 64 ∧ (isCut n i1 → o ≤ 7)) (zf_X5_trianglesAt n i1 i2) := by
  unfold zf_X5_trianglesAt
  refine Go_bind (ok_hasC n i2 p0 p1 p2 p3) ?_
  refine Go_ite (fun c => ?_) (fun c => ?_)
  · exact Go_i ⟨by decide, by decide, fun _ => by decide⟩
  · have h : 0 ≤ i2 ∧ i2 < (n : Int) := of_decide_eq_true (bnf c)
    refine Go_chk (by omega) ?_
    refine Go_bind (bitc_eq _) ?_
    have r : 0 ≤ bitc (zand i1 (zget (pg5 n) (Int.toNat i2))) ∧ bitc (zand i1 (zget (pg5 n) (Int.toNat i2))) ≤ 63 := rand63 _
    refine Go_i ⟨by omega, by omega, fun hc => ?_⟩
    have t := tri6 p0 p1 hc (c := Int.toNat i2) (by omega)
    omega
def eB (t : Int) : Int := (8 : Int) ^ t.toNat
theorem eB_s {t : Int} (h : 0 ≤ t) : eB (t + 1) = 8 * eB t := by
  unfold eB
  rw [show (t + 1).toNat = t.toNat + 1 by omega, Int.pow_succ, Int.mul_comm]
theorem eB_d {x y : Int} (h : y ≤ x) : eB (x + 1 - y) = 8 * eB (x - y) := by
  rw [show x + 1 - y = x - y + 1 by omega]
  exact eB_s (by omega)
theorem eB_b {t : Int} (h0 : 0 ≤ t) (h : t ≤ 9) : 1 ≤ eB t ∧ eB t ≤ 134217728 := by
  have h9 : t = 0 ∨ t = 1 ∨ t = 2 ∨ t = 3 ∨ t = 4 ∨ t = 5 ∨ t = 6 ∨ t = 7 ∨ t = 8 ∨ t = 9 := by omega
  rcases h9 with rfl | rfl | rfl | rfl | rfl | rfl | rfl | rfl | rfl | rfl <;> decide
theorem all_m1 {A : Nat} {i : Int} (h : ∀ k : Nat, (k : Int) < i → zget A k = -1) (h0 : 0 ≤ i) : ∀ k : Nat, (k : Int) < i + 1 → zget (zset A (Int.toNat i) (-1)) k = -1 := by
  intro k hk
  rw [zget_set]
  by_cases q : k = Int.toNat i
  · rw [if_pos q]; decide
  · rw [if_neg q]; exact h k (by omega)
theorem all_next {A : Nat} {i lo hi : Int} (h : ∀ k : Nat, (k : Int) < i → lo ≤ zget A k ∧ zget A k ≤ hi) (h0 : 0 ≤ i) (h1 : lo ≤ zget A (Int.toNat i)) (h2 : zget A (Int.toNat i) ≤ hi) : ∀ k : Nat, (k : Int) < i + 1 → lo ≤ zget A k ∧ zget A k ≤ hi := by
  intro k hk
  by_cases e : k = Int.toNat i
  · rw [e]; exact ⟨h1, h2⟩
  · exact h k (by omega)
theorem all_push {A : Nat} {i v lo hi : Int} (h : ∀ k : Nat, (k : Int) < i → lo ≤ zget A k ∧ zget A k < hi) (h0 : 0 ≤ i) (h1 : lo ≤ v) (h2 : v < hi) (h3 : -2147483648 ≤ lo) (h4 : hi ≤ 2147483647) : ∀ k : Nat, (k : Int) < i + 1 → lo ≤ zget (zset A (Int.toNat i) v) k ∧ zget (zset A (Int.toNat i) v) k < hi := by
  intro k hk
  rw [zget_set]
  by_cases q : k = Int.toNat i
  · rw [if_pos q, zw_id (by unfold zout; omega)]; exact ⟨h1, h2⟩
  · rw [if_neg q]; exact h k (by omega)
theorem zget_set_c (A i j : Nat) {v : Int} (h : ¬ zout v) : (j = i ∧ zget (zset A i v) j = v) ∨ (¬ j = i ∧ zget (zset A i v) j = zget A j) := by
  rw [zget_set]
  by_cases q : j = i
  · left; rw [if_pos q, zw_id h]; exact ⟨q, rfl⟩
  · right; rw [if_neg q]; exact ⟨q, rfl⟩
theorem mulb {a x B M : Int} (h0 : 0 ≤ a) (h1 : a ≤ M) (h2 : -B ≤ x) (h3 : x ≤ B) : -(M * B) ≤ a * x ∧ a * x ≤ M * B := by
  have hB : 0 ≤ B := by omega
  have e1 : a * x ≤ a * B := Int.mul_le_mul_of_nonneg_left h3 h0
  have e2 : a * B ≤ M * B := Int.mul_le_mul_of_nonneg_right h1 hB
  have e3 : a * (-B) ≤ a * x := Int.mul_le_mul_of_nonneg_left h2 h0
  rw [Int.mul_neg] at e3
  omega
def eL (t : Int) : Int := (21 : Int) ^ t.toNat
theorem eL_s {t : Int} (h : 0 ≤ t) : eL (t + 1) = 21 * eL t := by
  unfold eL
  rw [show (t + 1).toNat = t.toNat + 1 by omega, Int.pow_succ, Int.mul_comm]
theorem eL_b {t : Int} (h0 : 0 ≤ t) (h : t ≤ 13) : 1 ≤ eL t ∧ eL t ≤ 154472377739119461 := by
  have h9 : t = 0 ∨ t = 1 ∨ t = 2 ∨ t = 3 ∨ t = 4 ∨ t = 5 ∨ t = 6 ∨ t = 7 ∨ t = 8 ∨ t = 9 ∨ t = 10 ∨ t = 11 ∨ t = 12 ∨ t = 13 := by omega
  rcases h9 with rfl | rfl | rfl | rfl | rfl | rfl | rfl | rfl | rfl | rfl | rfl | rfl | rfl | rfl <;> decide
theorem zu_small {x : Int} (h0 : 0 ≤ x) (h : x ≤ 2147483647) : zu x < 2147483648 := by unfold zu; omega
theorem zu_neg {x : Int} (h0 : x < 0) (h : -2147483648 ≤ x) : 2147483648 ≤ zu x := by unfold zu; omega
theorem zxor_sign {x y : Int} (hx : ¬ zout x) (h0 : 0 ≤ y) (h : y ≤ 2147483647) : 0 ≤ zxor x y ↔ 0 ≤ x := by
  have hb := zu_small h0 h
  have key : 0 ≤ zxor x y ↔ zu x ^^^ zu y < 2147483648 := by
    have hl := zxor_lt x y
    unfold zxor zs
    generalize zu x ^^^ zu y = q at hl ⊢
    split <;> omega
  rw [key]
  constructor
  · intro q
    by_cases hn : 0 ≤ x
    · exact hn
    · have h1 := zu_neg (x := x) (by omega) (by unfold zout at hx; omega)
      have h2 : zu x = (zu x ^^^ zu y) ^^^ zu y := by rw [Nat.xor_assoc, Nat.xor_self, Nat.xor_zero]
      have h3 : (zu x ^^^ zu y) ^^^ zu y < 2 ^ 31 := Nat.xor_lt_two_pow q hb
      omega
  · intro q
    exact Nat.xor_lt_two_pow (n := 31) (zu_small q (by unfold zout at hx; omega)) hb
theorem ok_floorMod (i0 i1 : Int) (p0 : -2147483648 ≤ i0) (p1 : i0 ≤ 2147483647) (p2 : 1 ≤ i1) (p3 : i1 ≤ 2147483647) : Go (fun o => 0 ≤ o ∧ o < i1 ∧ ((0 ≤ i0 ∧ i0 < i1) → o = i0) ∧ (i0 = i1 → o = 0) ∧ (i0 = -1 → o = i1 - 1)) (zf_J9_floorMod_7cf53 i0 i1) := by
  have hz0 : ¬ zout i0 := by unfold zout; omega
  have hs := zxor_sign hz0 (y := i1) (by omega) p3
  unfold zf_J9_floorMod_7cf53
  refine Go_chk hz0 ?_
  refine Go_chk (by unfold zout; omega) ?_
  refine Go_chk (by omega) ?_
  refine Go_ite (fun c => ?_) (fun c => ?_)
  · have h0 : 0 ≤ i0 := hs.mp c
    have t1 := Int.tmod_nonneg i1 h0
    have t2 := Int.tmod_lt_of_pos i0 (b := i1) (by omega)
    refine Go_i ⟨t1, t2, fun h => Int.tmod_eq_of_lt h.1 h.2, fun h => ?_, fun h => by omega⟩
    rw [h]; exact Int.tmod_self
  · have h0 : i0 < 0 := by
      by_cases q : 0 ≤ i0
      · exact absurd (hs.mpr q) c
      · omega
    have e : Int.tmod i0 i1 = - Int.tmod (-i0) i1 := by rw [Int.neg_tmod, Int.neg_neg]
    have t1 := Int.tmod_nonneg i1 (a := -i0) (by omega)
    have t2 := Int.tmod_lt_of_pos (-i0) (b := i1) (by omega)
    refine Go_chk (by rw [e]; unfold zout; omega) ?_
    refine Go_ite (fun q => ?_) (fun q => ?_)
    · refine Go_i ⟨by omega, by omega, fun h => by omega, fun h => by omega, fun h => ?_⟩
      subst h
      rw [q]
      by_cases r : i1 = 1
      · omega
      · have t3 : Int.tmod 1 i1 = 1 := Int.tmod_eq_of_lt (by decide) (by omega)
        rw [e, show -(-1 : Int) = 1 by decide, t3] at q
        omega
    · refine Go_i ⟨by omega, by omega, fun h => by omega, fun h => by omega, fun h => ?_⟩
      subst h
      rw [e, show -(-1 : Int) = 1 by decide] at q ⊢
      have t3 : Int.tmod 1 i1 = 1 := by
        by_cases r : i1 = 1
        · subst r; exact absurd (by decide) q
        · exact Int.tmod_eq_of_lt (by decide) (by omega)
      omega
theorem all_pushl {A : Nat} {i v lo hi : Int} (h : ∀ k : Nat, (k : Int) < i → lo ≤ zget A k ∧ zget A k ≤ hi) (h0 : 0 ≤ i) (h1 : lo ≤ v) (h2 : v ≤ hi) (h3 : -2147483648 ≤ lo) (h4 : hi ≤ 2147483647) : ∀ k : Nat, (k : Int) < i + 1 → lo ≤ zget (zset A (Int.toNat i) v) k ∧ zget (zset A (Int.toNat i) v) k ≤ hi := by
  intro k hk
  rw [zget_set]
  by_cases q : k = Int.toNat i
  · rw [if_pos q, zw_id (by unfold zout; omega)]; exact ⟨h1, h2⟩
  · rw [if_neg q]; exact h k (by omega)
theorem rtdiv2 {a : Int} (ha : 0 ≤ a) : Int.tdiv a 2 = a / 2 := Int.tdiv_eq_ediv_of_nonneg ha
theorem all_w {A N : Nat} {lo hi hi' : Int} (h : ∀ k : Nat, k < N → lo ≤ zget A k ∧ zget A k ≤ hi) (hh : hi ≤ hi') : ∀ k : Nat, k < N → lo ≤ zget A k ∧ zget A k ≤ hi' := fun k hk => ⟨(h k hk).1, Int.le_trans (h k hk).2 hh⟩
theorem all_setw {A i N : Nat} {v lo hi hi' : Int} (h : ∀ k : Nat, k < N → lo ≤ zget A k ∧ zget A k ≤ hi) (hh : hi ≤ hi') (h1 : lo ≤ v) (h2 : v ≤ hi') (h3 : -2147483648 ≤ lo) (h4 : hi' ≤ 2147483647) : ∀ k : Nat, k < N → lo ≤ zget (zset A i v) k ∧ zget (zset A i v) k ≤ hi' := by
  intro k hk
  rw [zget_set]
  by_cases q : k = i
  · rw [if_pos q, zw_id (by unfold zout; omega)]; exact ⟨h1, h2⟩
  · rw [if_neg q]; exact ⟨(h k hk).1, Int.le_trans (h k hk).2 hh⟩
end

section
set_option maxRecDepth 20000 in
theorem ok_J6_bitCount_0f7a4 (i0 : Int)  : Go (fun o => 0 ≤ (o) ∧ (o) ≤ 63) (zf_J6_bitCount_0f7a4 i0) := by
  exact ⟨_, rfl, rand63 _⟩
set_option maxRecDepth 20000 in
theorem ok_J9_floorMod_7cf53 (i0 : Int) (i1 : Int) (p0 : -2147483648 ≤ i0) (p1 : i0 ≤ 2147483647) (p2 : 1 ≤ i1) (p3 : i1 ≤ 2147483647) : Go (fun o => 0 ≤ (o) ∧ (o) < i1 ∧ ((0 ≤ i0 ∧ i0 < i1) → (o) = i0) ∧ (i0 = i1 → (o) = 0) ∧ (i0 = -1 → (o) = i1 - 1)) (zf_J9_floorMod_7cf53 i0 i1) := by
  exact ok_floorMod i0 i1 p0 p1 p2 p3
set_option maxRecDepth 20000 in
theorem ok_X8_size (t_length : Int)  : Go (fun o => (o) = t_length) (zf_X8_size t_length) := by
  unfold zf_X8_size
  exact Go_i (show (t_length) = t_length from (by first | assumption | omega))
set_option maxRecDepth 20000 in
theorem ok_X8_kind (t_kind : Int)  : Go (fun o => (o) = t_kind) (zf_X8_kind t_kind) := by
  unfold zf_X8_kind
  exact Go_i (show (t_kind) = t_kind from (by first | assumption | omega))
set_option maxRecDepth 20000 in
theorem ok_X8_place (t_place : Int)  : Go (fun o => (o) = t_place) (zf_X8_place t_place) := by
  unfold zf_X8_place
  exact Go_i (show (t_place) = t_place from (by first | assumption | omega))
set_option maxRecDepth 20000 in
theorem ok_X8_value (t_value : Int)  : Go (fun o => (o) = t_value) (zf_X8_value t_value) := by
  unfold zf_X8_value
  exact Go_i (show (t_value) = t_value from (by first | assumption | omega))
set_option maxRecDepth 20000 in
theorem ok_X8_hasRoomForTwenty (t_length : Int) (p0 : 0 ≤ t_length) (p1 : t_length ≤ 300) : Go (fun o => ((o) = true → t_length ≤ 280) ∧ ((o) = false → 280 < t_length)) (zf_X8_hasRoomForTwenty t_length) := by
  unfold zf_X8_hasRoomForTwenty
  refine Go_chk (by unfold zout; omega) ?_
  refine Go_ite (fun c1 => ?_) (fun c1 => ?_)
  · exact Go_i (show ((false) = true → t_length ≤ 280) ∧ ((false) = false → 280 < t_length) from ⟨(by intro h; first | exact True.intro | omega | (exact absurd h (by decide))), (by intro h; first | exact True.intro | omega | (exact absurd h (by decide)))⟩)
  · exact Go_i (show ((true) = true → t_length ≤ 280) ∧ ((true) = false → 280 < t_length) from ⟨(by intro h; first | exact True.intro | omega | (exact absurd h (by decide))), (by intro h; first | exact True.intro | omega | (exact absurd h (by decide)))⟩)
set_option maxRecDepth 20000 in
theorem ok_X8_append (t_length : Int) (t_bytes : Nat) (i1 : Int) (p0 : 0 ≤ t_length) (p1 : t_length ≤ 300) : Go (fun o => 0 ≤ (o.1) ∧ (o.1) ≤ 300 ∧ t_length ≤ (o.1) ∧ (t_length ≤ 296 → (o.1) = t_length + 4)) (zf_X8_append t_length t_bytes i1) := by
  unfold zf_X8_append
  refine jok (fun (s : zS_X8_append) => match s with | (lab, i1', i2', t_length', t_bytes') => (lab = 0 ∧ t_length' = t_length) ∨ (lab = 3 ∧ 0 ≤ t_length' ∧ t_length' ≤ 300 ∧ -8 ≤ i2' ∧ i2' ≤ 24 ∧ t_length ≤ t_length' ∧ (t_length ≤ 296 → 8 * (t_length' - t_length) + i2' = 24))) (fun (s : zS_X8_append) => match s with | (lab, i1', i2', t_length', t_bytes') => if lab = 0 then 50 else if lab = 3 then (i2' + 8).toNat else 0) (fun (o : zO_X8_append) => 0 ≤ (o.1) ∧ (o.1) ≤ 300 ∧ t_length ≤ (o.1) ∧ (t_length ≤ 296 → (o.1) = t_length + 4)) ?_ _ ?_ ?_
  · intro s hI
    obtain ⟨lab, i1', i2', t_length', t_bytes'⟩ := s
    have hI : (lab = 0 ∧ t_length' = t_length) ∨ (lab = 3 ∧ 0 ≤ t_length' ∧ t_length' ≤ 300 ∧ -8 ≤ i2' ∧ i2' ≤ 24 ∧ t_length ≤ t_length' ∧ (t_length ≤ 296 → 8 * (t_length' - t_length) + i2' = 24)) := hI
    rcases hI with ⟨rfl, v0_0⟩ | ⟨rfl, v3_0, v3_1, v3_2, v3_3, v3_4, v3_5⟩
    · show Go _ (zg_X8_append_0 i1' i2' t_length' t_bytes')
      unfold zg_X8_append_0
      exact Go_i (show (((3 : Nat) = 0 ∧ (t_length') = t_length) ∨ ((3 : Nat) = 3 ∧ 0 ≤ (t_length') ∧ (t_length') ≤ 300 ∧ -8 ≤ ((24 : Int)) ∧ ((24 : Int)) ≤ 24 ∧ t_length ≤ (t_length') ∧ (t_length ≤ 296 → 8 * ((t_length') - t_length) + ((24 : Int)) = 24))) ∧ (((24 : Int)) + 8).toNat < 50 from ⟨Or.inr (⟨rfl, (by first | assumption | omega), (by first | assumption | omega), (by first | assumption | omega), (by first | assumption | omega), (by first | assumption | omega), (by intro h; first | exact True.intro | omega | (exact absurd h (by decide)))⟩), by omega⟩)
    · show Go _ (zg_X8_append_3 i1' i2' t_length' t_bytes')
      unfold zg_X8_append_3
      refine Go_chk (by unfold zout; omega) ?_
      refine Go_ite (fun c1 => ?_) (fun c1 => ?_)
      · exact Go_i (show 0 ≤ (t_length') ∧ (t_length') ≤ 300 ∧ t_length ≤ (t_length') ∧ (t_length ≤ 296 → (t_length') = t_length + 4) from ⟨(by first | assumption | omega), (by first | assumption | omega), (by first | assumption | omega), (by intro h; first | exact True.intro | omega | (exact absurd h (by decide)))⟩)
      · refine Go_chk (by unfold zout; omega) ?_
        refine Go_ite (fun c2 => ?_) (fun c2 => ?_)
        · exact Go_i (show 0 ≤ (t_length') ∧ (t_length') ≤ 300 ∧ t_length ≤ (t_length') ∧ (t_length ≤ 296 → (t_length') = t_length + 4) from ⟨(by first | assumption | omega), (by first | assumption | omega), (by first | assumption | omega), (by intro h; first | exact True.intro | omega | (exact absurd h (by decide)))⟩)
        · refine Go_chk (by omega) ?_
          have a3 := rshr i1' i2'
          have a4 := rb (zshr i1' i2')
          have a5 := rb (zb (zshr i1' i2'))
          exact Go_i (show (((3 : Nat) = 0 ∧ ((t_length' + (1 : Int))) = t_length) ∨ ((3 : Nat) = 3 ∧ 0 ≤ ((t_length' + (1 : Int))) ∧ ((t_length' + (1 : Int))) ≤ 300 ∧ -8 ≤ ((i2' + (-8 : Int))) ∧ ((i2' + (-8 : Int))) ≤ 24 ∧ t_length ≤ ((t_length' + (1 : Int))) ∧ (t_length ≤ 296 → 8 * (((t_length' + (1 : Int))) - t_length) + ((i2' + (-8 : Int))) = 24))) ∧ (((i2' + (-8 : Int))) + 8).toNat < (i2' + 8).toNat from ⟨Or.inr (⟨rfl, (by first | assumption | omega), (by first | assumption | omega), (by first | assumption | omega), (by first | assumption | omega), (by first | assumption | omega), (by intro h; first | exact True.intro | omega | (exact absurd h (by decide)))⟩), by omega⟩)
  · exact (show ((0 : Nat) = 0 ∧ t_length = t_length) ∨ ((0 : Nat) = 3 ∧ 0 ≤ t_length ∧ t_length ≤ 300 ∧ -8 ≤ 0 ∧ 0 ≤ 24 ∧ t_length ≤ t_length ∧ (t_length ≤ 296 → 8 * (t_length - t_length) + 0 = 24)) from Or.inl (⟨rfl, (by first | assumption | omega)⟩))
  · show 50 < jfuel
    unfold jfuel
    omega
set_option maxRecDepth 20000 in
theorem ok_X8_shorten (t_length : Int) (i1 : Int) (p0 : 0 ≤ t_length) (p1 : t_length ≤ 300) (p2 : -2147483648 ≤ i1) (p3 : i1 ≤ 2147483647) : Go (fun o => 0 ≤ (o) ∧ (o) ≤ 300 ∧ ((0 ≤ i1 ∧ i1 ≤ t_length) → (o) = i1)) (zf_X8_shorten t_length i1) := by
  unfold zf_X8_shorten
  refine Go_chk (by unfold zout; omega) ?_
  refine Go_ite (fun c1 => ?_) (fun c1 => ?_)
  · exact Go_i (show 0 ≤ (t_length) ∧ (t_length) ≤ 300 ∧ ((0 ≤ i1 ∧ i1 ≤ t_length) → (t_length) = i1) from ⟨(by first | assumption | omega), (by first | assumption | omega), (by intro h; first | exact True.intro | omega | (exact absurd h (by decide)))⟩)
  · refine Go_chk (by unfold zout; omega) ?_
    refine Go_ite (fun c2 => ?_) (fun c2 => ?_)
    · exact Go_i (show 0 ≤ (t_length) ∧ (t_length) ≤ 300 ∧ ((0 ≤ i1 ∧ i1 ≤ t_length) → (t_length) = i1) from ⟨(by first | assumption | omega), (by first | assumption | omega), (by intro h; first | exact True.intro | omega | (exact absurd h (by decide)))⟩)
    · exact Go_i (show 0 ≤ (i1) ∧ (i1) ≤ 300 ∧ ((0 ≤ i1 ∧ i1 ≤ t_length) → (i1) = i1) from ⟨(by first | assumption | omega), (by first | assumption | omega), (by intro h; first | exact True.intro | omega | (exact absurd h (by decide)))⟩)
set_option maxRecDepth 20000 in
theorem ok_X8_rewind (t_next : Int)  : Go (fun o => (o) = 0) (zf_X8_rewind t_next) := by
  unfold zf_X8_rewind
  exact Go_i (show ((0 : Int)) = 0 from (by first | assumption | omega))
set_option maxRecDepth 20000 in
theorem ok_X8_isBlank (i0 : Int) (p0 : -2147483648 ≤ i0) (p1 : i0 ≤ 2147483647) : Go (fun o => ((o) = true → i0 = 32 ∨ i0 = 10) ∧ ((o) = false → ¬ (i0 = 32 ∨ i0 = 10))) (zf_X8_isBlank i0) := by
  unfold zf_X8_isBlank
  refine Go_chk (by unfold zout; omega) ?_
  refine Go_ite (fun c1 => ?_) (fun c1 => ?_)
  · exact Go_i (show ((true) = true → i0 = 32 ∨ i0 = 10) ∧ ((true) = false → ¬ (i0 = 32 ∨ i0 = 10)) from ⟨(by intro h; first | exact True.intro | omega | (exact absurd h (by decide))), (by intro h; first | exact True.intro | omega | (exact absurd h (by decide)))⟩)
  · refine Go_ite (fun c2 => ?_) (fun c2 => ?_)
    · exact Go_i (show ((true) = true → i0 = 32 ∨ i0 = 10) ∧ ((true) = false → ¬ (i0 = 32 ∨ i0 = 10)) from ⟨(by intro h; first | exact True.intro | omega | (exact absurd h (by decide))), (by intro h; first | exact True.intro | omega | (exact absurd h (by decide)))⟩)
    · exact Go_i (show ((false) = true → i0 = 32 ∨ i0 = 10) ∧ ((false) = false → ¬ (i0 = 32 ∨ i0 = 10)) from ⟨(by intro h; first | exact True.intro | omega | (exact absurd h (by decide))), (by intro h; first | exact True.intro | omega | (exact absurd h (by decide)))⟩)
set_option maxRecDepth 20000 in
theorem ok_X8_isLetter (i0 : Int) (p0 : -2147483648 ≤ i0) (p1 : i0 ≤ 2147483647) : Go (fun o => ((o) = true → 97 ≤ i0 ∧ i0 ≤ 122) ∧ ((o) = false → ¬ (97 ≤ i0 ∧ i0 ≤ 122))) (zf_X8_isLetter i0) := by
  unfold zf_X8_isLetter
  refine Go_chk (by unfold zout; omega) ?_
  refine Go_ite (fun c1 => ?_) (fun c1 => ?_)
  · exact Go_i (show ((false) = true → 97 ≤ i0 ∧ i0 ≤ 122) ∧ ((false) = false → ¬ (97 ≤ i0 ∧ i0 ≤ 122)) from ⟨(by intro h; first | exact True.intro | omega | (exact absurd h (by decide))), (by intro h; first | exact True.intro | omega | (exact absurd h (by decide)))⟩)
  · refine Go_ite (fun c2 => ?_) (fun c2 => ?_)
    · exact Go_i (show ((false) = true → 97 ≤ i0 ∧ i0 ≤ 122) ∧ ((false) = false → ¬ (97 ≤ i0 ∧ i0 ≤ 122)) from ⟨(by intro h; first | exact True.intro | omega | (exact absurd h (by decide))), (by intro h; first | exact True.intro | omega | (exact absurd h (by decide)))⟩)
    · exact Go_i (show ((true) = true → 97 ≤ i0 ∧ i0 ≤ 122) ∧ ((true) = false → ¬ (97 ≤ i0 ∧ i0 ≤ 122)) from ⟨(by intro h; first | exact True.intro | omega | (exact absurd h (by decide))), (by intro h; first | exact True.intro | omega | (exact absurd h (by decide)))⟩)
set_option maxRecDepth 20000 in
theorem ok_X8_readWord (t_length : Int) (t_next : Int) (t_kind : Int) (t_place : Int) (t_bytes : Nat) (p0 : 0 ≤ t_length) (p1 : t_length ≤ 300) (p2 : 0 ≤ t_next) (p3 : t_next ≤ t_length) (p4 : 0 ≤ t_place) (p5 : t_place ≤ t_next) : Go (fun o => t_next ≤ (o.1) ∧ (o.1) ≤ t_length ∧ ((o.2) = 1 ∨ (o.2) = 4)) (zf_X8_readWord t_length t_next t_kind t_place t_bytes) := by
  unfold zf_X8_readWord
  refine jok (fun (s : zS_X8_readWord) => match s with | (lab, t_next', t_kind') => (lab = 0 ∧ t_next ≤ t_next' ∧ t_next' ≤ t_length)) (fun (s : zS_X8_readWord) => match s with | (lab, t_next', t_kind') => if lab = 0 then (t_length - t_next').toNat else 0) (fun (o : zO_X8_readWord) => t_next ≤ (o.1) ∧ (o.1) ≤ t_length ∧ ((o.2) = 1 ∨ (o.2) = 4)) ?_ _ ?_ ?_
  · intro s hI
    obtain ⟨lab, t_next', t_kind'⟩ := s
    have hI : (lab = 0 ∧ t_next ≤ t_next' ∧ t_next' ≤ t_length) := hI
    rcases hI with ⟨rfl, v0_0, v0_1⟩
    · show Go _ (zg_X8_readWord_0 t_length t_place t_bytes t_next' t_kind')
      unfold zg_X8_readWord_0
      refine Go_chk (by unfold zout; omega) ?_
      refine Go_chk (by unfold zout; omega) ?_
      refine Go_ite (fun c1 => ?_) (fun c1 => ?_)
      · refine Go_chk (by unfold zout; omega) ?_
        refine Go_ite (fun c2 => ?_) (fun c2 => ?_)
        · exact Go_i (show t_next ≤ (t_next') ∧ (t_next') ≤ t_length ∧ (((4 : Int)) = 1 ∨ ((4 : Int)) = 4) from ⟨(by first | assumption | omega), (by first | assumption | omega), (by first | assumption | omega)⟩)
        · exact Go_i (show t_next ≤ (t_next') ∧ (t_next') ≤ t_length ∧ (((1 : Int)) = 1 ∨ ((1 : Int)) = 4) from ⟨(by first | assumption | omega), (by first | assumption | omega), (by first | assumption | omega)⟩)
      · refine Go_chk (by omega) ?_
        have a3 := rget t_bytes (Int.toNat t_next')
        refine Go_bindP (ok_X8_isLetter (zget t_bytes (Int.toNat t_next')) (by first | assumption | omega) (by first | assumption | omega)) (fun o6 q4 => ?_)
        obtain ⟨q4_0, q4_1⟩ := q4
        refine Go_ite (fun c5 => ?_) (fun c5 => ?_)
        · have dc5 := q4_1 c5
          refine Go_chk (by unfold zout; omega) ?_
          refine Go_ite (fun c6 => ?_) (fun c6 => ?_)
          · exact Go_i (show t_next ≤ (t_next') ∧ (t_next') ≤ t_length ∧ (((4 : Int)) = 1 ∨ ((4 : Int)) = 4) from ⟨(by first | assumption | omega), (by first | assumption | omega), (by first | assumption | omega)⟩)
          · exact Go_i (show t_next ≤ (t_next') ∧ (t_next') ≤ t_length ∧ (((1 : Int)) = 1 ∨ ((1 : Int)) = 4) from ⟨(by first | assumption | omega), (by first | assumption | omega), (by first | assumption | omega)⟩)
        · have dc5 := q4_0 (bnf c5)
          exact Go_i (show (((0 : Nat) = 0 ∧ t_next ≤ ((t_next' + (1 : Int))) ∧ ((t_next' + (1 : Int))) ≤ t_length)) ∧ (t_length - ((t_next' + (1 : Int)))).toNat < (t_length - t_next').toNat from ⟨⟨rfl, (by first | assumption | omega), (by first | assumption | omega)⟩, by omega⟩)
  · exact (show ((0 : Nat) = 0 ∧ t_next ≤ t_next ∧ t_next ≤ t_length) from ⟨rfl, (by first | assumption | omega), (by first | assumption | omega)⟩)
  · show (t_length - t_next).toNat < jfuel
    unfold jfuel
    omega
set_option maxRecDepth 20000 in
theorem ok_X8_isDigit (i0 : Int) (p0 : -2147483648 ≤ i0) (p1 : i0 ≤ 2147483647) : Go (fun o => ((o) = true → 48 ≤ i0 ∧ i0 ≤ 57) ∧ ((o) = false → ¬ (48 ≤ i0 ∧ i0 ≤ 57))) (zf_X8_isDigit i0) := by
  unfold zf_X8_isDigit
  refine Go_chk (by unfold zout; omega) ?_
  refine Go_ite (fun c1 => ?_) (fun c1 => ?_)
  · exact Go_i (show ((false) = true → 48 ≤ i0 ∧ i0 ≤ 57) ∧ ((false) = false → ¬ (48 ≤ i0 ∧ i0 ≤ 57)) from ⟨(by intro h; first | exact True.intro | omega | (exact absurd h (by decide))), (by intro h; first | exact True.intro | omega | (exact absurd h (by decide)))⟩)
  · refine Go_ite (fun c2 => ?_) (fun c2 => ?_)
    · exact Go_i (show ((false) = true → 48 ≤ i0 ∧ i0 ≤ 57) ∧ ((false) = false → ¬ (48 ≤ i0 ∧ i0 ≤ 57)) from ⟨(by intro h; first | exact True.intro | omega | (exact absurd h (by decide))), (by intro h; first | exact True.intro | omega | (exact absurd h (by decide)))⟩)
    · exact Go_i (show ((true) = true → 48 ≤ i0 ∧ i0 ≤ 57) ∧ ((true) = false → ¬ (48 ≤ i0 ∧ i0 ≤ 57)) from ⟨(by intro h; first | exact True.intro | omega | (exact absurd h (by decide))), (by intro h; first | exact True.intro | omega | (exact absurd h (by decide)))⟩)
set_option maxRecDepth 20000 in
theorem ok_X8_readNumber (t_length : Int) (t_next : Int) (t_kind : Int) (t_place : Int) (t_value : Int) (t_bytes : Nat) (p0 : 0 ≤ t_length) (p1 : t_length ≤ 300) (p2 : 0 ≤ t_next) (p3 : t_next ≤ t_length) (p4 : 0 ≤ t_place) (p5 : t_place ≤ t_next) (p6 : t_next = t_place) (p7 : t_value = 0) : Go (fun o => t_next ≤ (o.1) ∧ (o.1) ≤ t_length ∧ ((o.2.1) = 2 ∨ (o.2.1) = 4) ∧ ((o.2.1) = 2 → 0 ≤ (o.2.2) ∧ (o.2.2) ≤ 999)) (zf_X8_readNumber t_length t_next t_kind t_place t_value t_bytes) := by
  unfold zf_X8_readNumber
  refine jok (fun (s : zS_X8_readNumber) => match s with | (lab, t_next', t_kind', t_value') => (lab = 0 ∧ t_next ≤ t_next' ∧ t_next' ≤ t_length ∧ (t_next' = t_place → t_value' = 0) ∧ (t_next' ≤ t_place + 1 → 0 ≤ t_value' ∧ t_value' ≤ 9) ∧ (t_next' ≤ t_place + 2 → 0 ≤ t_value' ∧ t_value' ≤ 99) ∧ (t_next' ≤ t_place + 3 → 0 ≤ t_value' ∧ t_value' ≤ 999))) (fun (s : zS_X8_readNumber) => match s with | (lab, t_next', t_kind', t_value') => if lab = 0 then (t_length - t_next').toNat else 0) (fun (o : zO_X8_readNumber) => t_next ≤ (o.1) ∧ (o.1) ≤ t_length ∧ ((o.2.1) = 2 ∨ (o.2.1) = 4) ∧ ((o.2.1) = 2 → 0 ≤ (o.2.2) ∧ (o.2.2) ≤ 999)) ?_ _ ?_ ?_
  · intro s hI
    obtain ⟨lab, t_next', t_kind', t_value'⟩ := s
    have hI : (lab = 0 ∧ t_next ≤ t_next' ∧ t_next' ≤ t_length ∧ (t_next' = t_place → t_value' = 0) ∧ (t_next' ≤ t_place + 1 → 0 ≤ t_value' ∧ t_value' ≤ 9) ∧ (t_next' ≤ t_place + 2 → 0 ≤ t_value' ∧ t_value' ≤ 99) ∧ (t_next' ≤ t_place + 3 → 0 ≤ t_value' ∧ t_value' ≤ 999)) := hI
    rcases hI with ⟨rfl, v0_0, v0_1, v0_2, v0_3, v0_4, v0_5⟩
    · show Go _ (zg_X8_readNumber_0 t_length t_place t_bytes t_next' t_kind' t_value')
      unfold zg_X8_readNumber_0
      refine Go_chk (by unfold zout; omega) ?_
      refine Go_chk (by unfold zout; omega) ?_
      refine Go_ite (fun c1 => ?_) (fun c1 => ?_)
      · refine Go_chk (by unfold zout; omega) ?_
        refine Go_ite (fun c2 => ?_) (fun c2 => ?_)
        · exact Go_i (show t_next ≤ (t_next') ∧ (t_next') ≤ t_length ∧ (((4 : Int)) = 2 ∨ ((4 : Int)) = 4) ∧ (((4 : Int)) = 2 → 0 ≤ (t_value') ∧ (t_value') ≤ 999) from ⟨(by first | assumption | omega), (by first | assumption | omega), (by first | assumption | omega), (by intro h; first | exact True.intro | omega | (exact absurd h (by decide)))⟩)
        · exact Go_i (show t_next ≤ (t_next') ∧ (t_next') ≤ t_length ∧ (((2 : Int)) = 2 ∨ ((2 : Int)) = 4) ∧ (((2 : Int)) = 2 → 0 ≤ (t_value') ∧ (t_value') ≤ 999) from ⟨(by first | assumption | omega), (by first | assumption | omega), (by first | assumption | omega), (by intro h; first | exact True.intro | omega | (exact absurd h (by decide)))⟩)
      · refine Go_chk (by omega) ?_
        have a3 := rget t_bytes (Int.toNat t_next')
        refine Go_bindP (ok_X8_isDigit (zget t_bytes (Int.toNat t_next')) (by first | assumption | omega) (by first | assumption | omega)) (fun o6 q4 => ?_)
        obtain ⟨q4_0, q4_1⟩ := q4
        refine Go_ite (fun c5 => ?_) (fun c5 => ?_)
        · have dc5 := q4_1 c5
          refine Go_chk (by unfold zout; omega) ?_
          refine Go_ite (fun c6 => ?_) (fun c6 => ?_)
          · exact Go_i (show t_next ≤ (t_next') ∧ (t_next') ≤ t_length ∧ (((4 : Int)) = 2 ∨ ((4 : Int)) = 4) ∧ (((4 : Int)) = 2 → 0 ≤ (t_value') ∧ (t_value') ≤ 999) from ⟨(by first | assumption | omega), (by first | assumption | omega), (by first | assumption | omega), (by intro h; first | exact True.intro | omega | (exact absurd h (by decide)))⟩)
          · exact Go_i (show t_next ≤ (t_next') ∧ (t_next') ≤ t_length ∧ (((2 : Int)) = 2 ∨ ((2 : Int)) = 4) ∧ (((2 : Int)) = 2 → 0 ≤ (t_value') ∧ (t_value') ≤ 999) from ⟨(by first | assumption | omega), (by first | assumption | omega), (by first | assumption | omega), (by intro h; first | exact True.intro | omega | (exact absurd h (by decide)))⟩)
        · have dc5 := q4_0 (bnf c5)
          exact Go_i (show (((0 : Nat) = 0 ∧ t_next ≤ ((t_next' + (1 : Int))) ∧ ((t_next' + (1 : Int))) ≤ t_length ∧ (((t_next' + (1 : Int))) = t_place → ((((t_value' * (10 : Int)) + (zget t_bytes (Int.toNat t_next'))) - (48 : Int))) = 0) ∧ (((t_next' + (1 : Int))) ≤ t_place + 1 → 0 ≤ ((((t_value' * (10 : Int)) + (zget t_bytes (Int.toNat t_next'))) - (48 : Int))) ∧ ((((t_value' * (10 : Int)) + (zget t_bytes (Int.toNat t_next'))) - (48 : Int))) ≤ 9) ∧ (((t_next' + (1 : Int))) ≤ t_place + 2 → 0 ≤ ((((t_value' * (10 : Int)) + (zget t_bytes (Int.toNat t_next'))) - (48 : Int))) ∧ ((((t_value' * (10 : Int)) + (zget t_bytes (Int.toNat t_next'))) - (48 : Int))) ≤ 99) ∧ (((t_next' + (1 : Int))) ≤ t_place + 3 → 0 ≤ ((((t_value' * (10 : Int)) + (zget t_bytes (Int.toNat t_next'))) - (48 : Int))) ∧ ((((t_value' * (10 : Int)) + (zget t_bytes (Int.toNat t_next'))) - (48 : Int))) ≤ 999))) ∧ (t_length - ((t_next' + (1 : Int)))).toNat < (t_length - t_next').toNat from ⟨⟨rfl, (by first | assumption | omega), (by first | assumption | omega), (by intro h; first | exact True.intro | omega | (exact absurd h (by decide))), (by intro h; first | exact True.intro | omega | (exact absurd h (by decide))), (by intro h; first | exact True.intro | omega | (exact absurd h (by decide))), (by intro h; first | exact True.intro | omega | (exact absurd h (by decide)))⟩, by omega⟩)
  · exact (show ((0 : Nat) = 0 ∧ t_next ≤ t_next ∧ t_next ≤ t_length ∧ (t_next = t_place → t_value = 0) ∧ (t_next ≤ t_place + 1 → 0 ≤ t_value ∧ t_value ≤ 9) ∧ (t_next ≤ t_place + 2 → 0 ≤ t_value ∧ t_value ≤ 99) ∧ (t_next ≤ t_place + 3 → 0 ≤ t_value ∧ t_value ≤ 999)) from ⟨rfl, (by first | assumption | omega), (by first | assumption | omega), (by intro h; first | exact True.intro | omega | (exact absurd h (by decide))), (by intro h; first | exact True.intro | omega | (exact absurd h (by decide))), (by intro h; first | exact True.intro | omega | (exact absurd h (by decide))), (by intro h; first | exact True.intro | omega | (exact absurd h (by decide)))⟩)
  · show (t_length - t_next).toNat < jfuel
    unfold jfuel
    omega
set_option maxRecDepth 20000 in
theorem ok_X8_readToken (t_length : Int) (t_next : Int) (t_kind : Int) (t_place : Int) (t_value : Int) (t_bytes : Nat) (p0 : 0 ≤ t_length) (p1 : t_length ≤ 300) (p2 : 0 ≤ t_next) (p3 : t_next ≤ t_length) : Go (fun o => t_next ≤ (o.1) ∧ (o.1) ≤ t_length ∧ 0 ≤ (o.2.2.1) ∧ (o.2.2.1) ≤ (o.1) ∧ 0 ≤ (o.2.1) ∧ (o.2.1) ≤ 4 ∧ ((o.2.1) = 2 → 0 ≤ (o.2.2.2) ∧ (o.2.2.2) ≤ 999)) (zf_X8_readToken t_length t_next t_kind t_place t_value t_bytes) := by
  unfold zf_X8_readToken
  refine jok (fun (s : zS_X8_readToken) => match s with | (lab, t_next', t_kind', t_place', t_value') => (lab = 0 ∧ t_next ≤ t_next' ∧ t_next' ≤ t_length) ∨ (lab = 39 ∧ t_next ≤ t_next' ∧ t_next' ≤ t_length)) (fun (s : zS_X8_readToken) => match s with | (lab, t_next', t_kind', t_place', t_value') => if lab = 0 then (t_length - t_next').toNat + 1 else if lab = 39 then 0 else 0) (fun (o : zO_X8_readToken) => t_next ≤ (o.1) ∧ (o.1) ≤ t_length ∧ 0 ≤ (o.2.2.1) ∧ (o.2.2.1) ≤ (o.1) ∧ 0 ≤ (o.2.1) ∧ (o.2.1) ≤ 4 ∧ ((o.2.1) = 2 → 0 ≤ (o.2.2.2) ∧ (o.2.2.2) ≤ 999)) ?_ _ ?_ ?_
  · intro s hI
    obtain ⟨lab, t_next', t_kind', t_place', t_value'⟩ := s
    have hI : (lab = 0 ∧ t_next ≤ t_next' ∧ t_next' ≤ t_length) ∨ (lab = 39 ∧ t_next ≤ t_next' ∧ t_next' ≤ t_length) := hI
    rcases hI with ⟨rfl, v0_0, v0_1⟩ | ⟨rfl, v39_0, v39_1⟩
    · show Go _ (zg_X8_readToken_0 t_length t_bytes t_next' t_kind' t_place' t_value')
      unfold zg_X8_readToken_0
      refine Go_chk (by unfold zout; omega) ?_
      refine Go_chk (by unfold zout; omega) ?_
      refine Go_ite (fun c1 => ?_) (fun c1 => ?_)
      · exact Go_i (show (((39 : Nat) = 0 ∧ t_next ≤ (t_next') ∧ (t_next') ≤ t_length) ∨ ((39 : Nat) = 39 ∧ t_next ≤ (t_next') ∧ (t_next') ≤ t_length)) ∧ 0 < (t_length - t_next').toNat + 1 from ⟨Or.inr (⟨rfl, (by first | assumption | omega), (by first | assumption | omega)⟩), by omega⟩)
      · refine Go_chk (by omega) ?_
        have a2 := rget t_bytes (Int.toNat t_next')
        refine Go_bindP (ok_X8_isBlank (zget t_bytes (Int.toNat t_next')) (by first | assumption | omega) (by first | assumption | omega)) (fun o4 q3 => ?_)
        obtain ⟨q3_0, q3_1⟩ := q3
        refine Go_ite (fun c4 => ?_) (fun c4 => ?_)
        · have dc4 := q3_1 c4
          exact Go_i (show (((39 : Nat) = 0 ∧ t_next ≤ (t_next') ∧ (t_next') ≤ t_length) ∨ ((39 : Nat) = 39 ∧ t_next ≤ (t_next') ∧ (t_next') ≤ t_length)) ∧ 0 < (t_length - t_next').toNat + 1 from ⟨Or.inr (⟨rfl, (by first | assumption | omega), (by first | assumption | omega)⟩), by omega⟩)
        · have dc4 := q3_0 (bnf c4)
          exact Go_i (show (((0 : Nat) = 0 ∧ t_next ≤ ((t_next' + (1 : Int))) ∧ ((t_next' + (1 : Int))) ≤ t_length) ∨ ((0 : Nat) = 39 ∧ t_next ≤ ((t_next' + (1 : Int))) ∧ ((t_next' + (1 : Int))) ≤ t_length)) ∧ (t_length - ((t_next' + (1 : Int)))).toNat + 1 < (t_length - t_next').toNat + 1 from ⟨Or.inl (⟨rfl, (by first | assumption | omega), (by first | assumption | omega)⟩), by omega⟩)
    · show Go _ (zg_X8_readToken_39 t_length t_bytes t_next' t_kind' t_place' t_value')
      unfold zg_X8_readToken_39
      refine Go_chk (by unfold zout; omega) ?_
      refine Go_chk (by unfold zout; omega) ?_
      refine Go_ite (fun c5 => ?_) (fun c5 => ?_)
      · refine Go_chk (by omega) ?_
        have a6 := rget t_bytes (Int.toNat t_next')
        refine Go_bindP (ok_X8_isLetter (zget t_bytes (Int.toNat t_next')) (by first | assumption | omega) (by first | assumption | omega)) (fun o10 q7 => ?_)
        obtain ⟨q7_0, q7_1⟩ := q7
        refine Go_ite (fun c8 => ?_) (fun c8 => ?_)
        · have dc8 := q7_1 c8
          refine Go_bindP (ok_X8_isDigit (zget t_bytes (Int.toNat t_next')) (by first | assumption | omega) (by first | assumption | omega)) (fun o11 q9 => ?_)
          obtain ⟨q9_0, q9_1⟩ := q9
          refine Go_ite (fun c10 => ?_) (fun c10 => ?_)
          · have dc10 := q9_1 c10
            refine Go_ite (fun c11 => ?_) (fun c11 => ?_)
            · exact Go_i (show t_next ≤ ((t_next' + (1 : Int))) ∧ ((t_next' + (1 : Int))) ≤ t_length ∧ 0 ≤ (t_next') ∧ (t_next') ≤ ((t_next' + (1 : Int))) ∧ 0 ≤ ((3 : Int)) ∧ ((3 : Int)) ≤ 4 ∧ (((3 : Int)) = 2 → 0 ≤ ((0 : Int)) ∧ ((0 : Int)) ≤ 999) from ⟨(by first | assumption | omega), (by first | assumption | omega), (by first | assumption | omega), (by first | assumption | omega), (by first | assumption | omega), (by first | assumption | omega), (by intro h; first | exact True.intro | omega | (exact absurd h (by decide)))⟩)
            · exact Go_i (show t_next ≤ ((t_next' + (1 : Int))) ∧ ((t_next' + (1 : Int))) ≤ t_length ∧ 0 ≤ (t_next') ∧ (t_next') ≤ ((t_next' + (1 : Int))) ∧ 0 ≤ ((4 : Int)) ∧ ((4 : Int)) ≤ 4 ∧ (((4 : Int)) = 2 → 0 ≤ ((0 : Int)) ∧ ((0 : Int)) ≤ 999) from ⟨(by first | assumption | omega), (by first | assumption | omega), (by first | assumption | omega), (by first | assumption | omega), (by first | assumption | omega), (by first | assumption | omega), (by intro h; first | exact True.intro | omega | (exact absurd h (by decide)))⟩)
          · have dc10 := q9_0 (bnf c10)
            refine Go_bindP (ok_X8_readNumber t_length t_next' t_kind' t_next' (0 : Int) t_bytes (by first | assumption | omega) (by first | assumption | omega) (by first | assumption | omega) (by first | assumption | omega) (by first | assumption | omega) (by first | assumption | omega) (by first | assumption | omega) (by first | assumption | omega)) (fun o13 q12 => ?_)
            obtain ⟨q12_0, q12_1, q12_2, q12_3⟩ := q12
            exact Go_i (show t_next ≤ ((o13.1)) ∧ ((o13.1)) ≤ t_length ∧ 0 ≤ (t_next') ∧ (t_next') ≤ ((o13.1)) ∧ 0 ≤ ((o13.2.1)) ∧ ((o13.2.1)) ≤ 4 ∧ (((o13.2.1)) = 2 → 0 ≤ ((o13.2.2)) ∧ ((o13.2.2)) ≤ 999) from ⟨(by first | assumption | omega), (by first | assumption | omega), (by first | assumption | omega), (by first | assumption | omega), (by first | assumption | omega), (by first | assumption | omega), (by intro h; first | exact True.intro | omega | (exact absurd h (by decide)))⟩)
        · have dc8 := q7_0 (bnf c8)
          refine Go_bindP (ok_X8_readWord t_length t_next' t_kind' t_next' t_bytes (by first | assumption | omega) (by first | assumption | omega) (by first | assumption | omega) (by first | assumption | omega) (by first | assumption | omega) (by first | assumption | omega)) (fun o15 q13 => ?_)
          obtain ⟨q13_0, q13_1, q13_2⟩ := q13
          exact Go_i (show t_next ≤ ((o15.1)) ∧ ((o15.1)) ≤ t_length ∧ 0 ≤ (t_next') ∧ (t_next') ≤ ((o15.1)) ∧ 0 ≤ ((o15.2)) ∧ ((o15.2)) ≤ 4 ∧ (((o15.2)) = 2 → 0 ≤ ((0 : Int)) ∧ ((0 : Int)) ≤ 999) from ⟨(by first | assumption | omega), (by first | assumption | omega), (by first | assumption | omega), (by first | assumption | omega), (by first | assumption | omega), (by first | assumption | omega), (by intro h; first | exact True.intro | omega | (exact absurd h (by decide)))⟩)
      · exact Go_i (show t_next ≤ (t_next') ∧ (t_next') ≤ t_length ∧ 0 ≤ (t_next') ∧ (t_next') ≤ (t_next') ∧ 0 ≤ ((0 : Int)) ∧ ((0 : Int)) ≤ 4 ∧ (((0 : Int)) = 2 → 0 ≤ ((0 : Int)) ∧ ((0 : Int)) ≤ 999) from ⟨(by first | assumption | omega), (by first | assumption | omega), (by first | assumption | omega), (by first | assumption | omega), (by first | assumption | omega), (by first | assumption | omega), (by intro h; first | exact True.intro | omega | (exact absurd h (by decide)))⟩)
  · exact (show ((0 : Nat) = 0 ∧ t_next ≤ t_next ∧ t_next ≤ t_length) ∨ ((0 : Nat) = 39 ∧ t_next ≤ t_next ∧ t_next ≤ t_length) from Or.inl (⟨rfl, (by first | assumption | omega), (by first | assumption | omega)⟩))
  · show (t_length - t_next).toNat + 1 < jfuel
    unfold jfuel
    omega
set_option maxRecDepth 20000 in
theorem ok_X8_readNumbers (t_length : Int) (t_next : Int) (t_kind : Int) (t_place : Int) (t_value : Int) (t_bytes : Nat) (q1_c : Nat) (p0 : 0 ≤ t_length) (p1 : t_length ≤ 300) (p2 : (∀ k : Nat, k < 10 → 0 ≤ zget q1_c k ∧ zget q1_c k ≤ 999)) : Go (fun o => -1 ≤ (o.1) ∧ (o.1) ≤ 10 ∧ (∀ k : Nat, k < 10 → 0 ≤ zget (o.2.2.2.2.2) k ∧ zget (o.2.2.2.2.2) k ≤ 999)) (zf_X8_readNumbers t_length t_next t_kind t_place t_value t_bytes q1_c) := by
  unfold zf_X8_readNumbers
  refine jok (fun (s : zS_X8_readNumbers) => match s with | (lab, i2', t_next', t_kind', t_place', t_value', q1_c') => (lab = 0 ∧ (∀ k : Nat, k < 10 → 0 ≤ zget q1_c' k ∧ zget q1_c' k ≤ 999)) ∨ (lab = 6 ∧ 0 ≤ i2' ∧ i2' ≤ 10 ∧ 0 ≤ t_next' ∧ t_next' ≤ t_length ∧ (∀ k : Nat, k < 10 → 0 ≤ zget q1_c' k ∧ zget q1_c' k ≤ 999))) (fun (s : zS_X8_readNumbers) => match s with | (lab, i2', t_next', t_kind', t_place', t_value', q1_c') => if lab = 0 then 20 else if lab = 6 then (11 - i2').toNat else 0) (fun (o : zO_X8_readNumbers) => -1 ≤ (o.1) ∧ (o.1) ≤ 10 ∧ (∀ k : Nat, k < 10 → 0 ≤ zget (o.2.2.2.2.2) k ∧ zget (o.2.2.2.2.2) k ≤ 999)) ?_ _ ?_ ?_
  · intro s hI
    obtain ⟨lab, i2', t_next', t_kind', t_place', t_value', q1_c'⟩ := s
    have hI : (lab = 0 ∧ (∀ k : Nat, k < 10 → 0 ≤ zget q1_c' k ∧ zget q1_c' k ≤ 999)) ∨ (lab = 6 ∧ 0 ≤ i2' ∧ i2' ≤ 10 ∧ 0 ≤ t_next' ∧ t_next' ≤ t_length ∧ (∀ k : Nat, k < 10 → 0 ≤ zget q1_c' k ∧ zget q1_c' k ≤ 999)) := hI
    rcases hI with ⟨rfl, v0_0⟩ | ⟨rfl, v6_0, v6_1, v6_2, v6_3, v6_4⟩
    · show Go _ (zg_X8_readNumbers_0 t_length t_bytes i2' t_next' t_kind' t_place' t_value' q1_c')
      unfold zg_X8_readNumbers_0
      refine Go_bindP (ok_X8_rewind t_next' ) (fun o1 q1 => ?_)
      exact Go_i (show (((6 : Nat) = 0 ∧ (∀ k : Nat, k < 10 → 0 ≤ zget (q1_c') k ∧ zget (q1_c') k ≤ 999)) ∨ ((6 : Nat) = 6 ∧ 0 ≤ ((0 : Int)) ∧ ((0 : Int)) ≤ 10 ∧ 0 ≤ (o1) ∧ (o1) ≤ t_length ∧ (∀ k : Nat, k < 10 → 0 ≤ zget (q1_c') k ∧ zget (q1_c') k ≤ 999))) ∧ (11 - ((0 : Int))).toNat < 20 from ⟨Or.inr (⟨rfl, (by first | assumption | omega), (by first | assumption | omega), (by first | assumption | omega), (by first | assumption | omega), (by first | assumption | exact all_w (by assumption) (by omega) | (refine all_setw ?_ (Int.le_refl _) ?_ ?_ (by omega) (by omega) <;> first | assumption | omega) | exact all_setw (by assumption) (by omega) (by omega) (by omega) (by omega) (by omega))⟩), by omega⟩)
    · show Go _ (zg_X8_readNumbers_6 t_length t_bytes i2' t_next' t_kind' t_place' t_value' q1_c')
      unfold zg_X8_readNumbers_6
      refine Go_chk (by unfold zout; omega) ?_
      refine Go_ite (fun c2 => ?_) (fun c2 => ?_)
      · exact Go_i (show -1 ≤ ((-1 : Int)) ∧ ((-1 : Int)) ≤ 10 ∧ (∀ k : Nat, k < 10 → 0 ≤ zget (q1_c') k ∧ zget (q1_c') k ≤ 999) from ⟨(by first | assumption | omega), (by first | assumption | omega), (by first | assumption | exact all_w (by assumption) (by omega) | (refine all_setw ?_ (Int.le_refl _) ?_ ?_ (by omega) (by omega) <;> first | assumption | omega) | exact all_setw (by assumption) (by omega) (by omega) (by omega) (by omega) (by omega))⟩)
      · refine Go_bindP (ok_X8_readToken t_length t_next' t_kind' t_place' t_value' t_bytes (by first | assumption | omega) (by first | assumption | omega) (by first | assumption | omega) (by first | assumption | omega)) (fun o3 q3 => ?_)
        obtain ⟨q3_0, q3_1, q3_2, q3_3, q3_4, q3_5, q3_6⟩ := q3
        refine Go_chk (by unfold zout; omega) ?_
        refine Go_ite (fun c4 => ?_) (fun c4 => ?_)
        · exact Go_i (show -1 ≤ (i2') ∧ (i2') ≤ 10 ∧ (∀ k : Nat, k < 10 → 0 ≤ zget (q1_c') k ∧ zget (q1_c') k ≤ 999) from ⟨(by first | assumption | omega), (by first | assumption | omega), (by first | assumption | exact all_w (by assumption) (by omega) | (refine all_setw ?_ (Int.le_refl _) ?_ ?_ (by omega) (by omega) <;> first | assumption | omega) | exact all_setw (by assumption) (by omega) (by omega) (by omega) (by omega) (by omega))⟩)
        · refine Go_ite (fun c5 => ?_) (fun c5 => ?_)
          · refine Go_ite (fun c6 => ?_) (fun c6 => ?_)
            · exact Go_i (show -1 ≤ ((-1 : Int)) ∧ ((-1 : Int)) ≤ 10 ∧ (∀ k : Nat, k < 10 → 0 ≤ zget (q1_c') k ∧ zget (q1_c') k ≤ 999) from ⟨(by first | assumption | omega), (by first | assumption | omega), (by first | assumption | exact all_w (by assumption) (by omega) | (refine all_setw ?_ (Int.le_refl _) ?_ ?_ (by omega) (by omega) <;> first | assumption | omega) | exact all_setw (by assumption) (by omega) (by omega) (by omega) (by omega) (by omega))⟩)
            · refine Go_chk (by omega) ?_
              exact Go_i (show (((6 : Nat) = 0 ∧ (∀ k : Nat, k < 10 → 0 ≤ zget ((zset q1_c' (Int.toNat i2') (o3.2.2.2))) k ∧ zget ((zset q1_c' (Int.toNat i2') (o3.2.2.2))) k ≤ 999)) ∨ ((6 : Nat) = 6 ∧ 0 ≤ ((i2' + (1 : Int))) ∧ ((i2' + (1 : Int))) ≤ 10 ∧ 0 ≤ ((o3.1)) ∧ ((o3.1)) ≤ t_length ∧ (∀ k : Nat, k < 10 → 0 ≤ zget ((zset q1_c' (Int.toNat i2') (o3.2.2.2))) k ∧ zget ((zset q1_c' (Int.toNat i2') (o3.2.2.2))) k ≤ 999))) ∧ (11 - ((i2' + (1 : Int)))).toNat < (11 - i2').toNat from ⟨Or.inr (⟨rfl, (by first | assumption | omega), (by first | assumption | omega), (by first | assumption | omega), (by first | assumption | omega), (by first | assumption | exact all_w (by assumption) (by omega) | (refine all_setw ?_ (Int.le_refl _) ?_ ?_ (by omega) (by omega) <;> first | assumption | omega) | exact all_setw (by assumption) (by omega) (by omega) (by omega) (by omega) (by omega))⟩), by omega⟩)
          · exact Go_i (show -1 ≤ ((-1 : Int)) ∧ ((-1 : Int)) ≤ 10 ∧ (∀ k : Nat, k < 10 → 0 ≤ zget (q1_c') k ∧ zget (q1_c') k ≤ 999) from ⟨(by first | assumption | omega), (by first | assumption | omega), (by first | assumption | exact all_w (by assumption) (by omega) | (refine all_setw ?_ (Int.le_refl _) ?_ ?_ (by omega) (by omega) <;> first | assumption | omega) | exact all_setw (by assumption) (by omega) (by omega) (by omega) (by omega) (by omega))⟩)
  · exact (show ((0 : Nat) = 0 ∧ (∀ k : Nat, k < 10 → 0 ≤ zget q1_c k ∧ zget q1_c k ≤ 999)) ∨ ((0 : Nat) = 6 ∧ 0 ≤ 0 ∧ 0 ≤ 10 ∧ 0 ≤ t_next ∧ t_next ≤ t_length ∧ (∀ k : Nat, k < 10 → 0 ≤ zget q1_c k ∧ zget q1_c k ≤ 999)) from Or.inl (⟨rfl, (by first | assumption | exact all_w (by assumption) (by omega) | (refine all_setw ?_ (Int.le_refl _) ?_ ?_ (by omega) (by omega) <;> first | assumption | omega) | exact all_setw (by assumption) (by omega) (by omega) (by omega) (by omega) (by omega))⟩))
  · show 20 < jfuel
    unfold jfuel
    omega
set_option maxRecDepth 20000 in
theorem ok_X5_corners (n : Nat)  : Go (fun o => (o) = (n : Int)) (zf_X5_corners n) := by
  unfold zf_X5_corners
  exact Go_i (show ((n : Int)) = (n : Int) from (by first | assumption | omega))
set_option maxRecDepth 20000 in
theorem ok_X5_lineCount (n : Nat) (p0 : 4 ≤ n) (p1 : n ≤ 9) : Go (fun o => (o) = pg7 n ∧ 2 ≤ (o) ∧ (o) ≤ 27) (zf_X5_lineCount n) := by
  unfold zf_X5_lineCount
  have g7n := rpg7 (n := n) (by omega) (by omega)
  have g8n := rpg8 (n := n) (by omega) (by omega)
  have a1 := rpg7 (n := n) (by omega) (by omega)
  exact Go_i (show ((pg7 n)) = pg7 n ∧ 2 ≤ ((pg7 n)) ∧ ((pg7 n)) ≤ 27 from ⟨(by first | assumption | omega), (by first | assumption | omega), (by first | assumption | omega)⟩)
set_option maxRecDepth 20000 in
theorem ok_X5_cutCount (n : Nat) (p0 : 4 ≤ n) (p1 : n ≤ 9) : Go (fun o => (o) = pg8 n ∧ 2 ≤ (o) ∧ (o) ≤ 429) (zf_X5_cutCount n) := by
  unfold zf_X5_cutCount
  have g7n := rpg7 (n := n) (by omega) (by omega)
  have g8n := rpg8 (n := n) (by omega) (by omega)
  have a1 := rpg8 (n := n) (by omega) (by omega)
  exact Go_i (show ((pg8 n)) = pg8 n ∧ 2 ≤ ((pg8 n)) ∧ ((pg8 n)) ≤ 429 from ⟨(by first | assumption | omega), (by first | assumption | omega), (by first | assumption | omega)⟩)
set_option maxRecDepth 20000 in
theorem ok_X5_hasCorner (n : Nat) (i1 : Int) (p0 : 4 ≤ n) (p1 : n ≤ 9) (p2 : -2147483648 ≤ i1) (p3 : i1 ≤ 2147483647) : Go (fun o => ((o) = true → 0 ≤ i1 ∧ i1 < (n : Int)) ∧ ((o) = false → ¬ (0 ≤ i1 ∧ i1 < (n : Int)))) (zf_X5_hasCorner n i1) := by
  unfold zf_X5_hasCorner
  have g7n := rpg7 (n := n) (by omega) (by omega)
  have g8n := rpg8 (n := n) (by omega) (by omega)
  refine Go_chk (by unfold zout; omega) ?_
  refine Go_ite (fun c1 => ?_) (fun c1 => ?_)
  · exact Go_i (show ((false) = true → 0 ≤ i1 ∧ i1 < (n : Int)) ∧ ((false) = false → ¬ (0 ≤ i1 ∧ i1 < (n : Int))) from ⟨(by intro h; first | exact True.intro | omega | (exact absurd h (by decide))), (by intro h; first | exact True.intro | omega | (exact absurd h (by decide)))⟩)
  · refine Go_chk (by unfold zout; omega) ?_
    refine Go_ite (fun c2 => ?_) (fun c2 => ?_)
    · exact Go_i (show ((false) = true → 0 ≤ i1 ∧ i1 < (n : Int)) ∧ ((false) = false → ¬ (0 ≤ i1 ∧ i1 < (n : Int))) from ⟨(by intro h; first | exact True.intro | omega | (exact absurd h (by decide))), (by intro h; first | exact True.intro | omega | (exact absurd h (by decide)))⟩)
    · exact Go_i (show ((true) = true → 0 ≤ i1 ∧ i1 < (n : Int)) ∧ ((true) = false → ¬ (0 ≤ i1 ∧ i1 < (n : Int))) from ⟨(by intro h; first | exact True.intro | omega | (exact absurd h (by decide))), (by intro h; first | exact True.intro | omega | (exact absurd h (by decide)))⟩)
set_option maxRecDepth 20000 in
theorem ok_X5_hasCut (n : Nat) (i1 : Int) (p0 : 4 ≤ n) (p1 : n ≤ 9) (p2 : -2147483648 ≤ i1) (p3 : i1 ≤ 2147483647) : Go (fun o => ((o) = true → 0 ≤ i1 ∧ i1 < pg8 n) ∧ ((o) = false → ¬ (0 ≤ i1 ∧ i1 < pg8 n))) (zf_X5_hasCut n i1) := by
  unfold zf_X5_hasCut
  have g7n := rpg7 (n := n) (by omega) (by omega)
  have g8n := rpg8 (n := n) (by omega) (by omega)
  refine Go_chk (by unfold zout; omega) ?_
  refine Go_ite (fun c1 => ?_) (fun c1 => ?_)
  · exact Go_i (show ((false) = true → 0 ≤ i1 ∧ i1 < pg8 n) ∧ ((false) = false → ¬ (0 ≤ i1 ∧ i1 < pg8 n)) from ⟨(by intro h; first | exact True.intro | omega | (exact absurd h (by decide))), (by intro h; first | exact True.intro | omega | (exact absurd h (by decide)))⟩)
  · have a2 := rpg8 (n := n) (by omega) (by omega)
    refine Go_chk (by unfold zout; omega) ?_
    refine Go_ite (fun c3 => ?_) (fun c3 => ?_)
    · exact Go_i (show ((false) = true → 0 ≤ i1 ∧ i1 < pg8 n) ∧ ((false) = false → ¬ (0 ≤ i1 ∧ i1 < pg8 n)) from ⟨(by intro h; first | exact True.intro | omega | (exact absurd h (by decide))), (by intro h; first | exact True.intro | omega | (exact absurd h (by decide)))⟩)
    · exact Go_i (show ((true) = true → 0 ≤ i1 ∧ i1 < pg8 n) ∧ ((true) = false → ¬ (0 ≤ i1 ∧ i1 < pg8 n)) from ⟨(by intro h; first | exact True.intro | omega | (exact absurd h (by decide))), (by intro h; first | exact True.intro | omega | (exact absurd h (by decide)))⟩)
set_option maxRecDepth 20000 in
theorem ok_X5_cutAt (n : Nat) (i1 : Int) (p0 : 4 ≤ n) (p1 : n ≤ 9) (p2 : -2147483648 ≤ i1) (p3 : i1 ≤ 2147483647) : Go (fun o => -1 ≤ (o) ∧ (o) ≤ 134217727 ∧ ((0 ≤ i1 ∧ i1 < pg8 n) → isCut n (o))) (zf_X5_cutAt n i1) := by
  unfold zf_X5_cutAt
  have g7n := rpg7 (n := n) (by omega) (by omega)
  have g8n := rpg8 (n := n) (by omega) (by omega)
  refine Go_bindP (ok_X5_hasCut n i1 (by first | assumption | omega) (by first | assumption | omega) (by first | assumption | omega) (by first | assumption | omega)) (fun o1 q1 => ?_)
  obtain ⟨q1_0, q1_1⟩ := q1
  refine Go_ite (fun c2 => ?_) (fun c2 => ?_)
  · have dc2 := q1_1 c2
    exact Go_i (show -1 ≤ ((-1 : Int)) ∧ ((-1 : Int)) ≤ 134217727 ∧ ((0 ≤ i1 ∧ i1 < pg8 n) → isCut n ((-1 : Int))) from ⟨(by first | assumption | omega), (by first | assumption | omega), (by intro h; first | exact isCut_at (by omega) (by omega) | (exfalso; omega))⟩)
  · have dc2 := q1_0 (bnf c2)
    refine Go_chk (by omega) ?_
    have a3 := rget (pg6 n) (Int.toNat i1)
    have a4 := rpg6 (n := n) (by omega) (by omega) (Int.toNat i1) (by omega)
    exact Go_i (show -1 ≤ ((zget (pg6 n) (Int.toNat i1))) ∧ ((zget (pg6 n) (Int.toNat i1))) ≤ 134217727 ∧ ((0 ≤ i1 ∧ i1 < pg8 n) → isCut n ((zget (pg6 n) (Int.toNat i1)))) from ⟨(by first | assumption | omega), (by first | assumption | omega), (by intro h; first | exact isCut_at (by omega) (by omega) | (exfalso; omega))⟩)
set_option maxRecDepth 20000 in
theorem ok_X5_numberOf (n : Nat) (i1 : Int) (p0 : 4 ≤ n) (p1 : n ≤ 9) (p2 : -2147483648 ≤ i1) (p3 : i1 ≤ 2147483647) : Go (fun o => -1 ≤ (o) ∧ (o) < pg8 n) (zf_X5_numberOf n i1) := by
  unfold zf_X5_numberOf
  have g7n := rpg7 (n := n) (by omega) (by omega)
  have g8n := rpg8 (n := n) (by omega) (by omega)
  refine jok (fun (s : zS_X5_numberOf) => match s with | (lab, i1', i2', i3', i4') => (lab = 0 ∧ 4 ≤ n ∧ n ≤ 9 ∧ -2147483648 ≤ i1' ∧ i1' ≤ 2147483647) ∨ (lab = 12 ∧ 0 ≤ i2' ∧ i2' ≤ pg8 n ∧ -1 ≤ i3' ∧ i3' < pg8 n ∧ 0 ≤ i4' ∧ i4' ≤ 429 ∧ -2147483648 ≤ i1' ∧ i1' ≤ 2147483647)) (fun (s : zS_X5_numberOf) => match s with | (lab, i1', i2', i3', i4') => if lab = 0 then 500 else if lab = 12 then (430 - i4').toNat else 0) (fun (o : zO_X5_numberOf) => -1 ≤ (o) ∧ (o) < pg8 n) ?_ _ ?_ ?_
  · intro s hI
    obtain ⟨lab, i1', i2', i3', i4'⟩ := s
    have hI : (lab = 0 ∧ 4 ≤ n ∧ n ≤ 9 ∧ -2147483648 ≤ i1' ∧ i1' ≤ 2147483647) ∨ (lab = 12 ∧ 0 ≤ i2' ∧ i2' ≤ pg8 n ∧ -1 ≤ i3' ∧ i3' < pg8 n ∧ 0 ≤ i4' ∧ i4' ≤ 429 ∧ -2147483648 ≤ i1' ∧ i1' ≤ 2147483647) := hI
    rcases hI with ⟨rfl, v0_0, v0_1, v0_2, v0_3⟩ | ⟨rfl, v12_0, v12_1, v12_2, v12_3, v12_4, v12_5, v12_6, v12_7⟩
    · show Go _ (zg_X5_numberOf_0 n i1' i2' i3' i4')
      unfold zg_X5_numberOf_0
      have a1 := rpg8 (n := n) (by omega) (by omega)
      exact Go_i (show (((12 : Nat) = 0 ∧ 4 ≤ n ∧ n ≤ 9 ∧ -2147483648 ≤ (i1') ∧ (i1') ≤ 2147483647) ∨ ((12 : Nat) = 12 ∧ 0 ≤ ((0 : Int)) ∧ ((0 : Int)) ≤ pg8 n ∧ -1 ≤ (((pg8 n) - (1 : Int))) ∧ (((pg8 n) - (1 : Int))) < pg8 n ∧ 0 ≤ ((0 : Int)) ∧ ((0 : Int)) ≤ 429 ∧ -2147483648 ≤ (i1') ∧ (i1') ≤ 2147483647)) ∧ (430 - ((0 : Int))).toNat < 500 from ⟨Or.inr (⟨rfl, (by first | assumption | omega), (by first | assumption | omega), (by first | assumption | omega), (by first | assumption | omega), (by first | assumption | omega), (by first | assumption | omega), (by first | assumption | omega), (by first | assumption | omega)⟩), by omega⟩)
    · show Go _ (zg_X5_numberOf_12 n i1' i2' i3' i4')
      unfold zg_X5_numberOf_12
      refine Go_chk (by unfold zout; omega) ?_
      refine Go_ite (fun c2 => ?_) (fun c2 => ?_)
      · exact Go_i (show -1 ≤ ((-1 : Int)) ∧ ((-1 : Int)) < pg8 n from ⟨(by first | assumption | omega), (by first | assumption | omega)⟩)
      · refine Go_chk (by unfold zout; omega) ?_
        refine Go_chk (by unfold zout; omega) ?_
        refine Go_ite (fun c3 => ?_) (fun c3 => ?_)
        · exact Go_i (show -1 ≤ ((-1 : Int)) ∧ ((-1 : Int)) < pg8 n from ⟨(by first | assumption | omega), (by first | assumption | omega)⟩)
        · have a4 := rshr (i2' + i3') (1 : Int)
          have a5 := rshr1 (x := (i2' + i3')) (by omega) (by omega)
          refine Go_chk (by omega) ?_
          refine Go_chk (by unfold zout; omega) ?_
          have a6 := rget (pg6 n) (Int.toNat (zshr (i2' + i3') (1 : Int)))
          have a7 := rpg6 (n := n) (by omega) (by omega) (Int.toNat (zshr (i2' + i3') (1 : Int))) (by omega)
          refine Go_ite (fun c8 => ?_) (fun c8 => ?_)
          · exact Go_i (show -1 ≤ ((zshr (i2' + i3') (1 : Int))) ∧ ((zshr (i2' + i3') (1 : Int))) < pg8 n from ⟨(by first | assumption | omega), (by first | assumption | omega)⟩)
          · refine Go_ite (fun c9 => ?_) (fun c9 => ?_)
            · exact Go_i (show (((12 : Nat) = 0 ∧ 4 ≤ n ∧ n ≤ 9 ∧ -2147483648 ≤ (i1') ∧ (i1') ≤ 2147483647) ∨ ((12 : Nat) = 12 ∧ 0 ≤ (i2') ∧ (i2') ≤ pg8 n ∧ -1 ≤ (((zshr (i2' + i3') (1 : Int)) - (1 : Int))) ∧ (((zshr (i2' + i3') (1 : Int)) - (1 : Int))) < pg8 n ∧ 0 ≤ ((i4' + (1 : Int))) ∧ ((i4' + (1 : Int))) ≤ 429 ∧ -2147483648 ≤ (i1') ∧ (i1') ≤ 2147483647)) ∧ (430 - ((i4' + (1 : Int)))).toNat < (430 - i4').toNat from ⟨Or.inr (⟨rfl, (by first | assumption | omega), (by first | assumption | omega), (by first | assumption | omega), (by first | assumption | omega), (by first | assumption | omega), (by first | assumption | omega), (by first | assumption | omega), (by first | assumption | omega)⟩), by omega⟩)
            · exact Go_i (show (((12 : Nat) = 0 ∧ 4 ≤ n ∧ n ≤ 9 ∧ -2147483648 ≤ (i1') ∧ (i1') ≤ 2147483647) ∨ ((12 : Nat) = 12 ∧ 0 ≤ (((zshr (i2' + i3') (1 : Int)) + (1 : Int))) ∧ (((zshr (i2' + i3') (1 : Int)) + (1 : Int))) ≤ pg8 n ∧ -1 ≤ (i3') ∧ (i3') < pg8 n ∧ 0 ≤ ((i4' + (1 : Int))) ∧ ((i4' + (1 : Int))) ≤ 429 ∧ -2147483648 ≤ (i1') ∧ (i1') ≤ 2147483647)) ∧ (430 - ((i4' + (1 : Int)))).toNat < (430 - i4').toNat from ⟨Or.inr (⟨rfl, (by first | assumption | omega), (by first | assumption | omega), (by first | assumption | omega), (by first | assumption | omega), (by first | assumption | omega), (by first | assumption | omega), (by first | assumption | omega), (by first | assumption | omega)⟩), by omega⟩)
  · exact (show ((0 : Nat) = 0 ∧ 4 ≤ n ∧ n ≤ 9 ∧ -2147483648 ≤ i1 ∧ i1 ≤ 2147483647) ∨ ((0 : Nat) = 12 ∧ 0 ≤ 0 ∧ 0 ≤ pg8 n ∧ -1 ≤ 0 ∧ 0 < pg8 n ∧ 0 ≤ 0 ∧ 0 ≤ 429 ∧ -2147483648 ≤ i1 ∧ i1 ≤ 2147483647) from Or.inl (⟨rfl, (by first | assumption | omega), (by first | assumption | omega), (by first | assumption | omega), (by first | assumption | omega)⟩))
  · show 500 < jfuel
    unfold jfuel
    omega
set_option maxRecDepth 20000 in
theorem ok_X5_areNext (n : Nat) (i1 : Int) (i2 : Int) (p0 : 4 ≤ n) (p1 : n ≤ 9) (p2 : 0 ≤ i1) (p3 : i1 < (n : Int)) (p4 : 0 ≤ i2) (p5 : i2 < (n : Int)) : Go (fun o => True) (zf_X5_areNext n i1 i2) := by
  unfold zf_X5_areNext
  have g7n := rpg7 (n := n) (by omega) (by omega)
  have g8n := rpg8 (n := n) (by omega) (by omega)
  refine Go_chk (by unfold zout; omega) ?_
  have a1 := rabs (i1 - i2)
  refine Go_chk (by unfold zout; omega) ?_
  refine Go_ite (fun c2 => ?_) (fun c2 => ?_)
  · exact Go_i (show True from trivial)
  · refine Go_chk (by unfold zout; omega) ?_
    refine Go_ite (fun c3 => ?_) (fun c3 => ?_)
    · exact Go_i (show True from trivial)
    · exact Go_i (show True from trivial)
set_option maxRecDepth 20000 in
theorem ok_X5_lineOf (n : Nat) (i1 : Int) (i2 : Int) (p0 : 4 ≤ n) (p1 : n ≤ 9) (p2 : -2147483648 ≤ i1) (p3 : i1 ≤ 2147483647) (p4 : -2147483648 ≤ i2) (p5 : i2 ≤ 2147483647) : Go (fun o => -1 ≤ (o) ∧ (o) ≤ 26) (zf_X5_lineOf n i1 i2) := by
  unfold zf_X5_lineOf
  have g7n := rpg7 (n := n) (by omega) (by omega)
  have g8n := rpg8 (n := n) (by omega) (by omega)
  refine Go_bindP (ok_X5_hasCorner n i1 (by first | assumption | omega) (by first | assumption | omega) (by first | assumption | omega) (by first | assumption | omega)) (fun o1 q1 => ?_)
  obtain ⟨q1_0, q1_1⟩ := q1
  refine Go_ite (fun c2 => ?_) (fun c2 => ?_)
  · have dc2 := q1_1 c2
    exact Go_i (show -1 ≤ ((-1 : Int)) ∧ ((-1 : Int)) ≤ 26 from ⟨(by first | assumption | omega), (by first | assumption | omega)⟩)
  · have dc2 := q1_0 (bnf c2)
    refine Go_bindP (ok_X5_hasCorner n i2 (by first | assumption | omega) (by first | assumption | omega) (by first | assumption | omega) (by first | assumption | omega)) (fun o2 q3 => ?_)
    obtain ⟨q3_0, q3_1⟩ := q3
    refine Go_ite (fun c4 => ?_) (fun c4 => ?_)
    · have dc4 := q3_1 c4
      exact Go_i (show -1 ≤ ((-1 : Int)) ∧ ((-1 : Int)) ≤ 26 from ⟨(by first | assumption | omega), (by first | assumption | omega)⟩)
    · have dc4 := q3_0 (bnf c4)
      refine Go_chk (by omega) ?_
      have a5 := rget (pg3 n) (Int.toNat ((i1 * (9 : Int)) + i2))
      have a6 := rpg3 (n := n) (by omega) (by omega) (Int.toNat ((i1 * (9 : Int)) + i2)) (by omega)
      exact Go_i (show -1 ≤ ((zget (pg3 n) (Int.toNat ((i1 * (9 : Int)) + i2)))) ∧ ((zget (pg3 n) (Int.toNat ((i1 * (9 : Int)) + i2)))) ≤ 26 from ⟨(by first | assumption | omega), (by first | assumption | omega)⟩)
set_option maxRecDepth 20000 in
theorem ok_X5_hasLine (n : Nat) (i1 : Int) (p0 : 4 ≤ n) (p1 : n ≤ 9) (p2 : -2147483648 ≤ i1) (p3 : i1 ≤ 2147483647) : Go (fun o => ((o) = true → 0 ≤ i1 ∧ i1 < pg7 n) ∧ ((o) = false → ¬ (0 ≤ i1 ∧ i1 < pg7 n))) (zf_X5_hasLine n i1) := by
  unfold zf_X5_hasLine
  have g7n := rpg7 (n := n) (by omega) (by omega)
  have g8n := rpg8 (n := n) (by omega) (by omega)
  refine Go_chk (by unfold zout; omega) ?_
  refine Go_ite (fun c1 => ?_) (fun c1 => ?_)
  · exact Go_i (show ((false) = true → 0 ≤ i1 ∧ i1 < pg7 n) ∧ ((false) = false → ¬ (0 ≤ i1 ∧ i1 < pg7 n)) from ⟨(by intro h; first | exact True.intro | omega | (exact absurd h (by decide))), (by intro h; first | exact True.intro | omega | (exact absurd h (by decide)))⟩)
  · have a2 := rpg7 (n := n) (by omega) (by omega)
    refine Go_chk (by unfold zout; omega) ?_
    refine Go_ite (fun c3 => ?_) (fun c3 => ?_)
    · exact Go_i (show ((false) = true → 0 ≤ i1 ∧ i1 < pg7 n) ∧ ((false) = false → ¬ (0 ≤ i1 ∧ i1 < pg7 n)) from ⟨(by intro h; first | exact True.intro | omega | (exact absurd h (by decide))), (by intro h; first | exact True.intro | omega | (exact absurd h (by decide)))⟩)
    · exact Go_i (show ((true) = true → 0 ≤ i1 ∧ i1 < pg7 n) ∧ ((true) = false → ¬ (0 ≤ i1 ∧ i1 < pg7 n)) from ⟨(by intro h; first | exact True.intro | omega | (exact absurd h (by decide))), (by intro h; first | exact True.intro | omega | (exact absurd h (by decide)))⟩)
set_option maxRecDepth 20000 in
theorem ok_X5_pairOf (n : Nat) (i1 : Int) (p0 : 4 ≤ n) (p1 : n ≤ 9) (p2 : -2147483648 ≤ i1) (p3 : i1 ≤ 2147483647) : Go (fun o => -1 ≤ (o) ∧ (o) ≤ 200) (zf_X5_pairOf n i1) := by
  unfold zf_X5_pairOf
  have g7n := rpg7 (n := n) (by omega) (by omega)
  have g8n := rpg8 (n := n) (by omega) (by omega)
  refine Go_bindP (ok_X5_hasLine n i1 (by first | assumption | omega) (by first | assumption | omega) (by first | assumption | omega) (by first | assumption | omega)) (fun o1 q1 => ?_)
  obtain ⟨q1_0, q1_1⟩ := q1
  refine Go_ite (fun c2 => ?_) (fun c2 => ?_)
  · have dc2 := q1_1 c2
    exact Go_i (show -1 ≤ ((-1 : Int)) ∧ ((-1 : Int)) ≤ 200 from ⟨(by first | assumption | omega), (by first | assumption | omega)⟩)
  · have dc2 := q1_0 (bnf c2)
    refine Go_chk (by omega) ?_
    have a3 := rget (pg2 n) (Int.toNat i1)
    have a4 := rpg2 (n := n) (by omega) (by omega) (Int.toNat i1) (by omega)
    have a5 := rget (pg1 n) (Int.toNat i1)
    have a6 := rpg1 (n := n) (by omega) (by omega) (Int.toNat i1) (by omega)
    exact Go_i (show -1 ≤ ((((16 : Int) * (zget (pg1 n) (Int.toNat i1))) + (zget (pg2 n) (Int.toNat i1)))) ∧ ((((16 : Int) * (zget (pg1 n) (Int.toNat i1))) + (zget (pg2 n) (Int.toNat i1)))) ≤ 200 from ⟨(by first | assumption | omega), (by first | assumption | omega)⟩)
set_option maxRecDepth 20000 in
theorem ok_X5_lesserOf (n : Nat) (i1 : Int) (p0 : 4 ≤ n) (p1 : n ≤ 9) (p2 : -2147483648 ≤ i1) (p3 : i1 ≤ 2147483647) : Go (fun o => -1 ≤ (o) ∧ (o) ≤ 8 ∧ ((0 ≤ i1 ∧ i1 < pg7 n) → 0 ≤ (o) ∧ (o) < (n : Int))) (zf_X5_lesserOf n i1) := by
  unfold zf_X5_lesserOf
  have g7n := rpg7 (n := n) (by omega) (by omega)
  have g8n := rpg8 (n := n) (by omega) (by omega)
  refine Go_bindP (ok_X5_hasLine n i1 (by first | assumption | omega) (by first | assumption | omega) (by first | assumption | omega) (by first | assumption | omega)) (fun o1 q1 => ?_)
  obtain ⟨q1_0, q1_1⟩ := q1
  refine Go_ite (fun c2 => ?_) (fun c2 => ?_)
  · have dc2 := q1_1 c2
    exact Go_i (show -1 ≤ ((-1 : Int)) ∧ ((-1 : Int)) ≤ 8 ∧ ((0 ≤ i1 ∧ i1 < pg7 n) → 0 ≤ ((-1 : Int)) ∧ ((-1 : Int)) < (n : Int)) from ⟨(by first | assumption | omega), (by first | assumption | omega), (by intro h; first | exact True.intro | omega | (exact absurd h (by decide)))⟩)
  · have dc2 := q1_0 (bnf c2)
    refine Go_chk (by omega) ?_
    have a3 := rget (pg1 n) (Int.toNat i1)
    have a4 := rpg1 (n := n) (by omega) (by omega) (Int.toNat i1) (by omega)
    have a5 := rpg1n (n := n) (by omega) (by omega) (Int.toNat i1) (by omega)
    exact Go_i (show -1 ≤ ((zget (pg1 n) (Int.toNat i1))) ∧ ((zget (pg1 n) (Int.toNat i1))) ≤ 8 ∧ ((0 ≤ i1 ∧ i1 < pg7 n) → 0 ≤ ((zget (pg1 n) (Int.toNat i1))) ∧ ((zget (pg1 n) (Int.toNat i1))) < (n : Int)) from ⟨(by first | assumption | omega), (by first | assumption | omega), (by intro h; first | exact True.intro | omega | (exact absurd h (by decide)))⟩)
set_option maxRecDepth 20000 in
theorem ok_X5_greaterOf (n : Nat) (i1 : Int) (p0 : 4 ≤ n) (p1 : n ≤ 9) (p2 : -2147483648 ≤ i1) (p3 : i1 ≤ 2147483647) : Go (fun o => -1 ≤ (o) ∧ (o) ≤ 8 ∧ ((0 ≤ i1 ∧ i1 < pg7 n) → 0 ≤ (o) ∧ (o) < (n : Int))) (zf_X5_greaterOf n i1) := by
  unfold zf_X5_greaterOf
  have g7n := rpg7 (n := n) (by omega) (by omega)
  have g8n := rpg8 (n := n) (by omega) (by omega)
  refine Go_bindP (ok_X5_hasLine n i1 (by first | assumption | omega) (by first | assumption | omega) (by first | assumption | omega) (by first | assumption | omega)) (fun o1 q1 => ?_)
  obtain ⟨q1_0, q1_1⟩ := q1
  refine Go_ite (fun c2 => ?_) (fun c2 => ?_)
  · have dc2 := q1_1 c2
    exact Go_i (show -1 ≤ ((-1 : Int)) ∧ ((-1 : Int)) ≤ 8 ∧ ((0 ≤ i1 ∧ i1 < pg7 n) → 0 ≤ ((-1 : Int)) ∧ ((-1 : Int)) < (n : Int)) from ⟨(by first | assumption | omega), (by first | assumption | omega), (by intro h; first | exact True.intro | omega | (exact absurd h (by decide)))⟩)
  · have dc2 := q1_0 (bnf c2)
    refine Go_chk (by omega) ?_
    have a3 := rget (pg2 n) (Int.toNat i1)
    have a4 := rpg2 (n := n) (by omega) (by omega) (Int.toNat i1) (by omega)
    have a5 := rpg2n (n := n) (by omega) (by omega) (Int.toNat i1) (by omega)
    exact Go_i (show -1 ≤ ((zget (pg2 n) (Int.toNat i1))) ∧ ((zget (pg2 n) (Int.toNat i1))) ≤ 8 ∧ ((0 ≤ i1 ∧ i1 < pg7 n) → 0 ≤ ((zget (pg2 n) (Int.toNat i1))) ∧ ((zget (pg2 n) (Int.toNat i1))) < (n : Int)) from ⟨(by first | assumption | omega), (by first | assumption | omega), (by intro h; first | exact True.intro | omega | (exact absurd h (by decide)))⟩)
set_option maxRecDepth 20000 in
theorem ok_X5_crossersOf (n : Nat) (i1 : Int) (p0 : 4 ≤ n) (p1 : n ≤ 9) (p2 : -2147483648 ≤ i1) (p3 : i1 ≤ 2147483647) : Go (fun o => 0 ≤ (o) ∧ (o) ≤ 134217727) (zf_X5_crossersOf n i1) := by
  unfold zf_X5_crossersOf
  have g7n := rpg7 (n := n) (by omega) (by omega)
  have g8n := rpg8 (n := n) (by omega) (by omega)
  refine Go_bindP (ok_X5_hasLine n i1 (by first | assumption | omega) (by first | assumption | omega) (by first | assumption | omega) (by first | assumption | omega)) (fun o1 q1 => ?_)
  obtain ⟨q1_0, q1_1⟩ := q1
  refine Go_ite (fun c2 => ?_) (fun c2 => ?_)
  · have dc2 := q1_1 c2
    exact Go_i (show 0 ≤ ((0 : Int)) ∧ ((0 : Int)) ≤ 134217727 from ⟨(by first | assumption | omega), (by first | assumption | omega)⟩)
  · have dc2 := q1_0 (bnf c2)
    refine Go_chk (by omega) ?_
    have a3 := rget (pg4 n) (Int.toNat i1)
    have a4 := rpg4 (n := n) (by omega) (by omega) (Int.toNat i1) (by omega)
    exact Go_i (show 0 ≤ ((zget (pg4 n) (Int.toNat i1))) ∧ ((zget (pg4 n) (Int.toNat i1))) ≤ 134217727 from ⟨(by first | assumption | omega), (by first | assumption | omega)⟩)
set_option maxRecDepth 20000 in
theorem ok_X5_has (n : Nat) (i1 : Int) (i2 : Int) (p0 : 4 ≤ n) (p1 : n ≤ 9) (p2 : -2147483648 ≤ i2) (p3 : i2 ≤ 2147483647) : Go (fun o => ((o) = true → 0 ≤ i2 ∧ i2 < pg7 n ∧ ¬ zand (zshr i1 i2) 1 = 0) ∧ ((o) = false → True)) (zf_X5_has n i1 i2) := by
  unfold zf_X5_has
  have g7n := rpg7 (n := n) (by omega) (by omega)
  have g8n := rpg8 (n := n) (by omega) (by omega)
  refine Go_bindP (ok_X5_hasLine n i2 (by first | assumption | omega) (by first | assumption | omega) (by first | assumption | omega) (by first | assumption | omega)) (fun o1 q1 => ?_)
  obtain ⟨q1_0, q1_1⟩ := q1
  refine Go_ite (fun c2 => ?_) (fun c2 => ?_)
  · have dc2 := q1_1 c2
    exact Go_i (show ((false) = true → 0 ≤ i2 ∧ i2 < pg7 n ∧ ¬ zand (zshr i1 i2) 1 = 0) ∧ ((false) = false → True) from ⟨(by intro h; first | exact True.intro | omega | (exact absurd h (by decide))), (by intro h; first | exact True.intro | omega | (exact absurd h (by decide)))⟩)
  · have dc2 := q1_0 (bnf c2)
    have a3 := rshr i1 i2
    have a4 := rand (zshr i1 i2) (1 : Int)
    refine Go_ite (fun c5 => ?_) (fun c5 => ?_)
    · exact Go_i (show ((false) = true → 0 ≤ i2 ∧ i2 < pg7 n ∧ ¬ zand (zshr i1 i2) 1 = 0) ∧ ((false) = false → True) from ⟨(by intro h; first | exact True.intro | omega | (exact absurd h (by decide))), (by intro h; first | exact True.intro | omega | (exact absurd h (by decide)))⟩)
    · exact Go_i (show ((true) = true → 0 ≤ i2 ∧ i2 < pg7 n ∧ ¬ zand (zshr i1 i2) 1 = 0) ∧ ((true) = false → True) from ⟨(by intro h; first | exact True.intro | omega | (exact absurd h (by decide))), (by intro h; first | exact True.intro | omega | (exact absurd h (by decide)))⟩)
set_option maxRecDepth 20000 in
theorem ok_X5_areJoined (n : Nat) (i1 : Int) (i2 : Int) (i3 : Int) (p0 : 4 ≤ n) (p1 : n ≤ 9) (p2 : 0 ≤ i2) (p3 : i2 < (n : Int)) (p4 : 0 ≤ i3) (p5 : i3 < (n : Int)) : Go (fun o => True) (zf_X5_areJoined n i1 i2 i3) := by
  unfold zf_X5_areJoined
  have g7n := rpg7 (n := n) (by omega) (by omega)
  have g8n := rpg8 (n := n) (by omega) (by omega)
  refine Go_bindP (ok_X5_areNext n i2 i3 (by first | assumption | omega) (by first | assumption | omega) (by first | assumption | omega) (by first | assumption | omega) (by first | assumption | omega) (by first | assumption | omega)) (fun o1 q1 => ?_)
  refine Go_ite (fun c2 => ?_) (fun c2 => ?_)
  · refine Go_bindP (ok_X5_lineOf n i2 i3 (by first | assumption | omega) (by first | assumption | omega) (by first | assumption | omega) (by first | assumption | omega) (by first | assumption | omega) (by first | assumption | omega)) (fun o2 q3 => ?_)
    obtain ⟨q3_0, q3_1⟩ := q3
    refine Go_bindP (ok_X5_has n i1 o2 (by first | assumption | omega) (by first | assumption | omega) (by first | assumption | omega) (by first | assumption | omega)) (fun o3 q4 => ?_)
    obtain ⟨q4_0, q4_1⟩ := q4
    refine Go_ite (fun c5 => ?_) (fun c5 => ?_)
    · have dc5 := q4_1 c5
      exact Go_i (show True from trivial)
    · have dc5 := q4_0 (bnf c5)
      exact Go_i (show True from trivial)
  · exact Go_i (show True from trivial)
set_option maxRecDepth 20000 in
theorem ok_X5_ahead (n : Nat) (i1 : Int) (i2 : Int) (p0 : 4 ≤ n) (p1 : n ≤ 9) (p2 : -1 ≤ i1) (p3 : i1 ≤ 8) (p4 : -1 ≤ i2) (p5 : i2 ≤ 8) : Go (fun o => -9 ≤ (o) ∧ (o) ≤ 9) (zf_X5_ahead n i1 i2) := by
  unfold zf_X5_ahead
  have g7n := rpg7 (n := n) (by omega) (by omega)
  have g8n := rpg8 (n := n) (by omega) (by omega)
  refine Go_chk (by unfold zout; omega) ?_
  refine Go_chk (by unfold zout; omega) ?_
  refine Go_ite (fun c1 => ?_) (fun c1 => ?_)
  · exact Go_i (show -9 ≤ (((i2 - i1) + (n : Int))) ∧ (((i2 - i1) + (n : Int))) ≤ 9 from ⟨(by first | assumption | omega), (by first | assumption | omega)⟩)
  · exact Go_i (show -9 ≤ ((i2 - i1)) ∧ ((i2 - i1)) ≤ 9 from ⟨(by first | assumption | omega), (by first | assumption | omega)⟩)
set_option maxRecDepth 20000 in
theorem ok_X5_trianglesAt (n : Nat) (i1 : Int) (i2 : Int) (p0 : 4 ≤ n) (p1 : n ≤ 9) (p2 : -2147483648 ≤ i2) (p3 : i2 ≤ 2147483647) : Go (fun o => 0 ≤ (o) ∧ (o) ≤ 64 ∧ (isCut n i1 → (o) ≤ 7)) (zf_X5_trianglesAt n i1 i2) := by
  exact ok_triAt n i1 i2 p0 p1 p2 p3
set_option maxRecDepth 20000 in
theorem ok_X5_entryOf (n : Nat) (i1 : Int) (i2 : Int) (i3 : Int) (p0 : 4 ≤ n) (p1 : n ≤ 9) (p2 : isCut n i1) (p3 : 0 ≤ i2) (p4 : i2 < (n : Int)) (p5 : 0 ≤ i3) (p6 : i3 < (n : Int)) : Go (fun o => -134217728 ≤ (o) ∧ (o) ≤ 134217728) (zf_X5_entryOf n i1 i2 i3) := by
  unfold zf_X5_entryOf
  have g7n := rpg7 (n := n) (by omega) (by omega)
  have g8n := rpg8 (n := n) (by omega) (by omega)
  refine jok (fun (s : zS_X5_entryOf) => match s with | (lab, i1', i2', i3', i4', i5', i6') => (lab = 0 ∧ isCut n i1' ∧ 0 ≤ i2' ∧ i2' < (n : Int) ∧ 0 ≤ i3' ∧ i3' < (n : Int)) ∨ (lab = 22 ∧ isCut n i1' ∧ 0 ≤ i2' ∧ i2' < (n : Int) ∧ 0 ≤ i3' ∧ i3' < (n : Int) ∧ zmin i2' i3' + 1 ≤ i6' ∧ i6' ≤ zmax i2' i3' ∧ -(eB (i6' - zmin i2' i3')) ≤ i5' ∧ i5' ≤ eB (i6' - zmin i2' i3') ∧ -(eB (i6' - zmin i2' i3')) ≤ i4' ∧ i4' ≤ eB (i6' - zmin i2' i3') ∧ (1 ≤ eB (i6' - zmin i2' i3') ∧ eB (i6' - zmin i2' i3') ≤ 134217728))) (fun (s : zS_X5_entryOf) => match s with | (lab, i1', i2', i3', i4', i5', i6') => if lab = 0 then 50 else if lab = 22 then (20 - i6').toNat else 0) (fun (o : zO_X5_entryOf) => -134217728 ≤ (o) ∧ (o) ≤ 134217728) ?_ _ ?_ ?_
  · intro s hI
    obtain ⟨lab, i1', i2', i3', i4', i5', i6'⟩ := s
    have hI : (lab = 0 ∧ isCut n i1' ∧ 0 ≤ i2' ∧ i2' < (n : Int) ∧ 0 ≤ i3' ∧ i3' < (n : Int)) ∨ (lab = 22 ∧ isCut n i1' ∧ 0 ≤ i2' ∧ i2' < (n : Int) ∧ 0 ≤ i3' ∧ i3' < (n : Int) ∧ zmin i2' i3' + 1 ≤ i6' ∧ i6' ≤ zmax i2' i3' ∧ -(eB (i6' - zmin i2' i3')) ≤ i5' ∧ i5' ≤ eB (i6' - zmin i2' i3') ∧ -(eB (i6' - zmin i2' i3')) ≤ i4' ∧ i4' ≤ eB (i6' - zmin i2' i3') ∧ (1 ≤ eB (i6' - zmin i2' i3') ∧ eB (i6' - zmin i2' i3') ≤ 134217728)) := hI
    rcases hI with ⟨rfl, v0_0, v0_1, v0_2, v0_3, v0_4⟩ | ⟨rfl, v22_0, v22_1, v22_2, v22_3, v22_4, v22_5, v22_6, v22_7, v22_8, v22_9, v22_10, v22_11⟩
    · show Go _ (zg_X5_entryOf_0 n i1' i2' i3' i4' i5' i6')
      unfold zg_X5_entryOf_0
      have m1 := rmin i2' i3'
      have m2 := rmax i2' i3'
      refine Go_chk (by unfold zout; omega) ?_
      refine Go_chk (by unfold zout; omega) ?_
      refine Go_ite (fun c1 => ?_) (fun c1 => ?_)
      · exact Go_i (show -134217728 ≤ ((0 : Int)) ∧ ((0 : Int)) ≤ 134217728 from ⟨(by first | assumption | omega), (by first | assumption | omega)⟩)
      · have m4 := eB_b (t := zmin i2' i3' + 1 - zmin i2' i3') (by omega) (by omega)
        have a2 := rmin i2' i3'
        exact Go_i (show (((22 : Nat) = 0 ∧ isCut n (i1') ∧ 0 ≤ (i2') ∧ (i2') < (n : Int) ∧ 0 ≤ (i3') ∧ (i3') < (n : Int)) ∨ ((22 : Nat) = 22 ∧ isCut n (i1') ∧ 0 ≤ (i2') ∧ (i2') < (n : Int) ∧ 0 ≤ (i3') ∧ (i3') < (n : Int) ∧ zmin (i2') (i3') + 1 ≤ (((zmin i2' i3') + (1 : Int))) ∧ (((zmin i2' i3') + (1 : Int))) ≤ zmax (i2') (i3') ∧ -(eB ((((zmin i2' i3') + (1 : Int))) - zmin (i2') (i3'))) ≤ ((1 : Int)) ∧ ((1 : Int)) ≤ eB ((((zmin i2' i3') + (1 : Int))) - zmin (i2') (i3')) ∧ -(eB ((((zmin i2' i3') + (1 : Int))) - zmin (i2') (i3'))) ≤ ((0 : Int)) ∧ ((0 : Int)) ≤ eB ((((zmin i2' i3') + (1 : Int))) - zmin (i2') (i3')) ∧ (1 ≤ eB ((((zmin i2' i3') + (1 : Int))) - zmin (i2') (i3')) ∧ eB ((((zmin i2' i3') + (1 : Int))) - zmin (i2') (i3')) ≤ 134217728))) ∧ (20 - (((zmin i2' i3') + (1 : Int)))).toNat < 50 from ⟨Or.inr (⟨rfl, (by first | assumption | exact isCut_at (by omega) (by omega)), (by first | assumption | omega), (by first | assumption | omega), (by first | assumption | omega), (by first | assumption | omega), (by first | assumption | omega), (by first | assumption | omega), (by first | assumption | omega), (by first | assumption | omega), (by first | assumption | omega), (by first | assumption | omega), (by exact eB_b (by omega) (by omega))⟩), by omega⟩)
    · show Go _ (zg_X5_entryOf_22 n i1' i2' i3' i4' i5' i6')
      unfold zg_X5_entryOf_22
      have m1 := rmin i2' i3'
      have m2 := rmax i2' i3'
      refine Go_chk (by unfold zout; omega) ?_
      refine Go_chk (by unfold zout; omega) ?_
      refine Go_chk (by unfold zout; omega) ?_
      have a3 := rmax i2' i3'
      refine Go_chk (by unfold zout; omega) ?_
      refine Go_ite (fun c4 => ?_) (fun c4 => ?_)
      · exact Go_i (show -134217728 ≤ (i5') ∧ (i5') ≤ 134217728 from ⟨(by first | assumption | omega), (by first | assumption | omega)⟩)
      · refine Go_bindP (ok_X5_trianglesAt n i1' i6' (by first | assumption | omega) (by first | assumption | omega) (by first | assumption | omega) (by first | assumption | omega)) (fun o8 q5 => ?_)
        obtain ⟨q5_0, q5_1, q5_2⟩ := q5
        have sq5 := q5_2 (by assumption)
        have m3 := mulb (a := o8) (x := i5') (B := eB (i6' - zmin i2' i3')) (M := 7) (by omega) (by omega) (by omega) (by omega)
        have m4 := eB_d (x := i6') (y := zmin i2' i3') (by omega)
        exact Go_i (show (((22 : Nat) = 0 ∧ isCut n (i1') ∧ 0 ≤ (i2') ∧ (i2') < (n : Int) ∧ 0 ≤ (i3') ∧ (i3') < (n : Int)) ∨ ((22 : Nat) = 22 ∧ isCut n (i1') ∧ 0 ≤ (i2') ∧ (i2') < (n : Int) ∧ 0 ≤ (i3') ∧ (i3') < (n : Int) ∧ zmin (i2') (i3') + 1 ≤ ((i6' + (1 : Int))) ∧ ((i6' + (1 : Int))) ≤ zmax (i2') (i3') ∧ -(eB (((i6' + (1 : Int))) - zmin (i2') (i3'))) ≤ (((o8 * i5') - i4')) ∧ (((o8 * i5') - i4')) ≤ eB (((i6' + (1 : Int))) - zmin (i2') (i3')) ∧ -(eB (((i6' + (1 : Int))) - zmin (i2') (i3'))) ≤ (i5') ∧ (i5') ≤ eB (((i6' + (1 : Int))) - zmin (i2') (i3')) ∧ (1 ≤ eB (((i6' + (1 : Int))) - zmin (i2') (i3')) ∧ eB (((i6' + (1 : Int))) - zmin (i2') (i3')) ≤ 134217728))) ∧ (20 - ((i6' + (1 : Int)))).toNat < (20 - i6').toNat from ⟨Or.inr (⟨rfl, (by first | assumption | exact isCut_at (by omega) (by omega)), (by first | assumption | omega), (by first | assumption | omega), (by first | assumption | omega), (by first | assumption | omega), (by first | assumption | omega), (by first | assumption | omega), (by first | assumption | omega), (by first | assumption | omega), (by first | assumption | omega), (by first | assumption | omega), (by exact eB_b (by omega) (by omega))⟩), by omega⟩)
  · exact (show ((0 : Nat) = 0 ∧ isCut n i1 ∧ 0 ≤ i2 ∧ i2 < (n : Int) ∧ 0 ≤ i3 ∧ i3 < (n : Int)) ∨ ((0 : Nat) = 22 ∧ isCut n i1 ∧ 0 ≤ i2 ∧ i2 < (n : Int) ∧ 0 ≤ i3 ∧ i3 < (n : Int) ∧ zmin i2 i3 + 1 ≤ 0 ∧ 0 ≤ zmax i2 i3 ∧ -(eB (0 - zmin i2 i3)) ≤ 0 ∧ 0 ≤ eB (0 - zmin i2 i3) ∧ -(eB (0 - zmin i2 i3)) ≤ 0 ∧ 0 ≤ eB (0 - zmin i2 i3) ∧ (1 ≤ eB (0 - zmin i2 i3) ∧ eB (0 - zmin i2 i3) ≤ 134217728)) from Or.inl (⟨rfl, (by first | assumption | exact isCut_at (by omega) (by omega)), (by first | assumption | omega), (by first | assumption | omega), (by first | assumption | omega), (by first | assumption | omega)⟩))
  · show 50 < jfuel
    unfold jfuel
    omega
set_option maxRecDepth 20000 in
theorem ok_X5_otherLine (n : Nat) (i1 : Int) (i2 : Int) (p0 : 4 ≤ n) (p1 : n ≤ 9) : Go (fun o => -1 ≤ (o) ∧ (o) ≤ 26) (zf_X5_otherLine n i1 i2) := by
  unfold zf_X5_otherLine
  have g7n := rpg7 (n := n) (by omega) (by omega)
  have g8n := rpg8 (n := n) (by omega) (by omega)
  refine jok (fun (s : zS_X5_otherLine) => match s with | (lab, i1', i2', i3') => (lab = 0) ∨ (lab = 2 ∧ 0 ≤ i3' ∧ i3' ≤ pg7 n)) (fun (s : zS_X5_otherLine) => match s with | (lab, i1', i2', i3') => if lab = 0 then 40 else if lab = 2 then (30 - i3').toNat else 0) (fun (o : zO_X5_otherLine) => -1 ≤ (o) ∧ (o) ≤ 26) ?_ _ ?_ ?_
  · intro s hI
    obtain ⟨lab, i1', i2', i3'⟩ := s
    have hI : (lab = 0) ∨ (lab = 2 ∧ 0 ≤ i3' ∧ i3' ≤ pg7 n) := hI
    rcases hI with rfl | ⟨rfl, v2_0, v2_1⟩
    · show Go _ (zg_X5_otherLine_0 n i1' i2' i3')
      unfold zg_X5_otherLine_0
      exact Go_i (show (((2 : Nat) = 0) ∨ ((2 : Nat) = 2 ∧ 0 ≤ ((0 : Int)) ∧ ((0 : Int)) ≤ pg7 n)) ∧ (30 - ((0 : Int))).toNat < 40 from ⟨Or.inr (⟨rfl, (by first | assumption | omega), (by first | assumption | omega)⟩), by omega⟩)
    · show Go _ (zg_X5_otherLine_2 n i1' i2' i3')
      unfold zg_X5_otherLine_2
      refine Go_chk (by unfold zout; omega) ?_
      have a1 := rpg7 (n := n) (by omega) (by omega)
      refine Go_chk (by unfold zout; omega) ?_
      refine Go_ite (fun c2 => ?_) (fun c2 => ?_)
      · exact Go_i (show -1 ≤ ((-1 : Int)) ∧ ((-1 : Int)) ≤ 26 from ⟨(by first | assumption | omega), (by first | assumption | omega)⟩)
      · refine Go_chk (by omega) ?_
        have a3 := rshl (1 : Int) i2'
        have a4 := rget (pg4 n) (Int.toNat i3')
        have a5 := rpg4 (n := n) (by omega) (by omega) (Int.toNat i3') (by omega)
        have a6 := rand (zget (pg4 n) (Int.toNat i3')) i1'
        refine Go_ite (fun c7 => ?_) (fun c7 => ?_)
        · exact Go_i (show -1 ≤ (i3') ∧ (i3') ≤ 26 from ⟨(by first | assumption | omega), (by first | assumption | omega)⟩)
        · exact Go_i (show (((2 : Nat) = 0) ∨ ((2 : Nat) = 2 ∧ 0 ≤ ((i3' + (1 : Int))) ∧ ((i3' + (1 : Int))) ≤ pg7 n)) ∧ (30 - ((i3' + (1 : Int)))).toNat < (30 - i3').toNat from ⟨Or.inr (⟨rfl, (by first | assumption | omega), (by first | assumption | omega)⟩), by omega⟩)
  · exact (show ((0 : Nat) = 0) ∨ ((0 : Nat) = 2 ∧ 0 ≤ 0 ∧ 0 ≤ pg7 n) from Or.inl (rfl))
  · show 40 < jfuel
    unfold jfuel
    omega
set_option maxRecDepth 20000 in
theorem ok_X5_neighbourWith (n : Nat) (i1 : Int) (i2 : Int) (p0 : 4 ≤ n) (p1 : n ≤ 9) (p2 : -2147483648 ≤ i2) (p3 : i2 ≤ 2147483647) : Go (fun o => -1 ≤ (o) ∧ (o) < pg8 n) (zf_X5_neighbourWith n i1 i2) := by
  unfold zf_X5_neighbourWith
  have g7n := rpg7 (n := n) (by omega) (by omega)
  have g8n := rpg8 (n := n) (by omega) (by omega)
  refine Go_bindP (ok_X5_crossersOf n i2 (by first | assumption | omega) (by first | assumption | omega) (by first | assumption | omega) (by first | assumption | omega)) (fun o1 q1 => ?_)
  obtain ⟨q1_0, q1_1⟩ := q1
  have a2 := rand o1 i1
  refine Go_bindP (ok_J6_bitCount_0f7a4 (zand o1 i1) ) (fun o2 q3 => ?_)
  obtain ⟨q3_0, q3_1⟩ := q3
  refine Go_chk (by unfold zout; omega) ?_
  refine Go_ite (fun c4 => ?_) (fun c4 => ?_)
  · have a5 := rshl (1 : Int) i2
    have a6 := rxor i1 (zand o1 i1)
    have a7 := ror (zxor i1 (zand o1 i1)) (zshl (1 : Int) i2)
    refine Go_bindP (ok_X5_numberOf n (zor (zxor i1 (zand o1 i1)) (zshl (1 : Int) i2)) (by first | assumption | omega) (by first | assumption | omega) (by first | assumption | omega) (by first | assumption | omega)) (fun o4 q8 => ?_)
    obtain ⟨q8_0, q8_1⟩ := q8
    exact Go_i (show -1 ≤ (o4) ∧ (o4) < pg8 n from ⟨(by first | assumption | omega), (by first | assumption | omega)⟩)
  · exact Go_i (show -1 ≤ ((-1 : Int)) ∧ ((-1 : Int)) < pg8 n from ⟨(by first | assumption | omega), (by first | assumption | omega)⟩)
set_option maxRecDepth 20000 in
theorem ok_X5_movedCorner (n : Nat) (i1 : Int) (i2 : Bool) (p0 : 4 ≤ n) (p1 : n ≤ 9) (p2 : 0 ≤ i1) (p3 : i1 ≤ 8) : Go (fun o => -9 ≤ (o) ∧ (o) ≤ 9) (zf_X5_movedCorner n i1 i2) := by
  unfold zf_X5_movedCorner
  have g7n := rpg7 (n := n) (by omega) (by omega)
  have g8n := rpg8 (n := n) (by omega) (by omega)
  refine Go_ite (fun c1 => ?_) (fun c1 => ?_)
  · refine Go_chk (by unfold zout; omega) ?_
    refine Go_chk (by unfold zout; omega) ?_
    refine Go_ite (fun c2 => ?_) (fun c2 => ?_)
    · exact Go_i (show -9 ≤ ((0 : Int)) ∧ ((0 : Int)) ≤ 9 from ⟨(by first | assumption | omega), (by first | assumption | omega)⟩)
    · exact Go_i (show -9 ≤ ((i1 + (1 : Int))) ∧ ((i1 + (1 : Int))) ≤ 9 from ⟨(by first | assumption | omega), (by first | assumption | omega)⟩)
  · exact Go_i (show -9 ≤ ((((n : Int) - (1 : Int)) - i1)) ∧ ((((n : Int) - (1 : Int)) - i1)) ≤ 9 from ⟨(by first | assumption | omega), (by first | assumption | omega)⟩)
set_option maxRecDepth 20000 in
theorem ok_X5_moved (n : Nat) (i1 : Int) (i2 : Bool) (p0 : 4 ≤ n) (p1 : n ≤ 9) : Go (fun o => -2147483648 ≤ (o) ∧ (o) ≤ 2147483647) (zf_X5_moved n i1 i2) := by
  unfold zf_X5_moved
  have g7n := rpg7 (n := n) (by omega) (by omega)
  have g8n := rpg8 (n := n) (by omega) (by omega)
  refine jok (fun (s : zS_X5_moved) => match s with | (lab, i1', i2', i3', i4') => (lab = 0) ∨ (lab = 5 ∧ -2147483648 ≤ i3' ∧ i3' ≤ 2147483647 ∧ 0 ≤ i4' ∧ i4' ≤ pg7 n)) (fun (s : zS_X5_moved) => match s with | (lab, i1', i2', i3', i4') => if lab = 0 then 40 else if lab = 5 then (30 - i4').toNat else 0) (fun (o : zO_X5_moved) => -2147483648 ≤ (o) ∧ (o) ≤ 2147483647) ?_ _ ?_ ?_
  · intro s hI
    obtain ⟨lab, i1', i2', i3', i4'⟩ := s
    have hI : (lab = 0) ∨ (lab = 5 ∧ -2147483648 ≤ i3' ∧ i3' ≤ 2147483647 ∧ 0 ≤ i4' ∧ i4' ≤ pg7 n) := hI
    rcases hI with rfl | ⟨rfl, v5_0, v5_1, v5_2, v5_3⟩
    · show Go _ (zg_X5_moved_0 n i1' i2' i3' i4')
      unfold zg_X5_moved_0
      exact Go_i (show (((5 : Nat) = 0) ∨ ((5 : Nat) = 5 ∧ -2147483648 ≤ ((0 : Int)) ∧ ((0 : Int)) ≤ 2147483647 ∧ 0 ≤ ((0 : Int)) ∧ ((0 : Int)) ≤ pg7 n)) ∧ (30 - ((0 : Int))).toNat < 40 from ⟨Or.inr (⟨rfl, (by first | assumption | omega), (by first | assumption | omega), (by first | assumption | omega), (by first | assumption | omega)⟩), by omega⟩)
    · show Go _ (zg_X5_moved_5 n i1' i2' i3' i4')
      unfold zg_X5_moved_5
      refine Go_chk (by unfold zout; omega) ?_
      have a1 := rpg7 (n := n) (by omega) (by omega)
      refine Go_chk (by unfold zout; omega) ?_
      refine Go_ite (fun c2 => ?_) (fun c2 => ?_)
      · exact Go_i (show -2147483648 ≤ (i3') ∧ (i3') ≤ 2147483647 from ⟨(by first | assumption | omega), (by first | assumption | omega)⟩)
      · refine Go_bindP (ok_X5_has n i1' i4' (by first | assumption | omega) (by first | assumption | omega) (by first | assumption | omega) (by first | assumption | omega)) (fun o3 q3 => ?_)
        obtain ⟨q3_0, q3_1⟩ := q3
        refine Go_ite (fun c4 => ?_) (fun c4 => ?_)
        · have dc4 := q3_1 c4
          exact Go_i (show (((5 : Nat) = 0) ∨ ((5 : Nat) = 5 ∧ -2147483648 ≤ (i3') ∧ (i3') ≤ 2147483647 ∧ 0 ≤ ((i4' + (1 : Int))) ∧ ((i4' + (1 : Int))) ≤ pg7 n)) ∧ (30 - ((i4' + (1 : Int)))).toNat < (30 - i4').toNat from ⟨Or.inr (⟨rfl, (by first | assumption | omega), (by first | assumption | omega), (by first | assumption | omega), (by first | assumption | omega)⟩), by omega⟩)
        · have dc4 := q3_0 (bnf c4)
          refine Go_chk (by omega) ?_
          have a5 := rget (pg1 n) (Int.toNat i4')
          have a6 := rpg1 (n := n) (by omega) (by omega) (Int.toNat i4') (by omega)
          refine Go_bindP (ok_X5_movedCorner n (zget (pg1 n) (Int.toNat i4')) i2' (by first | assumption | omega) (by first | assumption | omega) (by first | assumption | omega) (by first | assumption | omega)) (fun o5 q7 => ?_)
          obtain ⟨q7_0, q7_1⟩ := q7
          have a8 := rget (pg2 n) (Int.toNat i4')
          have a9 := rpg2 (n := n) (by omega) (by omega) (Int.toNat i4') (by omega)
          refine Go_bindP (ok_X5_movedCorner n (zget (pg2 n) (Int.toNat i4')) i2' (by first | assumption | omega) (by first | assumption | omega) (by first | assumption | omega) (by first | assumption | omega)) (fun o6 q10 => ?_)
          obtain ⟨q10_0, q10_1⟩ := q10
          refine Go_bindP (ok_X5_lineOf n o5 o6 (by first | assumption | omega) (by first | assumption | omega) (by first | assumption | omega) (by first | assumption | omega) (by first | assumption | omega) (by first | assumption | omega)) (fun o7 q11 => ?_)
          obtain ⟨q11_0, q11_1⟩ := q11
          have a12 := rshl (1 : Int) o7
          have a13 := ror i3' (zshl (1 : Int) o7)
          exact Go_i (show (((5 : Nat) = 0) ∨ ((5 : Nat) = 5 ∧ -2147483648 ≤ ((zor i3' (zshl (1 : Int) o7))) ∧ ((zor i3' (zshl (1 : Int) o7))) ≤ 2147483647 ∧ 0 ≤ ((i4' + (1 : Int))) ∧ ((i4' + (1 : Int))) ≤ pg7 n)) ∧ (30 - ((i4' + (1 : Int)))).toNat < (30 - i4').toNat from ⟨Or.inr (⟨rfl, (by first | assumption | omega), (by first | assumption | omega), (by first | assumption | omega), (by first | assumption | omega)⟩), by omega⟩)
  · exact (show ((0 : Nat) = 0) ∨ ((0 : Nat) = 5 ∧ -2147483648 ≤ 0 ∧ 0 ≤ 2147483647 ∧ 0 ≤ 0 ∧ 0 ≤ pg7 n) from Or.inl (rfl))
  · show 40 < jfuel
    unfold jfuel
    omega
set_option maxRecDepth 20000 in
theorem ok_X5_leastTurned (n : Nat) (i1 : Int) (p0 : 4 ≤ n) (p1 : n ≤ 9) (p2 : -2147483648 ≤ i1) (p3 : i1 ≤ 2147483647) : Go (fun o => -2147483648 ≤ (o) ∧ (o) ≤ 2147483647) (zf_X5_leastTurned n i1) := by
  unfold zf_X5_leastTurned
  have g7n := rpg7 (n := n) (by omega) (by omega)
  have g8n := rpg8 (n := n) (by omega) (by omega)
  refine jok (fun (s : zS_X5_leastTurned) => match s with | (lab, i1', i2', i3', i4') => (lab = 0 ∧ -2147483648 ≤ i1' ∧ i1' ≤ 2147483647) ∨ (lab = 7 ∧ -2147483648 ≤ i2' ∧ i2' ≤ 2147483647 ∧ -2147483648 ≤ i3' ∧ i3' ≤ 2147483647 ∧ 1 ≤ i4' ∧ i4' ≤ (n : Int))) (fun (s : zS_X5_leastTurned) => match s with | (lab, i1', i2', i3', i4') => if lab = 0 then 40 else if lab = 7 then (30 - i4').toNat else 0) (fun (o : zO_X5_leastTurned) => -2147483648 ≤ (o) ∧ (o) ≤ 2147483647) ?_ _ ?_ ?_
  · intro s hI
    obtain ⟨lab, i1', i2', i3', i4'⟩ := s
    have hI : (lab = 0 ∧ -2147483648 ≤ i1' ∧ i1' ≤ 2147483647) ∨ (lab = 7 ∧ -2147483648 ≤ i2' ∧ i2' ≤ 2147483647 ∧ -2147483648 ≤ i3' ∧ i3' ≤ 2147483647 ∧ 1 ≤ i4' ∧ i4' ≤ (n : Int)) := hI
    rcases hI with ⟨rfl, v0_0, v0_1⟩ | ⟨rfl, v7_0, v7_1, v7_2, v7_3, v7_4, v7_5⟩
    · show Go _ (zg_X5_leastTurned_0 n i1' i2' i3' i4')
      unfold zg_X5_leastTurned_0
      exact Go_i (show (((7 : Nat) = 0 ∧ -2147483648 ≤ (i1') ∧ (i1') ≤ 2147483647) ∨ ((7 : Nat) = 7 ∧ -2147483648 ≤ (i1') ∧ (i1') ≤ 2147483647 ∧ -2147483648 ≤ (i1') ∧ (i1') ≤ 2147483647 ∧ 1 ≤ ((1 : Int)) ∧ ((1 : Int)) ≤ (n : Int))) ∧ (30 - ((1 : Int))).toNat < 40 from ⟨Or.inr (⟨rfl, (by first | assumption | omega), (by first | assumption | omega), (by first | assumption | omega), (by first | assumption | omega), (by first | assumption | omega), (by first | assumption | omega)⟩), by omega⟩)
    · show Go _ (zg_X5_leastTurned_7 n i1' i2' i3' i4')
      unfold zg_X5_leastTurned_7
      refine Go_chk (by unfold zout; omega) ?_
      refine Go_chk (by unfold zout; omega) ?_
      refine Go_ite (fun c1 => ?_) (fun c1 => ?_)
      · exact Go_i (show -2147483648 ≤ (i2') ∧ (i2') ≤ 2147483647 from ⟨(by first | assumption | omega), (by first | assumption | omega)⟩)
      · refine Go_bindP (ok_X5_moved n i3' false (by first | assumption | omega) (by first | assumption | omega)) (fun o3 q2 => ?_)
        obtain ⟨q2_0, q2_1⟩ := q2
        refine Go_chk (by unfold zout; omega) ?_
        refine Go_chk (by unfold zout; omega) ?_
        have a3 := rmin i2' o3
        exact Go_i (show (((7 : Nat) = 0 ∧ -2147483648 ≤ (0) ∧ (0) ≤ 2147483647) ∨ ((7 : Nat) = 7 ∧ -2147483648 ≤ ((zmin i2' o3)) ∧ ((zmin i2' o3)) ≤ 2147483647 ∧ -2147483648 ≤ (o3) ∧ (o3) ≤ 2147483647 ∧ 1 ≤ ((i4' + (1 : Int))) ∧ ((i4' + (1 : Int))) ≤ (n : Int))) ∧ (30 - ((i4' + (1 : Int)))).toNat < (30 - i4').toNat from ⟨Or.inr (⟨rfl, (by first | assumption | omega), (by first | assumption | omega), (by first | assumption | omega), (by first | assumption | omega), (by first | assumption | omega), (by first | assumption | omega)⟩), by omega⟩)
  · exact (show ((0 : Nat) = 0 ∧ -2147483648 ≤ i1 ∧ i1 ≤ 2147483647) ∨ ((0 : Nat) = 7 ∧ -2147483648 ≤ 0 ∧ 0 ≤ 2147483647 ∧ -2147483648 ≤ 0 ∧ 0 ≤ 2147483647 ∧ 1 ≤ 0 ∧ 0 ≤ (n : Int)) from Or.inl (⟨rfl, (by first | assumption | omega), (by first | assumption | omega)⟩))
  · show 40 < jfuel
    unfold jfuel
    omega
set_option maxRecDepth 20000 in
theorem ok_X5_leastAlike (n : Nat) (i1 : Int) (i2 : Bool) (p0 : 4 ≤ n) (p1 : n ≤ 9) (p2 : -2147483648 ≤ i1) (p3 : i1 ≤ 2147483647) : Go (fun o => -2147483648 ≤ (o) ∧ (o) ≤ 2147483647) (zf_X5_leastAlike n i1 i2) := by
  unfold zf_X5_leastAlike
  have g7n := rpg7 (n := n) (by omega) (by omega)
  have g8n := rpg8 (n := n) (by omega) (by omega)
  refine Go_bindP (ok_X5_leastTurned n i1 (by first | assumption | omega) (by first | assumption | omega) (by first | assumption | omega) (by first | assumption | omega)) (fun o1 q1 => ?_)
  obtain ⟨q1_0, q1_1⟩ := q1
  refine Go_ite (fun c2 => ?_) (fun c2 => ?_)
  · exact Go_i (show -2147483648 ≤ (o1) ∧ (o1) ≤ 2147483647 from ⟨(by first | assumption | omega), (by first | assumption | omega)⟩)
  · refine Go_bindP (ok_X5_moved n i1 true (by first | assumption | omega) (by first | assumption | omega)) (fun o2 q3 => ?_)
    obtain ⟨q3_0, q3_1⟩ := q3
    refine Go_bindP (ok_X5_leastTurned n o2 (by first | assumption | omega) (by first | assumption | omega) (by first | assumption | omega) (by first | assumption | omega)) (fun o3 q4 => ?_)
    obtain ⟨q4_0, q4_1⟩ := q4
    refine Go_chk (by unfold zout; omega) ?_
    refine Go_chk (by unfold zout; omega) ?_
    have a5 := rmin o1 o3
    exact Go_i (show -2147483648 ≤ ((zmin o1 o3)) ∧ ((zmin o1 o3)) ≤ 2147483647 from ⟨(by first | assumption | omega), (by first | assumption | omega)⟩)
set_option maxRecDepth 20000 in
theorem ok_X5_neverTurnsBelow (n : Nat) (i1 : Int) (i2 : Int) (p0 : 4 ≤ n) (p1 : n ≤ 9) (p2 : -2147483648 ≤ i1) (p3 : i1 ≤ 2147483647) (p4 : -2147483648 ≤ i2) (p5 : i2 ≤ 2147483647) : Go (fun o => True) (zf_X5_neverTurnsBelow n i1 i2) := by
  unfold zf_X5_neverTurnsBelow
  have g7n := rpg7 (n := n) (by omega) (by omega)
  have g8n := rpg8 (n := n) (by omega) (by omega)
  refine jok (fun (s : zS_X5_neverTurnsBelow) => match s with | (lab, i1', i2', i3', i4') => (lab = 0 ∧ -2147483648 ≤ i1' ∧ i1' ≤ 2147483647 ∧ -2147483648 ≤ i2' ∧ i2' ≤ 2147483647) ∨ (lab = 5 ∧ -2147483648 ≤ i2' ∧ i2' ≤ 2147483647 ∧ -2147483648 ≤ i3' ∧ i3' ≤ 2147483647 ∧ 0 ≤ i4' ∧ i4' ≤ (n : Int))) (fun (s : zS_X5_neverTurnsBelow) => match s with | (lab, i1', i2', i3', i4') => if lab = 0 then 40 else if lab = 5 then (30 - i4').toNat else 0) (fun (o : zO_X5_neverTurnsBelow) => True) ?_ _ ?_ ?_
  · intro s hI
    obtain ⟨lab, i1', i2', i3', i4'⟩ := s
    have hI : (lab = 0 ∧ -2147483648 ≤ i1' ∧ i1' ≤ 2147483647 ∧ -2147483648 ≤ i2' ∧ i2' ≤ 2147483647) ∨ (lab = 5 ∧ -2147483648 ≤ i2' ∧ i2' ≤ 2147483647 ∧ -2147483648 ≤ i3' ∧ i3' ≤ 2147483647 ∧ 0 ≤ i4' ∧ i4' ≤ (n : Int)) := hI
    rcases hI with ⟨rfl, v0_0, v0_1, v0_2, v0_3⟩ | ⟨rfl, v5_0, v5_1, v5_2, v5_3, v5_4, v5_5⟩
    · show Go _ (zg_X5_neverTurnsBelow_0 n i1' i2' i3' i4')
      unfold zg_X5_neverTurnsBelow_0
      exact Go_i (show (((5 : Nat) = 0 ∧ -2147483648 ≤ (i1') ∧ (i1') ≤ 2147483647 ∧ -2147483648 ≤ (i2') ∧ (i2') ≤ 2147483647) ∨ ((5 : Nat) = 5 ∧ -2147483648 ≤ (i2') ∧ (i2') ≤ 2147483647 ∧ -2147483648 ≤ (i1') ∧ (i1') ≤ 2147483647 ∧ 0 ≤ ((0 : Int)) ∧ ((0 : Int)) ≤ (n : Int))) ∧ (30 - ((0 : Int))).toNat < 40 from ⟨Or.inr (⟨rfl, (by first | assumption | omega), (by first | assumption | omega), (by first | assumption | omega), (by first | assumption | omega), (by first | assumption | omega), (by first | assumption | omega)⟩), by omega⟩)
    · show Go _ (zg_X5_neverTurnsBelow_5 n i1' i2' i3' i4')
      unfold zg_X5_neverTurnsBelow_5
      refine Go_chk (by unfold zout; omega) ?_
      refine Go_chk (by unfold zout; omega) ?_
      refine Go_ite (fun c1 => ?_) (fun c1 => ?_)
      · exact Go_i (show True from trivial)
      · refine Go_chk (by unfold zout; omega) ?_
        refine Go_chk (by unfold zout; omega) ?_
        refine Go_ite (fun c2 => ?_) (fun c2 => ?_)
        · refine Go_bindP (ok_X5_moved n i3' false (by first | assumption | omega) (by first | assumption | omega)) (fun o5 q3 => ?_)
          obtain ⟨q3_0, q3_1⟩ := q3
          exact Go_i (show (((5 : Nat) = 0 ∧ -2147483648 ≤ (0) ∧ (0) ≤ 2147483647 ∧ -2147483648 ≤ (i2') ∧ (i2') ≤ 2147483647) ∨ ((5 : Nat) = 5 ∧ -2147483648 ≤ (i2') ∧ (i2') ≤ 2147483647 ∧ -2147483648 ≤ (o5) ∧ (o5) ≤ 2147483647 ∧ 0 ≤ ((i4' + (1 : Int))) ∧ ((i4' + (1 : Int))) ≤ (n : Int))) ∧ (30 - ((i4' + (1 : Int)))).toNat < (30 - i4').toNat from ⟨Or.inr (⟨rfl, (by first | assumption | omega), (by first | assumption | omega), (by first | assumption | omega), (by first | assumption | omega), (by first | assumption | omega), (by first | assumption | omega)⟩), by omega⟩)
        · exact Go_i (show True from trivial)
  · exact (show ((0 : Nat) = 0 ∧ -2147483648 ≤ i1 ∧ i1 ≤ 2147483647 ∧ -2147483648 ≤ i2 ∧ i2 ≤ 2147483647) ∨ ((0 : Nat) = 5 ∧ -2147483648 ≤ i2 ∧ i2 ≤ 2147483647 ∧ -2147483648 ≤ 0 ∧ 0 ≤ 2147483647 ∧ 0 ≤ 0 ∧ 0 ≤ (n : Int)) from Or.inl (⟨rfl, (by first | assumption | omega), (by first | assumption | omega), (by first | assumption | omega), (by first | assumption | omega)⟩))
  · show 40 < jfuel
    unfold jfuel
    omega
set_option maxRecDepth 20000 in
theorem ok_X5_countKinds (n : Nat) (i1 : Bool) (p0 : 4 ≤ n) (p1 : n ≤ 9) : Go (fun o => 0 ≤ (o) ∧ (o) ≤ 429) (zf_X5_countKinds n i1) := by
  unfold zf_X5_countKinds
  have g7n := rpg7 (n := n) (by omega) (by omega)
  have g8n := rpg8 (n := n) (by omega) (by omega)
  refine jok (fun (s : zS_X5_countKinds) => match s with | (lab, i1', i2', i3') => (lab = 0) ∨ (lab = 4 ∧ 0 ≤ i2' ∧ i2' ≤ i3' ∧ 0 ≤ i3' ∧ i3' ≤ pg8 n)) (fun (s : zS_X5_countKinds) => match s with | (lab, i1', i2', i3') => if lab = 0 then 500 else if lab = 4 then (440 - i3').toNat else 0) (fun (o : zO_X5_countKinds) => 0 ≤ (o) ∧ (o) ≤ 429) ?_ _ ?_ ?_
  · intro s hI
    obtain ⟨lab, i1', i2', i3'⟩ := s
    have hI : (lab = 0) ∨ (lab = 4 ∧ 0 ≤ i2' ∧ i2' ≤ i3' ∧ 0 ≤ i3' ∧ i3' ≤ pg8 n) := hI
    rcases hI with rfl | ⟨rfl, v4_0, v4_1, v4_2, v4_3⟩
    · show Go _ (zg_X5_countKinds_0 n i1' i2' i3')
      unfold zg_X5_countKinds_0
      exact Go_i (show (((4 : Nat) = 0) ∨ ((4 : Nat) = 4 ∧ 0 ≤ ((0 : Int)) ∧ ((0 : Int)) ≤ ((0 : Int)) ∧ 0 ≤ ((0 : Int)) ∧ ((0 : Int)) ≤ pg8 n)) ∧ (440 - ((0 : Int))).toNat < 500 from ⟨Or.inr (⟨rfl, (by first | assumption | omega), (by first | assumption | omega), (by first | assumption | omega), (by first | assumption | omega)⟩), by omega⟩)
    · show Go _ (zg_X5_countKinds_4 n i1' i2' i3')
      unfold zg_X5_countKinds_4
      refine Go_chk (by unfold zout; omega) ?_
      have a1 := rpg8 (n := n) (by omega) (by omega)
      refine Go_chk (by unfold zout; omega) ?_
      refine Go_ite (fun c2 => ?_) (fun c2 => ?_)
      · exact Go_i (show 0 ≤ (i2') ∧ (i2') ≤ 429 from ⟨(by first | assumption | omega), (by first | assumption | omega)⟩)
      · refine Go_chk (by omega) ?_
        have a3 := rget (pg6 n) (Int.toNat i3')
        have a4 := rpg6 (n := n) (by omega) (by omega) (Int.toNat i3') (by omega)
        refine Go_bindP (ok_X5_neverTurnsBelow n (zget (pg6 n) (Int.toNat i3')) (zget (pg6 n) (Int.toNat i3')) (by first | assumption | omega) (by first | assumption | omega) (by first | assumption | omega) (by first | assumption | omega) (by first | assumption | omega) (by first | assumption | omega)) (fun o4 q5 => ?_)
        refine Go_ite (fun c6 => ?_) (fun c6 => ?_)
        · exact Go_i (show (((4 : Nat) = 0) ∨ ((4 : Nat) = 4 ∧ 0 ≤ (i2') ∧ (i2') ≤ ((i3' + (1 : Int))) ∧ 0 ≤ ((i3' + (1 : Int))) ∧ ((i3' + (1 : Int))) ≤ pg8 n)) ∧ (440 - ((i3' + (1 : Int)))).toNat < (440 - i3').toNat from ⟨Or.inr (⟨rfl, (by first | assumption | omega), (by first | assumption | omega), (by first | assumption | omega), (by first | assumption | omega)⟩), by omega⟩)
        · refine Go_ite (fun c7 => ?_) (fun c7 => ?_)
          · exact Go_i (show (((4 : Nat) = 0) ∨ ((4 : Nat) = 4 ∧ 0 ≤ ((i2' + (1 : Int))) ∧ ((i2' + (1 : Int))) ≤ ((i3' + (1 : Int))) ∧ 0 ≤ ((i3' + (1 : Int))) ∧ ((i3' + (1 : Int))) ≤ pg8 n)) ∧ (440 - ((i3' + (1 : Int)))).toNat < (440 - i3').toNat from ⟨Or.inr (⟨rfl, (by first | assumption | omega), (by first | assumption | omega), (by first | assumption | omega), (by first | assumption | omega)⟩), by omega⟩)
          · refine Go_bindP (ok_X5_moved n (zget (pg6 n) (Int.toNat i3')) true (by first | assumption | omega) (by first | assumption | omega)) (fun o5 q8 => ?_)
            obtain ⟨q8_0, q8_1⟩ := q8
            refine Go_bindP (ok_X5_neverTurnsBelow n o5 (zget (pg6 n) (Int.toNat i3')) (by first | assumption | omega) (by first | assumption | omega) (by first | assumption | omega) (by first | assumption | omega) (by first | assumption | omega) (by first | assumption | omega)) (fun o6 q9 => ?_)
            refine Go_ite (fun c10 => ?_) (fun c10 => ?_)
            · exact Go_i (show (((4 : Nat) = 0) ∨ ((4 : Nat) = 4 ∧ 0 ≤ (i2') ∧ (i2') ≤ ((i3' + (1 : Int))) ∧ 0 ≤ ((i3' + (1 : Int))) ∧ ((i3' + (1 : Int))) ≤ pg8 n)) ∧ (440 - ((i3' + (1 : Int)))).toNat < (440 - i3').toNat from ⟨Or.inr (⟨rfl, (by first | assumption | omega), (by first | assumption | omega), (by first | assumption | omega), (by first | assumption | omega)⟩), by omega⟩)
            · exact Go_i (show (((4 : Nat) = 0) ∨ ((4 : Nat) = 4 ∧ 0 ≤ ((i2' + (1 : Int))) ∧ ((i2' + (1 : Int))) ≤ ((i3' + (1 : Int))) ∧ 0 ≤ ((i3' + (1 : Int))) ∧ ((i3' + (1 : Int))) ≤ pg8 n)) ∧ (440 - ((i3' + (1 : Int)))).toNat < (440 - i3').toNat from ⟨Or.inr (⟨rfl, (by first | assumption | omega), (by first | assumption | omega), (by first | assumption | omega), (by first | assumption | omega)⟩), by omega⟩)
  · exact (show ((0 : Nat) = 0) ∨ ((0 : Nat) = 4 ∧ 0 ≤ 0 ∧ 0 ≤ 0 ∧ 0 ≤ 0 ∧ 0 ≤ pg8 n) from Or.inl (rfl))
  · show 500 < jfuel
    unfold jfuel
    omega
set_option maxRecDepth 20000 in
theorem ok_X5_differenceFrom (n : Nat) (q1_c : Nat) (i2 : Int) (p0 : 4 ≤ n) (p1 : n ≤ 9) (p2 : (∀ k : Nat, k < 10 → 0 ≤ zget q1_c k ∧ zget q1_c k ≤ 999)) : Go (fun o => 0 ≤ (o) ∧ (o) ≤ 20000) (zf_X5_differenceFrom n q1_c i2) := by
  unfold zf_X5_differenceFrom
  have g7n := rpg7 (n := n) (by omega) (by omega)
  have g8n := rpg8 (n := n) (by omega) (by omega)
  refine jok (fun (s : zS_X5_differenceFrom) => match s with | (lab, i2', i3', i4') => (lab = 0) ∨ (lab = 5 ∧ 0 ≤ i4' ∧ i4' ≤ (n : Int) ∧ 0 ≤ i3' ∧ i3' ≤ 1100 * i4')) (fun (s : zS_X5_differenceFrom) => match s with | (lab, i2', i3', i4') => if lab = 0 then 40 else if lab = 5 then (30 - i4').toNat else 0) (fun (o : zO_X5_differenceFrom) => 0 ≤ (o) ∧ (o) ≤ 20000) ?_ _ ?_ ?_
  · intro s hI
    obtain ⟨lab, i2', i3', i4'⟩ := s
    have hI : (lab = 0) ∨ (lab = 5 ∧ 0 ≤ i4' ∧ i4' ≤ (n : Int) ∧ 0 ≤ i3' ∧ i3' ≤ 1100 * i4') := hI
    rcases hI with rfl | ⟨rfl, v5_0, v5_1, v5_2, v5_3⟩
    · show Go _ (zg_X5_differenceFrom_0 n q1_c i2' i3' i4')
      unfold zg_X5_differenceFrom_0
      exact Go_i (show (((5 : Nat) = 0) ∨ ((5 : Nat) = 5 ∧ 0 ≤ ((0 : Int)) ∧ ((0 : Int)) ≤ (n : Int) ∧ 0 ≤ ((0 : Int)) ∧ ((0 : Int)) ≤ 1100 * ((0 : Int)))) ∧ (30 - ((0 : Int))).toNat < 40 from ⟨Or.inr (⟨rfl, (by first | assumption | omega), (by first | assumption | omega), (by first | assumption | omega), (by first | assumption | omega)⟩), by omega⟩)
    · show Go _ (zg_X5_differenceFrom_5 n q1_c i2' i3' i4')
      unfold zg_X5_differenceFrom_5
      refine Go_chk (by unfold zout; omega) ?_
      refine Go_chk (by unfold zout; omega) ?_
      refine Go_ite (fun c1 => ?_) (fun c1 => ?_)
      · exact Go_i (show 0 ≤ (i3') ∧ (i3') ≤ 20000 from ⟨(by first | assumption | omega), (by first | assumption | omega)⟩)
      · refine Go_ite (fun c2 => ?_) (fun c2 => ?_)
        · exact Go_i (show 0 ≤ (i3') ∧ (i3') ≤ 20000 from ⟨(by first | assumption | omega), (by first | assumption | omega)⟩)
        · refine Go_chk (by omega) ?_
          refine Go_bindP (ok_X5_trianglesAt n i2' i4' (by first | assumption | omega) (by first | assumption | omega) (by first | assumption | omega) (by first | assumption | omega)) (fun o4 q3 => ?_)
          obtain ⟨q3_0, q3_1, q3_2⟩ := q3
          have a4 := rget q1_c (Int.toNat i4')
          have a5 := p2 (Int.toNat i4') (by omega)
          refine Go_chk (by unfold zout; omega) ?_
          have a6 := rabs ((zget q1_c (Int.toNat i4')) - o4)
          exact Go_i (show (((5 : Nat) = 0) ∨ ((5 : Nat) = 5 ∧ 0 ≤ ((i4' + (1 : Int))) ∧ ((i4' + (1 : Int))) ≤ (n : Int) ∧ 0 ≤ ((i3' + (zabs ((zget q1_c (Int.toNat i4')) - o4)))) ∧ ((i3' + (zabs ((zget q1_c (Int.toNat i4')) - o4)))) ≤ 1100 * ((i4' + (1 : Int))))) ∧ (30 - ((i4' + (1 : Int)))).toNat < (30 - i4').toNat from ⟨Or.inr (⟨rfl, (by first | assumption | omega), (by first | assumption | omega), (by first | assumption | omega), (by first | assumption | omega)⟩), by omega⟩)
  · exact (show ((0 : Nat) = 0) ∨ ((0 : Nat) = 5 ∧ 0 ≤ 0 ∧ 0 ≤ (n : Int) ∧ 0 ≤ 0 ∧ 0 ≤ 1100 * 0) from Or.inl (rfl))
  · show 40 < jfuel
    unfold jfuel
    omega
set_option maxRecDepth 20000 in
theorem ok_X5_nearestTo (n : Nat) (q1_c : Nat) (p0 : 4 ≤ n) (p1 : n ≤ 9) (p2 : (∀ k : Nat, k < 10 → 0 ≤ zget q1_c k ∧ zget q1_c k ≤ 999)) : Go (fun o => 0 ≤ (o) ∧ (o) < pg8 n) (zf_X5_nearestTo n q1_c) := by
  unfold zf_X5_nearestTo
  have g7n := rpg7 (n := n) (by omega) (by omega)
  have g8n := rpg8 (n := n) (by omega) (by omega)
  refine jok (fun (s : zS_X5_nearestTo) => match s with | (lab, i2', i3', i4') => (lab = 0) ∨ (lab = 16 ∧ 0 ≤ i2' ∧ i2' < pg8 n ∧ 0 ≤ i3' ∧ i3' ≤ 20000 ∧ 1 ≤ i4' ∧ i4' ≤ pg8 n)) (fun (s : zS_X5_nearestTo) => match s with | (lab, i2', i3', i4') => if lab = 0 then 500 else if lab = 16 then (440 - i4').toNat else 0) (fun (o : zO_X5_nearestTo) => 0 ≤ (o) ∧ (o) < pg8 n) ?_ _ ?_ ?_
  · intro s hI
    obtain ⟨lab, i2', i3', i4'⟩ := s
    have hI : (lab = 0) ∨ (lab = 16 ∧ 0 ≤ i2' ∧ i2' < pg8 n ∧ 0 ≤ i3' ∧ i3' ≤ 20000 ∧ 1 ≤ i4' ∧ i4' ≤ pg8 n) := hI
    rcases hI with rfl | ⟨rfl, v16_0, v16_1, v16_2, v16_3, v16_4, v16_5⟩
    · show Go _ (zg_X5_nearestTo_0 n q1_c i2' i3' i4')
      unfold zg_X5_nearestTo_0
      refine Go_bindP (ok_X5_cutAt n (0 : Int) (by first | assumption | omega) (by first | assumption | omega) (by first | assumption | omega) (by first | assumption | omega)) (fun o1 q1 => ?_)
      obtain ⟨q1_0, q1_1, q1_2⟩ := q1
      refine Go_bindP (ok_X5_differenceFrom n q1_c o1 (by first | assumption | omega) (by first | assumption | omega) (by first | assumption | exact all_w (by assumption) (by omega) | (refine all_setw ?_ (Int.le_refl _) ?_ ?_ (by omega) (by omega) <;> first | assumption | omega) | exact all_setw (by assumption) (by omega) (by omega) (by omega) (by omega) (by omega))) (fun o2 q2 => ?_)
      obtain ⟨q2_0, q2_1⟩ := q2
      exact Go_i (show (((16 : Nat) = 0) ∨ ((16 : Nat) = 16 ∧ 0 ≤ ((0 : Int)) ∧ ((0 : Int)) < pg8 n ∧ 0 ≤ (o2) ∧ (o2) ≤ 20000 ∧ 1 ≤ ((1 : Int)) ∧ ((1 : Int)) ≤ pg8 n)) ∧ (440 - ((1 : Int))).toNat < 500 from ⟨Or.inr (⟨rfl, (by first | assumption | omega), (by first | assumption | omega), (by first | assumption | omega), (by first | assumption | omega), (by first | assumption | omega), (by first | assumption | omega)⟩), by omega⟩)
    · show Go _ (zg_X5_nearestTo_16 n q1_c i2' i3' i4')
      unfold zg_X5_nearestTo_16
      refine Go_chk (by unfold zout; omega) ?_
      have a3 := rpg8 (n := n) (by omega) (by omega)
      refine Go_chk (by unfold zout; omega) ?_
      refine Go_ite (fun c4 => ?_) (fun c4 => ?_)
      · exact Go_i (show 0 ≤ (i2') ∧ (i2') < pg8 n from ⟨(by first | assumption | omega), (by first | assumption | omega)⟩)
      · refine Go_chk (by unfold zout; omega) ?_
        refine Go_ite (fun c5 => ?_) (fun c5 => ?_)
        · exact Go_i (show 0 ≤ (i2') ∧ (i2') < pg8 n from ⟨(by first | assumption | omega), (by first | assumption | omega)⟩)
        · refine Go_chk (by omega) ?_
          have a6 := rget (pg6 n) (Int.toNat i4')
          have a7 := rpg6 (n := n) (by omega) (by omega) (Int.toNat i4') (by omega)
          refine Go_bindP (ok_X5_differenceFrom n q1_c (zget (pg6 n) (Int.toNat i4')) (by first | assumption | omega) (by first | assumption | omega) (by first | assumption | exact all_w (by assumption) (by omega) | (refine all_setw ?_ (Int.le_refl _) ?_ ?_ (by omega) (by omega) <;> first | assumption | omega) | exact all_setw (by assumption) (by omega) (by omega) (by omega) (by omega) (by omega))) (fun o7 q8 => ?_)
          obtain ⟨q8_0, q8_1⟩ := q8
          refine Go_chk (by unfold zout; omega) ?_
          refine Go_ite (fun c9 => ?_) (fun c9 => ?_)
          · exact Go_i (show (((16 : Nat) = 0) ∨ ((16 : Nat) = 16 ∧ 0 ≤ (i2') ∧ (i2') < pg8 n ∧ 0 ≤ (i3') ∧ (i3') ≤ 20000 ∧ 1 ≤ ((i4' + (1 : Int))) ∧ ((i4' + (1 : Int))) ≤ pg8 n)) ∧ (440 - ((i4' + (1 : Int)))).toNat < (440 - i4').toNat from ⟨Or.inr (⟨rfl, (by first | assumption | omega), (by first | assumption | omega), (by first | assumption | omega), (by first | assumption | omega), (by first | assumption | omega), (by first | assumption | omega)⟩), by omega⟩)
          · exact Go_i (show (((16 : Nat) = 0) ∨ ((16 : Nat) = 16 ∧ 0 ≤ (i4') ∧ (i4') < pg8 n ∧ 0 ≤ (o7) ∧ (o7) ≤ 20000 ∧ 1 ≤ ((i4' + (1 : Int))) ∧ ((i4' + (1 : Int))) ≤ pg8 n)) ∧ (440 - ((i4' + (1 : Int)))).toNat < (440 - i4').toNat from ⟨Or.inr (⟨rfl, (by first | assumption | omega), (by first | assumption | omega), (by first | assumption | omega), (by first | assumption | omega), (by first | assumption | omega), (by first | assumption | omega)⟩), by omega⟩)
  · exact (show ((0 : Nat) = 0) ∨ ((0 : Nat) = 16 ∧ 0 ≤ 0 ∧ 0 < pg8 n ∧ 0 ≤ 0 ∧ 0 ≤ 20000 ∧ 1 ≤ 0 ∧ 0 ≤ pg8 n) from Or.inl (rfl))
  · show 500 < jfuel
    unfold jfuel
    omega
set_option maxRecDepth 20000 in
theorem ok_X5_greatestFrom (n : Nat) (i1 : Int) (i2 : Int) (p0 : 4 ≤ n) (p1 : n ≤ 9) (p2 : isCut n i1) (p3 : 0 ≤ i2) (p4 : i2 < (n : Int)) : Go (fun o => 0 ≤ (o) ∧ (o) ≤ 134217728) (zf_X5_greatestFrom n i1 i2) := by
  unfold zf_X5_greatestFrom
  have g7n := rpg7 (n := n) (by omega) (by omega)
  have g8n := rpg8 (n := n) (by omega) (by omega)
  refine jok (fun (s : zS_X5_greatestFrom) => match s with | (lab, i1', i2', i3', i4', i5', i6') => (lab = 0 ∧ isCut n i1' ∧ i2' = i2) ∨ (lab = 13 ∧ isCut n i1' ∧ i2 + 1 ≤ i6' ∧ i6' ≤ (n : Int) ∧ 0 ≤ i3' ∧ i3' ≤ 134217728 ∧ -(eB (i6' - i2)) ≤ i5' ∧ i5' ≤ eB (i6' - i2) ∧ -(eB (i6' - i2)) ≤ i4' ∧ i4' ≤ eB (i6' - i2) ∧ (1 ≤ eB (i6' - i2) ∧ eB (i6' - i2) ≤ 134217728))) (fun (s : zS_X5_greatestFrom) => match s with | (lab, i1', i2', i3', i4', i5', i6') => if lab = 0 then 50 else if lab = 13 then (20 - i6').toNat else 0) (fun (o : zO_X5_greatestFrom) => 0 ≤ (o) ∧ (o) ≤ 134217728) ?_ _ ?_ ?_
  · intro s hI
    obtain ⟨lab, i1', i2', i3', i4', i5', i6'⟩ := s
    have hI : (lab = 0 ∧ isCut n i1' ∧ i2' = i2) ∨ (lab = 13 ∧ isCut n i1' ∧ i2 + 1 ≤ i6' ∧ i6' ≤ (n : Int) ∧ 0 ≤ i3' ∧ i3' ≤ 134217728 ∧ -(eB (i6' - i2)) ≤ i5' ∧ i5' ≤ eB (i6' - i2) ∧ -(eB (i6' - i2)) ≤ i4' ∧ i4' ≤ eB (i6' - i2) ∧ (1 ≤ eB (i6' - i2) ∧ eB (i6' - i2) ≤ 134217728)) := hI
    rcases hI with ⟨rfl, v0_0, v0_1⟩ | ⟨rfl, v13_0, v13_1, v13_2, v13_3, v13_4, v13_5, v13_6, v13_7, v13_8, v13_9⟩
    · show Go _ (zg_X5_greatestFrom_0 n i1' i2' i3' i4' i5' i6')
      unfold zg_X5_greatestFrom_0
      have m4 := eB_b (t := i2' + 1 - i2) (by omega) (by omega)
      exact Go_i (show (((13 : Nat) = 0 ∧ isCut n (i1') ∧ (i2') = i2) ∨ ((13 : Nat) = 13 ∧ isCut n (i1') ∧ i2 + 1 ≤ ((i2' + (1 : Int))) ∧ ((i2' + (1 : Int))) ≤ (n : Int) ∧ 0 ≤ ((0 : Int)) ∧ ((0 : Int)) ≤ 134217728 ∧ -(eB (((i2' + (1 : Int))) - i2)) ≤ ((1 : Int)) ∧ ((1 : Int)) ≤ eB (((i2' + (1 : Int))) - i2) ∧ -(eB (((i2' + (1 : Int))) - i2)) ≤ ((0 : Int)) ∧ ((0 : Int)) ≤ eB (((i2' + (1 : Int))) - i2) ∧ (1 ≤ eB (((i2' + (1 : Int))) - i2) ∧ eB (((i2' + (1 : Int))) - i2) ≤ 134217728))) ∧ (20 - ((i2' + (1 : Int)))).toNat < 50 from ⟨Or.inr (⟨rfl, (by first | assumption | exact isCut_at (by omega) (by omega)), (by first | assumption | omega), (by first | assumption | omega), (by first | assumption | omega), (by first | assumption | omega), (by first | assumption | omega), (by first | assumption | omega), (by first | assumption | omega), (by first | assumption | omega), (by exact eB_b (by omega) (by omega))⟩), by omega⟩)
    · show Go _ (zg_X5_greatestFrom_13 n i1' i2' i3' i4' i5' i6')
      unfold zg_X5_greatestFrom_13
      refine Go_chk (by unfold zout; omega) ?_
      refine Go_chk (by unfold zout; omega) ?_
      refine Go_ite (fun c1 => ?_) (fun c1 => ?_)
      · exact Go_i (show 0 ≤ (i3') ∧ (i3') ≤ 134217728 from ⟨(by first | assumption | omega), (by first | assumption | omega)⟩)
      · refine Go_chk (by unfold zout; omega) ?_
        refine Go_chk (by unfold zout; omega) ?_
        refine Go_bindP (ok_X5_trianglesAt n i1' i6' (by first | assumption | omega) (by first | assumption | omega) (by first | assumption | omega) (by first | assumption | omega)) (fun o5 q2 => ?_)
        obtain ⟨q2_0, q2_1, q2_2⟩ := q2
        have sq2 := q2_2 (by assumption)
        have m3 := mulb (a := o5) (x := i5') (B := eB (i6' - i2)) (M := 7) (by omega) (by omega) (by omega) (by omega)
        have m4 := eB_d (x := i6') (y := i2) (by omega)
        have a3 := rmax i3' i5'
        exact Go_i (show (((13 : Nat) = 0 ∧ isCut n (i1') ∧ (0) = i2) ∨ ((13 : Nat) = 13 ∧ isCut n (i1') ∧ i2 + 1 ≤ ((i6' + (1 : Int))) ∧ ((i6' + (1 : Int))) ≤ (n : Int) ∧ 0 ≤ ((zmax i3' i5')) ∧ ((zmax i3' i5')) ≤ 134217728 ∧ -(eB (((i6' + (1 : Int))) - i2)) ≤ (((o5 * i5') - i4')) ∧ (((o5 * i5') - i4')) ≤ eB (((i6' + (1 : Int))) - i2) ∧ -(eB (((i6' + (1 : Int))) - i2)) ≤ (i5') ∧ (i5') ≤ eB (((i6' + (1 : Int))) - i2) ∧ (1 ≤ eB (((i6' + (1 : Int))) - i2) ∧ eB (((i6' + (1 : Int))) - i2) ≤ 134217728))) ∧ (20 - ((i6' + (1 : Int)))).toNat < (20 - i6').toNat from ⟨Or.inr (⟨rfl, (by first | assumption | exact isCut_at (by omega) (by omega)), (by first | assumption | omega), (by first | assumption | omega), (by first | assumption | omega), (by first | assumption | omega), (by first | assumption | omega), (by first | assumption | omega), (by first | assumption | omega), (by first | assumption | omega), (by exact eB_b (by omega) (by omega))⟩), by omega⟩)
  · exact (show ((0 : Nat) = 0 ∧ isCut n i1 ∧ i2 = i2) ∨ ((0 : Nat) = 13 ∧ isCut n i1 ∧ i2 + 1 ≤ 0 ∧ 0 ≤ (n : Int) ∧ 0 ≤ 0 ∧ 0 ≤ 134217728 ∧ -(eB (0 - i2)) ≤ 0 ∧ 0 ≤ eB (0 - i2) ∧ -(eB (0 - i2)) ≤ 0 ∧ 0 ≤ eB (0 - i2) ∧ (1 ≤ eB (0 - i2) ∧ eB (0 - i2) ≤ 134217728)) from Or.inl (⟨rfl, (by first | assumption | exact isCut_at (by omega) (by omega)), (by first | assumption | omega)⟩))
  · show 50 < jfuel
    unfold jfuel
    omega
set_option maxRecDepth 20000 in
theorem ok_X5_greatestIn (n : Nat) (i1 : Int) (p0 : 4 ≤ n) (p1 : n ≤ 9) (p2 : isCut n i1) : Go (fun o => 0 ≤ (o) ∧ (o) ≤ 134217728) (zf_X5_greatestIn n i1) := by
  unfold zf_X5_greatestIn
  have g7n := rpg7 (n := n) (by omega) (by omega)
  have g8n := rpg8 (n := n) (by omega) (by omega)
  refine jok (fun (s : zS_X5_greatestIn) => match s with | (lab, i1', i2', i3') => (lab = 0 ∧ isCut n i1') ∨ (lab = 4 ∧ isCut n i1' ∧ 0 ≤ i2' ∧ i2' ≤ 134217728 ∧ 0 ≤ i3' ∧ i3' ≤ (n : Int))) (fun (s : zS_X5_greatestIn) => match s with | (lab, i1', i2', i3') => if lab = 0 then 50 else if lab = 4 then (20 - i3').toNat else 0) (fun (o : zO_X5_greatestIn) => 0 ≤ (o) ∧ (o) ≤ 134217728) ?_ _ ?_ ?_
  · intro s hI
    obtain ⟨lab, i1', i2', i3'⟩ := s
    have hI : (lab = 0 ∧ isCut n i1') ∨ (lab = 4 ∧ isCut n i1' ∧ 0 ≤ i2' ∧ i2' ≤ 134217728 ∧ 0 ≤ i3' ∧ i3' ≤ (n : Int)) := hI
    rcases hI with ⟨rfl, v0_0⟩ | ⟨rfl, v4_0, v4_1, v4_2, v4_3, v4_4⟩
    · show Go _ (zg_X5_greatestIn_0 n i1' i2' i3')
      unfold zg_X5_greatestIn_0
      exact Go_i (show (((4 : Nat) = 0 ∧ isCut n (i1')) ∨ ((4 : Nat) = 4 ∧ isCut n (i1') ∧ 0 ≤ ((0 : Int)) ∧ ((0 : Int)) ≤ 134217728 ∧ 0 ≤ ((0 : Int)) ∧ ((0 : Int)) ≤ (n : Int))) ∧ (20 - ((0 : Int))).toNat < 50 from ⟨Or.inr (⟨rfl, (by first | assumption | exact isCut_at (by omega) (by omega)), (by first | assumption | omega), (by first | assumption | omega), (by first | assumption | omega), (by first | assumption | omega)⟩), by omega⟩)
    · show Go _ (zg_X5_greatestIn_4 n i1' i2' i3')
      unfold zg_X5_greatestIn_4
      refine Go_chk (by unfold zout; omega) ?_
      refine Go_chk (by unfold zout; omega) ?_
      refine Go_ite (fun c1 => ?_) (fun c1 => ?_)
      · exact Go_i (show 0 ≤ (i2') ∧ (i2') ≤ 134217728 from ⟨(by first | assumption | omega), (by first | assumption | omega)⟩)
      · refine Go_bindP (ok_X5_greatestFrom n i1' i3' (by first | assumption | omega) (by first | assumption | omega) (by first | assumption | exact isCut_at (by omega) (by omega)) (by first | assumption | omega) (by first | assumption | omega)) (fun o3 q2 => ?_)
        obtain ⟨q2_0, q2_1⟩ := q2
        refine Go_chk (by unfold zout; omega) ?_
        refine Go_chk (by unfold zout; omega) ?_
        have a3 := rmax i2' o3
        exact Go_i (show (((4 : Nat) = 0 ∧ isCut n (i1')) ∨ ((4 : Nat) = 4 ∧ isCut n (i1') ∧ 0 ≤ ((zmax i2' o3)) ∧ ((zmax i2' o3)) ≤ 134217728 ∧ 0 ≤ ((i3' + (1 : Int))) ∧ ((i3' + (1 : Int))) ≤ (n : Int))) ∧ (20 - ((i3' + (1 : Int)))).toNat < (20 - i3').toNat from ⟨Or.inr (⟨rfl, (by first | assumption | exact isCut_at (by omega) (by omega)), (by first | assumption | omega), (by first | assumption | omega), (by first | assumption | omega), (by first | assumption | omega)⟩), by omega⟩)
  · exact (show ((0 : Nat) = 0 ∧ isCut n i1) ∨ ((0 : Nat) = 4 ∧ isCut n i1 ∧ 0 ≤ 0 ∧ 0 ≤ 134217728 ∧ 0 ≤ 0 ∧ 0 ≤ (n : Int)) from Or.inl (⟨rfl, (by first | assumption | exact isCut_at (by omega) (by omega))⟩))
  · show 50 < jfuel
    unfold jfuel
    omega
set_option maxRecDepth 20000 in
theorem ok_X5_numberOfGreatest (n : Nat) (p0 : 4 ≤ n) (p1 : n ≤ 9) : Go (fun o => 0 ≤ (o) ∧ (o) < pg8 n) (zf_X5_numberOfGreatest n) := by
  unfold zf_X5_numberOfGreatest
  have g7n := rpg7 (n := n) (by omega) (by omega)
  have g8n := rpg8 (n := n) (by omega) (by omega)
  refine jok (fun (s : zS_X5_numberOfGreatest) => match s with | (lab, i1', i2', i3') => (lab = 0) ∨ (lab = 6 ∧ 0 ≤ i1' ∧ i1' < pg8 n ∧ 0 ≤ i2' ∧ i2' ≤ 134217728 ∧ 0 ≤ i3' ∧ i3' ≤ pg8 n)) (fun (s : zS_X5_numberOfGreatest) => match s with | (lab, i1', i2', i3') => if lab = 0 then 1000 else if lab = 6 then (440 - i3').toNat else 0) (fun (o : zO_X5_numberOfGreatest) => 0 ≤ (o) ∧ (o) < pg8 n) ?_ _ ?_ ?_
  · intro s hI
    obtain ⟨lab, i1', i2', i3'⟩ := s
    have hI : (lab = 0) ∨ (lab = 6 ∧ 0 ≤ i1' ∧ i1' < pg8 n ∧ 0 ≤ i2' ∧ i2' ≤ 134217728 ∧ 0 ≤ i3' ∧ i3' ≤ pg8 n) := hI
    rcases hI with rfl | ⟨rfl, v6_0, v6_1, v6_2, v6_3, v6_4, v6_5⟩
    · show Go _ (zg_X5_numberOfGreatest_0 n i1' i2' i3')
      unfold zg_X5_numberOfGreatest_0
      exact Go_i (show (((6 : Nat) = 0) ∨ ((6 : Nat) = 6 ∧ 0 ≤ ((0 : Int)) ∧ ((0 : Int)) < pg8 n ∧ 0 ≤ ((0 : Int)) ∧ ((0 : Int)) ≤ 134217728 ∧ 0 ≤ ((0 : Int)) ∧ ((0 : Int)) ≤ pg8 n)) ∧ (440 - ((0 : Int))).toNat < 1000 from ⟨Or.inr (⟨rfl, (by first | assumption | omega), (by first | assumption | omega), (by first | assumption | omega), (by first | assumption | omega), (by first | assumption | omega), (by first | assumption | omega)⟩), by omega⟩)
    · show Go _ (zg_X5_numberOfGreatest_6 n i1' i2' i3')
      unfold zg_X5_numberOfGreatest_6
      refine Go_chk (by unfold zout; omega) ?_
      have a1 := rpg8 (n := n) (by omega) (by omega)
      refine Go_chk (by unfold zout; omega) ?_
      refine Go_ite (fun c2 => ?_) (fun c2 => ?_)
      · exact Go_i (show 0 ≤ (i1') ∧ (i1') < pg8 n from ⟨(by first | assumption | omega), (by first | assumption | omega)⟩)
      · refine Go_chk (by omega) ?_
        have a3 := rget (pg6 n) (Int.toNat i3')
        have a4 := rpg6 (n := n) (by omega) (by omega) (Int.toNat i3') (by omega)
        refine Go_bindP (ok_X5_greatestIn n (zget (pg6 n) (Int.toNat i3')) (by first | assumption | omega) (by first | assumption | omega) (by first | assumption | exact isCut_at (by omega) (by omega))) (fun o4 q5 => ?_)
        obtain ⟨q5_0, q5_1⟩ := q5
        refine Go_chk (by unfold zout; omega) ?_
        refine Go_chk (by unfold zout; omega) ?_
        refine Go_ite (fun c6 => ?_) (fun c6 => ?_)
        · exact Go_i (show (((6 : Nat) = 0) ∨ ((6 : Nat) = 6 ∧ 0 ≤ (i1') ∧ (i1') < pg8 n ∧ 0 ≤ (i2') ∧ (i2') ≤ 134217728 ∧ 0 ≤ ((i3' + (1 : Int))) ∧ ((i3' + (1 : Int))) ≤ pg8 n)) ∧ (440 - ((i3' + (1 : Int)))).toNat < (440 - i3').toNat from ⟨Or.inr (⟨rfl, (by first | assumption | omega), (by first | assumption | omega), (by first | assumption | omega), (by first | assumption | omega), (by first | assumption | omega), (by first | assumption | omega)⟩), by omega⟩)
        · exact Go_i (show (((6 : Nat) = 0) ∨ ((6 : Nat) = 6 ∧ 0 ≤ (i3') ∧ (i3') < pg8 n ∧ 0 ≤ (o4) ∧ (o4) ≤ 134217728 ∧ 0 ≤ ((i3' + (1 : Int))) ∧ ((i3' + (1 : Int))) ≤ pg8 n)) ∧ (440 - ((i3' + (1 : Int)))).toNat < (440 - i3').toNat from ⟨Or.inr (⟨rfl, (by first | assumption | omega), (by first | assumption | omega), (by first | assumption | omega), (by first | assumption | omega), (by first | assumption | omega), (by first | assumption | omega)⟩), by omega⟩)
  · exact (show ((0 : Nat) = 0) ∨ ((0 : Nat) = 6 ∧ 0 ≤ 0 ∧ 0 < pg8 n ∧ 0 ≤ 0 ∧ 0 ≤ 134217728 ∧ 0 ≤ 0 ∧ 0 ≤ pg8 n) from Or.inl (rfl))
  · show 1000 < jfuel
    unfold jfuel
    omega
set_option maxRecDepth 20000 in
theorem ok_X5_countWith (n : Nat) (i1 : Int) (i2 : Int) (i3 : Int) (p0 : 4 ≤ n) (p1 : n ≤ 9) (p2 : 0 ≤ i1) (p3 : i1 < (n : Int)) (p4 : 0 ≤ i2) (p5 : i2 < (n : Int)) (p6 : -2147483648 ≤ i3) (p7 : i3 ≤ 2147483647) : Go (fun o => 0 ≤ (o) ∧ (o) ≤ 429) (zf_X5_countWith n i1 i2 i3) := by
  unfold zf_X5_countWith
  have g7n := rpg7 (n := n) (by omega) (by omega)
  have g8n := rpg8 (n := n) (by omega) (by omega)
  refine jok (fun (s : zS_X5_countWith) => match s with | (lab, i1', i2', i3', i4', i5') => (lab = 0 ∧ 0 ≤ i1' ∧ i1' < (n : Int) ∧ 0 ≤ i2' ∧ i2' < (n : Int) ∧ -2147483648 ≤ i3' ∧ i3' ≤ 2147483647) ∨ (lab = 6 ∧ 0 ≤ i1' ∧ i1' < (n : Int) ∧ 0 ≤ i2' ∧ i2' < (n : Int) ∧ -2147483648 ≤ i3' ∧ i3' ≤ 2147483647 ∧ 0 ≤ i4' ∧ i4' ≤ i5' ∧ i5' ≤ pg8 n)) (fun (s : zS_X5_countWith) => match s with | (lab, i1', i2', i3', i4', i5') => if lab = 0 then 500 else if lab = 6 then (440 - i5').toNat else 0) (fun (o : zO_X5_countWith) => 0 ≤ (o) ∧ (o) ≤ 429) ?_ _ ?_ ?_
  · intro s hI
    obtain ⟨lab, i1', i2', i3', i4', i5'⟩ := s
    have hI : (lab = 0 ∧ 0 ≤ i1' ∧ i1' < (n : Int) ∧ 0 ≤ i2' ∧ i2' < (n : Int) ∧ -2147483648 ≤ i3' ∧ i3' ≤ 2147483647) ∨ (lab = 6 ∧ 0 ≤ i1' ∧ i1' < (n : Int) ∧ 0 ≤ i2' ∧ i2' < (n : Int) ∧ -2147483648 ≤ i3' ∧ i3' ≤ 2147483647 ∧ 0 ≤ i4' ∧ i4' ≤ i5' ∧ i5' ≤ pg8 n) := hI
    rcases hI with ⟨rfl, v0_0, v0_1, v0_2, v0_3, v0_4, v0_5⟩ | ⟨rfl, v6_0, v6_1, v6_2, v6_3, v6_4, v6_5, v6_6, v6_7, v6_8⟩
    · show Go _ (zg_X5_countWith_0 n i1' i2' i3' i4' i5')
      unfold zg_X5_countWith_0
      exact Go_i (show (((6 : Nat) = 0 ∧ 0 ≤ (i1') ∧ (i1') < (n : Int) ∧ 0 ≤ (i2') ∧ (i2') < (n : Int) ∧ -2147483648 ≤ (i3') ∧ (i3') ≤ 2147483647) ∨ ((6 : Nat) = 6 ∧ 0 ≤ (i1') ∧ (i1') < (n : Int) ∧ 0 ≤ (i2') ∧ (i2') < (n : Int) ∧ -2147483648 ≤ (i3') ∧ (i3') ≤ 2147483647 ∧ 0 ≤ ((0 : Int)) ∧ ((0 : Int)) ≤ ((0 : Int)) ∧ ((0 : Int)) ≤ pg8 n)) ∧ (440 - ((0 : Int))).toNat < 500 from ⟨Or.inr (⟨rfl, (by first | assumption | omega), (by first | assumption | omega), (by first | assumption | omega), (by first | assumption | omega), (by first | assumption | omega), (by first | assumption | omega), (by first | assumption | omega), (by first | assumption | omega), (by first | assumption | omega)⟩), by omega⟩)
    · show Go _ (zg_X5_countWith_6 n i1' i2' i3' i4' i5')
      unfold zg_X5_countWith_6
      refine Go_chk (by unfold zout; omega) ?_
      have a1 := rpg8 (n := n) (by omega) (by omega)
      refine Go_chk (by unfold zout; omega) ?_
      refine Go_ite (fun c2 => ?_) (fun c2 => ?_)
      · exact Go_i (show 0 ≤ (i4') ∧ (i4') ≤ 429 from ⟨(by first | assumption | omega), (by first | assumption | omega)⟩)
      · refine Go_chk (by omega) ?_
        have a3 := rget (pg6 n) (Int.toNat i5')
        have a4 := rpg6 (n := n) (by omega) (by omega) (Int.toNat i5') (by omega)
        refine Go_bindP (ok_X5_entryOf n (zget (pg6 n) (Int.toNat i5')) i1' i2' (by first | assumption | omega) (by first | assumption | omega) (by first | assumption | exact isCut_at (by omega) (by omega)) (by first | assumption | omega) (by first | assumption | omega) (by first | assumption | omega) (by first | assumption | omega)) (fun o4 q5 => ?_)
        obtain ⟨q5_0, q5_1⟩ := q5
        refine Go_chk (by unfold zout; omega) ?_
        refine Go_chk (by unfold zout; omega) ?_
        refine Go_ite (fun c6 => ?_) (fun c6 => ?_)
        · exact Go_i (show (((6 : Nat) = 0 ∧ 0 ≤ (i1') ∧ (i1') < (n : Int) ∧ 0 ≤ (i2') ∧ (i2') < (n : Int) ∧ -2147483648 ≤ (i3') ∧ (i3') ≤ 2147483647) ∨ ((6 : Nat) = 6 ∧ 0 ≤ (i1') ∧ (i1') < (n : Int) ∧ 0 ≤ (i2') ∧ (i2') < (n : Int) ∧ -2147483648 ≤ (i3') ∧ (i3') ≤ 2147483647 ∧ 0 ≤ ((i4' + (1 : Int))) ∧ ((i4' + (1 : Int))) ≤ ((i5' + (1 : Int))) ∧ ((i5' + (1 : Int))) ≤ pg8 n)) ∧ (440 - ((i5' + (1 : Int)))).toNat < (440 - i5').toNat from ⟨Or.inr (⟨rfl, (by first | assumption | omega), (by first | assumption | omega), (by first | assumption | omega), (by first | assumption | omega), (by first | assumption | omega), (by first | assumption | omega), (by first | assumption | omega), (by first | assumption | omega), (by first | assumption | omega)⟩), by omega⟩)
        · exact Go_i (show (((6 : Nat) = 0 ∧ 0 ≤ (i1') ∧ (i1') < (n : Int) ∧ 0 ≤ (i2') ∧ (i2') < (n : Int) ∧ -2147483648 ≤ (i3') ∧ (i3') ≤ 2147483647) ∨ ((6 : Nat) = 6 ∧ 0 ≤ (i1') ∧ (i1') < (n : Int) ∧ 0 ≤ (i2') ∧ (i2') < (n : Int) ∧ -2147483648 ≤ (i3') ∧ (i3') ≤ 2147483647 ∧ 0 ≤ (i4') ∧ (i4') ≤ ((i5' + (1 : Int))) ∧ ((i5' + (1 : Int))) ≤ pg8 n)) ∧ (440 - ((i5' + (1 : Int)))).toNat < (440 - i5').toNat from ⟨Or.inr (⟨rfl, (by first | assumption | omega), (by first | assumption | omega), (by first | assumption | omega), (by first | assumption | omega), (by first | assumption | omega), (by first | assumption | omega), (by first | assumption | omega), (by first | assumption | omega), (by first | assumption | omega)⟩), by omega⟩)
  · exact (show ((0 : Nat) = 0 ∧ 0 ≤ i1 ∧ i1 < (n : Int) ∧ 0 ≤ i2 ∧ i2 < (n : Int) ∧ -2147483648 ≤ i3 ∧ i3 ≤ 2147483647) ∨ ((0 : Nat) = 6 ∧ 0 ≤ i1 ∧ i1 < (n : Int) ∧ 0 ≤ i2 ∧ i2 < (n : Int) ∧ -2147483648 ≤ i3 ∧ i3 ≤ 2147483647 ∧ 0 ≤ 0 ∧ 0 ≤ 0 ∧ 0 ≤ pg8 n) from Or.inl (⟨rfl, (by first | assumption | omega), (by first | assumption | omega), (by first | assumption | omega), (by first | assumption | omega), (by first | assumption | omega), (by first | assumption | omega)⟩))
  · show 500 < jfuel
    unfold jfuel
    omega
end
