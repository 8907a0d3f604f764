theorem bnf {b : Bool} (h : ¬ b = false) : b = true := by cases b <;> simp_all
theorem zno_rng {mk n : Nat} (h : ¬ zno mk n) : 4 ≤ n ∧ n ≤ 9 := by
  unfold zno at h
  omega
/-! ranges of what the pure functions reckon -/
theorem rin {x : Int} (h : ¬ zout x) : -2147483648 ≤ x ∧ x ≤ 2147483647 := by unfold zout at h; omega
theorem rinL {x : Int} (h : ¬ zoutL x) : -9223372036854775808 ≤ x ∧ x ≤ 9223372036854775807 := by unfold zoutL at h; omega
theorem rget (A i : Nat) : -2147483648 ≤ zget A i ∧ zget A i ≤ 2147483647 := rin (zget_in A i)
theorem rgetL (A i : Nat) : -9223372036854775808 ≤ zgetL A i ∧ zgetL A i ≤ 9223372036854775807 := rinL (zgetL_in A i)
theorem rand (x y : Int) : -2147483648 ≤ zand x y ∧ zand x y ≤ 2147483647 := rin (zand_in x y)
theorem ror (x y : Int) : -2147483648 ≤ zor x y ∧ zor x y ≤ 2147483647 := rin (zor_in x y)
theorem rxor (x y : Int) : -2147483648 ≤ zxor x y ∧ zxor x y ≤ 2147483647 := rin (zxor_in x y)
theorem rshl (x y : Int) : -2147483648 ≤ zshl x y ∧ zshl x y ≤ 2147483647 := rin (zshl_in x y)
theorem rshr (x y : Int) : -2147483648 ≤ zshr x y ∧ zshr x y ≤ 2147483647 := rin (zshr_in x y)
theorem rushr (x y : Int) : -2147483648 ≤ zushr x y ∧ zushr x y ≤ 2147483647 := rin (zushr_in x y)
theorem randL (x y : Int) : -9223372036854775808 ≤ zandL x y ∧ zandL x y ≤ 9223372036854775807 := rinL (zandL_in x y)
theorem rorL (x y : Int) : -9223372036854775808 ≤ zorL x y ∧ zorL x y ≤ 9223372036854775807 := rinL (zorL_in x y)
theorem rxorL (x y : Int) : -9223372036854775808 ≤ zxorL x y ∧ zxorL x y ≤ 9223372036854775807 := rinL (zxorL_in x y)
theorem rshlL (x y : Int) : -9223372036854775808 ≤ zshlL x y ∧ zshlL x y ≤ 9223372036854775807 := rinL (zshlL_in x y)
theorem rshrL (x y : Int) : -9223372036854775808 ≤ zshrL x y ∧ zshrL x y ≤ 9223372036854775807 := rinL (zshrL_in x y)
theorem rb (x : Int) : -128 ≤ zb x ∧ zb x ≤ 127 := by unfold zb; split <;> omega
theorem rbI (b : Bool) : 0 ≤ bI b ∧ bI b ≤ 1 := by cases b <;> decide
theorem rabs (x : Int) : 0 ≤ zabs x ∧ (zabs x = x ∨ zabs x = -x) := by unfold zabs; split <;> omega
theorem rmax (x y : Int) : x ≤ zmax x y ∧ y ≤ zmax x y ∧ (zmax x y = x ∨ zmax x y = y) := by unfold zmax; split <;> omega
theorem rmin (x y : Int) : zmin x y ≤ x ∧ zmin x y ≤ y ∧ (zmin x y = x ∨ zmin x y = y) := by unfold zmin; split <;> omega
theorem rtmod {a b : Int} (ha : 0 ≤ a) (hb : 0 < b) : 0 ≤ Int.tmod a b ∧ Int.tmod a b < b := ⟨Int.tmod_nonneg _ ha, Int.tmod_lt_of_pos _ hb⟩
theorem rtdiv {a b : Int} (ha : 0 ≤ a) (hb : 0 < b) : 0 ≤ Int.tdiv a b ∧ Int.tdiv a b ≤ a := ⟨Int.tdiv_nonneg ha (Int.le_of_lt hb), Int.tdiv_le_self _ ha⟩
theorem rand_pos {x y : Int} (h0 : 0 ≤ y) (h : ¬ zout y) : 0 ≤ zand x y ∧ zand x y ≤ y := by
  have h2 : zu y = y.toNat := by unfold zu zout at *; omega
  have h1 : zu x &&& zu y ≤ y.toNat := by rw [h2]; exact Nat.and_le_right
  unfold zand zs
  unfold zout at h
  generalize zu x &&& zu y = q at h1 ⊢
  split <;> omega
theorem rand63 (x : Int) : 0 ≤ zand x 63 ∧ zand x 63 ≤ 63 := rand_pos (by decide) (by decide)
theorem rshr1 {x : Int} (h0 : 0 ≤ x) (h : x ≤ 2147483647) : zshr x 1 = x / 2 := by
  unfold zshr
  rw [zw_id (by unfold zout; omega), show zu 1 = 1 by decide]
  rfl
theorem rpg7 {n : Nat} (h4 : 4 ≤ n) (h9 : n ≤ 9) : 2 ≤ pg7 n ∧ pg7 n ≤ 27 := by
  have h : n = 4 ∨ n = 5 ∨ n = 6 ∨ n = 7 ∨ n = 8 ∨ n = 9 := by omega
  rcases h with rfl | rfl | rfl | rfl | rfl | rfl <;> decide
theorem rpg8 {n : Nat} (h4 : 4 ≤ n) (h9 : n ≤ 9) : 2 ≤ pg8 n ∧ pg8 n ≤ 429 := by
  have h : n = 4 ∨ n = 5 ∨ n = 6 ∨ n = 7 ∨ n = 8 ∨ n = 9 := by omega
  rcases h with rfl | rfl | rfl | rfl | rfl | rfl <;> decide
noncomputable def tabR (A : Nat) (lo hi : Int) (c : Nat) : Bool := Nat.rec true (fun m ih => match decide (lo ≤ zget A m ∧ zget A m ≤ hi) with
  | true => ih
  | false => false) c
theorem tabR_ok {A : Nat} {lo hi : Int} : ∀ (c : Nat), tabR A lo hi c = true → ∀ m, m < c → lo ≤ zget A m ∧ zget A m ≤ hi := by
  intro c
  induction c with
  | zero => intro _ m hm; exact absurd hm (Nat.not_lt_zero _)
  | succ c ih =>
    intro h m hm
    have h2 : (match decide (lo ≤ zget A c ∧ zget A c ≤ hi) with
      | true => tabR A lo hi c
      | false => false) = true := h
    cases hf : decide (lo ≤ zget A c ∧ zget A c ≤ hi) with
    | false => rw [hf] at h2; cases h2
    | true =>
      rw [hf] at h2
      by_cases e : m = c
      · rw [e]; exact of_decide_eq_true hf
      · exact ih h2 m (by omega)
theorem pg_cases {P : Nat → Prop} (h4 : P 4) (h5 : P 5) (h6 : P 6) (h7 : P 7) (h8 : P 8) (h9 : P 9) : ∀ n : Nat, 4 ≤ n → n ≤ 9 → P n := by
  intro n a b
  have h : n = 4 ∨ n = 5 ∨ n = 6 ∨ n = 7 ∨ n = 8 ∨ n = 9 := by omega
  rcases h with rfl | rfl | rfl | rfl | rfl | rfl
  · exact h4
  · exact h5
  · exact h6
  · exact h7
  · exact h8
  · exact h9
theorem rpg1 {n : Nat} (h4 : 4 ≤ n) (h9 : n ≤ 9) : ∀ k : Nat, k < 27 → 0 ≤ zget (pg1 n) k ∧ zget (pg1 n) k ≤ 8 := tabR_ok _ (pg_cases (P := fun n => tabR (pg1 n) 0 8 27 = true) (by decide +kernel) (by decide +kernel) (by decide +kernel) (by decide +kernel) (by decide +kernel) (by decide +kernel) n h4 h9)
theorem rpg1n {n : Nat} (h4 : 4 ≤ n) (h9 : n ≤ 9) (k : Nat) (hk : (k : Int) < pg7 n) : 0 ≤ zget (pg1 n) k ∧ zget (pg1 n) k ≤ (n : Int) - 1 := tabR_ok _ (pg_cases (P := fun n => tabR (pg1 n) 0 ((n : Int) - 1) (pg7 n).toNat = true) (by decide +kernel) (by decide +kernel) (by decide +kernel) (by decide +kernel) (by decide +kernel) (by decide +kernel) n h4 h9) k (by omega)
theorem rpg2 {n : Nat} (h4 : 4 ≤ n) (h9 : n ≤ 9) : ∀ k : Nat, k < 27 → 0 ≤ zget (pg2 n) k ∧ zget (pg2 n) k ≤ 8 := tabR_ok _ (pg_cases (P := fun n => tabR (pg2 n) 0 8 27 = true) (by decide +kernel) (by decide +kernel) (by decide +kernel) (by decide +kernel) (by decide +kernel) (by decide +kernel) n h4 h9)
theorem rpg2n {n : Nat} (h4 : 4 ≤ n) (h9 : n ≤ 9) (k : Nat) (hk : (k : Int) < pg7 n) : 0 ≤ zget (pg2 n) k ∧ zget (pg2 n) k ≤ (n : Int) - 1 := tabR_ok _ (pg_cases (P := fun n => tabR (pg2 n) 0 ((n : Int) - 1) (pg7 n).toNat = true) (by decide +kernel) (by decide +kernel) (by decide +kernel) (by decide +kernel) (by decide +kernel) (by decide +kernel) n h4 h9) k (by omega)
theorem rpg3 {n : Nat} (h4 : 4 ≤ n) (h9 : n ≤ 9) : ∀ k : Nat, k < 81 → -1 ≤ zget (pg3 n) k ∧ zget (pg3 n) k ≤ 26 := tabR_ok _ (pg_cases (P := fun n => tabR (pg3 n) (-1) 26 81 = true) (by decide +kernel) (by decide +kernel) (by decide +kernel) (by decide +kernel) (by decide +kernel) (by decide +kernel) n h4 h9)
theorem rpg4 {n : Nat} (h4 : 4 ≤ n) (h9 : n ≤ 9) : ∀ k : Nat, k < 27 → 0 ≤ zget (pg4 n) k ∧ zget (pg4 n) k ≤ 134217727 := tabR_ok _ (pg_cases (P := fun n => tabR (pg4 n) 0 134217727 27 = true) (by decide +kernel) (by decide +kernel) (by decide +kernel) (by decide +kernel) (by decide +kernel) (by decide +kernel) n h4 h9)
theorem rpg5 {n : Nat} (h4 : 4 ≤ n) (h9 : n ≤ 9) : ∀ k : Nat, k < 9 → 0 ≤ zget (pg5 n) k ∧ zget (pg5 n) k ≤ 134217727 := tabR_ok _ (pg_cases (P := fun n => tabR (pg5 n) 0 134217727 9 = true) (by decide +kernel) (by decide +kernel) (by decide +kernel) (by decide +kernel) (by decide +kernel) (by decide +kernel) n h4 h9)
theorem rpg6 {n : Nat} (h4 : 4 ≤ n) (h9 : n ≤ 9) : ∀ k : Nat, k < 429 → 0 ≤ zget (pg6 n) k ∧ zget (pg6 n) k ≤ 134217727 := tabR_ok _ (pg_cases (P := fun n => tabR (pg6 n) 0 134217727 429 = true) (by decide +kernel) (by decide +kernel) (by decide +kernel) (by decide +kernel) (by decide +kernel) (by decide +kernel) n h4 h9)
def isCut (n : Nat) (b : Int) : Prop := ∃ k : Nat, (k : Int) < pg8 n ∧ b = zget (pg6 n) k
theorem isCut_at {n : Nat} {k : Int} (h0 : 0 ≤ k) (h : k < pg8 n) : isCut n (zget (pg6 n) (Int.toNat k)) := ⟨k.toNat, by omega, rfl⟩
noncomputable def allF (f : Nat → Bool) (s : Nat) (c : Nat) : Bool := Nat.rec true (fun m ih => match f (s + m) with
  | true => ih
  | false => false) c
theorem allF_ok {f : Nat → Bool} {s : Nat} : ∀ (c : Nat), allF f s c = true → ∀ m, m < c → f (s + m) = true := by
  intro c
  induction c with
  | zero => intro _ m hm; exact absurd hm (Nat.not_lt_zero _)
  | succ c ih =>
    intro h m hm
    have h2 : (match f (s + c) with
      | true => allF f s c
      | false => false) = true := h
    cases hf : f (s + c) with
    | false => rw [hf] at h2; cases h2
    | true =>
      rw [hf] at h2
      by_cases e : m = c
      · rw [e]; exact hf
      · exact ih h2 m (by omega)
theorem allF_at {f : Nat → Bool} {c : Nat} (h : allF f 0 c = true) {m : Nat} (hm : m < c) : f m = true := by
  have q := allF_ok c h m hm
  rw [Nat.zero_add] at q
  exact q
noncomputable def bitc (x : Int) : Int := match zf_J6_bitCount_0f7a4 x with
  | some r => r
  | none => 99
theorem bitc_eq (x : Int) : zf_J6_bitCount_0f7a4 x = some (bitc x) := rfl
theorem tri6_tab : ∀ n : Nat, 4 ≤ n → n ≤ 9 → allF (fun k => allF (fun c => decide (bitc (zand (zget (pg6 n) k) (zget (pg5 n) c)) ≤ 6)) 0 9) 0 (pg8 n).toNat = true := pg_cases (by decide +kernel) (by decide +kernel) (by decide +kernel) (by decide +kernel) (by decide +kernel) (by decide +kernel)
theorem tri6 {n : Nat} (h4 : 4 ≤ n) (h9 : n ≤ 9) {b : Int} (hb : isCut n b) {c : Nat} (hc : c < 9) : bitc (zand b (zget (pg5 n) c)) ≤ 6 := by
  obtain ⟨k, hk, rfl⟩ := hb
  exact of_decide_eq_true (allF_at (allF_at (tri6_tab n h4 h9) (by omega)) hc)
theorem ok_hasC (n : Nat) (i1 : Int) (p0 : 4 ≤ n) (p1 : n ≤ 9) (p2 : -2147483648 ≤ i1) (p3 : i1 ≤ 2147483647) : zf_X5_hasCorner n i1 = some (decide (0 ≤ i1 ∧ i1 < (n : Int))) := by
  unfold zf_X5_hasCorner
  rw [if_neg (by unfold zout; omega)]
  by_cases h : i1 < 0
  · rw [if_pos h, decide_eq_false (by omega)]
  · rw [if_neg h, if_neg (by unfold zout; omega)]
    by_cases q : (n : Int) ≤ i1
    · rw [if_pos q, decide_eq_false (by omega)]
    · rw [if_neg q, decide_eq_true (by omega)]
theorem ok_triAt (n : Nat) (i1 i2 : Int) (p0 : 4 ≤ n) (p1 : n ≤ 9) (p2 : -2147483648 ≤ i2) (p3 : i2 ≤ 2147483647) : Go (fun o => 0 ≤ o ∧ o ≤ 64 ∧ (isCut n i1 → o ≤ 7)) (zf_X5_trianglesAt n i1 i2) := by
  unfold zf_X5_trianglesAt
  refine Go_bind (ok_hasC n i2 p0 p1 p2 p3) ?_
  refine Go_ite (fun c => ?_) (fun c => ?_)
  · exact Go_i ⟨by decide, by decide, fun _ => by decide⟩
  · have h : 0 ≤ i2 ∧ i2 < (n : Int) := of_decide_eq_true (bnf c)
    refine Go_chk (by omega) ?_
    refine Go_bind (bitc_eq _) ?_
    have r : 0 ≤ bitc (zand i1 (zget (pg5 n) (Int.toNat i2))) ∧ bitc (zand i1 (zget (pg5 n) (Int.toNat i2))) ≤ 63 := rand63 _
    refine Go_i ⟨by omega, by omega, fun hc => ?_⟩
    have t := tri6 p0 p1 hc (c := Int.toNat i2) (by omega)
    omega
def eB (t : Int) : Int := (8 : Int) ^ t.toNat
theorem eB_s {t : Int} (h : 0 ≤ t) : eB (t + 1) = 8 * eB t := by
  unfold eB
  rw [show (t + 1).toNat = t.toNat + 1 by omega, Int.pow_succ, Int.mul_comm]
theorem eB_d {x y : Int} (h : y ≤ x) : eB (x + 1 - y) = 8 * eB (x - y) := by
  rw [show x + 1 - y = x - y + 1 by omega]
  exact eB_s (by omega)
theorem eB_b {t : Int} (h0 : 0 ≤ t) (h : t ≤ 9) : 1 ≤ eB t ∧ eB t ≤ 134217728 := by
  have h9 : t = 0 ∨ t = 1 ∨ t = 2 ∨ t = 3 ∨ t = 4 ∨ t = 5 ∨ t = 6 ∨ t = 7 ∨ t = 8 ∨ t = 9 := by omega
  rcases h9 with rfl | rfl | rfl | rfl | rfl | rfl | rfl | rfl | rfl | rfl <;> decide
theorem all_m1 {A : Nat} {i : Int} (h : ∀ k : Nat, (k : Int) < i → zget A k = -1) (h0 : 0 ≤ i) : ∀ k : Nat, (k : Int) < i + 1 → zget (zset A (Int.toNat i) (-1)) k = -1 := by
  intro k hk
  rw [zget_set]
  by_cases q : k = Int.toNat i
  · rw [if_pos q]; decide
  · rw [if_neg q]; exact h k (by omega)
theorem all_next {A : Nat} {i lo hi : Int} (h : ∀ k : Nat, (k : Int) < i → lo ≤ zget A k ∧ zget A k ≤ hi) (h0 : 0 ≤ i) (h1 : lo ≤ zget A (Int.toNat i)) (h2 : zget A (Int.toNat i) ≤ hi) : ∀ k : Nat, (k : Int) < i + 1 → lo ≤ zget A k ∧ zget A k ≤ hi := by
  intro k hk
  by_cases e : k = Int.toNat i
  · rw [e]; exact ⟨h1, h2⟩
  · exact h k (by omega)
theorem all_push {A : Nat} {i v lo hi : Int} (h : ∀ k : Nat, (k : Int) < i → lo ≤ zget A k ∧ zget A k < hi) (h0 : 0 ≤ i) (h1 : lo ≤ v) (h2 : v < hi) (h3 : -2147483648 ≤ lo) (h4 : hi ≤ 2147483647) : ∀ k : Nat, (k : Int) < i + 1 → lo ≤ zget (zset A (Int.toNat i) v) k ∧ zget (zset A (Int.toNat i) v) k < hi := by
  intro k hk
  rw [zget_set]
  by_cases q : k = Int.toNat i
  · rw [if_pos q, zw_id (by unfold zout; omega)]; exact ⟨h1, h2⟩
  · rw [if_neg q]; exact h k (by omega)
theorem zget_set_c (A i j : Nat) {v : Int} (h : ¬ zout v) : (j = i ∧ zget (zset A i v) j = v) ∨ (¬ j = i ∧ zget (zset A i v) j = zget A j) := by
  rw [zget_set]
  by_cases q : j = i
  · left; rw [if_pos q, zw_id h]; exact ⟨q, rfl⟩
  · right; rw [if_neg q]; exact ⟨q, rfl⟩
theorem mulb {a x B M : Int} (h0 : 0 ≤ a) (h1 : a ≤ M) (h2 : -B ≤ x) (h3 : x ≤ B) : -(M * B) ≤ a * x ∧ a * x ≤ M * B := by
  have hB : 0 ≤ B := by omega
  have e1 : a * x ≤ a * B := Int.mul_le_mul_of_nonneg_left h3 h0
  have e2 : a * B ≤ M * B := Int.mul_le_mul_of_nonneg_right h1 hB
  have e3 : a * (-B) ≤ a * x := Int.mul_le_mul_of_nonneg_left h2 h0
  rw [Int.mul_neg] at e3
  omega
def eL (t : Int) : Int := (21 : Int) ^ t.toNat
theorem eL_s {t : Int} (h : 0 ≤ t) : eL (t + 1) = 21 * eL t := by
  unfold eL
  rw [show (t + 1).toNat = t.toNat + 1 by omega, Int.pow_succ, Int.mul_comm]
theorem eL_b {t : Int} (h0 : 0 ≤ t) (h : t ≤ 13) : 1 ≤ eL t ∧ eL t ≤ 154472377739119461 := by
  have h9 : t = 0 ∨ t = 1 ∨ t = 2 ∨ t = 3 ∨ t = 4 ∨ t = 5 ∨ t = 6 ∨ t = 7 ∨ t = 8 ∨ t = 9 ∨ t = 10 ∨ t = 11 ∨ t = 12 ∨ t = 13 := by omega
  rcases h9 with rfl | rfl | rfl | rfl | rfl | rfl | rfl | rfl | rfl | rfl | rfl | rfl | rfl | rfl <;> decide
theorem zu_small {x : Int} (h0 : 0 ≤ x) (h : x ≤ 2147483647) : zu x < 2147483648 := by unfold zu; omega
theorem zu_neg {x : Int} (h0 : x < 0) (h : -2147483648 ≤ x) : 2147483648 ≤ zu x := by unfold zu; omega
theorem zxor_sign {x y : Int} (hx : ¬ zout x) (h0 : 0 ≤ y) (h : y ≤ 2147483647) : 0 ≤ zxor x y ↔ 0 ≤ x := by
  have hb := zu_small h0 h
  have key : 0 ≤ zxor x y ↔ zu x ^^^ zu y < 2147483648 := by
    have hl := zxor_lt x y
    unfold zxor zs
    generalize zu x ^^^ zu y = q at hl ⊢
    split <;> omega
  rw [key]
  constructor
  · intro q
    by_cases hn : 0 ≤ x
    · exact hn
    · have h1 := zu_neg (x := x) (by omega) (by unfold zout at hx; omega)
      have h2 : zu x = (zu x ^^^ zu y) ^^^ zu y := by rw [Nat.xor_assoc, Nat.xor_self, Nat.xor_zero]
      have h3 : (zu x ^^^ zu y) ^^^ zu y < 2 ^ 31 := Nat.xor_lt_two_pow q hb
      omega
  · intro q
    exact Nat.xor_lt_two_pow (n := 31) (zu_small q (by unfold zout at hx; omega)) hb
theorem ok_floorMod (i0 i1 : Int) (p0 : -2147483648 ≤ i0) (p1 : i0 ≤ 2147483647) (p2 : 1 ≤ i1) (p3 : i1 ≤ 2147483647) : Go (fun o => 0 ≤ o ∧ o < i1 ∧ ((0 ≤ i0 ∧ i0 < i1) → o = i0) ∧ (i0 = i1 → o = 0) ∧ (i0 = -1 → o = i1 - 1)) (zf_J9_floorMod_7cf53 i0 i1) := by
  have hz0 : ¬ zout i0 := by unfold zout; omega
  have hs := zxor_sign hz0 (y := i1) (by omega) p3
  unfold zf_J9_floorMod_7cf53
  refine Go_chk hz0 ?_
  refine Go_chk (by unfold zout; omega) ?_
  refine Go_chk (by omega) ?_
  refine Go_ite (fun c => ?_) (fun c => ?_)
  · have h0 : 0 ≤ i0 := hs.mp c
    have t1 := Int.tmod_nonneg i1 h0
    have t2 := Int.tmod_lt_of_pos i0 (b := i1) (by omega)
    refine Go_i ⟨t1, t2, fun h => Int.tmod_eq_of_lt h.1 h.2, fun h => ?_, fun h => by omega⟩
    rw [h]; exact Int.tmod_self
  · have h0 : i0 < 0 := by
      by_cases q : 0 ≤ i0
      · exact absurd (hs.mpr q) c
      · omega
    have e : Int.tmod i0 i1 = - Int.tmod (-i0) i1 := by rw [Int.neg_tmod, Int.neg_neg]
    have t1 := Int.tmod_nonneg i1 (a := -i0) (by omega)
    have t2 := Int.tmod_lt_of_pos (-i0) (b := i1) (by omega)
    refine Go_chk (by rw [e]; unfold zout; omega) ?_
    refine Go_ite (fun q => ?_) (fun q => ?_)
    · refine Go_i ⟨by omega, by omega, fun h => by omega, fun h => by omega, fun h => ?_⟩
      subst h
      rw [q]
      by_cases r : i1 = 1
      · omega
      · have t3 : Int.tmod 1 i1 = 1 := Int.tmod_eq_of_lt (by decide) (by omega)
        rw [e, show -(-1 : Int) = 1 by decide, t3] at q
        omega
    · refine Go_i ⟨by omega, by omega, fun h => by omega, fun h => by omega, fun h => ?_⟩
      subst h
      rw [e, show -(-1 : Int) = 1 by decide] at q ⊢
      have t3 : Int.tmod 1 i1 = 1 := by
        by_cases r : i1 = 1
        · subst r; exact absurd (by decide) q
        · exact Int.tmod_eq_of_lt (by decide) (by omega)
      omega
theorem all_pushl {A : Nat} {i v lo hi : Int} (h : ∀ k : Nat, (k : Int) < i → lo ≤ zget A k ∧ zget A k ≤ hi) (h0 : 0 ≤ i) (h1 : lo ≤ v) (h2 : v ≤ hi) (h3 : -2147483648 ≤ lo) (h4 : hi ≤ 2147483647) : ∀ k : Nat, (k : Int) < i + 1 → lo ≤ zget (zset A (Int.toNat i) v) k ∧ zget (zset A (Int.toNat i) v) k ≤ hi := by
  intro k hk
  rw [zget_set]
  by_cases q : k = Int.toNat i
  · rw [if_pos q, zw_id (by unfold zout; omega)]; exact ⟨h1, h2⟩
  · rw [if_neg q]; exact h k (by omega)
theorem rtdiv2 {a : Int} (ha : 0 ≤ a) : Int.tdiv a 2 = a / 2 := Int.tdiv_eq_ediv_of_nonneg ha
theorem all_w {A N : Nat} {lo hi hi' : Int} (h : ∀ k : Nat, k < N → lo ≤ zget A k ∧ zget A k ≤ hi) (hh : hi ≤ hi') : ∀ k : Nat, k < N → lo ≤ zget A k ∧ zget A k ≤ hi' := fun k hk => ⟨(h k hk).1, Int.le_trans (h k hk).2 hh⟩
theorem all_setw {A i N : Nat} {v lo hi hi' : Int} (h : ∀ k : Nat, k < N → lo ≤ zget A k ∧ zget A k ≤ hi) (hh : hi ≤ hi') (h1 : lo ≤ v) (h2 : v ≤ hi') (h3 : -2147483648 ≤ lo) (h4 : hi' ≤ 2147483647) : ∀ k : Nat, k < N → lo ≤ zget (zset A i v) k ∧ zget (zset A i v) k ≤ hi' := by
  intro k hk
  rw [zget_set]
  by_cases q : k = i
  · rw [if_pos q, zw_id (by unfold zout; omega)]; exact ⟨h1, h2⟩
  · rw [if_neg q]; exact ⟨(h k hk).1, Int.le_trans (h k hk).2 hh⟩
