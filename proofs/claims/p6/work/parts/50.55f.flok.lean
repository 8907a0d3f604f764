theorem fl_at : ∀ m : Nat, 4 ≤ m → m ≤ 9 → ∀ k : Nat, (k : Int) < pg8 m → ∀ i j : Nat, i < 9 → j < 9 → flK m k i j = true := pg_cases
  (fun k hk i j hi hj => allF_at (allF_at (allF_at fl_4 (m := k) (by have : (k : Int) < 2 := hk; omega)) hi) hj)
  (fun k hk i j hi hj => allF_at (allF_at (allF_at fl_5 (m := k) (by have : (k : Int) < 5 := hk; omega)) hi) hj)
  (fun k hk i j hi hj => allF_at (allF_at (allF_at fl_6 (m := k) (by have : (k : Int) < 14 := hk; omega)) hi) hj)
  (fun k hk i j hi hj => allF_at (allF_at (allF_at fl_7 (m := k) (by have : (k : Int) < 42 := hk; omega)) hi) hj)
  (fun k hk i j hi hj => allF_at (allF_at (allF_at fl_8 (m := k) (by have : (k : Int) < 132 := hk; omega)) hi) hj)
  (fun k hk i j hi hj => by
    have hk : (k : Int) < 429 := hk
    by_cases a : k < 143
    · have := allF_ok 143 fl_9c k a
      rw [show 0 + k = k by omega] at this
      exact allF_at (allF_at this hi) hj
    · by_cases b : k < 286
      · have := allF_ok 143 fl_9d (k - 143) (by omega)
        rw [show 143 + (k - 143) = k by omega] at this
        exact allF_at (allF_at this hi) hj
      · have := allF_ok 143 fl_9e (k - 286) (by omega)
        rw [show 286 + (k - 286) = k by omega] at this
        exact allF_at (allF_at this hi) hj)
theorem fl_ok {m : Nat} (h4 : 4 ≤ m) (h9 : m ≤ 9) {nf : Nat} (hn : LN m nf m 0) {c : Int} (hc : isCut m c) {p q : Nat} (hp : p < m) (hq : q < m) (hpq : ¬ p = q) (hl : 0 ≤ zget (pg3 m) (9 * p + q)) (hbit : ¬ zandL (zshrL c (zget (pg3 m) (9 * p + q))) 1 = 0) (f1 f2 : Int) : ∃ o, zf_X5_otherLine m c (zget (pg3 m) (9 * p + q)) = some o ∧ 0 ≤ o ∧ o < pg7 m ∧ isCut m (flipN c (zget (pg3 m) (9 * p + q)) o) ∧ zf_X11_flipped f1 f2 nf (m : Int) c (p : Int) (q : Int) = some (flipN c (zget (pg3 m) (9 * p + q)) o, zget (pg1 m) o.toNat, zget (pg2 m) o.toNat) := by
  have r3 := rpg3 h4 h9 (9 * p + q) (by omega)
  have hb := (bit_eq h4 h9 hc hl (by omega)).1
  rw [hb] at hbit
  obtain ⟨o', ho', hcut⟩ := flip_ok h4 h9 hc hl (by omega) hbit
  obtain ⟨k, hk, rfl⟩ := hc
  have t := fl_at m h4 h9 k hk p q (by omega) (by omega)
  unfold flK at t
  rw [decide_eq_true ⟨hp, hq, hl, hbit⟩, ho'] at t
  obtain ⟨a1, a2, a3, a4, a5, a6, a7⟩ := of_decide_eq_true t
  have r1 := rpg1 h4 h9 o'.toNat (by have := (rpg7 h4 h9).2; omega)
  obtain ⟨x, hx, e⟩ := fl_run m h4 h9 hn (zget (pg6 m) k) hp hq f1 f2 (by omega) (by omega) (by omega)
  refine ⟨o', ho', a1, a2, hcut, ?_⟩
  rw [hx, e, a3, a4, a6, LN_get hn hp hq hpq, a7]
