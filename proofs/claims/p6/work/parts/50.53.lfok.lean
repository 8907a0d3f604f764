/-! listFor of any state -/
theorem gr4 : zf_X11_grow 9 2 0 (pg1 4) (pg2 4) 0 4 0 0 0 = some (2, 0x20000000000000001) := by decide +kernel
theorem lfs4K : jrun zg_X11_listFor 20 (34, 4, 1, 0, 0, 2, 4, 2, 4, 0, pg1 4, pg2 4, 0x20000000000000001) = some (2, 4, 2, 4, 0, pg1 4, pg2 4, 0x20000000000000001) := dq_of (d := (dqO (dqP dqI (dqP dqI (dqP dqI (dqP dqI (dqP dqN (dqP dqN (dqP dqN dqN))))))))) (by decide +kernel)
def lfP (m : Nat) : Prop := ∀ (ln lf lm lc : Int) (nf ls gr li : Nat) (_ : -2147483648 ≤ lf) (_ : lf ≤ 2147483647) (_ : -2147483648 ≤ lc) (_ : lc ≤ 2147483647) (_ : lf = (m : Int) → LT m ln nf ls gr) (_ : lc = (m : Int) → LI m lm li), Go (fun o => o.2.1 = (m : Int) ∧ LT m o.1 o.2.2.2.2.1 o.2.2.2.2.2.1 o.2.2.2.2.2.2.1 ∧ o.2.2.2.1 = (m : Int) ∧ LI m o.2.2.1 o.2.2.2.2.2.2.2) (zf_X11_listFor ln lf lm lc nf ls gr li (m : Int))
theorem LL_k {m ls gr c : Nat} (h : allF (fun l => decide (zget ls l = zget (pg1 m) l ∧ zget gr l = zget (pg2 m) l)) 0 c = true) (hc : pg7 m = (c : Int)) : LL m ls gr (pg7 m) := fun l hl => of_decide_eq_true (allF_at h (m := l) (by omega))
theorem LI_k {m li c : Nat} (h : allF (fun k => decide (zgetL li k = zget (pg6 m) k)) 0 c = true) (hc : pg8 m = (c : Int)) : ∀ k : Nat, (k : Int) < pg8 m → zgetL li k = zget (pg6 m) k := fun k hk => of_decide_eq_true (allF_at h (m := k) (by omega))
theorem lf_of (m : Nat) (h4 : 4 ≤ m) (h9 : m ≤ 9) {ls0 gr0 nf0 L0 Lg F : Nat} {ln0 lf0 lc0 : Int} {o0 : zO_X11_listFor} (hl0 : LL m ls0 gr0 (pg7 m)) (hg : zf_X11_grow 9 (pg7 m) 0 ls0 gr0 L0 (m : Int) 0 0 0 = some (pg8 m, Lg)) (hs : jrun zg_X11_listFor F (34, (m : Int), 1, 0, 0, ln0, lf0, pg8 m, lc0, nf0, ls0, gr0, Lg) = some o0) (hF : F ≤ 999999999) (hc : ∀ k : Nat, (k : Int) < pg8 m → zgetL o0.2.2.2.2.2.2.2 k = zget (pg6 m) k) : lfP m := by
  intro ln lf lm lc nf ls gr li a b c d e f
  obtain ⟨o, h, q1, q2, q3, q4, q5⟩ := ok_listFor m h4 h9 hl0 hg hs hF hc ln lf lm lc nf ls gr li a b c d e f
  exact ⟨o, h, q1, q2, q4, q3, q5⟩
set_option maxRecDepth 1000000 in
set_option maxHeartbeats 4000000 in
theorem lf_4 : lfP 4 := lf_of 4 (by decide) (by decide) (LL_k (c := 2) (by decide +kernel) rfl) gr4 lfs4K (by decide) (LI_k (c := 2) (by decide +kernel) rfl)
set_option maxRecDepth 1000000 in
set_option maxHeartbeats 4000000 in
theorem lf_5 : lfP 5 := lf_of 5 (by decide) (by decide) (LL_k (c := 5) (by decide +kernel) rfl) gr5 lfs5K (by decide) (LI_k (c := 5) (by decide +kernel) rfl)
set_option maxRecDepth 1000000 in
set_option maxHeartbeats 4000000 in
theorem lf_6 : lfP 6 := lf_of 6 (by decide) (by decide) (LL_k (c := 9) (by decide +kernel) rfl) gr6 lfs6K (by decide) (LI_k (c := 14) (by decide +kernel) rfl)
set_option maxRecDepth 1000000 in
set_option maxHeartbeats 4000000 in
theorem lf_7 : lfP 7 := lf_of 7 (by decide) (by decide) (LL_k (c := 14) (by decide +kernel) rfl) gr7 lfs7K (by decide) (LI_k (c := 42) (by decide +kernel) rfl)
set_option maxRecDepth 1000000 in
set_option maxHeartbeats 4000000 in
theorem lf_8 : lfP 8 := lf_of 8 (by decide) (by decide) (LL_k (c := 20) (by decide +kernel) rfl) gr8 lfs8K (by decide) (LI_k (c := 132) (by decide +kernel) rfl)
set_option maxRecDepth 1000000 in
set_option maxHeartbeats 4000000 in
theorem lf_9 : lfP 9 := lf_of 9 (by decide) (by decide) (LL_k (c := 27) (by decide +kernel) rfl) gr9 lfs9K (by decide) (LI_k (c := 429) (by decide +kernel) rfl)
theorem ok_lf : ∀ m : Nat, 4 ≤ m → m ≤ 9 → lfP m := pg_cases lf_4 lf_5 lf_6 lf_7 lf_8 lf_9
