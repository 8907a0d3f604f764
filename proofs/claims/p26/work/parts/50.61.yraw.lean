set_option maxRecDepth 20000 in
theorem oy_linesOf (t_lines : Int) (t_linesFor : Int) (t_numberOf : Nat) (t_lesser : Nat) (t_greater : Nat) (i1 : Int) (p0 : TL t_linesFor t_lines t_numberOf t_lesser t_greater) (p1 : 4 ≤ i1) (p2 : i1 ≤ 9) : Go (fun o => (o.2.1) = i1 ∧ TL i1 (o.1) (o.2.2.1) (o.2.2.2.1) (o.2.2.2.2) ∧ TL (o.2.1) (o.1) (o.2.2.1) (o.2.2.2.1) (o.2.2.2.2) ∧ 2 ≤ (o.1) ∧ (o.1) ≤ 27) (zf_X11_linesOf t_lines t_linesFor t_numberOf t_lesser t_greater i1) := by
  obtain ⟨m, rfl⟩ : ∃ m : Nat, i1 = (m : Int) := ⟨i1.toNat, by omega⟩
  have hT : t_linesFor = (m : Int) → LT m t_lines t_numberOf t_lesser t_greater := fun h => by have := p0.2.2; rw [h] at this; exact this
  obtain ⟨o, ho, q1, q2⟩ := ok_linesOf m (by omega) (by omega) t_lines t_linesFor t_numberOf t_lesser t_greater (by have := p0.1; omega) (by have := p0.2.1; omega) hT
  have q3 : TL (m : Int) o.1 o.2.2.1 o.2.2.2.1 o.2.2.2.2 := ⟨p1, p2, q2⟩
  exact ⟨o, ho, q1, q3, by rw [q1]; exact q3, (TL_n q3).1, (TL_n q3).2⟩
set_option maxRecDepth 20000 in
theorem oy_listFor (t_lines : Int) (t_linesFor : Int) (t_listMany : Int) (t_listCorners : Int) (t_numberOf : Nat) (t_lesser : Nat) (t_greater : Nat) (t_list : Nat) (i1 : Int) (p0 : TL t_linesFor t_lines t_numberOf t_lesser t_greater) (p1 : LK t_listCorners t_listMany t_list) (p2 : 4 ≤ i1) (p3 : i1 ≤ 9) : Go (fun o => (o.2.1) = i1 ∧ TL i1 (o.1) (o.2.2.2.2.1) (o.2.2.2.2.2.1) (o.2.2.2.2.2.2.1) ∧ TL (o.2.1) (o.1) (o.2.2.2.2.1) (o.2.2.2.2.2.1) (o.2.2.2.2.2.2.1) ∧ 2 ≤ (o.1) ∧ (o.1) ≤ 27 ∧ (o.2.2.2.1) = i1 ∧ LK i1 (o.2.2.1) (o.2.2.2.2.2.2.2) ∧ LK (o.2.2.2.1) (o.2.2.1) (o.2.2.2.2.2.2.2) ∧ 2 ≤ (o.2.2.1) ∧ (o.2.2.1) ≤ 429) (zf_X11_listFor t_lines t_linesFor t_listMany t_listCorners t_numberOf t_lesser t_greater t_list i1) := by
  obtain ⟨m, rfl⟩ : ∃ m : Nat, i1 = (m : Int) := ⟨i1.toNat, by omega⟩
  have hT : t_linesFor = (m : Int) → LT m t_lines t_numberOf t_lesser t_greater := fun h => by have := p0.2.2; rw [h] at this; exact this
  have hK : t_listCorners = (m : Int) → LI m t_listMany t_list := fun h => by have := p1.2.2; rw [h] at this; exact this
  obtain ⟨o, ho, q1, q2, q3, q4⟩ := ok_lf m (by omega) (by omega) t_lines t_linesFor t_listMany t_listCorners t_numberOf t_lesser t_greater t_list (by have := p0.1; omega) (by have := p0.2.1; omega) (by have := p1.1; omega) (by have := p1.2.1; omega) hT hK
  have q5 : TL (m : Int) o.1 o.2.2.2.2.1 o.2.2.2.2.2.1 o.2.2.2.2.2.2.1 := ⟨p2, p3, q2⟩
  have q6 : LK (m : Int) o.2.2.1 o.2.2.2.2.2.2.2 := ⟨p2, p3, q4⟩
  have r8 := rpg8 (n := m) (by omega) (by omega)
  have e8 := q4.1
  exact ⟨o, ho, q1, q5, by rw [q1]; exact q5, (TL_n q5).1, (TL_n q5).2, q3, q6, by rw [q3]; exact q6, by omega, by omega⟩
set_option maxRecDepth 20000 in
theorem oy_placeOf (t_listMany : Int) (t_list : Nat) (i1 : Int) (p0 : 1 ≤ t_listMany) (p1 : t_listMany ≤ 429) (p2 : -9223372036854775808 ≤ i1) (p3 : i1 ≤ 9223372036854775807) : Go (fun o => 0 ≤ (o) ∧ (o) < t_listMany ∧ (∀ c : Int, LK c t_listMany t_list → CU c i1 → NO c i1 (o))) (zf_X11_placeOf t_listMany t_list i1) := by
  obtain ⟨o, ho, q1, q2⟩ := ok_X11_placeOf t_listMany t_list i1 p0 p1 p2 p3
  refine ⟨o, ho, q1, q2, ?_⟩
  intro c hL hC
  obtain ⟨a, b, k, hk, rfl⟩ := hC
  have e := pl_ok (m := c.toNat) (by omega) (by omega) hL.2.2 hk
  rw [ho] at e
  cases e
  exact ⟨by omega, hk, by rw [Int.toNat_natCast]⟩
set_option maxRecDepth 20000 in
theorem oy_tri (t_lines : Int) (t_linesFor : Int) (t_numberOf : Nat) (t_lesser : Nat) (t_greater : Nat) (t_tA : Nat) (t_tB : Nat) (t_tC : Nat) (i1 : Int) (i2 : Int) (p0 : TL t_linesFor t_lines t_numberOf t_lesser t_greater) (p1 : 4 ≤ i1) (p2 : i1 ≤ 9) (p3 : CU i1 i2) : Go (fun o => (o.2.1) = i1 ∧ TL i1 (o.1) (o.2.2.1) (o.2.2.2.1) (o.2.2.2.2.1) ∧ TL (o.2.1) (o.1) (o.2.2.1) (o.2.2.2.1) (o.2.2.2.2.1) ∧ 2 ≤ (o.1) ∧ (o.1) ≤ 27 ∧ TAI (Int.toNat i1) i2 (o.2.2.2.2.2.1) (o.2.2.2.2.2.2.1) (o.2.2.2.2.2.2.2) 729) (zf_X11_trianglesOf t_lines t_linesFor t_numberOf t_lesser t_greater t_tA t_tB t_tC i1 i2) := by
  obtain ⟨m, rfl⟩ : ∃ m : Nat, i1 = (m : Int) := ⟨i1.toNat, by omega⟩
  have hT : t_linesFor = (m : Int) → LT m t_lines t_numberOf t_lesser t_greater := fun h => by have := p0.2.2; rw [h] at this; exact this
  have hc : isCut m i2 := p3.2.2
  obtain ⟨o, ho, q1, q2, q4⟩ := ok_tri m (by omega) (by omega) i2 (by rw [tcn_cut (by omega) (by omega) hc]; omega) t_lines t_linesFor t_numberOf t_lesser t_greater t_tA t_tB t_tC (by have := p0.1; omega) (by have := p0.2.1; omega) hT
  have q3 : TL (m : Int) o.1 o.2.2.1 o.2.2.2.1 o.2.2.2.2.1 := ⟨p1, p2, q2⟩
  exact ⟨o, ho, q1, q3, by rw [q1]; exact q3, (TL_n q3).1, (TL_n q3).2, q4⟩
set_option maxRecDepth 20000 in
theorem oy_ent (t_lines : Int) (t_linesFor : Int) (t_numberOf : Nat) (t_lesser : Nat) (t_greater : Nat) (t_tA : Nat) (t_tB : Nat) (t_tC : Nat) (t_from : Nat) (i1 : Int) (i2 : Int) (i4 : Int) (p0 : TL t_linesFor t_lines t_numberOf t_lesser t_greater) (p1 : 4 ≤ i1) (p2 : i1 ≤ 9) (p3 : CU i1 i2) (p4 : 0 ≤ i4) (p5 : i4 < i1) : Go (fun o => (o.2.1) = i1 ∧ TL i1 (o.1) (o.2.2.1) (o.2.2.2.1) (o.2.2.2.2.1) ∧ TL (o.2.1) (o.1) (o.2.2.1) (o.2.2.2.1) (o.2.2.2.2.1) ∧ 2 ≤ (o.1) ∧ (o.1) ≤ 27 ∧ EN i1 i2 i4 (o.2.2.2.2.2.2.2.2) ∧ (∀ k : Nat, (k : Int) < i1 → 0 ≤ zget (o.2.2.2.2.2.2.2.2) k ∧ zget (o.2.2.2.2.2.2.2.2) k ≤ 21)) (zf_X11_entriesFrom t_lines t_linesFor t_numberOf t_lesser t_greater t_tA t_tB t_tC t_from i1 i2 i4) := by
  obtain ⟨m, rfl⟩ : ∃ m : Nat, i1 = (m : Int) := ⟨i1.toNat, by omega⟩
  have hT : t_linesFor = (m : Int) → LT m t_lines t_numberOf t_lesser t_greater := fun h => by have := p0.2.2; rw [h] at this; exact this
  have hc : isCut m i2 := p3.2.2
  obtain ⟨o, ho, q1, q2, q4, q5⟩ := ok_ent m (by omega) (by omega) i2 hc i4 p4 p5 t_lines t_linesFor t_numberOf t_lesser t_greater t_tA t_tB t_tC t_from (by have := p0.1; omega) (by have := p0.2.1; omega) hT
  have q3 : TL (m : Int) o.1 o.2.2.1 o.2.2.2.1 o.2.2.2.2.1 := ⟨p1, p2, q2⟩
  refine ⟨o, ho, q1, q3, by rw [q1]; exact q3, (TL_n q3).1, (TL_n q3).2, fun j hj => q5 j (by omega), fun j hj => ?_⟩
  obtain ⟨r, _, e, z1, z2⟩ := q5 j (by omega)
  rw [e]; exact ⟨z1, z2⟩
set_option maxRecDepth 20000 in
theorem oy_spread (t_corners : Int) (t_lines : Int) (t_listMany : Int) (t_flipOne : Int) (t_flipTwo : Int) (t_numberOf : Nat) (t_lesser : Nat) (t_greater : Nat) (t_list : Nat) (t_far : Nat) (t_queue : Nat) (i1 : Int) (p0 : 4 ≤ t_corners) (p1 : t_corners ≤ 9) (p2 : TL t_corners t_lines t_numberOf t_lesser t_greater) (p3 : LK t_corners t_listMany t_list) (p4 : 0 ≤ i1) (p5 : i1 < t_listMany) : Go (fun o => BFX t_corners (o.2.2.1) ∧ (∀ k : Nat, (k : Int) < t_listMany → 0 ≤ zget (o.2.2.1) k ∧ zget (o.2.2.1) k ≤ 62)) (zf_X11_spreadFrom t_corners t_lines t_listMany t_flipOne t_flipTwo t_numberOf t_lesser t_greater t_list t_far t_queue i1) := by
  obtain ⟨m, rfl⟩ : ∃ m : Nat, t_corners = (m : Int) := ⟨t_corners.toNat, by omega⟩
  obtain ⟨k, rfl⟩ : ∃ k : Nat, i1 = (k : Int) := ⟨i1.toNat, by omega⟩
  have hI : LI m t_listMany t_list := p3.2.2
  have e8 := hI.1
  obtain ⟨o, ho, q⟩ := ok_spreadFrom (m := m) (by omega) (by omega) p2.2.2 hI (k := k) (by omega) t_flipOne t_flipTwo t_far t_queue
  refine ⟨o, ho, ⟨k, by show (k : Int) < pg8 m; omega, q⟩, fun j hj => far_ok (by omega) (by omega) (k := k) (by omega) q j (by omega)⟩
