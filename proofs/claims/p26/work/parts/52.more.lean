set_option maxRecDepth 20000 in
theorem ok2_X5_otherLine (n : Nat) (i1 : Int) (i2 : Int) (p0 : 4 ≤ n) (p1 : n ≤ 9) (p2 : isCut n i1) (p3 : 0 ≤ i2) (p4 : i2 < pg7 n) (p5 : ¬ zand (zshr i1 i2) 1 = 0) : Go (fun o => 0 ≤ (o) ∧ (o) < pg7 n ∧ isCut n (flipN i1 i2 (o))) (zf_X5_otherLine n i1 i2) := by
  obtain ⟨l, rfl⟩ : ∃ l : Nat, i2 = (l : Int) := ⟨i2.toNat, by omega⟩
  obtain ⟨k, hk, rfl⟩ := p2
  obtain ⟨o, a1, a2, a3, -⟩ := fl_all p0 p1 hk p4 p5
  exact ⟨(o : Int), a2, by omega, a1, a3⟩
set_option maxRecDepth 20000 in
theorem ok2_X10_way (mk : Nat) (t_polygon : Nat) (t_bits : Int) (triangles_count : Int) (triangles_polygon : Nat) (triangles_from : Int) (triangles_length : Int) (triangles_waysAhead : Int) (triangles_cornersOf : Nat) (triangles_chosen : Nat) (i1 : Int) (i2 : Int) (i3 : Int) (i4 : Int) (p0 : ¬ zno mk t_polygon) (p1 : isCut t_polygon t_bits) (p2 : -2147483648 ≤ i1) (p3 : i1 ≤ 2147483647) (p4 : -2147483648 ≤ i2) (p5 : i2 ≤ 2147483647) (p6 : -2147483648 ≤ i3) (p7 : i3 ≤ 2147483647) (p8 : -2147483648 ≤ i4) (p9 : i4 ≤ 2147483647) (p10 : 0 ≤ triangles_count) (p11 : triangles_count ≤ 7) : Go (fun o => 0 ≤ (o.2.1) ∧ (o.2.1) ≤ 7 ∧ ((o.2.2.1) = t_polygon ∨ (o.2.2.1) = triangles_polygon)) (zf_X10_way mk t_polygon t_bits triangles_count triangles_polygon triangles_from triangles_length triangles_waysAhead triangles_cornersOf triangles_chosen i1 i2 i3 i4) := by
  unfold zf_X10_way
  have grt_polygon := zno_rng p0
  have g7t_polygon := rpg7 (n := t_polygon) (by omega) (by omega)
  have g8t_polygon := rpg8 (n := t_polygon) (by omega) (by omega)
  refine Go_bindP (ok_X10_areCorners mk t_polygon i1 i2 (by first | assumption | omega) (by first | assumption | omega) (by first | assumption | omega) (by first | assumption | omega) (by first | assumption | omega)) (fun o1 q1 => ?_)
  obtain ⟨q1_0, q1_1⟩ := q1
  refine Go_ite (fun c2 => ?_) (fun c2 => ?_)
  · have dc2 := q1_1 c2
    exact Go_i (show 0 ≤ (triangles_count) ∧ (triangles_count) ≤ 7 ∧ ((triangles_polygon) = t_polygon ∨ (triangles_polygon) = triangles_polygon) from ⟨(by first | assumption | omega), (by first | assumption | omega), (by first | exact Or.inr rfl | exact Or.inl (by assumption) | (left; omega))⟩)
  · have dc2 := q1_0 (bnf c2)
    refine Go_chk (by assumption) ?_
    refine Go_bindP (ok_X5_hasCorner t_polygon i4 (by first | assumption | omega) (by first | assumption | omega) (by first | assumption | omega) (by first | assumption | omega)) (fun o3 q3 => ?_)
    obtain ⟨q3_0, q3_1⟩ := q3
    refine Go_ite (fun c4 => ?_) (fun c4 => ?_)
    · have dc4 := q3_1 c4
      exact Go_i (show 0 ≤ (triangles_count) ∧ (triangles_count) ≤ 7 ∧ ((triangles_polygon) = t_polygon ∨ (triangles_polygon) = triangles_polygon) from ⟨(by first | assumption | omega), (by first | assumption | omega), (by first | exact Or.inr rfl | exact Or.inl (by assumption) | (left; omega))⟩)
    · have dc4 := q3_0 (bnf c4)
      refine Go_chk (by unfold zout; omega) ?_
      refine Go_ite (fun c5 => ?_) (fun c5 => ?_)
      · exact Go_i (show 0 ≤ (triangles_count) ∧ (triangles_count) ≤ 7 ∧ ((triangles_polygon) = t_polygon ∨ (triangles_polygon) = triangles_polygon) from ⟨(by first | assumption | omega), (by first | assumption | omega), (by first | exact Or.inr rfl | exact Or.inl (by assumption) | (left; omega))⟩)
      · refine Go_bindP (ok_X5_entryOf t_polygon t_bits i1 i2 (by first | assumption | omega) (by first | assumption | omega) (by first | assumption | exact isCut_at (by omega) (by omega)) (by first | assumption | omega) (by first | assumption | omega) (by first | assumption | omega) (by first | assumption | omega)) (fun o5 q6 => ?_)
        obtain ⟨q6_0, q6_1⟩ := q6
        refine Go_chk (by unfold zout; omega) ?_
        refine Go_ite (fun c7 => ?_) (fun c7 => ?_)
        · refine Go_bindP (ok_X5_ahead t_polygon i1 i4 (by first | assumption | omega) (by first | assumption | omega) (by first | assumption | omega) (by first | assumption | omega) (by first | assumption | omega) (by first | assumption | omega)) (fun o7 q8 => ?_)
          obtain ⟨q8_0, q8_1⟩ := q8
          refine Go_chk (by unfold zout; omega) ?_
          refine Go_ite (fun c9 => ?_) (fun c9 => ?_)
          · exact Go_i (show 0 ≤ (triangles_count) ∧ (triangles_count) ≤ 7 ∧ ((triangles_polygon) = t_polygon ∨ (triangles_polygon) = triangles_polygon) from ⟨(by first | assumption | omega), (by first | assumption | omega), (by first | exact Or.inr rfl | exact Or.inl (by assumption) | (left; omega))⟩)
          · refine Go_bindP (ok_X5_ahead t_polygon i1 i2 (by first | assumption | omega) (by first | assumption | omega) (by first | assumption | omega) (by first | assumption | omega) (by first | assumption | omega) (by first | assumption | omega)) (fun o9 q10 => ?_)
            obtain ⟨q10_0, q10_1⟩ := q10
            refine Go_chk (by unfold zout; omega) ?_
            refine Go_ite (fun c11 => ?_) (fun c11 => ?_)
            · refine Go_bindP (ok_X9_gather mk triangles_count triangles_cornersOf t_polygon t_bits (by first | assumption | omega)) (fun o11 q12 => ?_)
              obtain ⟨q12_0, q12_1⟩ := q12
              refine Go_bindP (ok_X9_onWay mk (o11.1) triangles_polygon triangles_from triangles_length triangles_waysAhead (o11.2) triangles_chosen t_polygon i1 i2 i3 (o7 - (1 : Int)) (by first | assumption | omega) (by first | assumption | omega) (by first | assumption | omega) (by first | assumption | omega) (by first | assumption | omega) (by first | assumption | omega) (by first | assumption | omega) (by first | assumption | omega) (by first | assumption | omega) (by first | assumption | omega) (by first | assumption | omega)) (fun o12 q13 => ?_)
              obtain ⟨q13_0, q13_1, q13_2⟩ := q13
              exact Go_i (show 0 ≤ ((o11.1)) ∧ ((o11.1)) ≤ 7 ∧ (((o12.2.1)) = t_polygon ∨ ((o12.2.1)) = triangles_polygon) from ⟨(by first | assumption | omega), (by first | assumption | omega), (by first | exact Or.inr rfl | exact Or.inl (by assumption) | (left; omega))⟩)
            · exact Go_i (show 0 ≤ (triangles_count) ∧ (triangles_count) ≤ 7 ∧ ((triangles_polygon) = t_polygon ∨ (triangles_polygon) = triangles_polygon) from ⟨(by first | assumption | omega), (by first | assumption | omega), (by first | exact Or.inr rfl | exact Or.inl (by assumption) | (left; omega))⟩)
        · exact Go_i (show 0 ≤ (triangles_count) ∧ (triangles_count) ≤ 7 ∧ ((triangles_polygon) = t_polygon ∨ (triangles_polygon) = triangles_polygon) from ⟨(by first | assumption | omega), (by first | assumption | omega), (by first | exact Or.inr rfl | exact Or.inl (by assumption) | (left; omega))⟩)
set_option maxRecDepth 20000 in
theorem ok_X10_flip (mk : Nat) (t_polygon : Nat) (t_bits : Int) (i1 : Int) (i2 : Int) (p0 : ¬ zno mk t_polygon) (p1 : isCut t_polygon t_bits) (p2 : -2147483648 ≤ i1) (p3 : i1 ≤ 2147483647) (p4 : -2147483648 ≤ i2) (p5 : i2 ≤ 2147483647) : Go (fun o => isCut t_polygon (o.2)) (zf_X10_flip mk t_polygon t_bits i1 i2) := by
  unfold zf_X10_flip
  have grt_polygon := zno_rng p0
  have g7t_polygon := rpg7 (n := t_polygon) (by omega) (by omega)
  have g8t_polygon := rpg8 (n := t_polygon) (by omega) (by omega)
  refine Go_bindP (ok_X10_areCorners mk t_polygon i1 i2 (by first | assumption | omega) (by first | assumption | omega) (by first | assumption | omega) (by first | assumption | omega) (by first | assumption | omega)) (fun o1 q1 => ?_)
  obtain ⟨q1_0, q1_1⟩ := q1
  refine Go_ite (fun c2 => ?_) (fun c2 => ?_)
  · have dc2 := q1_1 c2
    exact Go_i (show isCut t_polygon (t_bits) from (by assumption))
  · have dc2 := q1_0 (bnf c2)
    refine Go_chk (by assumption) ?_
    refine Go_bindP (ok_X5_lineOf t_polygon i1 i2 (by first | assumption | omega) (by first | assumption | omega) (by first | assumption | omega) (by first | assumption | omega) (by first | assumption | omega) (by first | assumption | omega)) (fun o3 q3 => ?_)
    obtain ⟨q3_0, q3_1⟩ := q3
    refine Go_bindP (ok_X5_has t_polygon t_bits o3 (by first | assumption | omega) (by first | assumption | omega) (by first | assumption | omega) (by first | assumption | omega)) (fun o4 q4 => ?_)
    obtain ⟨q4_0, q4_1⟩ := q4
    refine Go_ite (fun c5 => ?_) (fun c5 => ?_)
    · have dc5 := q4_1 c5
      exact Go_i (show isCut t_polygon (t_bits) from (by assumption))
    · have dc5 := q4_0 (bnf c5)
      refine Go_bindP (ok2_X5_otherLine t_polygon t_bits o3 (by first | assumption | omega) (by first | assumption | omega) (by assumption) (by first | assumption | omega) (by first | assumption | omega) (by first | assumption | omega)) (fun o5 q6 => ?_)
      obtain ⟨q6_0, q6_1, q6_2⟩ := q6
      refine Go_bindP (ok_X5_pairOf t_polygon o5 (by first | assumption | omega) (by first | assumption | omega) (by first | assumption | omega) (by first | assumption | omega)) (fun o6 q7 => ?_)
      obtain ⟨q7_0, q7_1⟩ := q7
      have a8 := rshl (1 : Int) o5
      have a9 := rshl (1 : Int) o3
      have a10 := rxor (zshl (1 : Int) o3) (-1 : Int)
      have a11 := rand t_bits (zxor (zshl (1 : Int) o3) (-1 : Int))
      have a12 := ror (zand t_bits (zxor (zshl (1 : Int) o3) (-1 : Int))) (zshl (1 : Int) o5)
      exact Go_i (show isCut t_polygon ((zor (zand t_bits (zxor (zshl (1 : Int) o3) (-1 : Int))) (zshl (1 : Int) o5))) from (by (unfold flipN at *; assumption)))
set_option maxRecDepth 20000 in
theorem ok2_X11_see (t_corners : Int) (t_seenMany : Int) (t_lastTold : Int) (t_sTold : Nat) (t_sOne : Nat) (t_sTwo : Nat) (t_sEntry : Nat) (i1 : Int) (i2 : Int) (i3 : Int) (i4 : Int) (p0 : 4 ≤ t_corners) (p1 : t_corners ≤ 9) (p2 : 0 ≤ t_seenMany) (p3 : t_seenMany ≤ 20) (p4 : 0 ≤ t_lastTold) (p5 : t_lastTold ≤ 999) (p6 : -2147483648 ≤ i1) (p7 : i1 ≤ 2147483647) (p8 : -2147483648 ≤ i2) (p9 : i2 ≤ 2147483647) (p10 : -2147483648 ≤ i3) (p11 : i3 ≤ 2147483647) (p12 : -2147483648 ≤ i4) (p13 : i4 ≤ 2147483647) (p14 : (∀ k : Nat, (k : Int) < t_seenMany → 0 ≤ zget t_sOne k ∧ zget t_sOne k < t_corners)) (p15 : (∀ k : Nat, (k : Int) < t_seenMany → 0 ≤ zget t_sTwo k ∧ zget t_sTwo k < t_corners)) : Go (fun o => 0 ≤ (o.2.1) ∧ (o.2.1) ≤ 20 ∧ 0 ≤ (o.2.2.1) ∧ (o.2.2.1) ≤ 999 ∧ (∀ k : Nat, (k : Int) < (o.2.1) → 0 ≤ zget (o.2.2.2.2.1) k ∧ zget (o.2.2.2.2.1) k < t_corners) ∧ (∀ k : Nat, (k : Int) < (o.2.1) → 0 ≤ zget (o.2.2.2.2.2.1) k ∧ zget (o.2.2.2.2.2.1) k < t_corners)) (zf_X11_see t_corners t_seenMany t_lastTold t_sTold t_sOne t_sTwo t_sEntry i1 i2 i3 i4) := by
  unfold zf_X11_see
  refine Go_bindP (ok_X11_in i1 t_lastTold (999 : Int) (by first | assumption | omega) (by first | assumption | omega) (by first | assumption | omega) (by first | assumption | omega) (by first | assumption | omega) (by first | assumption | omega)) (fun o1 q1 => ?_)
  obtain ⟨q1_0, q1_1⟩ := q1
  refine Go_ite (fun c2 => ?_) (fun c2 => ?_)
  · have dc2 := q1_1 c2
    exact Go_i (show 0 ≤ (t_seenMany) ∧ (t_seenMany) ≤ 20 ∧ 0 ≤ (t_lastTold) ∧ (t_lastTold) ≤ 999 ∧ (∀ k : Nat, (k : Int) < (t_seenMany) → 0 ≤ zget (t_sOne) k ∧ zget (t_sOne) k < t_corners) ∧ (∀ k : Nat, (k : Int) < (t_seenMany) → 0 ≤ zget (t_sTwo) k ∧ zget (t_sTwo) k < t_corners) from ⟨(by first | assumption | omega), (by first | assumption | omega), (by first | assumption | omega), (by first | assumption | omega), (by first | assumption | exact all_push (by assumption) (by omega) (by omega) (by omega) (by omega) (by omega)), (by first | assumption | exact all_push (by assumption) (by omega) (by omega) (by omega) (by omega) (by omega))⟩)
  · have dc2 := q1_0 (bnf c2)
    refine Go_bindP (ok_X11_isCorner t_corners i2 (by first | assumption | omega) (by first | assumption | omega) (by first | assumption | omega) (by first | assumption | omega)) (fun o2 q3 => ?_)
    obtain ⟨q3_0, q3_1⟩ := q3
    refine Go_ite (fun c4 => ?_) (fun c4 => ?_)
    · have dc4 := q3_1 c4
      exact Go_i (show 0 ≤ (t_seenMany) ∧ (t_seenMany) ≤ 20 ∧ 0 ≤ (t_lastTold) ∧ (t_lastTold) ≤ 999 ∧ (∀ k : Nat, (k : Int) < (t_seenMany) → 0 ≤ zget (t_sOne) k ∧ zget (t_sOne) k < t_corners) ∧ (∀ k : Nat, (k : Int) < (t_seenMany) → 0 ≤ zget (t_sTwo) k ∧ zget (t_sTwo) k < t_corners) from ⟨(by first | assumption | omega), (by first | assumption | omega), (by first | assumption | omega), (by first | assumption | omega), (by first | assumption | exact all_push (by assumption) (by omega) (by omega) (by omega) (by omega) (by omega)), (by first | assumption | exact all_push (by assumption) (by omega) (by omega) (by omega) (by omega) (by omega))⟩)
    · have dc4 := q3_0 (bnf c4)
      refine Go_bindP (ok_X11_isCorner t_corners i3 (by first | assumption | omega) (by first | assumption | omega) (by first | assumption | omega) (by first | assumption | omega)) (fun o3 q5 => ?_)
      obtain ⟨q5_0, q5_1⟩ := q5
      refine Go_ite (fun c6 => ?_) (fun c6 => ?_)
      · have dc6 := q5_1 c6
        exact Go_i (show 0 ≤ (t_seenMany) ∧ (t_seenMany) ≤ 20 ∧ 0 ≤ (t_lastTold) ∧ (t_lastTold) ≤ 999 ∧ (∀ k : Nat, (k : Int) < (t_seenMany) → 0 ≤ zget (t_sOne) k ∧ zget (t_sOne) k < t_corners) ∧ (∀ k : Nat, (k : Int) < (t_seenMany) → 0 ≤ zget (t_sTwo) k ∧ zget (t_sTwo) k < t_corners) from ⟨(by first | assumption | omega), (by first | assumption | omega), (by first | assumption | omega), (by first | assumption | omega), (by first | assumption | exact all_push (by assumption) (by omega) (by omega) (by omega) (by omega) (by omega)), (by first | assumption | exact all_push (by assumption) (by omega) (by omega) (by omega) (by omega) (by omega))⟩)
      · have dc6 := q5_0 (bnf c6)
        refine Go_chk (by unfold zout; omega) ?_
        refine Go_chk (by unfold zout; omega) ?_
        refine Go_ite (fun c7 => ?_) (fun c7 => ?_)
        · exact Go_i (show 0 ≤ (t_seenMany) ∧ (t_seenMany) ≤ 20 ∧ 0 ≤ (t_lastTold) ∧ (t_lastTold) ≤ 999 ∧ (∀ k : Nat, (k : Int) < (t_seenMany) → 0 ≤ zget (t_sOne) k ∧ zget (t_sOne) k < t_corners) ∧ (∀ k : Nat, (k : Int) < (t_seenMany) → 0 ≤ zget (t_sTwo) k ∧ zget (t_sTwo) k < t_corners) from ⟨(by first | assumption | omega), (by first | assumption | omega), (by first | assumption | omega), (by first | assumption | omega), (by first | assumption | exact all_push (by assumption) (by omega) (by omega) (by omega) (by omega) (by omega)), (by first | assumption | exact all_push (by assumption) (by omega) (by omega) (by omega) (by omega) (by omega))⟩)
        · refine Go_bindP (ok_X11_in i4 (0 : Int) (9999 : Int) (by first | assumption | omega) (by first | assumption | omega) (by first | assumption | omega) (by first | assumption | omega) (by first | assumption | omega) (by first | assumption | omega)) (fun o6 q8 => ?_)
          obtain ⟨q8_0, q8_1⟩ := q8
          refine Go_ite (fun c9 => ?_) (fun c9 => ?_)
          · have dc9 := q8_1 c9
            exact Go_i (show 0 ≤ (t_seenMany) ∧ (t_seenMany) ≤ 20 ∧ 0 ≤ (t_lastTold) ∧ (t_lastTold) ≤ 999 ∧ (∀ k : Nat, (k : Int) < (t_seenMany) → 0 ≤ zget (t_sOne) k ∧ zget (t_sOne) k < t_corners) ∧ (∀ k : Nat, (k : Int) < (t_seenMany) → 0 ≤ zget (t_sTwo) k ∧ zget (t_sTwo) k < t_corners) from ⟨(by first | assumption | omega), (by first | assumption | omega), (by first | assumption | omega), (by first | assumption | omega), (by first | assumption | exact all_push (by assumption) (by omega) (by omega) (by omega) (by omega) (by omega)), (by first | assumption | exact all_push (by assumption) (by omega) (by omega) (by omega) (by omega) (by omega))⟩)
          · have dc9 := q8_0 (bnf c9)
            refine Go_chk (by unfold zout; omega) ?_
            refine Go_ite (fun c10 => ?_) (fun c10 => ?_)
            · exact Go_i (show 0 ≤ (t_seenMany) ∧ (t_seenMany) ≤ 20 ∧ 0 ≤ (t_lastTold) ∧ (t_lastTold) ≤ 999 ∧ (∀ k : Nat, (k : Int) < (t_seenMany) → 0 ≤ zget (t_sOne) k ∧ zget (t_sOne) k < t_corners) ∧ (∀ k : Nat, (k : Int) < (t_seenMany) → 0 ≤ zget (t_sTwo) k ∧ zget (t_sTwo) k < t_corners) from ⟨(by first | assumption | omega), (by first | assumption | omega), (by first | assumption | omega), (by first | assumption | omega), (by first | assumption | exact all_push (by assumption) (by omega) (by omega) (by omega) (by omega) (by omega)), (by first | assumption | exact all_push (by assumption) (by omega) (by omega) (by omega) (by omega) (by omega))⟩)
            · refine Go_chk (by omega) ?_
              exact Go_i (show 0 ≤ ((t_seenMany + (1 : Int))) ∧ ((t_seenMany + (1 : Int))) ≤ 20 ∧ 0 ≤ (i1) ∧ (i1) ≤ 999 ∧ (∀ k : Nat, (k : Int) < ((t_seenMany + (1 : Int))) → 0 ≤ zget ((zset t_sOne (Int.toNat t_seenMany) i2)) k ∧ zget ((zset t_sOne (Int.toNat t_seenMany) i2)) k < t_corners) ∧ (∀ k : Nat, (k : Int) < ((t_seenMany + (1 : Int))) → 0 ≤ zget ((zset t_sTwo (Int.toNat t_seenMany) i3)) k ∧ zget ((zset t_sTwo (Int.toNat t_seenMany) i3)) k < t_corners) from ⟨(by first | assumption | omega), (by first | assumption | omega), (by first | assumption | omega), (by first | assumption | omega), (by first | assumption | exact all_push (by assumption) (by omega) (by omega) (by omega) (by omega) (by omega)), (by first | assumption | exact all_push (by assumption) (by omega) (by omega) (by omega) (by omega) (by omega))⟩)
