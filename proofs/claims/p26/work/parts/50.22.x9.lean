set_option maxRecDepth 20000 in
theorem ok_X9_gatherOn (mk : Nat) (t_count : Int) (t_cornersOf : Nat) (n1 : Nat) (i2 : Int) (i3 : Int) (i4 : Int) (p0 : ¬ zno mk n1) (p1 : 0 ≤ t_count) (p2 : t_count ≤ 7) (p3 : 0 ≤ i3) (p4 : i3 < (n1 : Int)) (p5 : 0 ≤ i4) (p6 : i4 < (n1 : Int)) : Go (fun o => 0 ≤ (o.1) ∧ (o.1) ≤ 7) (zf_X9_gatherOn mk t_count t_cornersOf n1 i2 i3 i4) := by
  unfold zf_X9_gatherOn
  have grn1 := zno_rng p0
  have g7n1 := rpg7 (n := n1) (by omega) (by omega)
  have g8n1 := rpg8 (n := n1) (by omega) (by omega)
  refine jok (fun (s : zS_X9_gatherOn) => match s with | (lab, i2', i3', i4', i5', t_count', t_cornersOf') => (lab = 0 ∧ 0 ≤ t_count' ∧ t_count' ≤ 7 ∧ 0 ≤ i3' ∧ i3' < (n1 : Int) ∧ 0 ≤ i4' ∧ i4' < (n1 : Int)) ∨ (lab = 6 ∧ 0 ≤ t_count' ∧ t_count' ≤ 7 ∧ 0 ≤ i3' ∧ i3' < (n1 : Int) ∧ 0 ≤ i4' ∧ i4' < (n1 : Int) ∧ 0 ≤ i5' ∧ i5' ≤ (n1 : Int)) ∨ (lab = 42 ∧ 0 ≤ t_count' ∧ t_count' ≤ 7 ∧ 0 ≤ i3' ∧ i3' < (n1 : Int) ∧ 0 ≤ i4' ∧ i4' < (n1 : Int) ∧ 0 ≤ i5' ∧ i5' < (n1 : Int))) (fun (s : zS_X9_gatherOn) => match s with | (lab, i2', i3', i4', i5', t_count', t_cornersOf') => if lab = 0 then 100 else if lab = 6 then (60 - 2 * i5').toNat else if lab = 42 then (59 - 2 * i5').toNat else 0) (fun (o : zO_X9_gatherOn) => 0 ≤ (o.1) ∧ (o.1) ≤ 7) ?_ _ ?_ ?_
  · intro s hI
    obtain ⟨lab, i2', i3', i4', i5', t_count', t_cornersOf'⟩ := s
    have hI : (lab = 0 ∧ 0 ≤ t_count' ∧ t_count' ≤ 7 ∧ 0 ≤ i3' ∧ i3' < (n1 : Int) ∧ 0 ≤ i4' ∧ i4' < (n1 : Int)) ∨ (lab = 6 ∧ 0 ≤ t_count' ∧ t_count' ≤ 7 ∧ 0 ≤ i3' ∧ i3' < (n1 : Int) ∧ 0 ≤ i4' ∧ i4' < (n1 : Int) ∧ 0 ≤ i5' ∧ i5' ≤ (n1 : Int)) ∨ (lab = 42 ∧ 0 ≤ t_count' ∧ t_count' ≤ 7 ∧ 0 ≤ i3' ∧ i3' < (n1 : Int) ∧ 0 ≤ i4' ∧ i4' < (n1 : Int) ∧ 0 ≤ i5' ∧ i5' < (n1 : Int)) := hI
    rcases hI with ⟨rfl, v0_0, v0_1, v0_2, v0_3, v0_4, v0_5⟩ | ⟨rfl, v6_0, v6_1, v6_2, v6_3, v6_4, v6_5, v6_6, v6_7⟩ | ⟨rfl, v42_0, v42_1, v42_2, v42_3, v42_4, v42_5, v42_6, v42_7⟩
    · show Go _ (zg_X9_gatherOn_0 mk n1 i2' i3' i4' i5' t_count' t_cornersOf')
      unfold zg_X9_gatherOn_0
      exact Go_i (show (((6 : Nat) = 0 ∧ 0 ≤ (t_count') ∧ (t_count') ≤ 7 ∧ 0 ≤ (i3') ∧ (i3') < (n1 : Int) ∧ 0 ≤ (i4') ∧ (i4') < (n1 : Int)) ∨ ((6 : Nat) = 6 ∧ 0 ≤ (t_count') ∧ (t_count') ≤ 7 ∧ 0 ≤ (i3') ∧ (i3') < (n1 : Int) ∧ 0 ≤ (i4') ∧ (i4') < (n1 : Int) ∧ 0 ≤ ((i4' + (1 : Int))) ∧ ((i4' + (1 : Int))) ≤ (n1 : Int)) ∨ ((6 : Nat) = 42 ∧ 0 ≤ (t_count') ∧ (t_count') ≤ 7 ∧ 0 ≤ (i3') ∧ (i3') < (n1 : Int) ∧ 0 ≤ (i4') ∧ (i4') < (n1 : Int) ∧ 0 ≤ ((i4' + (1 : Int))) ∧ ((i4' + (1 : Int))) < (n1 : Int))) ∧ (60 - 2 * ((i4' + (1 : Int)))).toNat < 100 from ⟨Or.inr (Or.inl (⟨rfl, (by first | assumption | omega), (by first | assumption | omega), (by first | assumption | omega), (by first | assumption | omega), (by first | assumption | omega), (by first | assumption | omega), (by first | assumption | omega), (by first | assumption | omega)⟩)), by omega⟩)
    · show Go _ (zg_X9_gatherOn_6 mk n1 i2' i3' i4' i5' t_count' t_cornersOf')
      unfold zg_X9_gatherOn_6
      refine Go_chk (by assumption) ?_
      refine Go_bindP (ok_X5_corners n1 ) (fun o2 q1 => ?_)
      refine Go_chk (by unfold zout; omega) ?_
      refine Go_chk (by unfold zout; omega) ?_
      refine Go_ite (fun c2 => ?_) (fun c2 => ?_)
      · exact Go_i (show 0 ≤ (t_count') ∧ (t_count') ≤ 7 from ⟨(by first | assumption | omega), (by first | assumption | omega)⟩)
      · refine Go_bindP (ok_X5_areJoined n1 i2' i3' i5' (by first | assumption | omega) (by first | assumption | omega) (by first | assumption | omega) (by first | assumption | omega) (by first | assumption | omega) (by first | assumption | omega)) (fun o5 q3 => ?_)
        refine Go_ite (fun c4 => ?_) (fun c4 => ?_)
        · exact Go_i (show (((42 : Nat) = 0 ∧ 0 ≤ (t_count') ∧ (t_count') ≤ 7 ∧ 0 ≤ (i3') ∧ (i3') < (n1 : Int) ∧ 0 ≤ (i4') ∧ (i4') < (n1 : Int)) ∨ ((42 : Nat) = 6 ∧ 0 ≤ (t_count') ∧ (t_count') ≤ 7 ∧ 0 ≤ (i3') ∧ (i3') < (n1 : Int) ∧ 0 ≤ (i4') ∧ (i4') < (n1 : Int) ∧ 0 ≤ (i5') ∧ (i5') ≤ (n1 : Int)) ∨ ((42 : Nat) = 42 ∧ 0 ≤ (t_count') ∧ (t_count') ≤ 7 ∧ 0 ≤ (i3') ∧ (i3') < (n1 : Int) ∧ 0 ≤ (i4') ∧ (i4') < (n1 : Int) ∧ 0 ≤ (i5') ∧ (i5') < (n1 : Int))) ∧ (59 - 2 * (i5')).toNat < (60 - 2 * i5').toNat from ⟨Or.inr (Or.inr (⟨rfl, (by first | assumption | omega), (by first | assumption | omega), (by first | assumption | omega), (by first | assumption | omega), (by first | assumption | omega), (by first | assumption | omega), (by first | assumption | omega), (by first | assumption | omega)⟩)), by omega⟩)
        · refine Go_bindP (ok_X5_areJoined n1 i2' i4' i5' (by first | assumption | omega) (by first | assumption | omega) (by first | assumption | omega) (by first | assumption | omega) (by first | assumption | omega) (by first | assumption | omega)) (fun o6 q5 => ?_)
          refine Go_ite (fun c6 => ?_) (fun c6 => ?_)
          · exact Go_i (show (((42 : Nat) = 0 ∧ 0 ≤ (t_count') ∧ (t_count') ≤ 7 ∧ 0 ≤ (i3') ∧ (i3') < (n1 : Int) ∧ 0 ≤ (i4') ∧ (i4') < (n1 : Int)) ∨ ((42 : Nat) = 6 ∧ 0 ≤ (t_count') ∧ (t_count') ≤ 7 ∧ 0 ≤ (i3') ∧ (i3') < (n1 : Int) ∧ 0 ≤ (i4') ∧ (i4') < (n1 : Int) ∧ 0 ≤ (i5') ∧ (i5') ≤ (n1 : Int)) ∨ ((42 : Nat) = 42 ∧ 0 ≤ (t_count') ∧ (t_count') ≤ 7 ∧ 0 ≤ (i3') ∧ (i3') < (n1 : Int) ∧ 0 ≤ (i4') ∧ (i4') < (n1 : Int) ∧ 0 ≤ (i5') ∧ (i5') < (n1 : Int))) ∧ (59 - 2 * (i5')).toNat < (60 - 2 * i5').toNat from ⟨Or.inr (Or.inr (⟨rfl, (by first | assumption | omega), (by first | assumption | omega), (by first | assumption | omega), (by first | assumption | omega), (by first | assumption | omega), (by first | assumption | omega), (by first | assumption | omega), (by first | assumption | omega)⟩)), by omega⟩)
          · refine Go_ite (fun c7 => ?_) (fun c7 => ?_)
            · exact Go_i (show (((6 : Nat) = 0 ∧ 0 ≤ (t_count') ∧ (t_count') ≤ 7 ∧ 0 ≤ (i3') ∧ (i3') < (n1 : Int) ∧ 0 ≤ (i4') ∧ (i4') < (n1 : Int)) ∨ ((6 : Nat) = 6 ∧ 0 ≤ (t_count') ∧ (t_count') ≤ 7 ∧ 0 ≤ (i3') ∧ (i3') < (n1 : Int) ∧ 0 ≤ (i4') ∧ (i4') < (n1 : Int) ∧ 0 ≤ ((i5' + (1 : Int))) ∧ ((i5' + (1 : Int))) ≤ (n1 : Int)) ∨ ((6 : Nat) = 42 ∧ 0 ≤ (t_count') ∧ (t_count') ≤ 7 ∧ 0 ≤ (i3') ∧ (i3') < (n1 : Int) ∧ 0 ≤ (i4') ∧ (i4') < (n1 : Int) ∧ 0 ≤ ((i5' + (1 : Int))) ∧ ((i5' + (1 : Int))) < (n1 : Int))) ∧ (60 - 2 * ((i5' + (1 : Int)))).toNat < (60 - 2 * i5').toNat from ⟨Or.inr (Or.inl (⟨rfl, (by first | assumption | omega), (by first | assumption | omega), (by first | assumption | omega), (by first | assumption | omega), (by first | assumption | omega), (by first | assumption | omega), (by first | assumption | omega), (by first | assumption | omega)⟩)), by omega⟩)
            · refine Go_chk (by unfold zout; omega) ?_
              refine Go_ite (fun c8 => ?_) (fun c8 => ?_)
              · exact Go_i (show (((6 : Nat) = 0 ∧ 0 ≤ (t_count') ∧ (t_count') ≤ 7 ∧ 0 ≤ (i3') ∧ (i3') < (n1 : Int) ∧ 0 ≤ (i4') ∧ (i4') < (n1 : Int)) ∨ ((6 : Nat) = 6 ∧ 0 ≤ (t_count') ∧ (t_count') ≤ 7 ∧ 0 ≤ (i3') ∧ (i3') < (n1 : Int) ∧ 0 ≤ (i4') ∧ (i4') < (n1 : Int) ∧ 0 ≤ ((i5' + (1 : Int))) ∧ ((i5' + (1 : Int))) ≤ (n1 : Int)) ∨ ((6 : Nat) = 42 ∧ 0 ≤ (t_count') ∧ (t_count') ≤ 7 ∧ 0 ≤ (i3') ∧ (i3') < (n1 : Int) ∧ 0 ≤ (i4') ∧ (i4') < (n1 : Int) ∧ 0 ≤ ((i5' + (1 : Int))) ∧ ((i5' + (1 : Int))) < (n1 : Int))) ∧ (60 - 2 * ((i5' + (1 : Int)))).toNat < (60 - 2 * i5').toNat from ⟨Or.inr (Or.inl (⟨rfl, (by first | assumption | omega), (by first | assumption | omega), (by first | assumption | omega), (by first | assumption | omega), (by first | assumption | omega), (by first | assumption | omega), (by first | assumption | omega), (by first | assumption | omega)⟩)), by omega⟩)
              · refine Go_chk (by omega) ?_
                refine Go_chk (by omega) ?_
                refine Go_chk (by omega) ?_
                exact Go_i (show (((6 : Nat) = 0 ∧ 0 ≤ ((t_count' + (1 : Int))) ∧ ((t_count' + (1 : Int))) ≤ 7 ∧ 0 ≤ (i3') ∧ (i3') < (n1 : Int) ∧ 0 ≤ (i4') ∧ (i4') < (n1 : Int)) ∨ ((6 : Nat) = 6 ∧ 0 ≤ ((t_count' + (1 : Int))) ∧ ((t_count' + (1 : Int))) ≤ 7 ∧ 0 ≤ (i3') ∧ (i3') < (n1 : Int) ∧ 0 ≤ (i4') ∧ (i4') < (n1 : Int) ∧ 0 ≤ ((i5' + (1 : Int))) ∧ ((i5' + (1 : Int))) ≤ (n1 : Int)) ∨ ((6 : Nat) = 42 ∧ 0 ≤ ((t_count' + (1 : Int))) ∧ ((t_count' + (1 : Int))) ≤ 7 ∧ 0 ≤ (i3') ∧ (i3') < (n1 : Int) ∧ 0 ≤ (i4') ∧ (i4') < (n1 : Int) ∧ 0 ≤ ((i5' + (1 : Int))) ∧ ((i5' + (1 : Int))) < (n1 : Int))) ∧ (60 - 2 * ((i5' + (1 : Int)))).toNat < (60 - 2 * i5').toNat from ⟨Or.inr (Or.inl (⟨rfl, (by first | assumption | omega), (by first | assumption | omega), (by first | assumption | omega), (by first | assumption | omega), (by first | assumption | omega), (by first | assumption | omega), (by first | assumption | omega), (by first | assumption | omega)⟩)), by omega⟩)
    · show Go _ (zg_X9_gatherOn_42 mk n1 i2' i3' i4' i5' t_count' t_cornersOf')
      unfold zg_X9_gatherOn_42
      refine Go_ite (fun c9 => ?_) (fun c9 => ?_)
      · exact Go_i (show (((6 : Nat) = 0 ∧ 0 ≤ (t_count') ∧ (t_count') ≤ 7 ∧ 0 ≤ (i3') ∧ (i3') < (n1 : Int) ∧ 0 ≤ (i4') ∧ (i4') < (n1 : Int)) ∨ ((6 : Nat) = 6 ∧ 0 ≤ (t_count') ∧ (t_count') ≤ 7 ∧ 0 ≤ (i3') ∧ (i3') < (n1 : Int) ∧ 0 ≤ (i4') ∧ (i4') < (n1 : Int) ∧ 0 ≤ ((i5' + (1 : Int))) ∧ ((i5' + (1 : Int))) ≤ (n1 : Int)) ∨ ((6 : Nat) = 42 ∧ 0 ≤ (t_count') ∧ (t_count') ≤ 7 ∧ 0 ≤ (i3') ∧ (i3') < (n1 : Int) ∧ 0 ≤ (i4') ∧ (i4') < (n1 : Int) ∧ 0 ≤ ((i5' + (1 : Int))) ∧ ((i5' + (1 : Int))) < (n1 : Int))) ∧ (60 - 2 * ((i5' + (1 : Int)))).toNat < (59 - 2 * i5').toNat from ⟨Or.inr (Or.inl (⟨rfl, (by first | assumption | omega), (by first | assumption | omega), (by first | assumption | omega), (by first | assumption | omega), (by first | assumption | omega), (by first | assumption | omega), (by first | assumption | omega), (by first | assumption | omega)⟩)), by omega⟩)
      · refine Go_chk (by unfold zout; omega) ?_
        refine Go_ite (fun c10 => ?_) (fun c10 => ?_)
        · exact Go_i (show (((6 : Nat) = 0 ∧ 0 ≤ (t_count') ∧ (t_count') ≤ 7 ∧ 0 ≤ (i3') ∧ (i3') < (n1 : Int) ∧ 0 ≤ (i4') ∧ (i4') < (n1 : Int)) ∨ ((6 : Nat) = 6 ∧ 0 ≤ (t_count') ∧ (t_count') ≤ 7 ∧ 0 ≤ (i3') ∧ (i3') < (n1 : Int) ∧ 0 ≤ (i4') ∧ (i4') < (n1 : Int) ∧ 0 ≤ ((i5' + (1 : Int))) ∧ ((i5' + (1 : Int))) ≤ (n1 : Int)) ∨ ((6 : Nat) = 42 ∧ 0 ≤ (t_count') ∧ (t_count') ≤ 7 ∧ 0 ≤ (i3') ∧ (i3') < (n1 : Int) ∧ 0 ≤ (i4') ∧ (i4') < (n1 : Int) ∧ 0 ≤ ((i5' + (1 : Int))) ∧ ((i5' + (1 : Int))) < (n1 : Int))) ∧ (60 - 2 * ((i5' + (1 : Int)))).toNat < (59 - 2 * i5').toNat from ⟨Or.inr (Or.inl (⟨rfl, (by first | assumption | omega), (by first | assumption | omega), (by first | assumption | omega), (by first | assumption | omega), (by first | assumption | omega), (by first | assumption | omega), (by first | assumption | omega), (by first | assumption | omega)⟩)), by omega⟩)
        · refine Go_chk (by omega) ?_
          refine Go_chk (by omega) ?_
          refine Go_chk (by omega) ?_
          exact Go_i (show (((6 : Nat) = 0 ∧ 0 ≤ ((t_count' + (1 : Int))) ∧ ((t_count' + (1 : Int))) ≤ 7 ∧ 0 ≤ (i3') ∧ (i3') < (n1 : Int) ∧ 0 ≤ (i4') ∧ (i4') < (n1 : Int)) ∨ ((6 : Nat) = 6 ∧ 0 ≤ ((t_count' + (1 : Int))) ∧ ((t_count' + (1 : Int))) ≤ 7 ∧ 0 ≤ (i3') ∧ (i3') < (n1 : Int) ∧ 0 ≤ (i4') ∧ (i4') < (n1 : Int) ∧ 0 ≤ ((i5' + (1 : Int))) ∧ ((i5' + (1 : Int))) ≤ (n1 : Int)) ∨ ((6 : Nat) = 42 ∧ 0 ≤ ((t_count' + (1 : Int))) ∧ ((t_count' + (1 : Int))) ≤ 7 ∧ 0 ≤ (i3') ∧ (i3') < (n1 : Int) ∧ 0 ≤ (i4') ∧ (i4') < (n1 : Int) ∧ 0 ≤ ((i5' + (1 : Int))) ∧ ((i5' + (1 : Int))) < (n1 : Int))) ∧ (60 - 2 * ((i5' + (1 : Int)))).toNat < (59 - 2 * i5').toNat from ⟨Or.inr (Or.inl (⟨rfl, (by first | assumption | omega), (by first | assumption | omega), (by first | assumption | omega), (by first | assumption | omega), (by first | assumption | omega), (by first | assumption | omega), (by first | assumption | omega), (by first | assumption | omega)⟩)), by omega⟩)
  · exact (show ((0 : Nat) = 0 ∧ 0 ≤ t_count ∧ t_count ≤ 7 ∧ 0 ≤ i3 ∧ i3 < (n1 : Int) ∧ 0 ≤ i4 ∧ i4 < (n1 : Int)) ∨ ((0 : Nat) = 6 ∧ 0 ≤ t_count ∧ t_count ≤ 7 ∧ 0 ≤ i3 ∧ i3 < (n1 : Int) ∧ 0 ≤ i4 ∧ i4 < (n1 : Int) ∧ 0 ≤ 0 ∧ 0 ≤ (n1 : Int)) ∨ ((0 : Nat) = 42 ∧ 0 ≤ t_count ∧ t_count ≤ 7 ∧ 0 ≤ i3 ∧ i3 < (n1 : Int) ∧ 0 ≤ i4 ∧ i4 < (n1 : Int) ∧ 0 ≤ 0 ∧ 0 < (n1 : Int)) from Or.inl (⟨rfl, (by first | assumption | omega), (by first | assumption | omega), (by first | assumption | omega), (by first | assumption | omega), (by first | assumption | omega), (by first | assumption | omega)⟩))
  · show 100 < jfuel
    unfold jfuel
    omega
set_option maxRecDepth 20000 in
theorem ok_X9_gather (mk : Nat) (t_count : Int) (t_cornersOf : Nat) (n1 : Nat) (i2 : Int) (p0 : ¬ zno mk n1) : Go (fun o => 0 ≤ (o.1) ∧ (o.1) ≤ 7) (zf_X9_gather mk t_count t_cornersOf n1 i2) := by
  unfold zf_X9_gather
  have grn1 := zno_rng p0
  have g7n1 := rpg7 (n := n1) (by omega) (by omega)
  have g8n1 := rpg8 (n := n1) (by omega) (by omega)
  refine jok (fun (s : zS_X9_gather) => match s with | (lab, i2', i3', i4', t_count', t_cornersOf') => (lab = 0) ∨ (lab = 7 ∧ 0 ≤ t_count' ∧ t_count' ≤ 7 ∧ 0 ≤ i3' ∧ i3' ≤ (n1 : Int)) ∨ (lab = 20 ∧ 0 ≤ t_count' ∧ t_count' ≤ 7 ∧ 0 ≤ i3' ∧ i3' < (n1 : Int) ∧ 0 ≤ i4' ∧ i4' ≤ (n1 : Int))) (fun (s : zS_X9_gather) => match s with | (lab, i2', i3', i4', t_count', t_cornersOf') => if lab = 0 then 10000 else if lab = 7 then (40 * (20 - i3') + 39).toNat else if lab = 20 then (40 * (20 - i3') + 20 - i4').toNat else 0) (fun (o : zO_X9_gather) => 0 ≤ (o.1) ∧ (o.1) ≤ 7) ?_ _ ?_ ?_
  · intro s hI
    obtain ⟨lab, i2', i3', i4', t_count', t_cornersOf'⟩ := s
    have hI : (lab = 0) ∨ (lab = 7 ∧ 0 ≤ t_count' ∧ t_count' ≤ 7 ∧ 0 ≤ i3' ∧ i3' ≤ (n1 : Int)) ∨ (lab = 20 ∧ 0 ≤ t_count' ∧ t_count' ≤ 7 ∧ 0 ≤ i3' ∧ i3' < (n1 : Int) ∧ 0 ≤ i4' ∧ i4' ≤ (n1 : Int)) := hI
    rcases hI with rfl | ⟨rfl, v7_0, v7_1, v7_2, v7_3⟩ | ⟨rfl, v20_0, v20_1, v20_2, v20_3, v20_4, v20_5⟩
    · show Go _ (zg_X9_gather_0 mk n1 i2' i3' i4' t_count' t_cornersOf')
      unfold zg_X9_gather_0
      exact Go_i (show (((7 : Nat) = 0) ∨ ((7 : Nat) = 7 ∧ 0 ≤ ((0 : Int)) ∧ ((0 : Int)) ≤ 7 ∧ 0 ≤ ((0 : Int)) ∧ ((0 : Int)) ≤ (n1 : Int)) ∨ ((7 : Nat) = 20 ∧ 0 ≤ ((0 : Int)) ∧ ((0 : Int)) ≤ 7 ∧ 0 ≤ ((0 : Int)) ∧ ((0 : Int)) < (n1 : Int) ∧ 0 ≤ (0) ∧ (0) ≤ (n1 : Int))) ∧ (40 * (20 - ((0 : Int))) + 39).toNat < 10000 from ⟨Or.inr (Or.inl (⟨rfl, (by first | assumption | omega), (by first | assumption | omega), (by first | assumption | omega), (by first | assumption | omega)⟩)), by omega⟩)
    · show Go _ (zg_X9_gather_7 mk n1 i2' i3' i4' t_count' t_cornersOf')
      unfold zg_X9_gather_7
      refine Go_chk (by assumption) ?_
      refine Go_bindP (ok_X5_corners n1 ) (fun o2 q1 => ?_)
      refine Go_chk (by unfold zout; omega) ?_
      refine Go_chk (by unfold zout; omega) ?_
      refine Go_ite (fun c2 => ?_) (fun c2 => ?_)
      · exact Go_i (show 0 ≤ (t_count') ∧ (t_count') ≤ 7 from ⟨(by first | assumption | omega), (by first | assumption | omega)⟩)
      · exact Go_i (show (((20 : Nat) = 0) ∨ ((20 : Nat) = 7 ∧ 0 ≤ (t_count') ∧ (t_count') ≤ 7 ∧ 0 ≤ (i3') ∧ (i3') ≤ (n1 : Int)) ∨ ((20 : Nat) = 20 ∧ 0 ≤ (t_count') ∧ (t_count') ≤ 7 ∧ 0 ≤ (i3') ∧ (i3') < (n1 : Int) ∧ 0 ≤ ((i3' + (1 : Int))) ∧ ((i3' + (1 : Int))) ≤ (n1 : Int))) ∧ (40 * (20 - (i3')) + 20 - ((i3' + (1 : Int)))).toNat < (40 * (20 - i3') + 39).toNat from ⟨Or.inr (Or.inr (⟨rfl, (by first | assumption | omega), (by first | assumption | omega), (by first | assumption | omega), (by first | assumption | omega), (by first | assumption | omega), (by first | assumption | omega)⟩)), by omega⟩)
    · show Go _ (zg_X9_gather_20 mk n1 i2' i3' i4' t_count' t_cornersOf')
      unfold zg_X9_gather_20
      refine Go_chk (by assumption) ?_
      refine Go_bindP (ok_X5_corners n1 ) (fun o7 q3 => ?_)
      refine Go_chk (by unfold zout; omega) ?_
      refine Go_chk (by unfold zout; omega) ?_
      refine Go_ite (fun c4 => ?_) (fun c4 => ?_)
      · exact Go_i (show (((7 : Nat) = 0) ∨ ((7 : Nat) = 7 ∧ 0 ≤ (t_count') ∧ (t_count') ≤ 7 ∧ 0 ≤ ((i3' + (1 : Int))) ∧ ((i3' + (1 : Int))) ≤ (n1 : Int)) ∨ ((7 : Nat) = 20 ∧ 0 ≤ (t_count') ∧ (t_count') ≤ 7 ∧ 0 ≤ ((i3' + (1 : Int))) ∧ ((i3' + (1 : Int))) < (n1 : Int) ∧ 0 ≤ (i4') ∧ (i4') ≤ (n1 : Int))) ∧ (40 * (20 - ((i3' + (1 : Int)))) + 39).toNat < (40 * (20 - i3') + 20 - i4').toNat from ⟨Or.inr (Or.inl (⟨rfl, (by first | assumption | omega), (by first | assumption | omega), (by first | assumption | omega), (by first | assumption | omega)⟩)), by omega⟩)
      · refine Go_bindP (ok_X5_areJoined n1 i2' i3' i4' (by first | assumption | omega) (by first | assumption | omega) (by first | assumption | omega) (by first | assumption | omega) (by first | assumption | omega) (by first | assumption | omega)) (fun o10 q5 => ?_)
        refine Go_ite (fun c6 => ?_) (fun c6 => ?_)
        · exact Go_i (show (((20 : Nat) = 0) ∨ ((20 : Nat) = 7 ∧ 0 ≤ (t_count') ∧ (t_count') ≤ 7 ∧ 0 ≤ (i3') ∧ (i3') ≤ (n1 : Int)) ∨ ((20 : Nat) = 20 ∧ 0 ≤ (t_count') ∧ (t_count') ≤ 7 ∧ 0 ≤ (i3') ∧ (i3') < (n1 : Int) ∧ 0 ≤ ((i4' + (1 : Int))) ∧ ((i4' + (1 : Int))) ≤ (n1 : Int))) ∧ (40 * (20 - (i3')) + 20 - ((i4' + (1 : Int)))).toNat < (40 * (20 - i3') + 20 - i4').toNat from ⟨Or.inr (Or.inr (⟨rfl, (by first | assumption | omega), (by first | assumption | omega), (by first | assumption | omega), (by first | assumption | omega), (by first | assumption | omega), (by first | assumption | omega)⟩)), by omega⟩)
        · refine Go_bindP (ok_X9_gatherOn mk t_count' t_cornersOf' n1 i2' i3' i4' (by first | assumption | omega) (by first | assumption | omega) (by first | assumption | omega) (by first | assumption | omega) (by first | assumption | omega) (by first | assumption | omega) (by first | assumption | omega)) (fun o11 q7 => ?_)
          obtain ⟨q7_0, q7_1⟩ := q7
          exact Go_i (show (((20 : Nat) = 0) ∨ ((20 : Nat) = 7 ∧ 0 ≤ ((o11.1)) ∧ ((o11.1)) ≤ 7 ∧ 0 ≤ (i3') ∧ (i3') ≤ (n1 : Int)) ∨ ((20 : Nat) = 20 ∧ 0 ≤ ((o11.1)) ∧ ((o11.1)) ≤ 7 ∧ 0 ≤ (i3') ∧ (i3') < (n1 : Int) ∧ 0 ≤ ((i4' + (1 : Int))) ∧ ((i4' + (1 : Int))) ≤ (n1 : Int))) ∧ (40 * (20 - (i3')) + 20 - ((i4' + (1 : Int)))).toNat < (40 * (20 - i3') + 20 - i4').toNat from ⟨Or.inr (Or.inr (⟨rfl, (by first | assumption | omega), (by first | assumption | omega), (by first | assumption | omega), (by first | assumption | omega), (by first | assumption | omega), (by first | assumption | omega)⟩)), by omega⟩)
  · exact (show ((0 : Nat) = 0) ∨ ((0 : Nat) = 7 ∧ 0 ≤ t_count ∧ t_count ≤ 7 ∧ 0 ≤ 0 ∧ 0 ≤ (n1 : Int)) ∨ ((0 : Nat) = 20 ∧ 0 ≤ t_count ∧ t_count ≤ 7 ∧ 0 ≤ 0 ∧ 0 < (n1 : Int) ∧ 0 ≤ 0 ∧ 0 ≤ (n1 : Int)) from Or.inl (rfl))
  · show 10000 < jfuel
    unfold jfuel
    omega
set_option maxRecDepth 20000 in
theorem ok_X9_cornerOf (mk : Nat) (t_count : Int) (t_cornersOf : Nat) (i1 : Int) (i2 : Int) (p0 : 0 ≤ t_count) (p1 : t_count ≤ 7) (p2 : -2147483648 ≤ i1) (p3 : i1 ≤ 2147483647) (p4 : -2147483648 ≤ i2) (p5 : i2 ≤ 2147483647) : Go (fun o => -2147483648 ≤ (o) ∧ (o) ≤ 2147483647) (zf_X9_cornerOf mk t_count t_cornersOf i1 i2) := by
  unfold zf_X9_cornerOf
  refine Go_chk (by unfold zout; omega) ?_
  refine Go_ite (fun c1 => ?_) (fun c1 => ?_)
  · exact Go_i (show -2147483648 ≤ ((-1 : Int)) ∧ ((-1 : Int)) ≤ 2147483647 from ⟨(by first | assumption | omega), (by first | assumption | omega)⟩)
  · refine Go_chk (by unfold zout; omega) ?_
    refine Go_ite (fun c2 => ?_) (fun c2 => ?_)
    · exact Go_i (show -2147483648 ≤ ((-1 : Int)) ∧ ((-1 : Int)) ≤ 2147483647 from ⟨(by first | assumption | omega), (by first | assumption | omega)⟩)
    · refine Go_chk (by unfold zout; omega) ?_
      refine Go_ite (fun c3 => ?_) (fun c3 => ?_)
      · exact Go_i (show -2147483648 ≤ ((-1 : Int)) ∧ ((-1 : Int)) ≤ 2147483647 from ⟨(by first | assumption | omega), (by first | assumption | omega)⟩)
      · refine Go_ite (fun c4 => ?_) (fun c4 => ?_)
        · refine Go_chk (by omega) ?_
          have a5 := rget t_cornersOf (Int.toNat (((3 : Int) * i1) + i2))
          exact Go_i (show -2147483648 ≤ ((zget t_cornersOf (Int.toNat (((3 : Int) * i1) + i2)))) ∧ ((zget t_cornersOf (Int.toNat (((3 : Int) * i1) + i2)))) ≤ 2147483647 from ⟨(by first | assumption | omega), (by first | assumption | omega)⟩)
        · exact Go_i (show -2147483648 ≤ ((-1 : Int)) ∧ ((-1 : Int)) ≤ 2147483647 from ⟨(by first | assumption | omega), (by first | assumption | omega)⟩)
set_option maxRecDepth 20000 in
theorem ok_X9_touches (mk : Nat) (t_count : Int) (t_cornersOf : Nat) (i1 : Int) (i2 : Int) (p0 : 0 ≤ t_count) (p1 : t_count ≤ 7) (p2 : -2147483648 ≤ i1) (p3 : i1 ≤ 2147483647) (p4 : -2147483648 ≤ i2) (p5 : i2 ≤ 2147483647) : Go (fun o => True) (zf_X9_touches mk t_count t_cornersOf i1 i2) := by
  unfold zf_X9_touches
  refine Go_bindP (ok_X9_cornerOf mk t_count t_cornersOf i1 (0 : Int) (by first | assumption | omega) (by first | assumption | omega) (by first | assumption | omega) (by first | assumption | omega) (by first | assumption | omega) (by first | assumption | omega)) (fun o1 q1 => ?_)
  obtain ⟨q1_0, q1_1⟩ := q1
  refine Go_chk (by unfold zout; omega) ?_
  refine Go_chk (by unfold zout; omega) ?_
  refine Go_ite (fun c2 => ?_) (fun c2 => ?_)
  · exact Go_i (show True from trivial)
  · refine Go_bindP (ok_X9_cornerOf mk t_count t_cornersOf i1 (1 : Int) (by first | assumption | omega) (by first | assumption | omega) (by first | assumption | omega) (by first | assumption | omega) (by first | assumption | omega) (by first | assumption | omega)) (fun o4 q3 => ?_)
    obtain ⟨q3_0, q3_1⟩ := q3
    refine Go_chk (by unfold zout; omega) ?_
    refine Go_ite (fun c4 => ?_) (fun c4 => ?_)
    · exact Go_i (show True from trivial)
    · refine Go_bindP (ok_X9_cornerOf mk t_count t_cornersOf i1 (2 : Int) (by first | assumption | omega) (by first | assumption | omega) (by first | assumption | omega) (by first | assumption | omega) (by first | assumption | omega) (by first | assumption | omega)) (fun o6 q5 => ?_)
      obtain ⟨q5_0, q5_1⟩ := q5
      refine Go_chk (by unfold zout; omega) ?_
      refine Go_ite (fun c6 => ?_) (fun c6 => ?_)
      · exact Go_i (show True from trivial)
      · exact Go_i (show True from trivial)
set_option maxRecDepth 20000 in
theorem ok_X9_choose : ∀ (d : Nat) (mk : Nat) (t_count : Int) (t_polygon : Nat) (t_from : Int) (t_length : Int) (t_waysAhead : Int) (t_cornersOf : Nat) (t_chosen : Nat) (i1 : Int) (i2 : Int) (p0 : ¬ zno mk t_polygon) (p1 : 0 ≤ t_count) (p2 : t_count ≤ 7) (p3 : 0 ≤ t_from) (p4 : t_from ≤ 8) (p5 : -20 ≤ t_length) (p6 : t_length ≤ 8) (p7 : 0 ≤ i1) (p8 : i1 ≤ 7) (p9 : 9 - i1 ≤ (d : Int)) (p10 : 0 ≤ t_waysAhead) (p11 : t_waysAhead ≤ 2147483647), Go (fun (o : zO_X9_choose) => ((o.1) = true → True) ∧ ((o.1) = false → 0 ≤ (o.2.1) ∧ (o.2.1) ≤ t_waysAhead)) (zf_X9_choose d mk t_count t_polygon t_from t_length t_waysAhead t_cornersOf t_chosen i1 i2) := by
  intro d
  induction d with
  | zero => intro mk t_count t_polygon t_from t_length t_waysAhead t_cornersOf t_chosen i1 i2 p0 p1 p2 p3 p4 p5 p6 p7 p8 p9 p10 p11; exfalso; omega
  | succ d ih =>
    intro mk t_count t_polygon t_from t_length t_waysAhead t_cornersOf t_chosen i1 i2 p0 p1 p2 p3 p4 p5 p6 p7 p8 p9 p10 p11
    show Go _ (jrun (zg_X9_choose (zf_X9_choose d) mk t_count t_polygon t_from t_length t_cornersOf) jfuel (0, i1, i2, 0, 0, t_waysAhead, t_chosen))
    have grt_polygon := zno_rng p0
    have g7t_polygon := rpg7 (n := t_polygon) (by omega) (by omega)
    have g8t_polygon := rpg8 (n := t_polygon) (by omega) (by omega)
    refine jok (fun (s : zS_X9_choose) => match s with | (lab, i1', i2', i3', i4', t_waysAhead', t_chosen') => (lab = 0 ∧ 0 ≤ i1' ∧ i1' ≤ 7 ∧ i1' = i1 ∧ 0 ≤ t_waysAhead' ∧ t_waysAhead' ≤ t_waysAhead) ∨ (lab = 70 ∧ 0 ≤ i1' ∧ i1' < 7 ∧ i1' = i1 ∧ 0 ≤ i4' ∧ i4' ≤ t_count ∧ -2147483648 ≤ i3' ∧ i3' ≤ 2147483647 ∧ 0 ≤ t_waysAhead' ∧ t_waysAhead' ≤ t_waysAhead)) (fun (s : zS_X9_choose) => match s with | (lab, i1', i2', i3', i4', t_waysAhead', t_chosen') => if lab = 0 then 100 else if lab = 70 then (20 - i4').toNat else 0) (fun (o : zO_X9_choose) => ((o.1) = true → True) ∧ ((o.1) = false → 0 ≤ (o.2.1) ∧ (o.2.1) ≤ t_waysAhead)) ?_ _ ?_ ?_
    · intro s hI
      obtain ⟨lab, i1', i2', i3', i4', t_waysAhead', t_chosen'⟩ := s
      have hI : (lab = 0 ∧ 0 ≤ i1' ∧ i1' ≤ 7 ∧ i1' = i1 ∧ 0 ≤ t_waysAhead' ∧ t_waysAhead' ≤ t_waysAhead) ∨ (lab = 70 ∧ 0 ≤ i1' ∧ i1' < 7 ∧ i1' = i1 ∧ 0 ≤ i4' ∧ i4' ≤ t_count ∧ -2147483648 ≤ i3' ∧ i3' ≤ 2147483647 ∧ 0 ≤ t_waysAhead' ∧ t_waysAhead' ≤ t_waysAhead) := hI
      rcases hI with ⟨rfl, v0_0, v0_1, v0_2, v0_3, v0_4⟩ | ⟨rfl, v70_0, v70_1, v70_2, v70_3, v70_4, v70_5, v70_6, v70_7, v70_8⟩
      · show Go _ (zg_X9_choose_0 (zf_X9_choose d) mk t_count t_polygon t_from t_length t_cornersOf i1' i2' i3' i4' t_waysAhead' t_chosen')
        unfold zg_X9_choose_0
        refine Go_chk (by unfold zout; omega) ?_
        refine Go_chk (by unfold zout; omega) ?_
        refine Go_ite (fun c1 => ?_) (fun c1 => ?_)
        · refine Go_chk (by unfold zout; omega) ?_
          refine Go_ite (fun c2 => ?_) (fun c2 => ?_)
          · exact Go_i (show ((false) = true → True) ∧ ((false) = false → 0 ≤ ((t_waysAhead' - (1 : Int))) ∧ ((t_waysAhead' - (1 : Int))) ≤ t_waysAhead) from ⟨(by intro h; first | exact True.intro | omega | (exact absurd h (by decide))), (by intro h; first | exact True.intro | omega | (exact absurd h (by decide)))⟩)
          · exact Go_i (show ((true) = true → True) ∧ ((true) = false → 0 ≤ ((t_waysAhead' - (1 : Int))) ∧ ((t_waysAhead' - (1 : Int))) ≤ t_waysAhead) from ⟨(by intro h; first | exact True.intro | omega | (exact absurd h (by decide))), (by intro h; first | exact True.intro | omega | (exact absurd h (by decide)))⟩)
        · refine Go_ite (fun c3 => ?_) (fun c3 => ?_)
          · refine Go_chk (by assumption) ?_
            refine Go_bindP (ok_X5_corners t_polygon ) (fun o6 q4 => ?_)
            refine Go_chk (by unfold zout; omega) ?_
            refine Go_chk (by unfold zout; omega) ?_
            refine Go_ite (fun c5 => ?_) (fun c5 => ?_)
            · exact Go_i (show (((70 : Nat) = 0 ∧ 0 ≤ (i1') ∧ (i1') ≤ 7 ∧ (i1') = i1 ∧ 0 ≤ (t_waysAhead') ∧ (t_waysAhead') ≤ t_waysAhead) ∨ ((70 : Nat) = 70 ∧ 0 ≤ (i1') ∧ (i1') < 7 ∧ (i1') = i1 ∧ 0 ≤ ((0 : Int)) ∧ ((0 : Int)) ≤ t_count ∧ -2147483648 ≤ (((t_from + (1 : Int)) + i1')) ∧ (((t_from + (1 : Int)) + i1')) ≤ 2147483647 ∧ 0 ≤ (t_waysAhead') ∧ (t_waysAhead') ≤ t_waysAhead)) ∧ (20 - ((0 : Int))).toNat < 100 from ⟨Or.inr (⟨rfl, (by first | assumption | omega), (by first | assumption | omega), (by first | assumption | omega), (by first | assumption | omega), (by first | assumption | omega), (by first | assumption | omega), (by first | assumption | omega), (by first | assumption | omega), (by first | assumption | omega)⟩), by omega⟩)
            · refine Go_bindP (ok_X5_corners t_polygon ) (fun o9 q6 => ?_)
              exact Go_i (show (((70 : Nat) = 0 ∧ 0 ≤ (i1') ∧ (i1') ≤ 7 ∧ (i1') = i1 ∧ 0 ≤ (t_waysAhead') ∧ (t_waysAhead') ≤ t_waysAhead) ∨ ((70 : Nat) = 70 ∧ 0 ≤ (i1') ∧ (i1') < 7 ∧ (i1') = i1 ∧ 0 ≤ ((0 : Int)) ∧ ((0 : Int)) ≤ t_count ∧ -2147483648 ≤ ((((t_from + (1 : Int)) + i1') - o9)) ∧ ((((t_from + (1 : Int)) + i1') - o9)) ≤ 2147483647 ∧ 0 ≤ (t_waysAhead') ∧ (t_waysAhead') ≤ t_waysAhead)) ∧ (20 - ((0 : Int))).toNat < 100 from ⟨Or.inr (⟨rfl, (by first | assumption | omega), (by first | assumption | omega), (by first | assumption | omega), (by first | assumption | omega), (by first | assumption | omega), (by first | assumption | omega), (by first | assumption | omega), (by first | assumption | omega), (by first | assumption | omega)⟩), by omega⟩)
          · refine Go_chk (by unfold zout; omega) ?_
            refine Go_ite (fun c7 => ?_) (fun c7 => ?_)
            · exact Go_i (show ((false) = true → True) ∧ ((false) = false → 0 ≤ ((t_waysAhead' - (1 : Int))) ∧ ((t_waysAhead' - (1 : Int))) ≤ t_waysAhead) from ⟨(by intro h; first | exact True.intro | omega | (exact absurd h (by decide))), (by intro h; first | exact True.intro | omega | (exact absurd h (by decide)))⟩)
            · exact Go_i (show ((true) = true → True) ∧ ((true) = false → 0 ≤ ((t_waysAhead' - (1 : Int))) ∧ ((t_waysAhead' - (1 : Int))) ≤ t_waysAhead) from ⟨(by intro h; first | exact True.intro | omega | (exact absurd h (by decide))), (by intro h; first | exact True.intro | omega | (exact absurd h (by decide)))⟩)
      · show Go _ (zg_X9_choose_70 (zf_X9_choose d) mk t_count t_polygon t_from t_length t_cornersOf i1' i2' i3' i4' t_waysAhead' t_chosen')
        unfold zg_X9_choose_70
        refine Go_chk (by unfold zout; omega) ?_
        refine Go_chk (by unfold zout; omega) ?_
        refine Go_ite (fun c8 => ?_) (fun c8 => ?_)
        · exact Go_i (show ((false) = true → True) ∧ ((false) = false → 0 ≤ (t_waysAhead') ∧ (t_waysAhead') ≤ t_waysAhead) from ⟨(by intro h; first | exact True.intro | omega | (exact absurd h (by decide))), (by intro h; first | exact True.intro | omega | (exact absurd h (by decide)))⟩)
        · have a9 := rshr i2' i4'
          have a10 := rand (zshr i2' i4') (1 : Int)
          refine Go_ite (fun c11 => ?_) (fun c11 => ?_)
          · refine Go_bindP (ok_X9_touches mk t_count t_cornersOf i4' i3' (by first | assumption | omega) (by first | assumption | omega) (by first | assumption | omega) (by first | assumption | omega) (by first | assumption | omega) (by first | assumption | omega)) (fun o17 q12 => ?_)
            refine Go_ite (fun c13 => ?_) (fun c13 => ?_)
            · exact Go_i (show (((70 : Nat) = 0 ∧ 0 ≤ (i1') ∧ (i1') ≤ 7 ∧ (i1') = i1 ∧ 0 ≤ (t_waysAhead') ∧ (t_waysAhead') ≤ t_waysAhead) ∨ ((70 : Nat) = 70 ∧ 0 ≤ (i1') ∧ (i1') < 7 ∧ (i1') = i1 ∧ 0 ≤ ((i4' + (1 : Int))) ∧ ((i4' + (1 : Int))) ≤ t_count ∧ -2147483648 ≤ (i3') ∧ (i3') ≤ 2147483647 ∧ 0 ≤ (t_waysAhead') ∧ (t_waysAhead') ≤ t_waysAhead)) ∧ (20 - ((i4' + (1 : Int)))).toNat < (20 - i4').toNat from ⟨Or.inr (⟨rfl, (by first | assumption | omega), (by first | assumption | omega), (by first | assumption | omega), (by first | assumption | omega), (by first | assumption | omega), (by first | assumption | omega), (by first | assumption | omega), (by first | assumption | omega), (by first | assumption | omega)⟩), by omega⟩)
            · refine Go_chk (by omega) ?_
              have a14 := rshl (1 : Int) i4'
              have a15 := ror i2' (zshl (1 : Int) i4')
              refine Go_bindP (ih mk t_count t_polygon t_from t_length t_waysAhead' t_cornersOf (zset t_chosen' (Int.toNat i1') i4') (i1' + (1 : Int)) (zor i2' (zshl (1 : Int) i4')) (by first | assumption | omega) (by first | assumption | omega) (by first | assumption | omega) (by first | assumption | omega) (by first | assumption | omega) (by first | assumption | omega) (by first | assumption | omega) (by first | assumption | omega) (by first | assumption | omega) (by first | assumption | omega) (by first | assumption | omega) (by first | assumption | omega)) (fun o19 q16 => ?_)
              obtain ⟨q16_0, q16_1⟩ := q16
              refine Go_ite (fun c17 => ?_) (fun c17 => ?_)
              · have dc17 := q16_1 c17
                exact Go_i (show (((70 : Nat) = 0 ∧ 0 ≤ (i1') ∧ (i1') ≤ 7 ∧ (i1') = i1 ∧ 0 ≤ ((o19.2.1)) ∧ ((o19.2.1)) ≤ t_waysAhead) ∨ ((70 : Nat) = 70 ∧ 0 ≤ (i1') ∧ (i1') < 7 ∧ (i1') = i1 ∧ 0 ≤ ((i4' + (1 : Int))) ∧ ((i4' + (1 : Int))) ≤ t_count ∧ -2147483648 ≤ (i3') ∧ (i3') ≤ 2147483647 ∧ 0 ≤ ((o19.2.1)) ∧ ((o19.2.1)) ≤ t_waysAhead)) ∧ (20 - ((i4' + (1 : Int)))).toNat < (20 - i4').toNat from ⟨Or.inr (⟨rfl, (by first | assumption | omega), (by first | assumption | omega), (by first | assumption | omega), (by first | assumption | omega), (by first | assumption | omega), (by first | assumption | omega), (by first | assumption | omega), (by first | assumption | omega), (by first | assumption | omega)⟩), by omega⟩)
              · have dc17 := q16_0 (bnf c17)
                exact Go_i (show ((true) = true → True) ∧ ((true) = false → 0 ≤ ((o19.2.1)) ∧ ((o19.2.1)) ≤ t_waysAhead) from ⟨(by intro h; first | exact True.intro | omega | (exact absurd h (by decide))), (by intro h; first | exact True.intro | omega | (exact absurd h (by decide)))⟩)
          · exact Go_i (show (((70 : Nat) = 0 ∧ 0 ≤ (i1') ∧ (i1') ≤ 7 ∧ (i1') = i1 ∧ 0 ≤ (t_waysAhead') ∧ (t_waysAhead') ≤ t_waysAhead) ∨ ((70 : Nat) = 70 ∧ 0 ≤ (i1') ∧ (i1') < 7 ∧ (i1') = i1 ∧ 0 ≤ ((i4' + (1 : Int))) ∧ ((i4' + (1 : Int))) ≤ t_count ∧ -2147483648 ≤ (i3') ∧ (i3') ≤ 2147483647 ∧ 0 ≤ (t_waysAhead') ∧ (t_waysAhead') ≤ t_waysAhead)) ∧ (20 - ((i4' + (1 : Int)))).toNat < (20 - i4').toNat from ⟨Or.inr (⟨rfl, (by first | assumption | omega), (by first | assumption | omega), (by first | assumption | omega), (by first | assumption | omega), (by first | assumption | omega), (by first | assumption | omega), (by first | assumption | omega), (by first | assumption | omega), (by first | assumption | omega)⟩), by omega⟩)
    · exact (show ((0 : Nat) = 0 ∧ 0 ≤ i1 ∧ i1 ≤ 7 ∧ i1 = i1 ∧ 0 ≤ t_waysAhead ∧ t_waysAhead ≤ t_waysAhead) ∨ ((0 : Nat) = 70 ∧ 0 ≤ i1 ∧ i1 < 7 ∧ i1 = i1 ∧ 0 ≤ 0 ∧ 0 ≤ t_count ∧ -2147483648 ≤ 0 ∧ 0 ≤ 2147483647 ∧ 0 ≤ t_waysAhead ∧ t_waysAhead ≤ t_waysAhead) from Or.inl (⟨rfl, (by first | assumption | omega), (by first | assumption | omega), (by first | assumption | omega), (by first | assumption | omega), (by first | assumption | omega)⟩))
    · show 100 < jfuel
      unfold jfuel
      omega
set_option maxRecDepth 20000 in
theorem ok_X9_onWay (mk : Nat) (t_count : Int) (t_polygon : Nat) (t_from : Int) (t_length : Int) (t_waysAhead : Int) (t_cornersOf : Nat) (t_chosen : Nat) (n1 : Nat) (i2 : Int) (i3 : Int) (i4 : Int) (i5 : Int) (p0 : ¬ zno mk n1) (p1 : 0 ≤ t_count) (p2 : t_count ≤ 7) (p3 : 0 ≤ i2) (p4 : i2 < (n1 : Int)) (p5 : 0 ≤ i3) (p6 : i3 < (n1 : Int)) (p7 : 0 ≤ i4) (p8 : i4 ≤ 2147483647) (p9 : -2147483648 ≤ i5) (p10 : i5 ≤ 2147483647) : Go (fun o => -2147483648 ≤ (o.1) ∧ (o.1) ≤ 2147483647 ∧ (o.2.1) = n1) (zf_X9_onWay mk t_count t_polygon t_from t_length t_waysAhead t_cornersOf t_chosen n1 i2 i3 i4 i5) := by
  unfold zf_X9_onWay
  have grn1 := zno_rng p0
  have g7n1 := rpg7 (n := n1) (by omega) (by omega)
  have g8n1 := rpg8 (n := n1) (by omega) (by omega)
  refine Go_chk (by assumption) ?_
  refine Go_bindP (ok_X5_ahead n1 i2 i3 (by first | assumption | omega) (by first | assumption | omega) (by first | assumption | omega) (by first | assumption | omega) (by first | assumption | omega) (by first | assumption | omega)) (fun o2 q1 => ?_)
  obtain ⟨q1_0, q1_1⟩ := q1
  refine Go_chk (by unfold zout; omega) ?_
  refine Go_ite (fun c2 => ?_) (fun c2 => ?_)
  · exact Go_i (show -2147483648 ≤ ((-1 : Int)) ∧ ((-1 : Int)) ≤ 2147483647 ∧ (n1) = n1 from ⟨(by first | assumption | omega), (by first | assumption | omega), (by first | assumption | omega)⟩)
  · refine Go_chk (by unfold zout; omega) ?_
    refine Go_ite (fun c3 => ?_) (fun c3 => ?_)
    · exact Go_i (show -2147483648 ≤ ((-1 : Int)) ∧ ((-1 : Int)) ≤ 2147483647 ∧ (n1) = n1 from ⟨(by first | assumption | omega), (by first | assumption | omega), (by first | assumption | omega)⟩)
    · refine Go_ite (fun c4 => ?_) (fun c4 => ?_)
      · refine Go_bindP (ok_X9_choose 10 mk t_count n1 i2 (o2 - (1 : Int)) i4 t_cornersOf t_chosen (0 : Int) (0 : Int) (by first | assumption | omega) (by first | assumption | omega) (by first | assumption | omega) (by first | assumption | omega) (by first | assumption | omega) (by first | assumption | omega) (by first | assumption | omega) (by first | assumption | omega) (by first | assumption | omega) (by first | assumption | omega) (by first | assumption | omega) (by first | assumption | omega)) (fun o5 q5 => ?_)
        obtain ⟨q5_0, q5_1⟩ := q5
        refine Go_ite (fun c6 => ?_) (fun c6 => ?_)
        · have dc6 := q5_1 c6
          exact Go_i (show -2147483648 ≤ ((-2 : Int)) ∧ ((-2 : Int)) ≤ 2147483647 ∧ (n1) = n1 from ⟨(by first | assumption | omega), (by first | assumption | omega), (by first | assumption | omega)⟩)
        · have dc6 := q5_0 (bnf c6)
          refine Go_chk (by omega) ?_
          have a7 := rget (o5.2.2) (Int.toNat i5)
          exact Go_i (show -2147483648 ≤ ((zget (o5.2.2) (Int.toNat i5))) ∧ ((zget (o5.2.2) (Int.toNat i5))) ≤ 2147483647 ∧ (n1) = n1 from ⟨(by first | assumption | omega), (by first | assumption | omega), (by first | assumption | omega)⟩)
      · exact Go_i (show -2147483648 ≤ ((-1 : Int)) ∧ ((-1 : Int)) ≤ 2147483647 ∧ (n1) = n1 from ⟨(by first | assumption | omega), (by first | assumption | omega), (by first | assumption | omega)⟩)
set_option maxRecDepth 20000 in
theorem ok_X3_size (t_size : Int)  : Go (fun o => (o) = t_size) (zf_X3_size t_size) := by
  unfold zf_X3_size
  exact Go_i (show (t_size) = t_size from (by first | assumption | omega))
set_option maxRecDepth 20000 in
theorem ok_X3_gather (mk : Nat) (t_size : Int) (t_numbers : Nat) (q2_size : Int) (q2_rights : Int) (q2_seenStep : Nat) (q2_seenFrom : Nat) (q2_seenTo : Nat) (q2_seenValue : Nat) (q2_rightStep : Nat) (q2_rightOf : Nat) (q2_rightValue : Nat) (q2_knownValue : Nat) (n1 : Nat) (i3 : Int) (p0 : ¬ zno mk n1) (p1 : 0 ≤ q2_size) (p2 : q2_size ≤ 20) (p3 : 0 ≤ q2_rights) (p4 : q2_rights ≤ 20) (p5 : (∀ k : Nat, (k : Int) < q2_size → 0 ≤ zget q2_seenFrom k ∧ zget q2_seenFrom k < (n1 : Int))) (p6 : (∀ k : Nat, (k : Int) < q2_size → 0 ≤ zget q2_seenTo k ∧ zget q2_seenTo k < (n1 : Int))) (p7 : -2147483648 ≤ i3) (p8 : i3 ≤ 2147483647) : Go (fun o => 0 ≤ (o.1) ∧ (o.1) ≤ 429 ∧ (∀ k : Nat, (k : Int) < (o.1) → 0 ≤ zget (o.2.1) k ∧ zget (o.2.1) k < pg8 n1)) (zf_X3_gather mk t_size t_numbers q2_size q2_rights q2_seenStep q2_seenFrom q2_seenTo q2_seenValue q2_rightStep q2_rightOf q2_rightValue q2_knownValue n1 i3) := by
  unfold zf_X3_gather
  have grn1 := zno_rng p0
  have g7n1 := rpg7 (n := n1) (by omega) (by omega)
  have g8n1 := rpg8 (n := n1) (by omega) (by omega)
  refine jok (fun (s : zS_X3_gather) => match s with | (lab, i3', i4', t_size', t_numbers', q2_knownValue') => (lab = 0 ∧ -2147483648 ≤ i3' ∧ i3' ≤ 2147483647) ∨ (lab = 13 ∧ 0 ≤ i4' ∧ i4' ≤ pg8 n1 ∧ 0 ≤ t_size' ∧ t_size' ≤ i4' ∧ (∀ k : Nat, (k : Int) < t_size' → 0 ≤ zget t_numbers' k ∧ zget t_numbers' k < pg8 n1))) (fun (s : zS_X3_gather) => match s with | (lab, i3', i4', t_size', t_numbers', q2_knownValue') => if lab = 0 then 1000 else if lab = 13 then (440 - i4').toNat else 0) (fun (o : zO_X3_gather) => 0 ≤ (o.1) ∧ (o.1) ≤ 429 ∧ (∀ k : Nat, (k : Int) < (o.1) → 0 ≤ zget (o.2.1) k ∧ zget (o.2.1) k < pg8 n1)) ?_ _ ?_ ?_
  · intro s hI
    obtain ⟨lab, i3', i4', t_size', t_numbers', q2_knownValue'⟩ := s
    have hI : (lab = 0 ∧ -2147483648 ≤ i3' ∧ i3' ≤ 2147483647) ∨ (lab = 13 ∧ 0 ≤ i4' ∧ i4' ≤ pg8 n1 ∧ 0 ≤ t_size' ∧ t_size' ≤ i4' ∧ (∀ k : Nat, (k : Int) < t_size' → 0 ≤ zget t_numbers' k ∧ zget t_numbers' k < pg8 n1)) := hI
    rcases hI with ⟨rfl, v0_0, v0_1⟩ | ⟨rfl, v13_0, v13_1, v13_2, v13_3, v13_4⟩
    · show Go _ (zg_X3_gather_0 mk q2_size q2_rights q2_seenStep q2_seenFrom q2_seenTo q2_seenValue q2_rightStep q2_rightOf q2_rightValue n1 i3' i4' t_size' t_numbers' q2_knownValue')
      unfold zg_X3_gather_0
      refine Go_bindP (ok_X7_recall q2_size q2_rights q2_seenStep q2_seenValue q2_rightStep q2_rightOf q2_rightValue q2_knownValue' i3' (by first | assumption | omega) (by first | assumption | omega) (by first | assumption | omega) (by first | assumption | omega) (by first | assumption | omega) (by first | assumption | omega)) (fun o1 q1 => ?_)
      exact Go_i (show (((13 : Nat) = 0 ∧ -2147483648 ≤ (i3') ∧ (i3') ≤ 2147483647) ∨ ((13 : Nat) = 13 ∧ 0 ≤ ((0 : Int)) ∧ ((0 : Int)) ≤ pg8 n1 ∧ 0 ≤ ((0 : Int)) ∧ ((0 : Int)) ≤ ((0 : Int)) ∧ (∀ k : Nat, (k : Int) < ((0 : Int)) → 0 ≤ zget (t_numbers') k ∧ zget (t_numbers') k < pg8 n1))) ∧ (440 - ((0 : Int))).toNat < 1000 from ⟨Or.inr (⟨rfl, (by first | assumption | omega), (by first | assumption | omega), (by first | assumption | omega), (by first | assumption | omega), (by first | assumption | (intro k hk; omega) | exact all_push (by assumption) (by omega) (by omega) (by omega) (by omega) (by omega))⟩), by omega⟩)
    · show Go _ (zg_X3_gather_13 mk q2_size q2_rights q2_seenStep q2_seenFrom q2_seenTo q2_seenValue q2_rightStep q2_rightOf q2_rightValue n1 i3' i4' t_size' t_numbers' q2_knownValue')
      unfold zg_X3_gather_13
      refine Go_chk (by assumption) ?_
      refine Go_bindP (ok_X5_cutCount n1 (by first | assumption | omega) (by first | assumption | omega)) (fun o3 q2 => ?_)
      obtain ⟨q2_0, q2_1, q2_2⟩ := q2
      refine Go_chk (by unfold zout; omega) ?_
      refine Go_chk (by unfold zout; omega) ?_
      refine Go_ite (fun c3 => ?_) (fun c3 => ?_)
      · exact Go_i (show 0 ≤ (t_size') ∧ (t_size') ≤ 429 ∧ (∀ k : Nat, (k : Int) < (t_size') → 0 ≤ zget (t_numbers') k ∧ zget (t_numbers') k < pg8 n1) from ⟨(by first | assumption | omega), (by first | assumption | omega), (by first | assumption | (intro k hk; omega) | exact all_push (by assumption) (by omega) (by omega) (by omega) (by omega) (by omega))⟩)
      · refine Go_ite (fun c4 => ?_) (fun c4 => ?_)
        · exact Go_i (show 0 ≤ (t_size') ∧ (t_size') ≤ 429 ∧ (∀ k : Nat, (k : Int) < (t_size') → 0 ≤ zget (t_numbers') k ∧ zget (t_numbers') k < pg8 n1) from ⟨(by first | assumption | omega), (by first | assumption | omega), (by first | assumption | (intro k hk; omega) | exact all_push (by assumption) (by omega) (by omega) (by omega) (by omega) (by omega))⟩)
        · refine Go_bindP (ok_X5_cutAt n1 i4' (by first | assumption | omega) (by first | assumption | omega) (by first | assumption | omega) (by first | assumption | omega)) (fun o6 q5 => ?_)
          obtain ⟨q5_0, q5_1, q5_2⟩ := q5
          refine Go_bindP (ok_X7_agreeWith mk q2_size q2_seenFrom q2_seenTo q2_knownValue' n1 o6 (by first | assumption | omega) (by first | assumption | omega) (by first | assumption | omega) (q5_2 ⟨by omega, by omega⟩) (by first | assumption | exact all_w (by assumption) (by omega) | (refine all_setw ?_ (Int.le_refl _) ?_ ?_ (by omega) (by omega) <;> first | assumption | omega) | exact all_setw (by assumption) (by omega) (by omega) (by omega) (by omega) (by omega)) (by first | assumption | exact all_w (by assumption) (by omega) | (refine all_setw ?_ (Int.le_refl _) ?_ ?_ (by omega) (by omega) <;> first | assumption | omega) | exact all_setw (by assumption) (by omega) (by omega) (by omega) (by omega) (by omega))) (fun o7 q6 => ?_)
          refine Go_ite (fun c7 => ?_) (fun c7 => ?_)
          · exact Go_i (show (((13 : Nat) = 0 ∧ -2147483648 ≤ (0) ∧ (0) ≤ 2147483647) ∨ ((13 : Nat) = 13 ∧ 0 ≤ ((i4' + (1 : Int))) ∧ ((i4' + (1 : Int))) ≤ pg8 n1 ∧ 0 ≤ (t_size') ∧ (t_size') ≤ ((i4' + (1 : Int))) ∧ (∀ k : Nat, (k : Int) < (t_size') → 0 ≤ zget (t_numbers') k ∧ zget (t_numbers') k < pg8 n1))) ∧ (440 - ((i4' + (1 : Int)))).toNat < (440 - i4').toNat from ⟨Or.inr (⟨rfl, (by first | assumption | omega), (by first | assumption | omega), (by first | assumption | omega), (by first | assumption | omega), (by first | assumption | (intro k hk; omega) | exact all_push (by assumption) (by omega) (by omega) (by omega) (by omega) (by omega))⟩), by omega⟩)
          · refine Go_chk (by omega) ?_
            exact Go_i (show (((13 : Nat) = 0 ∧ -2147483648 ≤ (0) ∧ (0) ≤ 2147483647) ∨ ((13 : Nat) = 13 ∧ 0 ≤ ((i4' + (1 : Int))) ∧ ((i4' + (1 : Int))) ≤ pg8 n1 ∧ 0 ≤ ((t_size' + (1 : Int))) ∧ ((t_size' + (1 : Int))) ≤ ((i4' + (1 : Int))) ∧ (∀ k : Nat, (k : Int) < ((t_size' + (1 : Int))) → 0 ≤ zget ((zset t_numbers' (Int.toNat t_size') i4')) k ∧ zget ((zset t_numbers' (Int.toNat t_size') i4')) k < pg8 n1))) ∧ (440 - ((i4' + (1 : Int)))).toNat < (440 - i4').toNat from ⟨Or.inr (⟨rfl, (by first | assumption | omega), (by first | assumption | omega), (by first | assumption | omega), (by first | assumption | omega), (by first | assumption | (intro k hk; omega) | exact all_push (by assumption) (by omega) (by omega) (by omega) (by omega) (by omega))⟩), by omega⟩)
  · exact (show ((0 : Nat) = 0 ∧ -2147483648 ≤ i3 ∧ i3 ≤ 2147483647) ∨ ((0 : Nat) = 13 ∧ 0 ≤ 0 ∧ 0 ≤ pg8 n1 ∧ 0 ≤ t_size ∧ t_size ≤ 0 ∧ (∀ k : Nat, (k : Int) < t_size → 0 ≤ zget t_numbers k ∧ zget t_numbers k < pg8 n1)) from Or.inl (⟨rfl, (by first | assumption | omega), (by first | assumption | omega)⟩))
  · show 1000 < jfuel
    unfold jfuel
    omega
set_option maxRecDepth 20000 in
theorem ok_X3_leastNumber (t_size : Int) (t_numbers : Nat) (p0 : 0 ≤ t_size) (p1 : t_size ≤ 429) : Go (fun o => -2147483648 ≤ (o) ∧ (o) ≤ 2147483647) (zf_X3_leastNumber t_size t_numbers) := by
  unfold zf_X3_leastNumber
  refine Go_chk (by unfold zout; omega) ?_
  refine Go_ite (fun c1 => ?_) (fun c1 => ?_)
  · exact Go_i (show -2147483648 ≤ ((-1 : Int)) ∧ ((-1 : Int)) ≤ 2147483647 from ⟨(by first | assumption | omega), (by first | assumption | omega)⟩)
  · have a2 := rget t_numbers (Int.toNat (0 : Int))
    exact Go_i (show -2147483648 ≤ ((zget t_numbers (Int.toNat (0 : Int)))) ∧ ((zget t_numbers (Int.toNat (0 : Int)))) ≤ 2147483647 from ⟨(by first | assumption | omega), (by first | assumption | omega)⟩)
set_option maxRecDepth 20000 in
theorem ok_X3_howSure (mk : Nat) (t_size : Int) (t_numbers : Nat) (n1 : Nat) (i2 : Int) (p0 : ¬ zno mk n1) (p1 : 0 ≤ t_size) (p2 : t_size ≤ 429) (p3 : (∀ k : Nat, (k : Int) < t_size → 0 ≤ zget t_numbers k ∧ zget t_numbers k < pg8 n1)) (p4 : -2147483648 ≤ i2) (p5 : i2 ≤ 2147483647) : Go (fun o => -1 ≤ (o) ∧ (o) ≤ 2) (zf_X3_howSure mk t_size t_numbers n1 i2) := by
  unfold zf_X3_howSure
  have grn1 := zno_rng p0
  have g7n1 := rpg7 (n := n1) (by omega) (by omega)
  have g8n1 := rpg8 (n := n1) (by omega) (by omega)
  refine jok (fun (s : zS_X3_howSure) => match s with | (lab, i2', i3', i4') => (lab = 0 ∧ -2147483648 ≤ i2' ∧ i2' ≤ 2147483647) ∨ (lab = 5 ∧ -2147483648 ≤ i2' ∧ i2' ≤ 2147483647 ∧ 0 ≤ i3' ∧ i3' ≤ i4' ∧ i4' ≤ t_size)) (fun (s : zS_X3_howSure) => match s with | (lab, i2', i3', i4') => if lab = 0 then 1000 else if lab = 5 then (440 - i4').toNat else 0) (fun (o : zO_X3_howSure) => -1 ≤ (o) ∧ (o) ≤ 2) ?_ _ ?_ ?_
  · intro s hI
    obtain ⟨lab, i2', i3', i4'⟩ := s
    have hI : (lab = 0 ∧ -2147483648 ≤ i2' ∧ i2' ≤ 2147483647) ∨ (lab = 5 ∧ -2147483648 ≤ i2' ∧ i2' ≤ 2147483647 ∧ 0 ≤ i3' ∧ i3' ≤ i4' ∧ i4' ≤ t_size) := hI
    rcases hI with ⟨rfl, v0_0, v0_1⟩ | ⟨rfl, v5_0, v5_1, v5_2, v5_3, v5_4⟩
    · show Go _ (zg_X3_howSure_0 mk t_size t_numbers n1 i2' i3' i4')
      unfold zg_X3_howSure_0
      exact Go_i (show (((5 : Nat) = 0 ∧ -2147483648 ≤ (i2') ∧ (i2') ≤ 2147483647) ∨ ((5 : Nat) = 5 ∧ -2147483648 ≤ (i2') ∧ (i2') ≤ 2147483647 ∧ 0 ≤ ((0 : Int)) ∧ ((0 : Int)) ≤ ((0 : Int)) ∧ ((0 : Int)) ≤ t_size)) ∧ (440 - ((0 : Int))).toNat < 1000 from ⟨Or.inr (⟨rfl, (by first | assumption | omega), (by first | assumption | omega), (by first | assumption | omega), (by first | assumption | omega), (by first | assumption | omega)⟩), by omega⟩)
    · show Go _ (zg_X3_howSure_5 mk t_size t_numbers n1 i2' i3' i4')
      unfold zg_X3_howSure_5
      refine Go_chk (by unfold zout; omega) ?_
      refine Go_chk (by unfold zout; omega) ?_
      refine Go_ite (fun c1 => ?_) (fun c1 => ?_)
      · refine Go_ite (fun c2 => ?_) (fun c2 => ?_)
        · exact Go_i (show -1 ≤ ((-1 : Int)) ∧ ((-1 : Int)) ≤ 2 from ⟨(by first | assumption | omega), (by first | assumption | omega)⟩)
        · refine Go_chk (by unfold zout; omega) ?_
          refine Go_ite (fun c3 => ?_) (fun c3 => ?_)
          · exact Go_i (show -1 ≤ ((1 : Int)) ∧ ((1 : Int)) ≤ 2 from ⟨(by first | assumption | omega), (by first | assumption | omega)⟩)
          · refine Go_ite (fun c4 => ?_) (fun c4 => ?_)
            · exact Go_i (show -1 ≤ ((0 : Int)) ∧ ((0 : Int)) ≤ 2 from ⟨(by first | assumption | omega), (by first | assumption | omega)⟩)
            · exact Go_i (show -1 ≤ ((2 : Int)) ∧ ((2 : Int)) ≤ 2 from ⟨(by first | assumption | omega), (by first | assumption | omega)⟩)
      · refine Go_chk (by omega) ?_
        refine Go_chk (by assumption) ?_
        have a5 := rget t_numbers (Int.toNat i4')
        refine Go_bindP (ok_X5_cutAt n1 (zget t_numbers (Int.toNat i4')) (by first | assumption | omega) (by first | assumption | omega) (by first | assumption | omega) (by first | assumption | omega)) (fun o9 q6 => ?_)
        obtain ⟨q6_0, q6_1, q6_2⟩ := q6
        refine Go_bindP (ok_X5_has n1 o9 i2' (by first | assumption | omega) (by first | assumption | omega) (by first | assumption | omega) (by first | assumption | omega)) (fun o10 q7 => ?_)
        obtain ⟨q7_0, q7_1⟩ := q7
        refine Go_ite (fun c8 => ?_) (fun c8 => ?_)
        · have dc8 := q7_1 c8
          exact Go_i (show (((5 : Nat) = 0 ∧ -2147483648 ≤ (i2') ∧ (i2') ≤ 2147483647) ∨ ((5 : Nat) = 5 ∧ -2147483648 ≤ (i2') ∧ (i2') ≤ 2147483647 ∧ 0 ≤ (i3') ∧ (i3') ≤ ((i4' + (1 : Int))) ∧ ((i4' + (1 : Int))) ≤ t_size)) ∧ (440 - ((i4' + (1 : Int)))).toNat < (440 - i4').toNat from ⟨Or.inr (⟨rfl, (by first | assumption | omega), (by first | assumption | omega), (by first | assumption | omega), (by first | assumption | omega), (by first | assumption | omega)⟩), by omega⟩)
        · have dc8 := q7_0 (bnf c8)
          exact Go_i (show (((5 : Nat) = 0 ∧ -2147483648 ≤ (i2') ∧ (i2') ≤ 2147483647) ∨ ((5 : Nat) = 5 ∧ -2147483648 ≤ (i2') ∧ (i2') ≤ 2147483647 ∧ 0 ≤ ((i3' + (1 : Int))) ∧ ((i3' + (1 : Int))) ≤ ((i4' + (1 : Int))) ∧ ((i4' + (1 : Int))) ≤ t_size)) ∧ (440 - ((i4' + (1 : Int)))).toNat < (440 - i4').toNat from ⟨Or.inr (⟨rfl, (by first | assumption | omega), (by first | assumption | omega), (by first | assumption | omega), (by first | assumption | omega), (by first | assumption | omega)⟩), by omega⟩)
  · exact (show ((0 : Nat) = 0 ∧ -2147483648 ≤ i2 ∧ i2 ≤ 2147483647) ∨ ((0 : Nat) = 5 ∧ -2147483648 ≤ i2 ∧ i2 ≤ 2147483647 ∧ 0 ≤ 0 ∧ 0 ≤ 0 ∧ 0 ≤ t_size) from Or.inl (⟨rfl, (by first | assumption | omega), (by first | assumption | omega)⟩))
  · show 1000 < jfuel
    unfold jfuel
    omega
set_option maxRecDepth 20000 in
theorem ok_X3_mostAgreeing (mk : Nat) (t_size : Int) (t_numbers : Nat) (t_tally : Nat) (n1 : Nat) (i2 : Int) (i3 : Int) (p0 : ¬ zno mk n1) (p1 : 0 ≤ t_size) (p2 : t_size ≤ 429) (p3 : (∀ k : Nat, (k : Int) < t_size → 0 ≤ zget t_numbers k ∧ zget t_numbers k < pg8 n1)) (p4 : 0 ≤ i2) (p5 : i2 < (n1 : Int)) (p6 : 0 ≤ i3) (p7 : i3 < (n1 : Int)) : Go (fun o => -2147483648 ≤ (o.1) ∧ (o.1) ≤ 2147483647) (zf_X3_mostAgreeing mk t_size t_numbers t_tally n1 i2 i3) := by
  unfold zf_X3_mostAgreeing
  have grn1 := zno_rng p0
  have g7n1 := rpg7 (n := n1) (by omega) (by omega)
  have g8n1 := rpg8 (n := n1) (by omega) (by omega)
  refine jok (fun (s : zS_X3_mostAgreeing) => match s with | (lab, i2', i3', i4', i5', t_tally') => (lab = 0 ∧ 0 ≤ i2' ∧ i2' < (n1 : Int) ∧ 0 ≤ i3' ∧ i3' < (n1 : Int)) ∨ (lab = 3 ∧ 0 ≤ i2' ∧ i2' < (n1 : Int) ∧ 0 ≤ i3' ∧ i3' < (n1 : Int) ∧ 0 ≤ i4' ∧ i4' ≤ 22) ∨ (lab = 30 ∧ 0 ≤ i2' ∧ i2' < (n1 : Int) ∧ 0 ≤ i3' ∧ i3' < (n1 : Int) ∧ -2147483648 ≤ i4' ∧ i4' ≤ 2147483647 ∧ 0 ≤ i5' ∧ i5' ≤ t_size)) (fun (s : zS_X3_mostAgreeing) => match s with | (lab, i2', i3', i4', i5', t_tally') => if lab = 0 then 1000 else if lab = 3 then (900 - i4').toNat else if lab = 30 then (440 - i5').toNat else 0) (fun (o : zO_X3_mostAgreeing) => -2147483648 ≤ (o.1) ∧ (o.1) ≤ 2147483647) ?_ _ ?_ ?_
  · intro s hI
    obtain ⟨lab, i2', i3', i4', i5', t_tally'⟩ := s
    have hI : (lab = 0 ∧ 0 ≤ i2' ∧ i2' < (n1 : Int) ∧ 0 ≤ i3' ∧ i3' < (n1 : Int)) ∨ (lab = 3 ∧ 0 ≤ i2' ∧ i2' < (n1 : Int) ∧ 0 ≤ i3' ∧ i3' < (n1 : Int) ∧ 0 ≤ i4' ∧ i4' ≤ 22) ∨ (lab = 30 ∧ 0 ≤ i2' ∧ i2' < (n1 : Int) ∧ 0 ≤ i3' ∧ i3' < (n1 : Int) ∧ -2147483648 ≤ i4' ∧ i4' ≤ 2147483647 ∧ 0 ≤ i5' ∧ i5' ≤ t_size) := hI
    rcases hI with ⟨rfl, v0_0, v0_1, v0_2, v0_3⟩ | ⟨rfl, v3_0, v3_1, v3_2, v3_3, v3_4, v3_5⟩ | ⟨rfl, v30_0, v30_1, v30_2, v30_3, v30_4, v30_5, v30_6, v30_7⟩
    · show Go _ (zg_X3_mostAgreeing_0 mk t_size t_numbers n1 i2' i3' i4' i5' t_tally')
      unfold zg_X3_mostAgreeing_0
      exact Go_i (show (((3 : Nat) = 0 ∧ 0 ≤ (i2') ∧ (i2') < (n1 : Int) ∧ 0 ≤ (i3') ∧ (i3') < (n1 : Int)) ∨ ((3 : Nat) = 3 ∧ 0 ≤ (i2') ∧ (i2') < (n1 : Int) ∧ 0 ≤ (i3') ∧ (i3') < (n1 : Int) ∧ 0 ≤ ((0 : Int)) ∧ ((0 : Int)) ≤ 22) ∨ ((3 : Nat) = 30 ∧ 0 ≤ (i2') ∧ (i2') < (n1 : Int) ∧ 0 ≤ (i3') ∧ (i3') < (n1 : Int) ∧ -2147483648 ≤ ((0 : Int)) ∧ ((0 : Int)) ≤ 2147483647 ∧ 0 ≤ (0) ∧ (0) ≤ t_size)) ∧ (900 - ((0 : Int))).toNat < 1000 from ⟨Or.inr (Or.inl (⟨rfl, (by first | assumption | omega), (by first | assumption | omega), (by first | assumption | omega), (by first | assumption | omega), (by first | assumption | omega), (by first | assumption | omega)⟩)), by omega⟩)
    · show Go _ (zg_X3_mostAgreeing_3 mk t_size t_numbers n1 i2' i3' i4' i5' t_tally')
      unfold zg_X3_mostAgreeing_3
      refine Go_chk (by unfold zout; omega) ?_
      refine Go_ite (fun c1 => ?_) (fun c1 => ?_)
      · exact Go_i (show (((30 : Nat) = 0 ∧ 0 ≤ (i2') ∧ (i2') < (n1 : Int) ∧ 0 ≤ (i3') ∧ (i3') < (n1 : Int)) ∨ ((30 : Nat) = 3 ∧ 0 ≤ (i2') ∧ (i2') < (n1 : Int) ∧ 0 ≤ (i3') ∧ (i3') < (n1 : Int) ∧ 0 ≤ ((0 : Int)) ∧ ((0 : Int)) ≤ 22) ∨ ((30 : Nat) = 30 ∧ 0 ≤ (i2') ∧ (i2') < (n1 : Int) ∧ 0 ≤ (i3') ∧ (i3') < (n1 : Int) ∧ -2147483648 ≤ ((0 : Int)) ∧ ((0 : Int)) ≤ 2147483647 ∧ 0 ≤ ((0 : Int)) ∧ ((0 : Int)) ≤ t_size)) ∧ (440 - ((0 : Int))).toNat < (900 - i4').toNat from ⟨Or.inr (Or.inr (⟨rfl, (by first | assumption | omega), (by first | assumption | omega), (by first | assumption | omega), (by first | assumption | omega), (by first | assumption | omega), (by first | assumption | omega), (by first | assumption | omega), (by first | assumption | omega)⟩)), by omega⟩)
      · refine Go_chk (by omega) ?_
        exact Go_i (show (((3 : Nat) = 0 ∧ 0 ≤ (i2') ∧ (i2') < (n1 : Int) ∧ 0 ≤ (i3') ∧ (i3') < (n1 : Int)) ∨ ((3 : Nat) = 3 ∧ 0 ≤ (i2') ∧ (i2') < (n1 : Int) ∧ 0 ≤ (i3') ∧ (i3') < (n1 : Int) ∧ 0 ≤ ((i4' + (1 : Int))) ∧ ((i4' + (1 : Int))) ≤ 22) ∨ ((3 : Nat) = 30 ∧ 0 ≤ (i2') ∧ (i2') < (n1 : Int) ∧ 0 ≤ (i3') ∧ (i3') < (n1 : Int) ∧ -2147483648 ≤ ((i4' + (1 : Int))) ∧ ((i4' + (1 : Int))) ≤ 2147483647 ∧ 0 ≤ (0) ∧ (0) ≤ t_size)) ∧ (900 - ((i4' + (1 : Int)))).toNat < (900 - i4').toNat from ⟨Or.inr (Or.inl (⟨rfl, (by first | assumption | omega), (by first | assumption | omega), (by first | assumption | omega), (by first | assumption | omega), (by first | assumption | omega), (by first | assumption | omega)⟩)), by omega⟩)
    · show Go _ (zg_X3_mostAgreeing_30 mk t_size t_numbers n1 i2' i3' i4' i5' t_tally')
      unfold zg_X3_mostAgreeing_30
      refine Go_chk (by unfold zout; omega) ?_
      refine Go_chk (by unfold zout; omega) ?_
      refine Go_ite (fun c2 => ?_) (fun c2 => ?_)
      · exact Go_i (show -2147483648 ≤ (i4') ∧ (i4') ≤ 2147483647 from ⟨(by first | assumption | omega), (by first | assumption | omega)⟩)
      · refine Go_chk (by omega) ?_
        refine Go_chk (by assumption) ?_
        have a3 := rget t_numbers (Int.toNat i5')
        have a4 := p3 (Int.toNat i5') (by omega)
        refine Go_bindP (ok_X5_cutAt n1 (zget t_numbers (Int.toNat i5')) (by first | assumption | omega) (by first | assumption | omega) (by first | assumption | omega) (by first | assumption | omega)) (fun o8 q5 => ?_)
        obtain ⟨q5_0, q5_1, q5_2⟩ := q5
        refine Go_bindP (ok_X5_entryOf n1 o8 i2' i3' (by first | assumption | omega) (by first | assumption | omega) (q5_2 ⟨by omega, by omega⟩) (by first | assumption | omega) (by first | assumption | omega) (by first | assumption | omega) (by first | assumption | omega)) (fun o9 q6 => ?_)
        obtain ⟨q6_0, q6_1⟩ := q6
        refine Go_chk (by unfold zout; omega) ?_
        refine Go_ite (fun c7 => ?_) (fun c7 => ?_)
        · exact Go_i (show (((30 : Nat) = 0 ∧ 0 ≤ (i2') ∧ (i2') < (n1 : Int) ∧ 0 ≤ (i3') ∧ (i3') < (n1 : Int)) ∨ ((30 : Nat) = 3 ∧ 0 ≤ (i2') ∧ (i2') < (n1 : Int) ∧ 0 ≤ (i3') ∧ (i3') < (n1 : Int) ∧ 0 ≤ (i4') ∧ (i4') ≤ 22) ∨ ((30 : Nat) = 30 ∧ 0 ≤ (i2') ∧ (i2') < (n1 : Int) ∧ 0 ≤ (i3') ∧ (i3') < (n1 : Int) ∧ -2147483648 ≤ (i4') ∧ (i4') ≤ 2147483647 ∧ 0 ≤ ((i5' + (1 : Int))) ∧ ((i5' + (1 : Int))) ≤ t_size)) ∧ (440 - ((i5' + (1 : Int)))).toNat < (440 - i5').toNat from ⟨Or.inr (Or.inr (⟨rfl, (by first | assumption | omega), (by first | assumption | omega), (by first | assumption | omega), (by first | assumption | omega), (by first | assumption | omega), (by first | assumption | omega), (by first | assumption | omega), (by first | assumption | omega)⟩)), by omega⟩)
        · refine Go_ite (fun c8 => ?_) (fun c8 => ?_)
          · exact Go_i (show (((30 : Nat) = 0 ∧ 0 ≤ (i2') ∧ (i2') < (n1 : Int) ∧ 0 ≤ (i3') ∧ (i3') < (n1 : Int)) ∨ ((30 : Nat) = 3 ∧ 0 ≤ (i2') ∧ (i2') < (n1 : Int) ∧ 0 ≤ (i3') ∧ (i3') < (n1 : Int) ∧ 0 ≤ (i4') ∧ (i4') ≤ 22) ∨ ((30 : Nat) = 30 ∧ 0 ≤ (i2') ∧ (i2') < (n1 : Int) ∧ 0 ≤ (i3') ∧ (i3') < (n1 : Int) ∧ -2147483648 ≤ (i4') ∧ (i4') ≤ 2147483647 ∧ 0 ≤ ((i5' + (1 : Int))) ∧ ((i5' + (1 : Int))) ≤ t_size)) ∧ (440 - ((i5' + (1 : Int)))).toNat < (440 - i5').toNat from ⟨Or.inr (Or.inr (⟨rfl, (by first | assumption | omega), (by first | assumption | omega), (by first | assumption | omega), (by first | assumption | omega), (by first | assumption | omega), (by first | assumption | omega), (by first | assumption | omega), (by first | assumption | omega)⟩)), by omega⟩)
          · refine Go_chk (by omega) ?_
            refine Go_chk (by unfold zout; omega) ?_
            have a9 := rget t_tally' (Int.toNat o9)
            have a10 := rget (zset t_tally' (Int.toNat o9) ((zget t_tally' (Int.toNat o9)) + (1 : Int))) (Int.toNat o9)
            have a11 := rmax i4' (zget (zset t_tally' (Int.toNat o9) ((zget t_tally' (Int.toNat o9)) + (1 : Int))) (Int.toNat o9))
            exact Go_i (show (((30 : Nat) = 0 ∧ 0 ≤ (i2') ∧ (i2') < (n1 : Int) ∧ 0 ≤ (i3') ∧ (i3') < (n1 : Int)) ∨ ((30 : Nat) = 3 ∧ 0 ≤ (i2') ∧ (i2') < (n1 : Int) ∧ 0 ≤ (i3') ∧ (i3') < (n1 : Int) ∧ 0 ≤ ((zmax i4' (zget (zset t_tally' (Int.toNat o9) ((zget t_tally' (Int.toNat o9)) + (1 : Int))) (Int.toNat o9)))) ∧ ((zmax i4' (zget (zset t_tally' (Int.toNat o9) ((zget t_tally' (Int.toNat o9)) + (1 : Int))) (Int.toNat o9)))) ≤ 22) ∨ ((30 : Nat) = 30 ∧ 0 ≤ (i2') ∧ (i2') < (n1 : Int) ∧ 0 ≤ (i3') ∧ (i3') < (n1 : Int) ∧ -2147483648 ≤ ((zmax i4' (zget (zset t_tally' (Int.toNat o9) ((zget t_tally' (Int.toNat o9)) + (1 : Int))) (Int.toNat o9)))) ∧ ((zmax i4' (zget (zset t_tally' (Int.toNat o9) ((zget t_tally' (Int.toNat o9)) + (1 : Int))) (Int.toNat o9)))) ≤ 2147483647 ∧ 0 ≤ ((i5' + (1 : Int))) ∧ ((i5' + (1 : Int))) ≤ t_size)) ∧ (440 - ((i5' + (1 : Int)))).toNat < (440 - i5').toNat from ⟨Or.inr (Or.inr (⟨rfl, (by first | assumption | omega), (by first | assumption | omega), (by first | assumption | omega), (by first | assumption | omega), (by first | assumption | omega), (by first | assumption | omega), (by first | assumption | omega), (by first | assumption | omega)⟩)), by omega⟩)
  · exact (show ((0 : Nat) = 0 ∧ 0 ≤ i2 ∧ i2 < (n1 : Int) ∧ 0 ≤ i3 ∧ i3 < (n1 : Int)) ∨ ((0 : Nat) = 3 ∧ 0 ≤ i2 ∧ i2 < (n1 : Int) ∧ 0 ≤ i3 ∧ i3 < (n1 : Int) ∧ 0 ≤ 0 ∧ 0 ≤ 22) ∨ ((0 : Nat) = 30 ∧ 0 ≤ i2 ∧ i2 < (n1 : Int) ∧ 0 ≤ i3 ∧ i3 < (n1 : Int) ∧ -2147483648 ≤ 0 ∧ 0 ≤ 2147483647 ∧ 0 ≤ 0 ∧ 0 ≤ t_size) from Or.inl (⟨rfl, (by first | assumption | omega), (by first | assumption | omega), (by first | assumption | omega), (by first | assumption | omega)⟩))
  · show 1000 < jfuel
    unfold jfuel
    omega
set_option maxRecDepth 20000 in
theorem ok_X3_bestQuestion (mk : Nat) (t_size : Int) (t_numbers : Nat) (t_tally : Nat) (n1 : Nat) (p0 : ¬ zno mk n1) (p1 : 0 ≤ t_size) (p2 : t_size ≤ 429) (p3 : (∀ k : Nat, (k : Int) < t_size → 0 ≤ zget t_numbers k ∧ zget t_numbers k < pg8 n1)) : Go (fun o => -2147483648 ≤ (o.1) ∧ (o.1) ≤ 2147483647) (zf_X3_bestQuestion mk t_size t_numbers t_tally n1) := by
  unfold zf_X3_bestQuestion
  have grn1 := zno_rng p0
  have g7n1 := rpg7 (n := n1) (by omega) (by omega)
  have g8n1 := rpg8 (n := n1) (by omega) (by omega)
  refine jok (fun (s : zS_X3_bestQuestion) => match s with | (lab, i2', i3', i4', t_tally') => (lab = 0) ∨ (lab = 10 ∧ -2147483648 ≤ i2' ∧ i2' ≤ 2147483647 ∧ -2147483648 ≤ i3' ∧ i3' ≤ 2147483647 ∧ 0 ≤ i4' ∧ i4' ≤ pg7 n1)) (fun (s : zS_X3_bestQuestion) => match s with | (lab, i2', i3', i4', t_tally') => if lab = 0 then 1000 else if lab = 10 then (440 - i4').toNat else 0) (fun (o : zO_X3_bestQuestion) => -2147483648 ≤ (o.1) ∧ (o.1) ≤ 2147483647) ?_ _ ?_ ?_
  · intro s hI
    obtain ⟨lab, i2', i3', i4', t_tally'⟩ := s
    have hI : (lab = 0) ∨ (lab = 10 ∧ -2147483648 ≤ i2' ∧ i2' ≤ 2147483647 ∧ -2147483648 ≤ i3' ∧ i3' ≤ 2147483647 ∧ 0 ≤ i4' ∧ i4' ≤ pg7 n1) := hI
    rcases hI with rfl | ⟨rfl, v10_0, v10_1, v10_2, v10_3, v10_4, v10_5⟩
    · show Go _ (zg_X3_bestQuestion_0 mk t_size t_numbers n1 i2' i3' i4' t_tally')
      unfold zg_X3_bestQuestion_0
      exact Go_i (show (((10 : Nat) = 0) ∨ ((10 : Nat) = 10 ∧ -2147483648 ≤ ((-1 : Int)) ∧ ((-1 : Int)) ≤ 2147483647 ∧ -2147483648 ≤ (t_size) ∧ (t_size) ≤ 2147483647 ∧ 0 ≤ ((0 : Int)) ∧ ((0 : Int)) ≤ pg7 n1)) ∧ (440 - ((0 : Int))).toNat < 1000 from ⟨Or.inr (⟨rfl, (by first | assumption | omega), (by first | assumption | omega), (by first | assumption | omega), (by first | assumption | omega), (by first | assumption | omega), (by first | assumption | omega)⟩), by omega⟩)
    · show Go _ (zg_X3_bestQuestion_10 mk t_size t_numbers n1 i2' i3' i4' t_tally')
      unfold zg_X3_bestQuestion_10
      refine Go_chk (by assumption) ?_
      refine Go_bindP (ok_X5_lineCount n1 (by first | assumption | omega) (by first | assumption | omega)) (fun o2 q1 => ?_)
      obtain ⟨q1_0, q1_1, q1_2⟩ := q1
      refine Go_chk (by unfold zout; omega) ?_
      refine Go_chk (by unfold zout; omega) ?_
      refine Go_ite (fun c2 => ?_) (fun c2 => ?_)
      · exact Go_i (show -2147483648 ≤ (i2') ∧ (i2') ≤ 2147483647 from ⟨(by first | assumption | omega), (by first | assumption | omega)⟩)
      · refine Go_bindP (ok_X5_lesserOf n1 i4' (by first | assumption | omega) (by first | assumption | omega) (by first | assumption | omega) (by first | assumption | omega)) (fun o5 q3 => ?_)
        obtain ⟨q3_0, q3_1, q3_2⟩ := q3
        refine Go_bindP (ok_X5_greaterOf n1 i4' (by first | assumption | omega) (by first | assumption | omega) (by first | assumption | omega) (by first | assumption | omega)) (fun o6 q4 => ?_)
        obtain ⟨q4_0, q4_1, q4_2⟩ := q4
        refine Go_bindP (ok_X3_mostAgreeing mk t_size t_numbers t_tally' n1 o5 o6 (by first | assumption | omega) (by first | assumption | omega) (by first | assumption | omega) (by first | assumption | exact all_w (by assumption) (by omega) | (refine all_setw ?_ (Int.le_refl _) ?_ ?_ (by omega) (by omega) <;> first | assumption | omega) | exact all_setw (by assumption) (by omega) (by omega) (by omega) (by omega) (by omega)) (by first | assumption | omega) (by first | assumption | omega) (by first | assumption | omega) (by first | assumption | omega)) (fun o7 q5 => ?_)
        obtain ⟨q5_0, q5_1⟩ := q5
        refine Go_chk (by unfold zout; omega) ?_
        refine Go_chk (by unfold zout; omega) ?_
        refine Go_ite (fun c6 => ?_) (fun c6 => ?_)
        · exact Go_i (show (((10 : Nat) = 0) ∨ ((10 : Nat) = 10 ∧ -2147483648 ≤ (i2') ∧ (i2') ≤ 2147483647 ∧ -2147483648 ≤ (i3') ∧ (i3') ≤ 2147483647 ∧ 0 ≤ ((i4' + (1 : Int))) ∧ ((i4' + (1 : Int))) ≤ pg7 n1)) ∧ (440 - ((i4' + (1 : Int)))).toNat < (440 - i4').toNat from ⟨Or.inr (⟨rfl, (by first | assumption | omega), (by first | assumption | omega), (by first | assumption | omega), (by first | assumption | omega), (by first | assumption | omega), (by first | assumption | omega)⟩), by omega⟩)
        · refine Go_bindP (ok_X5_pairOf n1 i4' (by first | assumption | omega) (by first | assumption | omega) (by first | assumption | omega) (by first | assumption | omega)) (fun o10 q7 => ?_)
          obtain ⟨q7_0, q7_1⟩ := q7
          exact Go_i (show (((10 : Nat) = 0) ∨ ((10 : Nat) = 10 ∧ -2147483648 ≤ (o10) ∧ (o10) ≤ 2147483647 ∧ -2147483648 ≤ ((o7.1)) ∧ ((o7.1)) ≤ 2147483647 ∧ 0 ≤ ((i4' + (1 : Int))) ∧ ((i4' + (1 : Int))) ≤ pg7 n1)) ∧ (440 - ((i4' + (1 : Int)))).toNat < (440 - i4').toNat from ⟨Or.inr (⟨rfl, (by first | assumption | omega), (by first | assumption | omega), (by first | assumption | omega), (by first | assumption | omega), (by first | assumption | omega), (by first | assumption | omega)⟩), by omega⟩)
  · exact (show ((0 : Nat) = 0) ∨ ((0 : Nat) = 10 ∧ -2147483648 ≤ 0 ∧ 0 ≤ 2147483647 ∧ -2147483648 ≤ 0 ∧ 0 ≤ 2147483647 ∧ 0 ≤ 0 ∧ 0 ≤ pg7 n1) from Or.inl (rfl))
  · show 1000 < jfuel
    unfold jfuel
    omega
