set_option maxRecDepth 20000 in
theorem ok2_X8_readWord (t_length : Int) (t_next : Int) (t_kind : Int) (t_place : Int) (t_bytes : Nat) (p0 : 0 ≤ t_length) (p1 : t_length ≤ 300) (p2 : 0 ≤ t_next) (p3 : t_next ≤ t_length) (p4 : 0 ≤ t_place) (p5 : t_place ≤ t_next) (p6 : t_next < t_length) (p7 : 97 ≤ zget t_bytes (Int.toNat t_next)) (p8 : zget t_bytes (Int.toNat t_next) ≤ 122) : Go (fun o => t_next < (o.1) ∧ (o.1) ≤ t_length ∧ ((o.2) = 1 ∨ (o.2) = 4)) (zf_X8_readWord t_length t_next t_kind t_place t_bytes) := by
  unfold zf_X8_readWord
  refine jok (fun (s : zS_X8_readWord) => match s with | (lab, t_next', t_kind') => (lab = 0 ∧ t_next ≤ t_next' ∧ t_next' ≤ t_length)) (fun (s : zS_X8_readWord) => match s with | (lab, t_next', t_kind') => if lab = 0 then (t_length - t_next').toNat else 0) (fun (o : zO_X8_readWord) => t_next < (o.1) ∧ (o.1) ≤ t_length ∧ ((o.2) = 1 ∨ (o.2) = 4)) ?_ _ ?_ ?_
  · intro s hI
    obtain ⟨lab, t_next', t_kind'⟩ := s
    have hI : (lab = 0 ∧ t_next ≤ t_next' ∧ t_next' ≤ t_length) := hI
    rcases hI with ⟨rfl, v0_0, v0_1⟩
    · show Go _ (zg_X8_readWord_0 t_length t_place t_bytes t_next' t_kind')
      unfold zg_X8_readWord_0
      have e0 : t_next' = t_next → zget t_bytes (Int.toNat t_next') = zget t_bytes (Int.toNat t_next) := fun h => by rw [h]
      refine Go_chk (by unfold zout; omega) ?_
      refine Go_chk (by unfold zout; omega) ?_
      refine Go_ite (fun c1 => ?_) (fun c1 => ?_)
      · refine Go_chk (by unfold zout; omega) ?_
        refine Go_ite (fun c2 => ?_) (fun c2 => ?_)
        · exact Go_i (show t_next < (t_next') ∧ (t_next') ≤ t_length ∧ (((4 : Int)) = 1 ∨ ((4 : Int)) = 4) from ⟨(by first | assumption | omega), (by first | assumption | omega), (by first | assumption | omega)⟩)
        · exact Go_i (show t_next < (t_next') ∧ (t_next') ≤ t_length ∧ (((1 : Int)) = 1 ∨ ((1 : Int)) = 4) from ⟨(by first | assumption | omega), (by first | assumption | omega), (by first | assumption | omega)⟩)
      · refine Go_chk (by omega) ?_
        have a3 := rget t_bytes (Int.toNat t_next')
        refine Go_bindP (ok_X8_isLetter (zget t_bytes (Int.toNat t_next')) (by first | assumption | omega) (by first | assumption | omega)) (fun o6 q4 => ?_)
        obtain ⟨q4_0, q4_1⟩ := q4
        refine Go_ite (fun c5 => ?_) (fun c5 => ?_)
        · have dc5 := q4_1 c5
          refine Go_chk (by unfold zout; omega) ?_
          refine Go_ite (fun c6 => ?_) (fun c6 => ?_)
          · exact Go_i (show t_next < (t_next') ∧ (t_next') ≤ t_length ∧ (((4 : Int)) = 1 ∨ ((4 : Int)) = 4) from ⟨(by first | assumption | omega), (by first | assumption | omega), (by first | assumption | omega)⟩)
          · exact Go_i (show t_next < (t_next') ∧ (t_next') ≤ t_length ∧ (((1 : Int)) = 1 ∨ ((1 : Int)) = 4) from ⟨(by first | assumption | omega), (by first | assumption | omega), (by first | assumption | omega)⟩)
        · have dc5 := q4_0 (bnf c5)
          exact Go_i (show (((0 : Nat) = 0 ∧ t_next ≤ ((t_next' + (1 : Int))) ∧ ((t_next' + (1 : Int))) ≤ t_length)) ∧ (t_length - ((t_next' + (1 : Int)))).toNat < (t_length - t_next').toNat from ⟨⟨rfl, (by first | assumption | omega), (by first | assumption | omega)⟩, by omega⟩)
  · exact (show ((0 : Nat) = 0 ∧ t_next ≤ t_next ∧ t_next ≤ t_length) from ⟨rfl, (by first | assumption | omega), (by first | assumption | omega)⟩)
  · show (t_length - t_next).toNat < jfuel
    unfold jfuel
    omega
set_option maxRecDepth 20000 in
theorem ok2_X8_readNumber (t_length : Int) (t_next : Int) (t_kind : Int) (t_place : Int) (t_value : Int) (t_bytes : Nat) (p0 : 0 ≤ t_length) (p1 : t_length ≤ 300) (p2 : 0 ≤ t_next) (p3 : t_next ≤ t_length) (p4 : 0 ≤ t_place) (p5 : t_place ≤ t_next) (p6 : t_next = t_place) (p7 : t_value = 0) (p8 : t_next < t_length) (p9 : 48 ≤ zget t_bytes (Int.toNat t_next)) (p10 : zget t_bytes (Int.toNat t_next) ≤ 57) : Go (fun o => t_next < (o.1) ∧ (o.1) ≤ t_length ∧ ((o.2.1) = 2 ∨ (o.2.1) = 4) ∧ ((o.2.1) = 2 → 0 ≤ (o.2.2) ∧ (o.2.2) ≤ 999)) (zf_X8_readNumber t_length t_next t_kind t_place t_value t_bytes) := by
  unfold zf_X8_readNumber
  refine jok (fun (s : zS_X8_readNumber) => match s with | (lab, t_next', t_kind', t_value') => (lab = 0 ∧ t_next ≤ t_next' ∧ t_next' ≤ t_length ∧ (t_next' = t_place → t_value' = 0) ∧ (t_next' ≤ t_place + 1 → 0 ≤ t_value' ∧ t_value' ≤ 9) ∧ (t_next' ≤ t_place + 2 → 0 ≤ t_value' ∧ t_value' ≤ 99) ∧ (t_next' ≤ t_place + 3 → 0 ≤ t_value' ∧ t_value' ≤ 999))) (fun (s : zS_X8_readNumber) => match s with | (lab, t_next', t_kind', t_value') => if lab = 0 then (t_length - t_next').toNat else 0) (fun (o : zO_X8_readNumber) => t_next < (o.1) ∧ (o.1) ≤ t_length ∧ ((o.2.1) = 2 ∨ (o.2.1) = 4) ∧ ((o.2.1) = 2 → 0 ≤ (o.2.2) ∧ (o.2.2) ≤ 999)) ?_ _ ?_ ?_
  · intro s hI
    obtain ⟨lab, t_next', t_kind', t_value'⟩ := s
    have hI : (lab = 0 ∧ t_next ≤ t_next' ∧ t_next' ≤ t_length ∧ (t_next' = t_place → t_value' = 0) ∧ (t_next' ≤ t_place + 1 → 0 ≤ t_value' ∧ t_value' ≤ 9) ∧ (t_next' ≤ t_place + 2 → 0 ≤ t_value' ∧ t_value' ≤ 99) ∧ (t_next' ≤ t_place + 3 → 0 ≤ t_value' ∧ t_value' ≤ 999)) := hI
    rcases hI with ⟨rfl, v0_0, v0_1, v0_2, v0_3, v0_4, v0_5⟩
    · show Go _ (zg_X8_readNumber_0 t_length t_place t_bytes t_next' t_kind' t_value')
      unfold zg_X8_readNumber_0
      have e0 : t_next' = t_next → zget t_bytes (Int.toNat t_next') = zget t_bytes (Int.toNat t_next) := fun h => by rw [h]
      refine Go_chk (by unfold zout; omega) ?_
      refine Go_chk (by unfold zout; omega) ?_
      refine Go_ite (fun c1 => ?_) (fun c1 => ?_)
      · refine Go_chk (by unfold zout; omega) ?_
        refine Go_ite (fun c2 => ?_) (fun c2 => ?_)
        · exact Go_i (show t_next < (t_next') ∧ (t_next') ≤ t_length ∧ (((4 : Int)) = 2 ∨ ((4 : Int)) = 4) ∧ (((4 : Int)) = 2 → 0 ≤ (t_value') ∧ (t_value') ≤ 999) from ⟨(by first | assumption | omega), (by first | assumption | omega), (by first | assumption | omega), (by intro h; first | exact True.intro | omega | (exact absurd h (by decide)))⟩)
        · exact Go_i (show t_next < (t_next') ∧ (t_next') ≤ t_length ∧ (((2 : Int)) = 2 ∨ ((2 : Int)) = 4) ∧ (((2 : Int)) = 2 → 0 ≤ (t_value') ∧ (t_value') ≤ 999) from ⟨(by first | assumption | omega), (by first | assumption | omega), (by first | assumption | omega), (by intro h; first | exact True.intro | omega | (exact absurd h (by decide)))⟩)
      · refine Go_chk (by omega) ?_
        have a3 := rget t_bytes (Int.toNat t_next')
        refine Go_bindP (ok_X8_isDigit (zget t_bytes (Int.toNat t_next')) (by first | assumption | omega) (by first | assumption | omega)) (fun o6 q4 => ?_)
        obtain ⟨q4_0, q4_1⟩ := q4
        refine Go_ite (fun c5 => ?_) (fun c5 => ?_)
        · have dc5 := q4_1 c5
          refine Go_chk (by unfold zout; omega) ?_
          refine Go_ite (fun c6 => ?_) (fun c6 => ?_)
          · exact Go_i (show t_next < (t_next') ∧ (t_next') ≤ t_length ∧ (((4 : Int)) = 2 ∨ ((4 : Int)) = 4) ∧ (((4 : Int)) = 2 → 0 ≤ (t_value') ∧ (t_value') ≤ 999) from ⟨(by first | assumption | omega), (by first | assumption | omega), (by first | assumption | omega), (by intro h; first | exact True.intro | omega | (exact absurd h (by decide)))⟩)
          · exact Go_i (show t_next < (t_next') ∧ (t_next') ≤ t_length ∧ (((2 : Int)) = 2 ∨ ((2 : Int)) = 4) ∧ (((2 : Int)) = 2 → 0 ≤ (t_value') ∧ (t_value') ≤ 999) from ⟨(by first | assumption | omega), (by first | assumption | omega), (by first | assumption | omega), (by intro h; first | exact True.intro | omega | (exact absurd h (by decide)))⟩)
        · have dc5 := q4_0 (bnf c5)
          exact Go_i (show (((0 : Nat) = 0 ∧ t_next ≤ ((t_next' + (1 : Int))) ∧ ((t_next' + (1 : Int))) ≤ t_length ∧ (((t_next' + (1 : Int))) = t_place → ((((t_value' * (10 : Int)) + (zget t_bytes (Int.toNat t_next'))) - (48 : Int))) = 0) ∧ (((t_next' + (1 : Int))) ≤ t_place + 1 → 0 ≤ ((((t_value' * (10 : Int)) + (zget t_bytes (Int.toNat t_next'))) - (48 : Int))) ∧ ((((t_value' * (10 : Int)) + (zget t_bytes (Int.toNat t_next'))) - (48 : Int))) ≤ 9) ∧ (((t_next' + (1 : Int))) ≤ t_place + 2 → 0 ≤ ((((t_value' * (10 : Int)) + (zget t_bytes (Int.toNat t_next'))) - (48 : Int))) ∧ ((((t_value' * (10 : Int)) + (zget t_bytes (Int.toNat t_next'))) - (48 : Int))) ≤ 99) ∧ (((t_next' + (1 : Int))) ≤ t_place + 3 → 0 ≤ ((((t_value' * (10 : Int)) + (zget t_bytes (Int.toNat t_next'))) - (48 : Int))) ∧ ((((t_value' * (10 : Int)) + (zget t_bytes (Int.toNat t_next'))) - (48 : Int))) ≤ 999))) ∧ (t_length - ((t_next' + (1 : Int)))).toNat < (t_length - t_next').toNat from ⟨⟨rfl, (by first | assumption | omega), (by first | assumption | omega), (by intro h; first | exact True.intro | omega | (exact absurd h (by decide))), (by intro h; first | exact True.intro | omega | (exact absurd h (by decide))), (by intro h; first | exact True.intro | omega | (exact absurd h (by decide))), (by intro h; first | exact True.intro | omega | (exact absurd h (by decide)))⟩, by omega⟩)
  · exact (show ((0 : Nat) = 0 ∧ t_next ≤ t_next ∧ t_next ≤ t_length ∧ (t_next = t_place → t_value = 0) ∧ (t_next ≤ t_place + 1 → 0 ≤ t_value ∧ t_value ≤ 9) ∧ (t_next ≤ t_place + 2 → 0 ≤ t_value ∧ t_value ≤ 99) ∧ (t_next ≤ t_place + 3 → 0 ≤ t_value ∧ t_value ≤ 999)) from ⟨rfl, (by first | assumption | omega), (by first | assumption | omega), (by intro h; first | exact True.intro | omega | (exact absurd h (by decide))), (by intro h; first | exact True.intro | omega | (exact absurd h (by decide))), (by intro h; first | exact True.intro | omega | (exact absurd h (by decide))), (by intro h; first | exact True.intro | omega | (exact absurd h (by decide)))⟩)
  · show (t_length - t_next).toNat < jfuel
    unfold jfuel
    omega
set_option maxRecDepth 20000 in
theorem ok2_X8_readToken (t_length : Int) (t_next : Int) (t_kind : Int) (t_place : Int) (t_value : Int) (t_bytes : Nat) (p0 : 0 ≤ t_length) (p1 : t_length ≤ 300) (p2 : 0 ≤ t_next) (p3 : t_next ≤ t_length) : Go (fun o => t_next ≤ (o.1) ∧ (o.1) ≤ t_length ∧ 0 ≤ (o.2.2.1) ∧ (o.2.2.1) ≤ (o.1) ∧ 0 ≤ (o.2.1) ∧ (o.2.1) ≤ 4 ∧ ((o.2.1) = 2 → 0 ≤ (o.2.2.2) ∧ (o.2.2.2) ≤ 999) ∧ (¬ (o.2.1) = 0 → t_next < (o.1))) (zf_X8_readToken t_length t_next t_kind t_place t_value t_bytes) := by
  unfold zf_X8_readToken
  refine jok (fun (s : zS_X8_readToken) => match s with | (lab, t_next', t_kind', t_place', t_value') => (lab = 0 ∧ t_next ≤ t_next' ∧ t_next' ≤ t_length) ∨ (lab = 39 ∧ t_next ≤ t_next' ∧ t_next' ≤ t_length)) (fun (s : zS_X8_readToken) => match s with | (lab, t_next', t_kind', t_place', t_value') => if lab = 0 then (t_length - t_next').toNat + 1 else if lab = 39 then 0 else 0) (fun (o : zO_X8_readToken) => t_next ≤ (o.1) ∧ (o.1) ≤ t_length ∧ 0 ≤ (o.2.2.1) ∧ (o.2.2.1) ≤ (o.1) ∧ 0 ≤ (o.2.1) ∧ (o.2.1) ≤ 4 ∧ ((o.2.1) = 2 → 0 ≤ (o.2.2.2) ∧ (o.2.2.2) ≤ 999) ∧ (¬ (o.2.1) = 0 → t_next < (o.1))) ?_ _ ?_ ?_
  · intro s hI
    obtain ⟨lab, t_next', t_kind', t_place', t_value'⟩ := s
    have hI : (lab = 0 ∧ t_next ≤ t_next' ∧ t_next' ≤ t_length) ∨ (lab = 39 ∧ t_next ≤ t_next' ∧ t_next' ≤ t_length) := hI
    rcases hI with ⟨rfl, v0_0, v0_1⟩ | ⟨rfl, v39_0, v39_1⟩
    · show Go _ (zg_X8_readToken_0 t_length t_bytes t_next' t_kind' t_place' t_value')
      unfold zg_X8_readToken_0
      refine Go_chk (by unfold zout; omega) ?_
      refine Go_chk (by unfold zout; omega) ?_
      refine Go_ite (fun c1 => ?_) (fun c1 => ?_)
      · exact Go_i (show (((39 : Nat) = 0 ∧ t_next ≤ (t_next') ∧ (t_next') ≤ t_length) ∨ ((39 : Nat) = 39 ∧ t_next ≤ (t_next') ∧ (t_next') ≤ t_length)) ∧ 0 < (t_length - t_next').toNat + 1 from ⟨Or.inr (⟨rfl, (by first | assumption | omega), (by first | assumption | omega)⟩), by omega⟩)
      · refine Go_chk (by omega) ?_
        have a2 := rget t_bytes (Int.toNat t_next')
        refine Go_bindP (ok_X8_isBlank (zget t_bytes (Int.toNat t_next')) (by first | assumption | omega) (by first | assumption | omega)) (fun o4 q3 => ?_)
        obtain ⟨q3_0, q3_1⟩ := q3
        refine Go_ite (fun c4 => ?_) (fun c4 => ?_)
        · have dc4 := q3_1 c4
          exact Go_i (show (((39 : Nat) = 0 ∧ t_next ≤ (t_next') ∧ (t_next') ≤ t_length) ∨ ((39 : Nat) = 39 ∧ t_next ≤ (t_next') ∧ (t_next') ≤ t_length)) ∧ 0 < (t_length - t_next').toNat + 1 from ⟨Or.inr (⟨rfl, (by first | assumption | omega), (by first | assumption | omega)⟩), by omega⟩)
        · have dc4 := q3_0 (bnf c4)
          exact Go_i (show (((0 : Nat) = 0 ∧ t_next ≤ ((t_next' + (1 : Int))) ∧ ((t_next' + (1 : Int))) ≤ t_length) ∨ ((0 : Nat) = 39 ∧ t_next ≤ ((t_next' + (1 : Int))) ∧ ((t_next' + (1 : Int))) ≤ t_length)) ∧ (t_length - ((t_next' + (1 : Int)))).toNat + 1 < (t_length - t_next').toNat + 1 from ⟨Or.inl (⟨rfl, (by first | assumption | omega), (by first | assumption | omega)⟩), by omega⟩)
    · show Go _ (zg_X8_readToken_39 t_length t_bytes t_next' t_kind' t_place' t_value')
      unfold zg_X8_readToken_39
      refine Go_chk (by unfold zout; omega) ?_
      refine Go_chk (by unfold zout; omega) ?_
      refine Go_ite (fun c5 => ?_) (fun c5 => ?_)
      · refine Go_chk (by omega) ?_
        have a6 := rget t_bytes (Int.toNat t_next')
        refine Go_bindP (ok_X8_isLetter (zget t_bytes (Int.toNat t_next')) (by first | assumption | omega) (by first | assumption | omega)) (fun o10 q7 => ?_)
        obtain ⟨q7_0, q7_1⟩ := q7
        refine Go_ite (fun c8 => ?_) (fun c8 => ?_)
        · have dc8 := q7_1 c8
          refine Go_bindP (ok_X8_isDigit (zget t_bytes (Int.toNat t_next')) (by first | assumption | omega) (by first | assumption | omega)) (fun o11 q9 => ?_)
          obtain ⟨q9_0, q9_1⟩ := q9
          refine Go_ite (fun c10 => ?_) (fun c10 => ?_)
          · have dc10 := q9_1 c10
            refine Go_ite (fun c11 => ?_) (fun c11 => ?_)
            · exact Go_i (show t_next ≤ ((t_next' + (1 : Int))) ∧ ((t_next' + (1 : Int))) ≤ t_length ∧ 0 ≤ (t_next') ∧ (t_next') ≤ ((t_next' + (1 : Int))) ∧ 0 ≤ ((3 : Int)) ∧ ((3 : Int)) ≤ 4 ∧ (((3 : Int)) = 2 → 0 ≤ ((0 : Int)) ∧ ((0 : Int)) ≤ 999) ∧ (¬ ((3 : Int)) = 0 → t_next < ((t_next' + (1 : Int)))) from ⟨(by first | assumption | omega), (by first | assumption | omega), (by first | assumption | omega), (by first | assumption | omega), (by first | assumption | omega), (by first | assumption | omega), (by intro h; first | exact True.intro | omega | (exact absurd h (by decide))), (by intro h; first | exact True.intro | omega | (exact absurd h (by decide)))⟩)
            · exact Go_i (show t_next ≤ ((t_next' + (1 : Int))) ∧ ((t_next' + (1 : Int))) ≤ t_length ∧ 0 ≤ (t_next') ∧ (t_next') ≤ ((t_next' + (1 : Int))) ∧ 0 ≤ ((4 : Int)) ∧ ((4 : Int)) ≤ 4 ∧ (((4 : Int)) = 2 → 0 ≤ ((0 : Int)) ∧ ((0 : Int)) ≤ 999) ∧ (¬ ((4 : Int)) = 0 → t_next < ((t_next' + (1 : Int)))) from ⟨(by first | assumption | omega), (by first | assumption | omega), (by first | assumption | omega), (by first | assumption | omega), (by first | assumption | omega), (by first | assumption | omega), (by intro h; first | exact True.intro | omega | (exact absurd h (by decide))), (by intro h; first | exact True.intro | omega | (exact absurd h (by decide)))⟩)
          · have dc10 := q9_0 (bnf c10)
            refine Go_bindP (ok2_X8_readNumber t_length t_next' t_kind' t_next' (0 : Int) t_bytes (by first | assumption | omega) (by first | assumption | omega) (by first | assumption | omega) (by first | assumption | omega) (by first | assumption | omega) (by first | assumption | omega) (by first | assumption | omega) (by first | assumption | omega) (by first | assumption | omega) (by first | assumption | omega) (by first | assumption | omega)) (fun o13 q12 => ?_)
            obtain ⟨q12_0, q12_1, q12_2, q12_3⟩ := q12
            exact Go_i (show t_next ≤ ((o13.1)) ∧ ((o13.1)) ≤ t_length ∧ 0 ≤ (t_next') ∧ (t_next') ≤ ((o13.1)) ∧ 0 ≤ ((o13.2.1)) ∧ ((o13.2.1)) ≤ 4 ∧ (((o13.2.1)) = 2 → 0 ≤ ((o13.2.2)) ∧ ((o13.2.2)) ≤ 999) ∧ (¬ ((o13.2.1)) = 0 → t_next < ((o13.1))) from ⟨(by first | assumption | omega), (by first | assumption | omega), (by first | assumption | omega), (by first | assumption | omega), (by first | assumption | omega), (by first | assumption | omega), (by intro h; first | exact True.intro | omega | (exact absurd h (by decide))), (by intro h; first | exact True.intro | omega | (exact absurd h (by decide)))⟩)
        · have dc8 := q7_0 (bnf c8)
          refine Go_bindP (ok2_X8_readWord t_length t_next' t_kind' t_next' t_bytes (by first | assumption | omega) (by first | assumption | omega) (by first | assumption | omega) (by first | assumption | omega) (by first | assumption | omega) (by first | assumption | omega) (by first | assumption | omega) (by first | assumption | omega) (by first | assumption | omega)) (fun o15 q13 => ?_)
          obtain ⟨q13_0, q13_1, q13_2⟩ := q13
          exact Go_i (show t_next ≤ ((o15.1)) ∧ ((o15.1)) ≤ t_length ∧ 0 ≤ (t_next') ∧ (t_next') ≤ ((o15.1)) ∧ 0 ≤ ((o15.2)) ∧ ((o15.2)) ≤ 4 ∧ (((o15.2)) = 2 → 0 ≤ ((0 : Int)) ∧ ((0 : Int)) ≤ 999) ∧ (¬ ((o15.2)) = 0 → t_next < ((o15.1))) from ⟨(by first | assumption | omega), (by first | assumption | omega), (by first | assumption | omega), (by first | assumption | omega), (by first | assumption | omega), (by first | assumption | omega), (by intro h; first | exact True.intro | omega | (exact absurd h (by decide))), (by intro h; first | exact True.intro | omega | (exact absurd h (by decide)))⟩)
      · exact Go_i (show t_next ≤ (t_next') ∧ (t_next') ≤ t_length ∧ 0 ≤ (t_next') ∧ (t_next') ≤ (t_next') ∧ 0 ≤ ((0 : Int)) ∧ ((0 : Int)) ≤ 4 ∧ (((0 : Int)) = 2 → 0 ≤ ((0 : Int)) ∧ ((0 : Int)) ≤ 999) ∧ (¬ ((0 : Int)) = 0 → t_next < (t_next')) from ⟨(by first | assumption | omega), (by first | assumption | omega), (by first | assumption | omega), (by first | assumption | omega), (by first | assumption | omega), (by first | assumption | omega), (by intro h; first | exact True.intro | omega | (exact absurd h (by decide))), (by intro h; first | exact True.intro | omega | (exact absurd h (by decide)))⟩)
  · exact (show ((0 : Nat) = 0 ∧ t_next ≤ t_next ∧ t_next ≤ t_length) ∨ ((0 : Nat) = 39 ∧ t_next ≤ t_next ∧ t_next ≤ t_length) from Or.inl (⟨rfl, (by first | assumption | omega), (by first | assumption | omega)⟩))
  · show (t_length - t_next).toNat + 1 < jfuel
    unfold jfuel
    omega
