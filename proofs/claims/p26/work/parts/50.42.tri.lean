set_option maxRecDepth 20000 in
set_option maxHeartbeats 1000000 in
theorem ok_tri (m : Nat) (h4 : 4 ≤ m) (h9 : m ≤ 9) (c : Int) (hc : tcn m c 729 ≤ 8) (ln lf : Int) (nf ls gr tA tB tC : Nat) (hf1 : -2147483648 ≤ lf) (hf2 : lf ≤ 2147483647) (h : lf = (m : Int) → LT m ln nf ls gr) : Go (fun o => o.2.1 = (m : Int) ∧ LT m o.1 o.2.2.1 o.2.2.2.1 o.2.2.2.2.1 ∧ TAI m c o.2.2.2.2.2.1 o.2.2.2.2.2.2.1 o.2.2.2.2.2.2.2 729) (zf_X11_trianglesOf ln lf nf ls gr tA tB tC (m : Int) c) := by
  unfold zf_X11_trianglesOf
  refine jok (fun (s : zS_X11_trianglesOf) => match s with | (lab, i1', c', i4', i5', i6', i7', ln', lf', nf', ls', gr', tA', tB', tC') => (lab = 0 ∧ i1' = (m : Int) ∧ c' = c ∧ ln' = ln ∧ lf' = lf ∧ nf' = nf ∧ ls' = ls ∧ gr' = gr) ∨ (lab = 11 ∧ i1' = (m : Int) ∧ c' = c ∧ lf' = (m : Int) ∧ LT m ln' nf' ls' gr' ∧ (0 ≤ i5' ∧ i5' ≤ (m : Int)) ∧ i4' = (tcn m c (81 * i5'.toNat) : Int) ∧ TAI m c tA' tB' tC' (81 * i5'.toNat)) ∨ (lab = 23 ∧ i1' = (m : Int) ∧ c' = c ∧ lf' = (m : Int) ∧ LT m ln' nf' ls' gr' ∧ (0 ≤ i5' ∧ i5' < i6' ∧ i6' ≤ (m : Int)) ∧ i4' = (tcn m c (81 * i5'.toNat + 9 * i6'.toNat) : Int) ∧ TAI m c tA' tB' tC' (81 * i5'.toNat + 9 * i6'.toNat)) ∨ (lab = 35 ∧ i1' = (m : Int) ∧ c' = c ∧ lf' = (m : Int) ∧ LT m ln' nf' ls' gr' ∧ (0 ≤ i5' ∧ i5' < i6' ∧ i6' < i7' ∧ i7' ≤ (m : Int)) ∧ i4' = (tcn m c (81 * i5'.toNat + 9 * i6'.toNat + i7'.toNat) : Int) ∧ TAI m c tA' tB' tC' (81 * i5'.toNat + 9 * i6'.toNat + i7'.toNat))) (fun (s : zS_X11_trianglesOf) => match s with | (lab, i1', c', i4', i5', i6', i7', ln', lf', nf', ls', gr', tA', tB', tC') => if lab = 0 then 100000 else if lab = 11 then (1000 * (20 - i5') + 900).toNat else if lab = 23 then (1000 * (20 - i5') + 30 * (20 - i6') + 25).toNat else if lab = 35 then (1000 * (20 - i5') + 30 * (20 - i6') + 15 - i7').toNat else 0) (fun (o : zO_X11_trianglesOf) => o.2.1 = (m : Int) ∧ LT m o.1 o.2.2.1 o.2.2.2.1 o.2.2.2.2.1 ∧ TAI m c o.2.2.2.2.2.1 o.2.2.2.2.2.2.1 o.2.2.2.2.2.2.2 729) ?_ _ ?_ ?_
  · intro s hI
    obtain ⟨lab, i1', c', i4', i5', i6', i7', ln', lf', nf', ls', gr', tA', tB', tC'⟩ := s
    have hI : (lab = 0 ∧ i1' = (m : Int) ∧ c' = c ∧ ln' = ln ∧ lf' = lf ∧ nf' = nf ∧ ls' = ls ∧ gr' = gr) ∨ (lab = 11 ∧ i1' = (m : Int) ∧ c' = c ∧ lf' = (m : Int) ∧ LT m ln' nf' ls' gr' ∧ (0 ≤ i5' ∧ i5' ≤ (m : Int)) ∧ i4' = (tcn m c (81 * i5'.toNat) : Int) ∧ TAI m c tA' tB' tC' (81 * i5'.toNat)) ∨ (lab = 23 ∧ i1' = (m : Int) ∧ c' = c ∧ lf' = (m : Int) ∧ LT m ln' nf' ls' gr' ∧ (0 ≤ i5' ∧ i5' < i6' ∧ i6' ≤ (m : Int)) ∧ i4' = (tcn m c (81 * i5'.toNat + 9 * i6'.toNat) : Int) ∧ TAI m c tA' tB' tC' (81 * i5'.toNat + 9 * i6'.toNat)) ∨ (lab = 35 ∧ i1' = (m : Int) ∧ c' = c ∧ lf' = (m : Int) ∧ LT m ln' nf' ls' gr' ∧ (0 ≤ i5' ∧ i5' < i6' ∧ i6' < i7' ∧ i7' ≤ (m : Int)) ∧ i4' = (tcn m c (81 * i5'.toNat + 9 * i6'.toNat + i7'.toNat) : Int) ∧ TAI m c tA' tB' tC' (81 * i5'.toNat + 9 * i6'.toNat + i7'.toNat)) := hI
    rcases hI with ⟨rfl, rfl, rfl, rfl, rfl, rfl, rfl, rfl⟩ | ⟨rfl, rfl, rfl, rfl, v1, v2, v3, v4⟩ | ⟨rfl, rfl, rfl, rfl, v1, v2, v3, v4⟩ | ⟨rfl, rfl, rfl, rfl, v1, v2, v3, v4⟩
    · show Go _ (zg_X11_trianglesOf_0 (m : Int) c' i4' i5' i6' i7' ln' lf' nf' ls' gr' tA' tB' tC')
      unfold zg_X11_trianglesOf_0
      refine Go_bindP (ok_linesOf m h4 h9 ln' lf' nf' ls' gr' hf1 hf2 h) (fun o1 q => ?_)
      refine Go_i (show (_ ∨ ((11 : Nat) = 11 ∧ (m : Int) = (m : Int) ∧ c' = c' ∧ o1.2.1 = (m : Int) ∧ LT m o1.1 o1.2.2.1 o1.2.2.2.1 o1.2.2.2.2 ∧ ((0 : Int) ≤ 0 ∧ (0 : Int) ≤ (m : Int)) ∧ (0 : Int) = (tcn m c' (81 * (0 : Int).toNat) : Int) ∧ TAI m c' tA' tB' tC' (81 * (0 : Int).toNat)) ∨ _) ∧ (1000 * (20 - (0 : Int)) + 900).toNat < 100000 from ⟨Or.inr (Or.inl ⟨rfl, rfl, rfl, q.1, q.2, by omega, rfl, fun q hq => absurd hq (by omega)⟩), by omega⟩)
    · show Go _ (zg_X11_trianglesOf_11 (m : Int) c' i4' i5' i6' i7' ln' (m : Int) nf' ls' gr' tA' tB' tC')
      unfold zg_X11_trianglesOf_11
      refine Go_chk (by unfold zout; omega) ?_
      refine Go_chk (by unfold zout; omega) ?_
      refine Go_ite (fun x => ?_) (fun x => ?_)
      · have e : i5'.toNat = m := by omega
        refine Go_i (show (m : Int) = (m : Int) ∧ LT m ln' nf' ls' gr' ∧ TAI m c' tA' tB' tC' 729 from ⟨rfl, v1, ?_⟩)
        have t := TAI_skip v4 (729 - 81 * i5'.toNat) (fun q h1 h2 => goodQ_no (by omega))
        rw [show 81 * i5'.toNat + (729 - 81 * i5'.toNat) = 729 by omega] at t
        exact t
      · have hn : ∀ q, 81 * i5'.toNat ≤ q → q < 81 * i5'.toNat + 9 * (i5' + 1).toNat → goodQ m c' q = false := fun q h1 h2 => goodQ_no (by omega)
        refine Go_i (show (_ ∨ _ ∨ ((23 : Nat) = 23 ∧ (m : Int) = (m : Int) ∧ c' = c' ∧ (m : Int) = (m : Int) ∧ LT m ln' nf' ls' gr' ∧ (0 ≤ i5' ∧ i5' < i5' + 1 ∧ i5' + 1 ≤ (m : Int)) ∧ i4' = (tcn m c' (81 * i5'.toNat + 9 * (i5' + 1).toNat) : Int) ∧ TAI m c' tA' tB' tC' (81 * i5'.toNat + 9 * (i5' + 1).toNat)) ∨ _) ∧ (1000 * (20 - i5') + 30 * (20 - (i5' + 1)) + 25).toNat < (1000 * (20 - i5') + 900).toNat from ⟨Or.inr (Or.inr (Or.inl ⟨rfl, rfl, rfl, rfl, v1, by omega, ?_, TAI_skip v4 _ hn⟩)), by omega⟩)
        rw [tcn_skip _ hn]; exact v3
    · show Go _ (zg_X11_trianglesOf_23 (m : Int) c' i4' i5' i6' i7' ln' (m : Int) nf' ls' gr' tA' tB' tC')
      unfold zg_X11_trianglesOf_23
      refine Go_chk (by unfold zout; omega) ?_
      refine Go_chk (by unfold zout; omega) ?_
      refine Go_ite (fun x => ?_) (fun x => ?_)
      · have e : 81 * (i5' + 1).toNat = 81 * i5'.toNat + 9 * i6'.toNat + (81 - 9 * i6'.toNat) := by omega
        have hn : ∀ q, 81 * i5'.toNat + 9 * i6'.toNat ≤ q → q < 81 * i5'.toNat + 9 * i6'.toNat + (81 - 9 * i6'.toNat) → goodQ m c' q = false := fun q h1 h2 => goodQ_no (by omega)
        refine Go_i (show (_ ∨ ((11 : Nat) = 11 ∧ (m : Int) = (m : Int) ∧ c' = c' ∧ (m : Int) = (m : Int) ∧ LT m ln' nf' ls' gr' ∧ (0 ≤ i5' + 1 ∧ i5' + 1 ≤ (m : Int)) ∧ i4' = (tcn m c' (81 * (i5' + 1).toNat) : Int) ∧ TAI m c' tA' tB' tC' (81 * (i5' + 1).toNat)) ∨ _) ∧ (1000 * (20 - (i5' + 1)) + 900).toNat < (1000 * (20 - i5') + 30 * (20 - i6') + 25).toNat from ⟨Or.inr (Or.inl ⟨rfl, rfl, rfl, rfl, v1, by omega, ?_, ?_⟩), by omega⟩)
        · rw [e, tcn_skip _ hn]; exact v3
        · rw [e]; exact TAI_skip v4 _ hn
      · have hn : ∀ q, 81 * i5'.toNat + 9 * i6'.toNat ≤ q → q < 81 * i5'.toNat + 9 * i6'.toNat + (i6' + 1).toNat → goodQ m c' q = false := fun q h1 h2 => goodQ_no (by omega)
        refine Go_i (show (_ ∨ _ ∨ _ ∨ ((35 : Nat) = 35 ∧ (m : Int) = (m : Int) ∧ c' = c' ∧ (m : Int) = (m : Int) ∧ LT m ln' nf' ls' gr' ∧ (0 ≤ i5' ∧ i5' < i6' ∧ i6' < i6' + 1 ∧ i6' + 1 ≤ (m : Int)) ∧ i4' = (tcn m c' (81 * i5'.toNat + 9 * i6'.toNat + (i6' + 1).toNat) : Int) ∧ TAI m c' tA' tB' tC' (81 * i5'.toNat + 9 * i6'.toNat + (i6' + 1).toNat))) ∧ (1000 * (20 - i5') + 30 * (20 - i6') + 15 - (i6' + 1)).toNat < (1000 * (20 - i5') + 30 * (20 - i6') + 25).toNat from ⟨Or.inr (Or.inr (Or.inr ⟨rfl, rfl, rfl, rfl, v1, by omega, ?_, TAI_skip v4 _ hn⟩)), by omega⟩)
        rw [tcn_skip _ hn]; exact v3
    · show Go _ (zg_X11_trianglesOf_35 (m : Int) c' i4' i5' i6' i7' ln' (m : Int) nf' ls' gr' tA' tB' tC')
      unfold zg_X11_trianglesOf_35
      refine Go_chk (by unfold zout; omega) ?_
      refine Go_chk (by unfold zout; omega) ?_
      refine Go_ite (fun x => ?_) (fun x => ?_)
      · have e : 81 * i5'.toNat + 9 * (i6' + 1).toNat = 81 * i5'.toNat + 9 * i6'.toNat + i7'.toNat + (9 - i7'.toNat) := by omega
        have hn : ∀ q, 81 * i5'.toNat + 9 * i6'.toNat + i7'.toNat ≤ q → q < 81 * i5'.toNat + 9 * i6'.toNat + i7'.toNat + (9 - i7'.toNat) → goodQ m c' q = false := fun q h1 h2 => goodQ_no (by omega)
        refine Go_i (show (_ ∨ _ ∨ ((23 : Nat) = 23 ∧ (m : Int) = (m : Int) ∧ c' = c' ∧ (m : Int) = (m : Int) ∧ LT m ln' nf' ls' gr' ∧ (0 ≤ i5' ∧ i5' < i6' + 1 ∧ i6' + 1 ≤ (m : Int)) ∧ i4' = (tcn m c' (81 * i5'.toNat + 9 * (i6' + 1).toNat) : Int) ∧ TAI m c' tA' tB' tC' (81 * i5'.toNat + 9 * (i6' + 1).toNat)) ∨ _) ∧ (1000 * (20 - i5') + 30 * (20 - (i6' + 1)) + 25).toNat < (1000 * (20 - i5') + 30 * (20 - i6') + 15 - i7').toNat from ⟨Or.inr (Or.inr (Or.inl ⟨rfl, rfl, rfl, rfl, v1, by omega, ?_, ?_⟩)), by omega⟩)
        · rw [e, tcn_skip _ hn]; exact v3
        · rw [e]; exact TAI_skip v4 _ hn
      · obtain ⟨w1, w2, w3⟩ := id v1
        have ep : 81 * i5'.toNat + 9 * i6'.toNat + (i7' + 1).toNat = 81 * i5'.toNat + 9 * i6'.toNat + i7'.toNat + 1 := by omega
        have d1 : (81 * i5'.toNat + 9 * i6'.toNat + i7'.toNat) / 81 = i5'.toNat := by omega
        have d2 : (81 * i5'.toNat + 9 * i6'.toNat + i7'.toNat) / 9 % 9 = i6'.toNat := by omega
        have d3 : (81 * i5'.toNat + 9 * i6'.toNat + i7'.toNat) % 9 = i7'.toNat := by omega
        have gq : goodQ m c' (81 * i5'.toNat + 9 * i6'.toNat + i7'.toNat) = (nearB m c' i5'.toNat i6'.toNat && (nearB m c' i6'.toNat i7'.toNat && nearB m c' i5'.toNat i7'.toNat)) := by
          unfold goodQ
          rw [d1, d2, d3, decide_eq_true (show i5'.toNat < i6'.toNat ∧ i6'.toNat < i7'.toNat ∧ i7'.toNat < m by omega)]
          rfl
        refine Go_bind (near_eq h4 h9 w2 c' v2.1 (by omega) (by omega) (by omega)) ?_
        refine Go_ite (fun y => ?_) (fun y1 => ?_)
        · have hg : goodQ m c' (81 * i5'.toNat + 9 * i6'.toNat + i7'.toNat) = false := by rw [gq, y]; rfl
          refine Go_i (show (_ ∨ _ ∨ _ ∨ ((35 : Nat) = 35 ∧ (m : Int) = (m : Int) ∧ c' = c' ∧ (m : Int) = (m : Int) ∧ LT m ln' nf' ls' gr' ∧ (0 ≤ i5' ∧ i5' < i6' ∧ i6' < i7' + 1 ∧ i7' + 1 ≤ (m : Int)) ∧ i4' = (tcn m c' (81 * i5'.toNat + 9 * i6'.toNat + (i7' + 1).toNat) : Int) ∧ TAI m c' tA' tB' tC' (81 * i5'.toNat + 9 * i6'.toNat + (i7' + 1).toNat))) ∧ (1000 * (20 - i5') + 30 * (20 - i6') + 15 - (i7' + 1)).toNat < (1000 * (20 - i5') + 30 * (20 - i6') + 15 - i7').toNat from ⟨Or.inr (Or.inr (Or.inr ⟨rfl, rfl, rfl, rfl, v1, by omega, by rw [ep, tcn_f hg]; exact v3, by rw [ep]; exact TAI_skip v4 1 (fun q h1 h2 => by rw [show q = 81 * i5'.toNat + 9 * i6'.toNat + i7'.toNat by omega]; exact hg)⟩)), by omega⟩)
        · refine Go_bind (near_eq h4 h9 w2 c' (by omega) (by omega) (by omega) (by omega)) ?_
          refine Go_ite (fun y => ?_) (fun y2 => ?_)
          · have hg : goodQ m c' (81 * i5'.toNat + 9 * i6'.toNat + i7'.toNat) = false := by rw [gq, y, bnf y1]; rfl
            refine Go_i (show (_ ∨ _ ∨ _ ∨ ((35 : Nat) = 35 ∧ (m : Int) = (m : Int) ∧ c' = c' ∧ (m : Int) = (m : Int) ∧ LT m ln' nf' ls' gr' ∧ (0 ≤ i5' ∧ i5' < i6' ∧ i6' < i7' + 1 ∧ i7' + 1 ≤ (m : Int)) ∧ i4' = (tcn m c' (81 * i5'.toNat + 9 * i6'.toNat + (i7' + 1).toNat) : Int) ∧ TAI m c' tA' tB' tC' (81 * i5'.toNat + 9 * i6'.toNat + (i7' + 1).toNat))) ∧ (1000 * (20 - i5') + 30 * (20 - i6') + 15 - (i7' + 1)).toNat < (1000 * (20 - i5') + 30 * (20 - i6') + 15 - i7').toNat from ⟨Or.inr (Or.inr (Or.inr ⟨rfl, rfl, rfl, rfl, v1, by omega, by rw [ep, tcn_f hg]; exact v3, by rw [ep]; exact TAI_skip v4 1 (fun q h1 h2 => by rw [show q = 81 * i5'.toNat + 9 * i6'.toNat + i7'.toNat by omega]; exact hg)⟩)), by omega⟩)
          · refine Go_bind (near_eq h4 h9 w2 c' v2.1 (by omega) (by omega) (by omega)) ?_
            refine Go_ite (fun y => ?_) (fun y3 => ?_)
            · have hg : goodQ m c' (81 * i5'.toNat + 9 * i6'.toNat + i7'.toNat) = false := by rw [gq, y, bnf y1, bnf y2]; rfl
              refine Go_i (show (_ ∨ _ ∨ _ ∨ ((35 : Nat) = 35 ∧ (m : Int) = (m : Int) ∧ c' = c' ∧ (m : Int) = (m : Int) ∧ LT m ln' nf' ls' gr' ∧ (0 ≤ i5' ∧ i5' < i6' ∧ i6' < i7' + 1 ∧ i7' + 1 ≤ (m : Int)) ∧ i4' = (tcn m c' (81 * i5'.toNat + 9 * i6'.toNat + (i7' + 1).toNat) : Int) ∧ TAI m c' tA' tB' tC' (81 * i5'.toNat + 9 * i6'.toNat + (i7' + 1).toNat))) ∧ (1000 * (20 - i5') + 30 * (20 - i6') + 15 - (i7' + 1)).toNat < (1000 * (20 - i5') + 30 * (20 - i6') + 15 - i7').toNat from ⟨Or.inr (Or.inr (Or.inr ⟨rfl, rfl, rfl, rfl, v1, by omega, by rw [ep, tcn_f hg]; exact v3, by rw [ep]; exact TAI_skip v4 1 (fun q h1 h2 => by rw [show q = 81 * i5'.toNat + 9 * i6'.toNat + i7'.toNat by omega]; exact hg)⟩)), by omega⟩)
            · have hg : goodQ m c' (81 * i5'.toNat + 9 * i6'.toNat + i7'.toNat) = true := by rw [gq, bnf y1, bnf y2, bnf y3]; rfl
              have l1 := tcn_t hg
              have l2 := tcn_le (m := m) (c := c') (p := 81 * i5'.toNat + 9 * i6'.toNat + i7'.toNat + 1) (729 - (81 * i5'.toNat + 9 * i6'.toNat + i7'.toNat + 1))
              rw [show 81 * i5'.toNat + 9 * i6'.toNat + i7'.toNat + 1 + (729 - (81 * i5'.toNat + 9 * i6'.toNat + i7'.toNat + 1)) = 729 by omega] at l2
              refine Go_chk (by omega) ?_
              refine Go_i (show (_ ∨ _ ∨ _ ∨ ((35 : Nat) = 35 ∧ (m : Int) = (m : Int) ∧ c' = c' ∧ (m : Int) = (m : Int) ∧ LT m ln' nf' ls' gr' ∧ (0 ≤ i5' ∧ i5' < i6' ∧ i6' < i7' + 1 ∧ i7' + 1 ≤ (m : Int)) ∧ i4' + 1 = (tcn m c' (81 * i5'.toNat + 9 * i6'.toNat + (i7' + 1).toNat) : Int) ∧ TAI m c' (zset tA' (Int.toNat i4') i5') (zset tB' (Int.toNat i4') i6') (zset tC' (Int.toNat i4') i7') (81 * i5'.toNat + 9 * i6'.toNat + (i7' + 1).toNat))) ∧ (1000 * (20 - i5') + 30 * (20 - i6') + 15 - (i7' + 1)).toNat < (1000 * (20 - i5') + 30 * (20 - i6') + 15 - i7').toNat from ⟨Or.inr (Or.inr (Or.inr ⟨rfl, rfl, rfl, rfl, v1, by omega, ?_, ?_⟩)), by omega⟩)
              · rw [ep, l1]; omega
              · rw [ep]
                exact TAI_add v4 hg (by omega) (by omega) (by omega) (by omega) (by omega)
  · exact Or.inl ⟨rfl, rfl, rfl, rfl, rfl, rfl, rfl, rfl⟩
  · show 100000 < jfuel
    unfold jfuel
    omega
theorem tcn_tab : ∀ m : Nat, 4 ≤ m → m ≤ 9 → allF (fun k => frN (zget (pg6 m) k).toNat (fun T => Nat.beq (cntM T (prT m) 0) (m - 2))) 0 (pg8 m).toNat = true := pg_cases (by decide +kernel) (by decide +kernel) (by decide +kernel) (by decide +kernel) (by decide +kernel) (by decide +kernel)
theorem tcn_cut {m : Nat} (h4 : 4 ≤ m) (h9 : m ≤ 9) {c : Int} (hc : isCut m c) : tcn m c 729 = m - 2 := by
  obtain ⟨k, hk, rfl⟩ := hc
  have r8 := rpg8 h4 h9
  have r6 := rpg6 h4 h9 k (by omega)
  have t := allF_at (tcn_tab m h4 h9) (m := k) (by omega)
  have t : frN (zget (pg6 m) k).toNat (fun T => Nat.beq (cntM T (prT m) 0) (m - 2)) = true := t
  rw [frN_e] at t
  have f := tcn_fast h4 h9 (show (zget (pg6 m) k).toNat < 134217728 by omega)
  rw [show (((zget (pg6 m) k).toNat : Nat) : Int) = zget (pg6 m) k by omega] at f
  rw [f]
  exact Nat.eq_of_beq_eq_true t
