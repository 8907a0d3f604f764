/-! the class's triangles, gathered, are the reference's -/
noncomputable def nextX (m i j : Nat) : Bool := match decide (i < m ∧ j < m ∧ ¬ i = j) with
  | false => true
  | true => decide (zf_X5_areNext m (i : Int) (j : Int) = some (decide (zget (pg3 m) (9 * i + j) < 0)))
theorem nextX_tab : ∀ m : Nat, 4 ≤ m → m ≤ 9 → allF (fun i => allF (fun j => nextX m i j) 0 9) 0 9 = true := pg_cases (by decide +kernel) (by decide +kernel) (by decide +kernel) (by decide +kernel) (by decide +kernel) (by decide +kernel)
theorem nextX_c {m i j : Nat} (h4 : 4 ≤ m) (h9 : m ≤ 9) (hi : i < m) (hj : j < m) (hij : ¬ i = j) : zf_X5_areNext m (i : Int) (j : Int) = some (decide (zget (pg3 m) (9 * i + j) < 0)) := by
  have t := allF_at (allF_at (nextX_tab m h4 h9) (m := i) (by omega)) (m := j) (by omega)
  have t : nextX m i j = true := t
  unfold nextX at t
  rw [decide_eq_true (show i < m ∧ j < m ∧ ¬ i = j from ⟨hi, hj, hij⟩)] at t
  exact of_decide_eq_true t
theorem aj_eq {m : Nat} (h4 : 4 ≤ m) (h9 : m ≤ 9) {c : Int} (hc : isCut m c) {i j : Int} (hi0 : 0 ≤ i) (hi : i < (m : Int)) (hj0 : 0 ≤ j) (hj : j < (m : Int)) (hij : ¬ i = j) : zf_X5_areJoined m c i j = some (nearB m c i.toNat j.toNat) := by
  unfold zf_X5_areJoined nearB
  have e' : ¬ i.toNat = j.toNat := by omega
  have n := nextX_c h4 h9 (show i.toNat < m by omega) (show j.toNat < m by omega) e'
  rw [show ((i.toNat : Nat) : Int) = i by omega, show ((j.toNat : Nat) : Int) = j by omega] at n
  rw [n]
  simp only [Option.bind_some]
  by_cases q : zget (pg3 m) (9 * i.toNat + j.toNat) < 0
  · rw [decide_eq_true q, if_neg (by decide), decide_eq_true ⟨e', Or.inl q⟩]
  · rw [decide_eq_false q, if_pos rfl, lineOf_e h4 h9 hi0 hi hj0 hj]
    simp only [Option.bind_some]
    have r7 := of_decide_eq_true (allF_at (pg3_lt_tab m h4 h9) (m := 9 * i.toNat + j.toNat) (by omega))
    have g7 := rpg7 h4 h9
    have be := bit_eq h4 h9 hc (show 0 ≤ zget (pg3 m) (9 * i.toNat + j.toNat) by omega) (by omega)
    have eh : zf_X5_has m c (zget (pg3 m) (9 * i.toNat + j.toNat)) = some (decide (¬ zand (zshr c (zget (pg3 m) (9 * i.toNat + j.toNat))) 1 = 0)) := by
      unfold zf_X5_has
      rw [hasLine_e h4 h9 (by omega) r7]
      simp only [Option.bind_some]
      rw [if_neg (by decide)]
      by_cases z : zand (zshr c (zget (pg3 m) (9 * i.toNat + j.toNat))) 1 = 0
      · rw [if_pos z, decide_eq_false (fun q => q z)]
      · rw [if_neg z, decide_eq_true z]
    rw [eh]
    simp only [Option.bind_some]
    by_cases z : zand (zshr c (zget (pg3 m) (9 * i.toNat + j.toNat))) 1 = 0
    · rw [decide_eq_false (fun q => q z), if_pos rfl, decide_eq_false (fun y => by
        rcases y.2 with y | y
        · exact q y
        · rw [be.1, z] at y
          exact absurd y (by decide))]
    · have z1 : zand (zshr c (zget (pg3 m) (9 * i.toNat + j.toNat))) 1 = 1 := by have := be.2; omega
      rw [decide_eq_true z, if_neg (by decide), decide_eq_true ⟨e', Or.inr (by rw [be.1]; exact z1)⟩]
def TCI (m : Nat) (c : Int) (co p : Nat) : Prop := ∀ q, q < p → goodQ m c q = true → zget co (3 * tcn m c q) = ((q / 81 : Nat) : Int) ∧ zget co (3 * tcn m c q + 1) = ((q / 9 % 9 : Nat) : Int) ∧ zget co (3 * tcn m c q + 2) = ((q % 9 : Nat) : Int)
theorem TCI_skip {m : Nat} {c : Int} {co p : Nat} (h : TCI m c co p) (d : Nat) (hn : ∀ q, p ≤ q → q < p + d → goodQ m c q = false) : TCI m c co (p + d) := by
  intro q hq hg
  by_cases e : q < p
  · exact h q e hg
  · rw [hn q (by omega) hq] at hg; cases hg
theorem TCI_add {m : Nat} {c : Int} {co p : Nat} (h : TCI m c co p) (hg : goodQ m c p = true) {i j k : Int} (hi : i = ((p / 81 : Nat) : Int)) (hj : j = ((p / 9 % 9 : Nat) : Int)) (hk : k = ((p % 9 : Nat) : Int)) (hp : p < 729) {t0 t1 t2 : Nat} (ht0 : t0 = 3 * tcn m c p) (ht1 : t1 = 3 * tcn m c p + 1) (ht2 : t2 = 3 * tcn m c p + 2) : TCI m c (zset (zset (zset co t0 i) t1 j) t2 k) (p + 1) := by
  intro q hq hgq
  simp only [zget_set]
  by_cases e : q = p
  · subst e
    rw [if_neg (show ¬ 3 * tcn m c q = t2 by omega), if_neg (show ¬ 3 * tcn m c q = t1 by omega), if_pos (show 3 * tcn m c q = t0 by omega), if_neg (show ¬ 3 * tcn m c q + 1 = t2 by omega), if_pos (show 3 * tcn m c q + 1 = t1 by omega), if_pos (show 3 * tcn m c q + 2 = t2 by omega), zw_id (by unfold zout; omega), zw_id (by unfold zout; omega), zw_id (by unfold zout; omega)]
    exact ⟨hi, hj, hk⟩
  · have l1 := tcn_t hgq
    have l2 := tcn_le (m := m) (c := c) (p := q + 1) (p - (q + 1))
    rw [show q + 1 + (p - (q + 1)) = p by omega] at l2
    rw [if_neg (show ¬ 3 * tcn m c q = t2 by omega), if_neg (show ¬ 3 * tcn m c q = t1 by omega), if_neg (show ¬ 3 * tcn m c q = t0 by omega), if_neg (show ¬ 3 * tcn m c q + 1 = t2 by omega), if_neg (show ¬ 3 * tcn m c q + 1 = t1 by omega), if_neg (show ¬ 3 * tcn m c q + 1 = t0 by omega), if_neg (show ¬ 3 * tcn m c q + 2 = t2 by omega), if_neg (show ¬ 3 * tcn m c q + 2 = t1 by omega), if_neg (show ¬ 3 * tcn m c q + 2 = t0 by omega)]
    exact h q (by omega) hgq
def gIc (m : Nat) (c i j : Int) (lab : Nat) (c' i' j' k' t' : Int) (co' : Nat) : Prop := c' = c ∧ i' = i ∧ j' = j ∧ ((lab = 0 ∧ t' = (tcn m c (81 * i.toNat + 9 * j.toNat) : Int) ∧ TCI m c co' (81 * i.toNat + 9 * j.toNat)) ∨ (lab = 6 ∧ j < k' ∧ k' ≤ (m : Int) ∧ t' = (tcn m c (81 * i.toNat + 9 * j.toNat + k'.toNat) : Int) ∧ TCI m c co' (81 * i.toNat + 9 * j.toNat + k'.toNat)) ∨ (lab = 42 ∧ j < k' ∧ k' < (m : Int) ∧ goodQ m c (81 * i.toNat + 9 * j.toNat + k'.toNat) = false ∧ t' = (tcn m c (81 * i.toNat + 9 * j.toNat + k'.toNat) : Int) ∧ TCI m c co' (81 * i.toNat + 9 * j.toNat + k'.toNat)))
set_option maxRecDepth 20000 in
set_option maxHeartbeats 1000000 in
theorem ok_gatherOn {mk m : Nat} (p0 : ¬ zno mk m) {c : Int} (hc : isCut m c) {i j : Int} (hi : 0 ≤ i) (hij : i < j) (hj : j < (m : Int)) (hn : nearB m c i.toNat j.toNat = true) {t : Int} {co : Nat} (ht : t = (tcn m c (81 * i.toNat + 9 * j.toNat) : Int)) (hT : TCI m c co (81 * i.toNat + 9 * j.toNat)) : Go (fun o => o.1 = (tcn m c (81 * i.toNat + 9 * j.toNat + 9) : Int) ∧ TCI m c o.2 (81 * i.toNat + 9 * j.toNat + 9)) (zf_X9_gatherOn mk t co m c i j) := by
  obtain ⟨h4, h9⟩ := zno_rng p0
  have hcut := tcn_cut h4 h9 hc
  unfold zf_X9_gatherOn
  refine jok (fun (s : zS_X9_gatherOn) => match s with | (lab, c', i', j', k', t', co') => gIc m c i j lab c' i' j' k' t' co') (fun (s : zS_X9_gatherOn) => match s with | (lab, c', i', j', k', t', co') => if lab = 0 then 100 else if lab = 6 then (60 - 2 * k').toNat else (59 - 2 * k').toNat) (fun (o : zO_X9_gatherOn) => o.1 = (tcn m c (81 * i.toNat + 9 * j.toNat + 9) : Int) ∧ TCI m c o.2 (81 * i.toNat + 9 * j.toNat + 9)) ?_ _ ?_ ?_
  · intro s hI
    obtain ⟨lab, c', i', j', k', t', co'⟩ := s
    have hI : gIc m c i j lab c' i' j' k' t' co' := hI
    unfold gIc at hI
    rcases hI with ⟨rfl, rfl, rfl, ⟨rfl, v1, v2⟩ | ⟨rfl, v1, v2, v3, v4⟩ | ⟨rfl, v1, v2, v5, v3, v4⟩⟩
    · show Go _ (zg_X9_gatherOn_0 mk m c' i' j' k' t' co')
      unfold zg_X9_gatherOn_0
      have hs : ∀ q, 81 * i'.toNat + 9 * j'.toNat ≤ q → q < 81 * i'.toNat + 9 * j'.toNat + (j' + 1).toNat → goodQ m c' q = false := fun q h1 h2 => goodQ_no (by omega)
      refine Go_i (show gIc m c' i' j' 6 c' i' j' (j' + 1) t' co' ∧ (60 - 2 * (j' + 1)).toNat < 100 from ⟨⟨rfl, rfl, rfl, Or.inr (Or.inl ⟨rfl, by omega, by omega, ?_, TCI_skip v2 _ hs⟩)⟩, by omega⟩)
      rw [tcn_skip _ hs]
      exact v1
    · show Go _ (zg_X9_gatherOn_6 mk m c' i' j' k' t' co')
      unfold zg_X9_gatherOn_6 zf_X5_corners
      refine Go_chk p0 ?_
      refine Go_bind rfl ?_
      refine Go_chk (by unfold zout; omega) ?_
      refine Go_chk (by unfold zout; omega) ?_
      refine Go_ite (fun x => ?_) (fun x => ?_)
      · have e : 81 * i'.toNat + 9 * j'.toNat + 9 = 81 * i'.toNat + 9 * j'.toNat + k'.toNat + (9 - k'.toNat) := by omega
        have hs : ∀ q, 81 * i'.toNat + 9 * j'.toNat + k'.toNat ≤ q → q < 81 * i'.toNat + 9 * j'.toNat + k'.toNat + (9 - k'.toNat) → goodQ m c' q = false := fun q h1 h2 => goodQ_no (by omega)
        refine Go_i (show t' = (tcn m c' (81 * i'.toNat + 9 * j'.toNat + 9) : Int) ∧ TCI m c' co' (81 * i'.toNat + 9 * j'.toNat + 9) from ⟨?_, ?_⟩)
        · rw [e, tcn_skip _ hs]; exact v3
        · rw [e]; exact TCI_skip v4 _ hs
      · have ep : 81 * i'.toNat + 9 * j'.toNat + (k' + 1).toNat = 81 * i'.toNat + 9 * j'.toNat + k'.toNat + 1 := by omega
        have d1 : (81 * i'.toNat + 9 * j'.toNat + k'.toNat) / 81 = i'.toNat := by omega
        have d2 : (81 * i'.toNat + 9 * j'.toNat + k'.toNat) / 9 % 9 = j'.toNat := by omega
        have d3 : (81 * i'.toNat + 9 * j'.toNat + k'.toNat) % 9 = k'.toNat := by omega
        have gq : goodQ m c' (81 * i'.toNat + 9 * j'.toNat + k'.toNat) = (nearB m c' i'.toNat j'.toNat && (nearB m c' j'.toNat k'.toNat && nearB m c' i'.toNat k'.toNat)) := by
          unfold goodQ
          rw [d1, d2, d3, decide_eq_true (show i'.toNat < j'.toNat ∧ j'.toNat < k'.toNat ∧ k'.toNat < m by omega)]
          rfl
        rw [hn] at gq
        refine Go_bind (aj_eq h4 h9 hc hi (by omega) (by omega) (by omega) (by omega)) ?_
        refine Go_ite (fun y => ?_) (fun y1 => ?_)
        · refine Go_i (show gIc m c' i' j' 42 c' i' j' k' t' co' ∧ (59 - 2 * k').toNat < (60 - 2 * k').toNat from ⟨⟨rfl, rfl, rfl, Or.inr (Or.inr ⟨rfl, v1, by omega, ?_, v3, v4⟩)⟩, by omega⟩)
          rw [gq, y, Bool.and_false]
          rfl
        · refine Go_bind (aj_eq h4 h9 hc (by omega) (by omega) (by omega) (by omega) (by omega)) ?_
          refine Go_ite (fun y => ?_) (fun y2 => ?_)
          · refine Go_i (show gIc m c' i' j' 42 c' i' j' k' t' co' ∧ (59 - 2 * k').toNat < (60 - 2 * k').toNat from ⟨⟨rfl, rfl, rfl, Or.inr (Or.inr ⟨rfl, v1, by omega, ?_, v3, v4⟩)⟩, by omega⟩)
            rw [gq, y]
            rfl
          · have hg : goodQ m c' (81 * i'.toNat + 9 * j'.toNat + k'.toNat) = true := by rw [gq, bnf y1, bnf y2]; rfl
            have l1 := tcn_t hg
            have l2 := tcn_le (m := m) (c := c') (p := 81 * i'.toNat + 9 * j'.toNat + k'.toNat + 1) (729 - (81 * i'.toNat + 9 * j'.toNat + k'.toNat + 1))
            rw [show 81 * i'.toNat + 9 * j'.toNat + k'.toNat + 1 + (729 - (81 * i'.toNat + 9 * j'.toNat + k'.toNat + 1)) = 729 by omega] at l2
            refine Go_ite (fun x => absurd x (by decide)) (fun _ => ?_)
            refine Go_chk (by unfold zout; omega) ?_
            refine Go_ite (fun x => ?_) (fun _ => ?_)
            · exfalso
              omega
            · refine Go_chk (by omega) ?_
              refine Go_chk (by omega) ?_
              refine Go_chk (by omega) ?_
              refine Go_i (show gIc m c' i' j' 6 c' i' j' (k' + 1) (t' + 1) (zset (zset (zset co' (Int.toNat ((3 : Int) * t')) i') (Int.toNat (((3 : Int) * t') + (1 : Int))) j') (Int.toNat (((3 : Int) * t') + (2 : Int))) k') ∧ (60 - 2 * (k' + 1)).toNat < (60 - 2 * k').toNat from ⟨⟨rfl, rfl, rfl, Or.inr (Or.inl ⟨rfl, by omega, by omega, ?_, ?_⟩)⟩, by omega⟩)
              · rw [ep, l1]; omega
              · rw [ep]
                exact TCI_add v4 hg (by omega) (by omega) (by omega) (by omega) (by omega) (by omega) (by omega)
    · show Go _ (zg_X9_gatherOn_42 mk m c' i' j' k' t' co')
      unfold zg_X9_gatherOn_42
      have ep : 81 * i'.toNat + 9 * j'.toNat + (k' + 1).toNat = 81 * i'.toNat + 9 * j'.toNat + k'.toNat + 1 := by omega
      refine Go_ite (fun _ => ?_) (fun x => absurd rfl x)
      refine Go_i (show gIc m c' i' j' 6 c' i' j' (k' + 1) t' co' ∧ (60 - 2 * (k' + 1)).toNat < (59 - 2 * k').toNat from ⟨⟨rfl, rfl, rfl, Or.inr (Or.inl ⟨rfl, by omega, by omega, ?_, ?_⟩)⟩, by omega⟩)
      · rw [ep, tcn_f v5]; exact v3
      · rw [ep]
        exact TCI_skip v4 1 (fun q h1 h2 => by rw [show q = 81 * i'.toNat + 9 * j'.toNat + k'.toNat by omega]; exact v5)
  · exact ⟨rfl, rfl, rfl, Or.inl ⟨rfl, ht, hT⟩⟩
  · show 100 < jfuel
    unfold jfuel
    omega
def gJc (m : Nat) (c : Int) (lab : Nat) (c' i' j' t' : Int) (co' : Nat) : Prop := c' = c ∧ (lab = 0 ∨ (lab = 7 ∧ 0 ≤ i' ∧ i' ≤ (m : Int) ∧ t' = (tcn m c (81 * i'.toNat) : Int) ∧ TCI m c co' (81 * i'.toNat)) ∨ (lab = 20 ∧ 0 ≤ i' ∧ i' < (m : Int) ∧ i' < j' ∧ j' ≤ (m : Int) ∧ t' = (tcn m c (81 * i'.toNat + 9 * j'.toNat) : Int) ∧ TCI m c co' (81 * i'.toNat + 9 * j'.toNat)))
set_option maxRecDepth 20000 in
set_option maxHeartbeats 1000000 in
theorem ok_gather {mk m : Nat} (p0 : ¬ zno mk m) {c : Int} (hc : isCut m c) (t : Int) (co : Nat) : Go (fun o => o.1 = (m : Int) - 2 ∧ TCI m c o.2 729) (zf_X9_gather mk t co m c) := by
  obtain ⟨h4, h9⟩ := zno_rng p0
  have hcut := tcn_cut h4 h9 hc
  unfold zf_X9_gather
  refine jok (fun (s : zS_X9_gather) => match s with | (lab, c', i', j', t', co') => gJc m c lab c' i' j' t' co') (fun (s : zS_X9_gather) => match s with | (lab, c', i', j', t', co') => if lab = 0 then 10000 else if lab = 7 then (40 * (20 - i') + 39).toNat else (40 * (20 - i') + 20 - j').toNat) (fun (o : zO_X9_gather) => o.1 = (m : Int) - 2 ∧ TCI m c o.2 729) ?_ _ ?_ ?_
  · intro s hI
    obtain ⟨lab, c', i', j', t', co'⟩ := s
    have hI : gJc m c lab c' i' j' t' co' := hI
    unfold gJc at hI
    rcases hI with ⟨rfl, rfl | ⟨rfl, v1, v2, v3, v4⟩ | ⟨rfl, v1, v2, v5, v6, v3, v4⟩⟩
    · show Go _ (zg_X9_gather_0 mk m c' i' j' t' co')
      unfold zg_X9_gather_0
      exact Go_i (show gJc m c' 7 c' 0 0 0 co' ∧ (40 * (20 - (0 : Int)) + 39).toNat < 10000 from ⟨⟨rfl, Or.inr (Or.inl ⟨rfl, by omega, by omega, rfl, fun q hq => absurd hq (by omega)⟩)⟩, by omega⟩)
    · show Go _ (zg_X9_gather_7 mk m c' i' j' t' co')
      unfold zg_X9_gather_7 zf_X5_corners
      refine Go_chk p0 ?_
      refine Go_bind rfl ?_
      refine Go_chk (by unfold zout; omega) ?_
      refine Go_chk (by unfold zout; omega) ?_
      refine Go_ite (fun x => ?_) (fun x => ?_)
      · have hs : ∀ q, 81 * i'.toNat ≤ q → q < 81 * i'.toNat + (729 - 81 * i'.toNat) → goodQ m c' q = false := fun q h1 h2 => goodQ_no (by omega)
        have e : 81 * i'.toNat + (729 - 81 * i'.toNat) = 729 := by omega
        have t1 := tcn_skip _ hs
        have t2 := TCI_skip v4 _ hs
        rw [e] at t1 t2
        exact Go_i (show t' = (m : Int) - 2 ∧ TCI m c' co' 729 from ⟨by omega, t2⟩)
      · have hs : ∀ q, 81 * i'.toNat ≤ q → q < 81 * i'.toNat + 9 * (i' + 1).toNat → goodQ m c' q = false := fun q h1 h2 => goodQ_no (by omega)
        refine Go_i (show gJc m c' 20 c' i' (i' + 1) t' co' ∧ (40 * (20 - i') + 20 - (i' + 1)).toNat < (40 * (20 - i') + 39).toNat from ⟨⟨rfl, Or.inr (Or.inr ⟨rfl, v1, by omega, by omega, by omega, ?_, TCI_skip v4 _ hs⟩)⟩, by omega⟩)
        rw [tcn_skip _ hs]
        exact v3
    · show Go _ (zg_X9_gather_20 mk m c' i' j' t' co')
      unfold zg_X9_gather_20 zf_X5_corners
      refine Go_chk p0 ?_
      refine Go_bind rfl ?_
      refine Go_chk (by unfold zout; omega) ?_
      refine Go_chk (by unfold zout; omega) ?_
      refine Go_ite (fun x => ?_) (fun x => ?_)
      · have e : 81 * (i' + 1).toNat = 81 * i'.toNat + 9 * j'.toNat + (81 - 9 * j'.toNat) := by omega
        have hs : ∀ q, 81 * i'.toNat + 9 * j'.toNat ≤ q → q < 81 * i'.toNat + 9 * j'.toNat + (81 - 9 * j'.toNat) → goodQ m c' q = false := fun q h1 h2 => goodQ_no (by omega)
        refine Go_i (show gJc m c' 7 c' (i' + 1) j' t' co' ∧ (40 * (20 - (i' + 1)) + 39).toNat < (40 * (20 - i') + 20 - j').toNat from ⟨⟨rfl, Or.inr (Or.inl ⟨rfl, by omega, by omega, ?_, ?_⟩)⟩, by omega⟩)
        · rw [e, tcn_skip _ hs]; exact v3
        · rw [e]; exact TCI_skip v4 _ hs
      · have e : 81 * i'.toNat + 9 * (j' + 1).toNat = 81 * i'.toNat + 9 * j'.toNat + 9 := by omega
        refine Go_bind (aj_eq h4 h9 hc v1 (by omega) (by omega) (by omega) (by omega)) ?_
        refine Go_ite (fun y => ?_) (fun y => ?_)
        · have hs : ∀ q, 81 * i'.toNat + 9 * j'.toNat ≤ q → q < 81 * i'.toNat + 9 * j'.toNat + 9 → goodQ m c' q = false := by
            intro q h1 h2
            unfold goodQ
            rw [show q / 81 = i'.toNat by omega, show q / 9 % 9 = j'.toNat by omega, y, Bool.false_and, Bool.and_false]
          refine Go_i (show gJc m c' 20 c' i' (j' + 1) t' co' ∧ (40 * (20 - i') + 20 - (j' + 1)).toNat < (40 * (20 - i') + 20 - j').toNat from ⟨⟨rfl, Or.inr (Or.inr ⟨rfl, v1, v2, by omega, by omega, ?_, ?_⟩)⟩, by omega⟩)
          · rw [e, tcn_skip _ hs]; exact v3
          · rw [e]; exact TCI_skip v4 _ hs
        · refine Go_bindP (ok_gatherOn p0 hc v1 v5 (by omega) (bnf y) v3 v4) (fun o q => ?_)
          refine Go_i (show gJc m c' 20 c' i' (j' + 1) o.1 o.2 ∧ (40 * (20 - i') + 20 - (j' + 1)).toNat < (40 * (20 - i') + 20 - j').toNat from ⟨⟨rfl, Or.inr (Or.inr ⟨rfl, v1, v2, by omega, by omega, ?_, ?_⟩)⟩, by omega⟩)
          · rw [e]; exact q.1
          · rw [e]; exact q.2
  · exact ⟨rfl, Or.inl rfl⟩
  · show 10000 < jfuel
    unfold jfuel
    omega
theorem TCI_TAI {m : Nat} {c : Int} {co tA tB tC : Nat} (h : TCI m c co 729) (h0 : TAI m c tA tB tC 729) {t : Nat} (ht : t < tcn m c 729) : zget co (3 * t) = zget tA t ∧ zget co (3 * t + 1) = zget tB t ∧ zget co (3 * t + 2) = zget tC t := by
  obtain ⟨q, h1, h2, rfl⟩ := tcn_hit 729 t ht
  obtain ⟨a1, a2, a3⟩ := h q h1 h2
  obtain ⟨b1, b2, b3⟩ := h0 q h1 h2
  rw [a1, a2, a3, b1, b2, b3]
  exact ⟨rfl, rfl, rfl⟩
set_option maxHeartbeats 1000000 in
theorem eq_triangle {mk m : Nat} (p0 : ¬ zno mk m) {b : Int} (hb : isCut m b) {t w : Int} (hi : ¬ zout t) (hj : ¬ zout w) {tc ln lf : Int} {co nf ls gr tA tB tC : Nat} (hT : TL lf ln nf ls gr) {o : Int × Int × Nat} {o2 : Int × Int × Int × Nat × Nat × Nat × Nat × Nat × Nat} (ho : zf_X10_triangle mk m b tc co t w = some o) (ho2 : zf_X11_triangle (m : Int) ln lf b nf ls gr tA tB tC t w = some o2) : o.1 = o2.1 := by
  obtain ⟨h4, h9⟩ := zno_rng p0
  have hcut := tcn_cut h4 h9 hb
  unfold zf_X10_triangle zf_X5_corners at ho
  unfold zf_X11_triangle at ho2
  rw [in_e hi (by decide) (by unfold zout; omega), in_e hj (by decide) (by decide)] at ho2
  simp only [Option.bind_some] at ho ho2
  rw [if_neg hi] at ho
  by_cases c0 : t < 0
  · rw [if_pos c0] at ho
    rw [decide_eq_false (by omega), if_pos rfl] at ho2
    cases ho; cases ho2; rfl
  · rw [if_neg c0, if_neg p0, if_neg (by unfold zout; omega)] at ho
    by_cases c1 : (m : Int) - 2 ≤ t
    · rw [if_pos c1] at ho
      rw [decide_eq_false (by omega), if_pos rfl] at ho2
      cases ho; cases ho2; rfl
    · rw [if_neg c1, if_neg hj] at ho
      rw [decide_eq_true (by omega), if_neg (by decide)] at ho2
      by_cases d0 : w < 0
      · rw [if_pos d0] at ho
        rw [decide_eq_false (by omega), if_pos rfl] at ho2
        cases ho; cases ho2; rfl
      · rw [if_neg d0] at ho
        by_cases d1 : w ≤ 2
        · rw [if_pos d1] at ho
          rw [decide_eq_true (by omega), if_neg (by decide)] at ho2
          obtain ⟨u, hu, u0, u1, u2, u3, u4, u5⟩ := oy_tri ln lf nf ls gr tA tB tC (m : Int) b hT (by omega) (by omega) ⟨by omega, by omega, hb⟩
          obtain ⟨v, hv, v0, v1⟩ := ok_gather p0 hb tc co
          have u5 : TAI m b u.2.2.2.2.2.1 u.2.2.2.2.2.2.1 u.2.2.2.2.2.2.2 729 := u5
          obtain ⟨e0, e1, e2⟩ := TCI_TAI v1 u5 (t := t.toNat) (by omega)
          rw [hv] at ho
          rw [hu] at ho2
          simp only [Option.bind_some] at ho ho2
          unfold zf_X9_cornerOf at ho
          rw [if_neg hi, if_neg c0, if_neg (by rw [v0]; unfold zout; omega), if_neg (by rw [v0]; omega), if_neg hj, if_neg d0, if_pos d1, if_neg (by omega)] at ho
          simp only [Option.bind_some] at ho
          rw [if_neg hj] at ho2
          by_cases w0 : w = 0
          · subst w0
            rw [if_pos rfl, if_neg (by omega)] at ho2
            rw [show Int.toNat ((3 : Int) * t + 0) = 3 * t.toNat by omega, e0] at ho
            cases ho; cases ho2; rfl
          · rw [if_neg w0] at ho2
            by_cases w1 : w = 1
            · subst w1
              rw [if_pos rfl, if_neg (by omega)] at ho2
              rw [show Int.toNat ((3 : Int) * t + 1) = 3 * t.toNat + 1 by omega, e1] at ho
              cases ho; cases ho2; rfl
            · have w2 : w = 2 := by omega
              subst w2
              rw [if_neg w1, if_neg (by omega)] at ho2
              rw [show Int.toNat ((3 : Int) * t + 2) = 3 * t.toNat + 2 by omega, e2] at ho
              cases ho; cases ho2; rfl
        · rw [if_neg d1] at ho
          rw [decide_eq_false (by omega), if_pos rfl] at ho2
          cases ho; cases ho2; rfl
