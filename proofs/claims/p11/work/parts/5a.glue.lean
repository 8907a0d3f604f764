section
/-! glue, cutOff, core -/
theorem zset_comm {A i j : Nat} {v w : Int} (h : ¬ i = j) : zset (zset A i v) j w = zset (zset A j w) i v := by
  apply Nat.eq_of_testBit_eq
  intro p
  rw [zset_bit, zset_bit, zset_bit, zset_bit]
  by_cases a : p < 32 * i
  · rw [if_pos a]
    by_cases c : p < 32 * j
    · rw [if_pos c, if_pos a]
    · rw [if_neg c]
      by_cases d : p < 32 * j + 32
      · rw [if_pos d, if_pos a]
      · rw [if_neg d, if_pos a]
  · rw [if_neg a]
    by_cases b : p < 32 * i + 32
    · rw [if_pos b, if_neg a, if_pos b]
      by_cases c : p < 32 * j
      · rw [if_pos c]
      · rw [if_neg c, if_neg (by omega)]
    · rw [if_neg b, if_neg a, if_neg b]
theorem glue_run {i s : Int} (i0 : 0 ≤ i) (i1 : i < s) (s9 : s ≤ 9) : ∀ (d : Nat) (k : Int) (P : Nat) (j : Int) (o : zO_X2_glueBehind) (o2 : zO_X11_glue), k = i + 1 + (d : Int) → k ≤ s → JE zg_X2_glueBehind (52, i, k, s, P) o → JE zg_X11_glue (110, i, j, k, s, P) o2 → o = o2 := by
  intro d
  induction d with
  | zero =>
    intro k P j o o2 hk hs hx hy
    have hk : k = i + 1 := by omega
    subst hk
    have e1 := JE_end (o' := (s + 1, s + 1, zset P (Int.toNat (i + 1)) 1)) (by
      show zg_X2_glueBehind_52 i (i + 1) s P = _
      unfold zg_X2_glueBehind_52
      rw [if_neg (by unfold zout; omega), if_neg (by unfold zout; omega), if_pos (Int.le_refl _), if_neg (by omega)]) hx
    have e2 := JE_end (o' := (s + 1, s + 1, zset P (Int.toNat (i + 1)) 1)) (by
      show zg_X11_glue_110 i j (i + 1) s P = _
      unfold zg_X11_glue_110
      rw [if_neg (by unfold zout; omega), if_neg (by unfold zout; omega), if_pos (Int.le_refl _), if_neg (by omega)]) hy
    rw [e1, e2]
  | succ d ih =>
    intro k P j o o2 hk hs hx hy
    have hx := JE_dn (s' := (52, i, k + -1, s, zset P (Int.toNat k) (zget P (Int.toNat (k - 1))))) (by
      show zg_X2_glueBehind_52 i k s P = _
      unfold zg_X2_glueBehind_52
      rw [if_neg (by unfold zout; omega), if_neg (by unfold zout; omega), if_neg (by omega), if_neg (by omega), if_neg (by omega)]) hx
    have hy := JE_dn (s' := (110, i, 0, k + -1, s, zset P (Int.toNat k) (zget P (Int.toNat (k - 1))))) (by
      show zg_X11_glue_110 i j k s P = _
      unfold zg_X11_glue_110
      rw [if_neg (by unfold zout; omega), if_neg (by unfold zout; omega), if_neg (by omega), if_neg (by omega), if_neg (by omega)]) hy
    exact ih (k + -1) _ 0 o o2 (by omega) (by omega) hx hy
set_option maxHeartbeats 1000000 in
theorem eq_glue (mk : Nat) {s i : Int} {P : Nat} (s1 : 1 ≤ s) (s10 : s ≤ 10) (hP : ∀ k : Nat, k < 10 → 0 ≤ zget P k ∧ zget P k ≤ 20) (hi : ¬ zout i) {o o2 : Int × Int × Nat} (ho : zf_X10_glue mk s P i = some o) (ho2 : zf_X11_glue s P i = some o2) : o = o2 := by
  have hy := JE_of ho2
  have ey : zg_X11_glue (0, i, 0, 0, s, P) = zg_X11_glue_0 i 0 0 s P := rfl
  unfold zf_X10_glue at ho
  rw [place_e (by unfold zout; omega) hi] at ho
  simp only [Option.bind_some] at ho
  unfold zg_X11_glue_0 at ey
  rw [in_e hi (by decide) (by unfold zout; omega)] at ey
  simp only [Option.bind_some] at ey
  by_cases c : 0 ≤ i ∧ i ≤ s - 1
  · rw [decide_eq_true c, if_neg (by decide)] at ho
    rw [decide_eq_true c, if_neg (by decide), if_neg (by unfold zout; omega)] at ey
    have p0 := hP i.toNat (by omega)
    have r := rtmod (show 0 ≤ i + 1 by omega) (show 0 < s by omega)
    have p1 := hP (Int.toNat (Int.tmod (i + 1) s)) (by omega)
    have ei : Int.tmod i s = i := Int.tmod_eq_of_lt (by omega) (by omega)
    unfold zf_X2_canGlue at ho
    rw [if_neg (by unfold zout; omega)] at ho
    by_cases c10 : s = 10
    · rw [if_neg (by omega)] at ho
      simp only [Option.bind_some] at ho
      rw [if_pos trivial] at ho
      rw [if_pos c10] at ey
      have e2 := JE_end ey hy
      cases ho
      exact e2.symm
    · rw [if_pos (by omega), at_e s1 s10 (by omega) (by omega), at_e s1 s10 (by omega) (by omega), ei] at ho
      rw [if_neg c10, if_neg (by unfold zout; omega), if_neg (by omega)] at ey
      -- the step that glues
      have go : ∀ (_ : zf_X2_canGlue s P i = some true), Option.bind (zf_X2_glueBehind s P i) (fun o3 => some ((o3.1), (o3.2.1), (o3.2.2))) = some o → zg_X11_glue (0, i, 0, 0, s, P) = some (.inr (85, i, (Int.tmod (i + (1 : Int)) s), 0, s, P)) → o = o2 := by
        intro hcg ho ey
        have hy1 := JE_dn ey hy
        have hy2 := JE_dn (s' := (110, i, Int.tmod (i + 1) s, s, s, (zset (zset P (Int.toNat i) ((zget P (Int.toNat i)) + (1 : Int))) (Int.toNat (Int.tmod (i + 1) s)) ((zget (zset P (Int.toNat i) ((zget P (Int.toNat i)) + (1 : Int))) (Int.toNat (Int.tmod (i + 1) s))) + (1 : Int))))) (by
          show zg_X11_glue_85 i (Int.tmod (i + 1) s) 0 s P = _
          unfold zg_X11_glue_85
          rw [if_neg (by omega), if_neg (by omega)]) hy1
        cases hg : zf_X2_glueBehind s P i with
        | none => rw [hg] at ho; cases ho
        | some og =>
          rw [hg] at ho
          have hx1 := JE_dn (s' := (52, i, s, s, (zset (zset P (Int.toNat i) ((zget P (Int.toNat i)) + (1 : Int))) (Int.toNat (Int.tmod (i + 1) s)) ((zget (zset P (Int.toNat i) ((zget P (Int.toNat i)) + (1 : Int))) (Int.toNat (Int.tmod (i + 1) s))) + (1 : Int))))) (by
            show zg_X2_glueBehind_0 i 0 s P = _
            unfold zg_X2_glueBehind_0
            rw [place_e (by unfold zout; omega) hi, decide_eq_true c]
            simp only [Option.bind_some]
            rw [if_neg (by decide), hcg]
            simp only [Option.bind_some]
            rw [if_neg (by decide), if_neg (by omega), wrap_e s1 s10 (by omega) (by omega)]
            simp only [Option.bind_some]
            rw [if_neg (by omega)]) (JE_of hg)
          have e := glue_run (by omega) (by omega) (by omega) (s - (i + 1)).toNat s _ _ og o2 (by omega) (Int.le_refl _) hx1 hy2
          cases ho
          rw [← e]
      have hcg : zf_X2_canGlue s P i = (if s = 1 then (if 20 < zget P (Int.toNat i) + 2 then some false else if 20 < zget P (Int.toNat (Int.tmod (i + 1) s)) + 2 then some false else some true) else (if 20 < zget P (Int.toNat i) + 1 then some false else if 20 < zget P (Int.toNat (Int.tmod (i + 1) s)) + 1 then some false else some true)) := by
        unfold zf_X2_canGlue
        rw [if_neg (by unfold zout; omega), if_pos (by omega), at_e s1 s10 (by omega) (by omega), at_e s1 s10 (by omega) (by omega), ei]
        simp only [Option.bind_some]
        by_cases q1 : s = 1
        · rw [if_pos q1, if_pos q1, if_neg (by unfold zout; omega)]
          by_cases q2 : 20 < zget P (Int.toNat i) + 2
          · rw [if_pos q2, if_pos q2]
          · rw [if_neg q2, if_neg q2, if_neg (by unfold zout; omega)]
        · rw [if_neg q1, if_neg q1, if_neg (by unfold zout; omega)]
          by_cases q2 : 20 < zget P (Int.toNat i) + 1
          · rw [if_pos q2, if_pos q2]
          · rw [if_neg q2, if_neg q2, if_neg (by unfold zout; omega)]
      have hx : Option.bind (zf_X2_canGlue s P i) (fun o2 => if o2 = false then some ((-3 : Int), s, P) else Option.bind (zf_X2_glueBehind s P i) (fun o3 => some ((o3.1), (o3.2.1), (o3.2.2)))) = some o := by
        unfold zf_X2_canGlue
        rw [if_neg (by unfold zout; omega), if_pos (by omega), at_e s1 s10 (by omega) (by omega), at_e s1 s10 (by omega) (by omega), ei]
        exact ho
      have full : zg_X11_glue (0, i, 0, 0, s, P) = some (.inl ((-3 : Int), s, P)) → some ((-3 : Int), s, P) = some o → o = o2 := by
        intro ey ho
        have e2 := JE_end ey hy
        cases ho
        exact e2.symm
      have gy : zf_X2_canGlue s P i = some true → zg_X11_glue (0, i, 0, 0, s, P) = some (.inr (85, i, (Int.tmod (i + (1 : Int)) s), 0, s, P)) → o = o2 := by
        intro hb ey
        rw [hb] at hx
        simp only [Option.bind_some] at hx
        rw [if_neg (by decide)] at hx
        exact go hb hx ey
      have fy : zf_X2_canGlue s P i = some false → zg_X11_glue (0, i, 0, 0, s, P) = some (.inl ((-3 : Int), s, P)) → o = o2 := by
        intro hb ey
        rw [hb] at hx
        simp only [Option.bind_some] at hx
        first
          | rw [if_pos trivial] at hx
          | rw [if_pos rfl] at hx
        exact full ey hx
      by_cases s1' : s = 1
      · rw [if_pos s1'] at ey
        have ei0 : i = 0 := by omega
        have et : Int.tmod (i + 1) s = 0 := by rw [s1', ei0]; rfl
        by_cases q : zget P (Int.toNat 0) ≤ 18
        · rw [if_pos q] at ey
          refine gy ?_ ey
          rw [hcg, if_pos s1', et, ei0, if_neg (by omega), if_neg (by omega)]
        · rw [if_neg q] at ey
          refine fy ?_ ey
          rw [hcg, if_pos s1', ei0, if_pos (by omega)]
      · rw [if_neg s1', if_neg (by omega)] at ey
        by_cases q : 19 < zget P (Int.toNat i)
        · rw [if_pos q] at ey
          refine fy ?_ ey
          rw [hcg, if_neg s1', if_pos (by omega)]
        · rw [if_neg q, if_neg (by omega)] at ey
          by_cases q2 : zget P (Int.toNat (Int.tmod (i + 1) s)) ≤ 19
          · rw [if_pos q2] at ey
            refine gy ?_ ey
            rw [hcg, if_neg s1', if_neg (by omega), if_neg (by omega)]
          · rw [if_neg q2] at ey
            refine fy ?_ ey
            rw [hcg, if_neg s1', if_neg (by omega), if_pos (by omega)]
  · rw [decide_eq_false c, if_pos rfl] at ho
    rw [decide_eq_false c, if_pos rfl] at ey
    have e2 := JE_end ey hy
    cases ho
    exact e2.symm
/-- a loss -/
theorem lose_run {s : Int} (s3 : 3 ≤ s) (s10 : s ≤ 10) : ∀ (d : Nat) (k a b : Int) (P : Nat) (o : zO_X2_lose) (o2 : zO_X11_off), s = k + 1 + (d : Int) → 0 ≤ k → JE zg_X2_lose (55, a, k, s, P) o → JE zg_X11_off (37, b, s, k, s, P) o2 → o = (o2.1, o2.1, o2.2) ∧ o2.1 = s - 1 := by
  intro d
  induction d with
  | zero =>
    intro k a b P o o2 hk h0 hx hy
    have e1 := JE_end (o' := (s - 1, s - 1, P)) (by
      show zg_X2_lose_55 a k s P = _
      unfold zg_X2_lose_55
      rw [if_neg (by unfold zout; omega), if_neg (by unfold zout; omega), if_pos (by omega)]) hx
    have e2 := JE_end (o' := (s - 1, P)) (by
      show zg_X11_off_37 b s k s P = _
      unfold zg_X11_off_37
      rw [if_neg (by unfold zout; omega), if_neg (by unfold zout; omega), if_pos (by omega)]) hy
    rw [e1, e2]
    exact ⟨rfl, rfl⟩
  | succ d ih =>
    intro k a b P o o2 hk h0 hx hy
    have hx := JE_dn (s' := (55, 0, k + 1, s, zset P (Int.toNat k) (zget P (Int.toNat (k + 1))))) (by
      show zg_X2_lose_55 a k s P = _
      unfold zg_X2_lose_55
      rw [if_neg (by unfold zout; omega), if_neg (by unfold zout; omega), if_neg (by omega), if_neg (by omega), if_neg (by omega)]) hx
    have hy := JE_dn (s' := (37, 0, s, k + 1, s, zset P (Int.toNat k) (zget P (Int.toNat (k + 1))))) (by
      show zg_X11_off_37 b s k s P = _
      unfold zg_X11_off_37
      rw [if_neg (by unfold zout; omega), if_neg (by unfold zout; omega), if_neg (by omega), if_neg (by omega), if_neg (by omega)]) hy
    exact ih (k + 1) 0 0 _ o o2 (by omega) (by omega) hx hy
theorem prev_e {s i : Int} (s3 : 3 ≤ s) (s10 : s ≤ 10) (i0 : 0 ≤ i) (i1 : i < s) : zf_X2_wrapped s (i - 1) = some (Int.tmod ((i + s) - 1) s) ∧ Int.tmod ((i + s) - 1) s = (if i = 0 then s - 1 else i - 1) := by
  by_cases c : i = 0
  · subst c
    rw [show (0 : Int) - 1 = -1 by decide, wrap_m (by omega) s10, if_pos rfl, show (0 : Int) + s - 1 = s - 1 by omega, Int.tmod_eq_of_lt (by omega) (by omega)]
    exact ⟨rfl, rfl⟩
  · have e : Int.tmod ((i + s) - 1) s = i - 1 := by
      have h := Int.tmod_eq_emod_of_nonneg (a := (i + s) - 1) (b := s) (by omega)
      rw [h, show (i + s) - 1 = (i - 1) + s by omega, Int.add_emod_right, Int.emod_eq_of_lt (by omega) (by omega)]
    rw [wrap_e (by omega) s10 (by omega) (by omega), if_neg c, e, Int.tmod_eq_of_lt (by omega) (by omega)]
    exact ⟨rfl, rfl⟩
theorem next_e {s i : Int} (s3 : 3 ≤ s) (i0 : 0 ≤ i) (i1 : i < s) : Int.tmod (i + 1) s = (if i + 1 = s then 0 else i + 1) := by
  by_cases c : i + 1 = s
  · rw [if_pos c, c, Int.tmod_self]
  · rw [if_neg c, Int.tmod_eq_of_lt (by omega) (by omega)]
theorem lose_e {s i : Int} {P : Nat} (s1 : 1 ≤ s) (s10 : s ≤ 10) (hP : ∀ k : Nat, k < 10 → 0 ≤ zget P k ∧ zget P k ≤ 20) (i0 : 0 ≤ i) (i1 : i < s) : zf_X2_canLose s P i = zf_X11_isOff s P i := by
  unfold zf_X2_canLose zf_X11_isOff
  have zs : ¬ zout s := by unfold zout; omega
  rw [if_neg zs, if_neg zs]
  by_cases c : s < 3
  · rw [if_pos c, if_pos (by omega)]
  · rw [if_neg c, if_neg (by omega), if_neg (by omega)]
    have ei : Int.tmod i s = i := Int.tmod_eq_of_lt i0 i1
    have pe := prev_e (by omega) s10 i0 i1
    have ne := next_e (by omega) i0 i1
    have p0 := hP i.toNat (by omega)
    have r1 := rtmod (show 0 ≤ i + 1 by omega) (show 0 < s by omega)
    have r2 := rtmod (show 0 ≤ (i + s) - 1 by omega) (show 0 < s by omega)
    have p1 := hP (Int.toNat (Int.tmod (i + 1) s)) (by omega)
    have p2 := hP (Int.toNat (Int.tmod ((i + s) - 1) s)) (by omega)
    have ea : zf_X2_at s P (i - 1) = some (zget P (Int.toNat (Int.tmod ((i + s) - 1) s))) := by
      unfold zf_X2_at
      rw [pe.1]
      simp only [Option.bind_some]
      rw [if_neg (by omega)]
    rw [at_e s1 s10 i0 (by omega), ei]
    simp only [Option.bind_some]
    rw [if_neg (by unfold zout; omega)]
    by_cases q : zget P (Int.toNat i) = 1
    · rw [if_pos q, if_pos q, ea, at_e s1 s10 (by omega) (by omega)]
      simp only [Option.bind_some]
      have A1 : ¬ zout (zget P (Int.toNat (Int.tmod ((i + s) - 1) s))) := by unfold zout; omega
      have A2 : ¬ zout (zget P (Int.toNat (Int.tmod (i + 1) s))) := by unfold zout; omega
      have A3 : ¬ zout (i + 1) := by unfold zout; omega
      have A4 : ¬ s = 0 := by omega
      have A5 : ¬ (Int.tmod (i + 1) s < 0 ∨ 11 ≤ Int.tmod (i + 1) s) := by omega
      have A6 : ¬ zout ((i + s) - 1) := by unfold zout; omega
      have A7 : ¬ (Int.tmod ((i + s) - 1) s < 0 ∨ 11 ≤ Int.tmod ((i + s) - 1) s) := by omega
      by_cases q1 : zget P (Int.toNat (Int.tmod (i + 1) s)) ≤ 1
      · by_cases q2 : zget P (Int.toNat (Int.tmod ((i + s) - 1) s)) ≤ 1
        · simp only [if_neg A1, if_neg A2, if_neg A3, if_neg A4, if_neg A5, if_neg A6, if_neg A7, if_pos q1, if_pos q2]
        · simp only [if_neg A1, if_neg A2, if_neg A3, if_neg A4, if_neg A5, if_neg A6, if_neg A7, if_pos q1, if_neg q2]
      · by_cases q2 : zget P (Int.toNat (Int.tmod ((i + s) - 1) s)) ≤ 1
        · simp only [if_neg A1, if_neg A2, if_neg A3, if_neg A4, if_neg A5, if_neg A6, if_neg A7, if_neg q1, if_pos q2]
        · simp only [if_neg A1, if_neg A2, if_neg A3, if_neg A4, if_neg A5, if_neg A6, if_neg A7, if_neg q1, if_neg q2]
    · rw [if_neg q, if_neg q]
theorem off_e {s i : Int} {P : Nat} (s3 : 3 ≤ s) (s10 : s ≤ 10) (i0 : 0 ≤ i) (i1 : i < s) (hc : zf_X2_canLose s P i = some true) {o : zO_X2_lose} {o2 : zO_X11_off} (ho : zf_X2_lose s P i = some o) (ho2 : zf_X11_off s P i = some o2) : o = (o2.1, o2.1, o2.2) ∧ o2.1 = s - 1 := by
  have pe := prev_e s3 s10 i0 i1
  have ne := next_e s3 i0 i1
  have r1 := rtmod (show 0 ≤ i + 1 by omega) (show 0 < s by omega)
  have r2 := rtmod (show 0 ≤ (i + s) - 1 by omega) (show 0 < s by omega)
  have hd : ¬ Int.toNat (Int.tmod ((i + s) - 1) s) = Int.toNat (Int.tmod (i + 1) s) := by
    rw [pe.2, ne]
    split <;> split <;> omega
  have hx := JE_dn (s' := (55, i, i, s, (zset (zset P (Int.toNat (Int.tmod ((i + s) - 1) s)) ((zget P (Int.toNat (Int.tmod ((i + s) - 1) s))) - (1 : Int))) (Int.toNat (Int.tmod (i + 1) s)) ((zget (zset P (Int.toNat (Int.tmod ((i + s) - 1) s)) ((zget P (Int.toNat (Int.tmod ((i + s) - 1) s))) - (1 : Int))) (Int.toNat (Int.tmod (i + 1) s))) - (1 : Int))))) (by
    show zg_X2_lose_0 i 0 s P = _
    unfold zg_X2_lose_0
    rw [place_e (by unfold zout; omega) (by unfold zout; omega), decide_eq_true (by omega)]
    simp only [Option.bind_some]
    rw [if_neg (by decide), hc]
    simp only [Option.bind_some]
    rw [if_neg (by decide), pe.1]
    simp only [Option.bind_some]
    rw [if_neg (by omega), wrap_e (by omega) s10 (by omega) (by omega)]
    simp only [Option.bind_some]
    rw [if_neg (by omega)]) (JE_of ho)
  have hy := JE_dn (s' := (37, i, s, i, s, (zset (zset P (Int.toNat (Int.tmod (i + 1) s)) ((zget P (Int.toNat (Int.tmod (i + 1) s))) - (1 : Int))) (Int.toNat (Int.tmod ((i + s) - 1) s)) ((zget (zset P (Int.toNat (Int.tmod (i + 1) s)) ((zget P (Int.toNat (Int.tmod (i + 1) s))) - (1 : Int))) (Int.toNat (Int.tmod ((i + s) - 1) s))) - (1 : Int))))) (by
    show zg_X11_off_0 i 0 0 s P = _
    unfold zg_X11_off_0
    rw [if_neg (by unfold zout; omega), if_neg (by unfold zout; omega), if_neg (by omega), if_neg (by omega), if_neg (by unfold zout; omega), if_neg (by omega), if_neg (by omega)]) (JE_of ho2)
  rw [zget_set, if_neg (fun q => hd q.symm), zset_comm hd] at hx
  rw [zget_set, if_neg hd] at hy
  exact lose_run s3 s10 (s - (i + 1)).toNat i i i _ o o2 (by omega) i0 hx hy
theorem eq_cutOff (mk : Nat) {s i : Int} {P : Nat} (s1 : 1 ≤ s) (s10 : s ≤ 10) (hP : ∀ k : Nat, k < 10 → 0 ≤ zget P k ∧ zget P k ≤ 20) (hi : ¬ zout i) {o o2 : Int × Int × Nat} (ho : zf_X10_cutOff mk s P i = some o) (ho2 : zf_X11_cutOff s P i = some o2) : o = o2 := by
  unfold zf_X10_cutOff at ho
  unfold zf_X11_cutOff at ho2
  rw [place_e (by unfold zout; omega) hi] at ho
  rw [in_e hi (by decide) (by unfold zout; omega)] at ho2
  simp only [Option.bind_some] at ho ho2
  by_cases c : 0 ≤ i ∧ i ≤ s - 1
  · rw [decide_eq_true c, if_neg (by decide)] at ho ho2
    have e := lose_e s1 s10 hP c.1 (by omega)
    rw [← e] at ho2
    cases hc : zf_X2_canLose s P i with
    | none => rw [hc] at ho; cases ho
    | some b =>
      rw [hc] at ho ho2
      simp only [Option.bind_some] at ho ho2
      cases b with
      | false =>
        rw [if_pos rfl] at ho ho2
        cases ho
        cases ho2
        rfl
      | true =>
        rw [if_neg (by decide)] at ho ho2
        have s3 : 3 ≤ s := by
          by_cases q : s < 3
          · unfold zf_X2_canLose at hc
            rw [if_neg (by unfold zout; omega), if_pos q] at hc
            cases hc
          · omega
        cases h1 : zf_X2_lose s P i with
        | none => rw [h1] at ho; cases ho
        | some u =>
          cases h2 : zf_X11_off s P i with
          | none => rw [h2] at ho2; cases ho2
          | some v =>
            have q := off_e s3 s10 c.1 (by omega) hc h1 h2
            rw [h1] at ho
            rw [h2] at ho2
            cases ho
            cases ho2
            rw [q.1]
  · rw [decide_eq_false c, if_pos rfl] at ho ho2
    cases ho
    cases ho2
    rfl
end

section
/-! core, breaks, period, ofCut -/
def F1 (P : Nat) (s f : Int) : Prop := 0 ≤ f ∧ f ≤ s ∧ (∀ j : Nat, (j : Int) < f → ¬ zget P j = 1) ∧ (f < s → zget P f.toNat = 1)
theorem F1_u {P : Nat} {s f g : Int} (hf : F1 P s f) (hg : F1 P s g) : f = g := by
  obtain ⟨f0, f1, f2, f3⟩ := hf
  obtain ⟨g0, g1, g2, g3⟩ := hg
  by_cases c : f < g
  · exact absurd (f3 (by omega)) (g2 f.toNat (by omega))
  · by_cases d : g < f
    · exact absurd (g3 (by omega)) (f2 g.toNat (by omega))
    · omega
theorem first_x {P : Nat} {s : Int} (s1 : 1 ≤ s) (s10 : s ≤ 10) : Go (fun (o : Int) => (o = -1 ∧ F1 P s s) ∨ (0 ≤ o ∧ o < s ∧ F1 P s o)) (zf_X2_firstOne s P) := by
  refine jok (fun (st : zS_X2_firstOne) => match st with | (lab, i) => lab = 0 ∨ (lab = 2 ∧ 0 ≤ i ∧ i ≤ s ∧ ∀ j : Nat, (j : Int) < i → ¬ zget P j = 1)) (fun (st : zS_X2_firstOne) => match st with | (lab, i) => if lab = 0 then 100 else (s - i).toNat) _ ?_ _ ?_ ?_
  · intro st h
    obtain ⟨lab, i⟩ := st
    rcases h with rfl | ⟨rfl, h0, h1, h2⟩
    · show Go _ (zg_X2_firstOne_0 s P i)
      unfold zg_X2_firstOne_0
      refine Go_i ⟨Or.inr ⟨rfl, Int.le_refl 0, by show (0 : Int) ≤ s; omega, fun j hj => absurd hj (by show ¬ (j : Int) < 0; omega)⟩, ?_⟩
      show (if (2 : Nat) = 0 then 100 else (s - 0).toNat) < (if (0 : Nat) = 0 then 100 else (s - i).toNat)
      rw [if_neg (by decide), if_pos rfl]
      omega
    · show Go _ (zg_X2_firstOne_2 s P i)
      unfold zg_X2_firstOne_2
      refine Go_chk (by unfold zout; omega) ?_
      refine Go_chk (by unfold zout; omega) ?_
      refine Go_ite (fun c => ?_) (fun c => ?_)
      · have : i = s := by omega
        subst this
        exact Go_i (Or.inl ⟨rfl, h0, h1, h2, fun z => absurd z (by omega)⟩)
      · refine Go_chk (by omega) ?_
        refine Go_ite (fun c1 => ?_) (fun c1 => ?_)
        · exact Go_i (Or.inr ⟨h0, by show i < s; omega, h0, h1, h2, fun _ => c1⟩)
        · refine Go_i ⟨Or.inr ⟨rfl, by show 0 ≤ i + 1; omega, by show i + 1 ≤ s; omega, ?_⟩, ?_⟩
          · intro j hj
            replace hj : (j : Int) < i + 1 := hj
            by_cases e : (j : Int) = i
            · rw [show j = i.toNat by omega]; exact c1
            · exact h2 j (by omega)
          · show (if (2 : Nat) = 0 then 100 else (s - (i + 1)).toNat) < (if (2 : Nat) = 0 then 100 else (s - i).toNat)
            rw [if_neg (by decide), if_neg (by decide)]
            omega
  · exact Or.inl rfl
  · show (if (0 : Nat) = 0 then 100 else (s - 0).toNat) < jfuel
    rw [if_pos rfl]
    unfold jfuel
    decide
/-- the reference's way to the first one -/
theorem first_y {P : Nat} {s n : Int} (s1 : 1 ≤ s) (s10 : s ≤ 10) {o : zO_X11_core} : ∀ (d : Nat) (i : Int), i + (d : Int) = s → 0 ≤ i → (∀ j : Nat, (j : Int) < i → ¬ zget P j = 1) → JE zg_X11_core (4, n, i, s, P) o → ∃ f : Int, F1 P s f ∧ JE zg_X11_core (28, n, f, s, P) o := by
  intro d
  induction d with
  | zero =>
    intro i hi h0 hp h
    have hi : i = s := by omega
    subst hi
    refine ⟨i, ⟨h0, Int.le_refl _, hp, fun z => absurd z (by omega)⟩, ?_⟩
    exact JE_dn (by
      show zg_X11_core_4 n i i P = _
      unfold zg_X11_core_4
      rw [if_neg (by unfold zout; omega), if_neg (by unfold zout; omega), if_pos (Int.le_refl _)]) h
  | succ d ih =>
    intro i hi h0 hp h
    by_cases c : zget P (Int.toNat i) = 1
    · refine ⟨i, ⟨h0, by omega, hp, fun _ => c⟩, ?_⟩
      exact JE_dn (by
        show zg_X11_core_4 n i s P = _
        unfold zg_X11_core_4
        rw [if_neg (by unfold zout; omega), if_neg (by unfold zout; omega), if_neg (by omega), if_neg (by omega), if_pos c]) h
    · refine ih (i + 1) (by omega) (by omega) ?_ (JE_dn (by
        show zg_X11_core_4 n i s P = _
        unfold zg_X11_core_4
        rw [if_neg (by unfold zout; omega), if_neg (by unfold zout; omega), if_neg (by omega), if_neg (by omega), if_neg c]) h)
      intro j hj
      by_cases e : (j : Int) = i
      · rw [show j = i.toNat by omega]; exact c
      · exact hp j (by omega)
theorem JE_none {S O : Type} {g : S → Option (O ⊕ S)} {s : S} {o : O} (e : g s = none) (h : JE g s o) : False := by
  obtain ⟨n, hn⟩ := h
  cases n with
  | zero => rw [jrun_0] at hn; cases hn
  | succ n => rw [jrun_s, e] at hn; cases hn
set_option maxHeartbeats 1000000 in
theorem core_run : ∀ (m : Nat) (s n r i2 : Int) (P : Nat) (o : zO_X2_loseAll) (o2 : zO_X11_core), s ≤ (m : Int) → 1 ≤ s → s + r ≤ 10 → 0 ≤ r → (∀ k : Nat, k < 10 → 0 ≤ zget P k ∧ zget P k ≤ 20) → JE zg_X2_loseAll (4, n, r, s, P) o → JE zg_X11_core (2, n, i2, s, P) o2 → o = o2 := by
  intro m
  induction m with
  | zero => intro s n r i2 P o o2 h1 h2; omega
  | succ m ih =>
    intro s n r i2 P o o2 hm s1 hsr r0 hP hx hy
    obtain ⟨f, hf, hq⟩ := first_x (P := P) s1 (show s ≤ 10 by omega)
    have hy1 := JE_dn (s' := (4, n, 0, s, P)) rfl hy
    obtain ⟨g, hg, hy2⟩ := first_y s1 (by omega) s.toNat 0 (by omega) (Int.le_refl 0) (fun j hj => absurd hj (by omega)) hy1
    rcases hq with ⟨rfl, hq⟩ | ⟨f0, f1, hq⟩
    · have e := F1_u hq hg
      subst e
      have e1 := JE_end (o' := (n, s, P)) (by
        show zg_X2_loseAll_4 n r s P = _
        unfold zg_X2_loseAll_4
        rw [if_neg (by unfold zout; omega), if_neg (by omega), hf]
        rfl) hx
      have e2 := JE_end (o' := (n, s, P)) (by
        show zg_X11_core_28 n s s P = _
        unfold zg_X11_core_28
        rw [if_neg (by unfold zout; omega), if_neg (by unfold zout; omega), if_pos rfl]) hy2
      rw [e1, e2]
    · have e := F1_u hq hg
      subst e
      have el := lose_e s1 (show s ≤ 10 by omega) hP f0 f1
      cases hc : zf_X2_canLose s P f with
      | none =>
        obtain ⟨q, hq, -⟩ := ok_X2_canLose s P f s1 (by omega) hP f0 f1
        rw [hc] at hq
        cases hq
      | some b =>
        rw [hc] at el
        cases b with
        | false =>
          have e1 := JE_end (o' := (n, s, P)) (by
            show zg_X2_loseAll_4 n r s P = _
            unfold zg_X2_loseAll_4
            rw [if_neg (by unfold zout; omega), if_neg (by omega), hf]
            simp only [Option.bind_some]
            rw [if_neg (by unfold zout; omega), if_neg (by omega), hc]
            rfl) hx
          have e2 := JE_end (o' := (n, s, P)) (by
            show zg_X11_core_28 n f s P = _
            unfold zg_X11_core_28
            rw [if_neg (by unfold zout; omega), if_neg (by unfold zout; omega), if_neg (by omega), ← el]
            rfl) hy2
          rw [e1, e2]
        | true =>
          have s3 : 3 ≤ s := by
            by_cases q : s < 3
            · unfold zf_X2_canLose at hc
              rw [if_neg (by unfold zout; omega), if_pos q] at hc
              cases hc
            · omega
          obtain ⟨u, hu, u1, u2, u3, u4⟩ := ok_X2_lose s P f s1 (by omega) hP (by omega) (by omega)
          have hx2 := JE_dn (s' := (4, n + 1, r + 1, u.2.1, u.2.2)) (by
            show zg_X2_loseAll_4 n r s P = _
            unfold zg_X2_loseAll_4
            rw [if_neg (by unfold zout; omega), if_neg (by omega), hf]
            simp only [Option.bind_some]
            rw [if_neg (by unfold zout; omega), if_neg (by omega), hc]
            simp only [Option.bind_some]
            rw [if_neg (by decide), hu]
            rfl) hx
          cases hv : zf_X11_off s P f with
          | none =>
            exfalso
            refine JE_none ?_ hy2
            show zg_X11_core_28 n f s P = _
            unfold zg_X11_core_28
            rw [if_neg (by unfold zout; omega), if_neg (by unfold zout; omega), if_neg (by omega), ← el]
            simp only [Option.bind_some]
            rw [if_neg (by decide), hv]
            rfl
          | some v =>
            have q := off_e s3 (by omega) f0 f1 hc hu hv
            have hy3 := JE_dn (s' := (2, n + 1, f, v.1, v.2)) (by
              show zg_X11_core_28 n f s P = _
              unfold zg_X11_core_28
              rw [if_neg (by unfold zout; omega), if_neg (by unfold zout; omega), if_neg (by omega), ← el]
              simp only [Option.bind_some]
              rw [if_neg (by decide), hv]
              rfl) hy2
            have q2 := q.2
            have q1 := q.1
            subst q1
            exact ih v.1 (n + 1) (r + 1) f v.2 o o2 (by omega) (by omega) (by omega) (by omega) u3 hx2 hy3
theorem eq_core (mk : Nat) {s : Int} {P : Nat} (s1 : 1 ≤ s) (s10 : s ≤ 10) (hP : ∀ k : Nat, k < 10 → 0 ≤ zget P k ∧ zget P k ≤ 20) {o o2 : Int × Int × Nat} (ho : zf_X10_core mk s P = some o) (ho2 : zf_X11_core s P = some o2) : o = o2 := by
  unfold zf_X10_core at ho
  cases h : zf_X2_loseAll s P with
  | none => rw [h] at ho; cases ho
  | some u =>
    rw [h] at ho
    have hx := JE_dn (s' := (4, 0, 0, s, P)) rfl (JE_of h)
    have hy := JE_dn (s' := (2, 0, 0, s, P)) rfl (JE_of ho2)
    have e := core_run s.toNat s 0 0 0 P u o2 (by omega) s1 (by omega) (by omega) hP hx hy
    cases ho
    rw [← e]
/-! breaks -/
def BPl (s : Int) (P : Nat) (l r : Int) : Prop := 0 ≤ r ∧ r ≤ s ∧ (∀ j : Nat, (j : Int) < r → ∃ v : Int, zf_X11_alongOf s P (j : Int) l = some v ∧ 0 < v ∧ ¬ zoutL v) ∧ (r < s → ∃ v : Int, zf_X11_alongOf s P r l = some v ∧ v ≤ 0 ∧ ¬ zoutL v)
theorem along_v {s : Int} {P : Nat} (s1 : 1 ≤ s) (s10 : s ≤ 10) (hP : ∀ k : Nat, k < 11 → 0 ≤ zget P k ∧ zget P k ≤ 20) {i l : Int} (i0 : 0 ≤ i) (i9 : i ≤ 10) (l0 : 0 ≤ l) (l9 : l ≤ 12) : ∃ v : Int, zf_X11_alongOf s P i l = some v ∧ zf_X2_entryAt s P i l = some v ∧ ¬ zoutL v := by
  obtain ⟨v, hv, h1, h2⟩ := ok_X11_alongOf s P i l s1 s10 hP i0 i9 l0 (by omega)
  refine ⟨v, hv, ?_, by unfold zoutL; omega⟩
  rw [eq_ent s1 s10 (fun k hk => hP k (by omega)) i0 (by omega) l0 l9]
  exact hv
theorem break_x {s : Int} {P : Nat} (s1 : 1 ≤ s) (s10 : s ≤ 10) (hP : ∀ k : Nat, k < 11 → 0 ≤ zget P k ∧ zget P k ≤ 20) {l : Int} (l0 : 0 ≤ l) (l9 : l ≤ 12) : Go (fun (o : Int) => (o = -1 ∧ BPl s P l s) ∨ (0 ≤ o ∧ o < s ∧ BPl s P l o)) (zf_X2_breakPlace s P l) := by
  refine jok (fun (st : zS_X2_breakPlace) => match st with | (lab, a, i) => a = l ∧ (lab = 0 ∨ (lab = 2 ∧ 0 ≤ i ∧ i ≤ s ∧ ∀ j : Nat, (j : Int) < i → ∃ v : Int, zf_X11_alongOf s P (j : Int) l = some v ∧ 0 < v ∧ ¬ zoutL v))) (fun (st : zS_X2_breakPlace) => match st with | (lab, a, i) => if lab = 0 then 100 else (s - i).toNat) _ ?_ _ ?_ ?_
  · intro st h
    obtain ⟨lab, a, i⟩ := st
    obtain ⟨rfl, h⟩ := h
    rcases h with rfl | ⟨rfl, h0, h1, h2⟩
    · show Go _ (zg_X2_breakPlace_0 s P a i)
      unfold zg_X2_breakPlace_0
      refine Go_i ⟨⟨rfl, Or.inr ⟨rfl, Int.le_refl 0, by show (0 : Int) ≤ s; omega, fun j hj => absurd hj (by show ¬ (j : Int) < 0; omega)⟩⟩, ?_⟩
      show (if (2 : Nat) = 0 then 100 else (s - 0).toNat) < (if (0 : Nat) = 0 then 100 else (s - i).toNat)
      rw [if_neg (by decide), if_pos rfl]
      omega
    · show Go _ (zg_X2_breakPlace_2 s P a i)
      unfold zg_X2_breakPlace_2
      refine Go_chk (by unfold zout; omega) ?_
      refine Go_chk (by unfold zout; omega) ?_
      refine Go_ite (fun c => ?_) (fun c => ?_)
      · have : i = s := by omega
        subst this
        exact Go_i (Or.inl ⟨rfl, h0, h1, h2, fun z => absurd z (by omega)⟩)
      · obtain ⟨v, v1, v2, v3⟩ := along_v s1 s10 hP (i := i) (l := a) h0 (by omega) l0 l9
        rw [v2]
        simp only [Option.bind_some]
        refine Go_chk v3 ?_
        refine Go_ite (fun c1 => ?_) (fun c1 => ?_)
        · refine Go_i ⟨⟨rfl, Or.inr ⟨rfl, by show 0 ≤ i + 1; omega, by show i + 1 ≤ s; omega, ?_⟩⟩, ?_⟩
          · intro j hj
            replace hj : (j : Int) < i + 1 := hj
            by_cases e : (j : Int) = i
            · rw [e]; exact ⟨v, v1, c1, v3⟩
            · exact h2 j (by omega)
          · show (if (2 : Nat) = 0 then 100 else (s - (i + 1)).toNat) < (if (2 : Nat) = 0 then 100 else (s - i).toNat)
            rw [if_neg (by decide), if_neg (by decide)]
            omega
        · exact Go_i (Or.inr ⟨h0, by show i < s; omega, h0, h1, h2, fun _ => ⟨v, v1, by omega, v3⟩⟩)
  · exact ⟨rfl, Or.inl rfl⟩
  · show (if (0 : Nat) = 0 then 100 else (s - 0).toNat) < jfuel
    rw [if_pos rfl]
    unfold jfuel
    decide
theorem eq_all {s : Int} {P : Nat} (s1 : 1 ≤ s) (s10 : s ≤ 10) (hP : ∀ k : Nat, k < 11 → 0 ≤ zget P k ∧ zget P k ≤ 20) {l w : Int} (l0 : 0 ≤ l) (l9 : l ≤ 12) : zf_X2_allAre s P l w = zf_X11_isAll s P l w := by
  unfold zf_X2_allAre zf_X11_isAll
  refine jrun_congr (fun (st : zS_X2_allAre) => match st with | (lab, a, b, i) => a = l ∧ b = w ∧ (lab = 0 ∨ (lab = 3 ∧ 0 ≤ i ∧ i ≤ s))) ?_ ?_ jfuel _ ⟨rfl, rfl, Or.inl rfl⟩
  · intro st h
    obtain ⟨lab, a, b, i⟩ := st
    obtain ⟨rfl, rfl, h⟩ := h
    rcases h with rfl | ⟨rfl, h0, h1⟩
    · show zg_X2_allAre_0 s P a b i = zg_X11_isAll_0 s P a b i
      unfold zg_X2_allAre_0 zg_X11_isAll_0
      rfl
    · show zg_X2_allAre_3 s P a b i = zg_X11_isAll_3 s P a b i
      unfold zg_X2_allAre_3 zg_X11_isAll_3
      by_cases c : s ≤ i
      · rw [if_neg (by unfold zout; omega), if_neg (by unfold zout; omega), if_pos c, if_neg (by unfold zout; omega), if_neg (by unfold zout; omega), if_pos c]
      · rw [eq_ent s1 s10 (fun k hk => hP k (by omega)) h0 (by omega) l0 l9]
  · intro st st' h e
    obtain ⟨lab, a, b, i⟩ := st
    obtain ⟨rfl, rfl, h⟩ := h
    rcases h with rfl | ⟨rfl, h0, h1⟩
    · replace e : zg_X2_allAre_0 s P a b i = some (.inr st') := e
      unfold zg_X2_allAre_0 at e
      cases e
      exact ⟨rfl, rfl, Or.inr ⟨rfl, Int.le_refl 0, by show (0 : Int) ≤ s; omega⟩⟩
    · replace e : zg_X2_allAre_3 s P a b i = some (.inr st') := e
      unfold zg_X2_allAre_3 at e
      by_cases c : s ≤ i
      · rw [if_neg (by unfold zout; omega), if_neg (by unfold zout; omega), if_pos c] at e
        cases e
      · obtain ⟨v, v1, v2, v3⟩ := along_v s1 s10 hP (i := i) (l := a) h0 (by omega) l0 l9
        rw [if_neg (by unfold zout; omega), if_neg (by unfold zout; omega), if_neg c, v2] at e
        simp only [Option.bind_some] at e
        rw [if_neg v3] at e
        by_cases zb : zoutL b
        · rw [if_pos zb] at e; cases e
        · rw [if_neg zb] at e
          by_cases q : v = b
          · rw [if_pos q] at e
            cases e
            exact ⟨rfl, rfl, Or.inr ⟨rfl, by show 0 ≤ i + 1; omega, by show i + 1 ≤ s; omega⟩⟩
          · rw [if_neg q] at e
            cases e
theorem BPl_u {s : Int} {P : Nat} {l r q : Int} (hr : BPl s P l r) (hq : BPl s P l q) : r = q := by
  obtain ⟨r0, r1, r2, r3⟩ := hr
  obtain ⟨q0, q1, q2, q3⟩ := hq
  by_cases c : r < q
  · obtain ⟨v, v1, v2, -⟩ := r3 (by omega)
    obtain ⟨w, w1, w2, -⟩ := q2 r.toNat (by omega)
    rw [show ((r.toNat : Nat) : Int) = r by omega, v1] at w1
    cases w1
    omega
  · by_cases d : q < r
    · obtain ⟨v, v1, v2, -⟩ := q3 (by omega)
      obtain ⟨w, w1, w2, -⟩ := r2 q.toNat (by omega)
      rw [show ((q.toNat : Nat) : Int) = q by omega, v1] at w1
      cases w1
      omega
    · omega
theorem y21 {s : Int} {P : Nat} (s1 : 1 ≤ s) (s10 : s ≤ 10) {w l r : Int} (hr : BPl s P l r) {o : zO_X11_breaks} : ∀ (d : Nat) (i : Int), i + (d : Int) = r → 0 ≤ i → JE (zg_X11_breaks s P) (21, w, l, i) o → JE (zg_X11_breaks s P) (21, w, l, r) o := by
  obtain ⟨r0, r1, r2, r3⟩ := hr
  intro d
  induction d with
  | zero => intro i hi h0 h; have : i = r := (by omega); subst this; exact h
  | succ d ih =>
    intro i hi h0 h
    obtain ⟨v, v1, v2, v3⟩ := r2 i.toNat (by omega)
    rw [show ((i.toNat : Nat) : Int) = i by omega] at v1
    refine ih (i + 1) (by omega) (by omega) (JE_dn (by
      show zg_X11_breaks_21 s P w l i = _
      unfold zg_X11_breaks_21
      rw [if_neg (by unfold zout; omega), if_neg (by unfold zout; omega), if_neg (by omega), v1]
      simp only [Option.bind_some]
      rw [if_neg v3, if_neg (by omega)]) h)
theorem break_run {s : Int} {P : Nat} (s1 : 1 ≤ s) (s10 : s ≤ 10) (hP : ∀ k : Nat, k < 11 → 0 ≤ zget P k ∧ zget P k ≤ 20) {w : Int} {b : Int} {o2 : zO_X11_breaks} : ∀ (d : Nat) (l i3 : Int), l + (d : Int) = 13 → 2 ≤ l → JE (zg_X2_breakLength s P) (2, l) b → JE (zg_X11_breaks s P) (13, w, l, i3) o2 → (b = -1 ∧ o2 = -1) ∨ (2 ≤ b ∧ b ≤ 12 ∧ ∃ r : Int, 0 ≤ r ∧ r < s ∧ BPl s P b r ∧ JE (zg_X11_breaks s P) (21, w, b, r) o2) := by
  intro d
  induction d with
  | zero =>
    intro l i3 hl h2 hx hy
    have hl : l = 13 := by omega
    subst hl
    have e1 := JE_end (o' := -1) rfl hx
    have e2 := JE_end (o' := -1) rfl hy
    exact Or.inl ⟨e1, e2⟩
  | succ d ih =>
    intro l i3 hl h2 hx hy
    have hy1 := JE_dn (s' := (21, w, l, 0)) (by
      show zg_X11_breaks_13 s P w l i3 = _
      unfold zg_X11_breaks_13
      rw [if_neg (by unfold zout; omega), if_neg (by omega)]) hy
    obtain ⟨r, hr, hq⟩ := break_x s1 s10 hP (l := l) (by omega) (by omega)
    rcases hq with ⟨rfl, hq⟩ | ⟨r0, r1, hq⟩
    · have hx1 := JE_dn (s' := (2, l + 1)) (by
        show zg_X2_breakLength_2 s P l = _
        unfold zg_X2_breakLength_2
        rw [if_neg (by unfold zout; omega), if_neg (by omega), hr]
        rfl) hx
      have hy2 := y21 s1 s10 hq s.toNat 0 (by omega) (Int.le_refl 0) hy1
      have hy3 := JE_dn (s' := (13, w, l + 1, s)) (by
        show zg_X11_breaks_21 s P w l s = _
        unfold zg_X11_breaks_21
        rw [if_neg (by unfold zout; omega), if_neg (by unfold zout; omega), if_pos (Int.le_refl _)]) hy2
      exact ih (l + 1) s (by omega) (by omega) hx1 hy3
    · have e1 := JE_end (o' := l) (by
        show zg_X2_breakLength_2 s P l = _
        unfold zg_X2_breakLength_2
        rw [if_neg (by unfold zout; omega), if_neg (by omega), hr]
        simp only [Option.bind_some]
        rw [if_neg (by unfold zout; omega), if_neg (by omega)]) hx
      subst e1
      exact Or.inr ⟨h2, by omega, r, r0, r1, hq, y21 s1 s10 hq r.toNat 0 (by omega) (Int.le_refl 0) hy1⟩
theorem eq_breaks (mk : Nat) {s w : Int} {P : Nat} (s1 : 1 ≤ s) (s10 : s ≤ 10) (hP : ∀ k : Nat, k < 11 → 0 ≤ zget P k ∧ zget P k ≤ 20) (hw : ¬ zout w) {o o2 : Int} (ho : zf_X10_breaks mk s P w = some o) (ho2 : zf_X11_breaks s P w = some o2) : o = o2 := by
  have hy := JE_of ho2
  unfold zf_X10_breaks at ho
  cases hb : zf_X2_breakLength s P with
  | none => rw [hb] at ho; cases ho
  | some b =>
    rw [hb] at ho
    simp only [Option.bind_some] at ho
    have hx := JE_dn (s' := (2, 2)) rfl (JE_of hb)
    by_cases c : 0 ≤ w ∧ w ≤ 2
    · have hy1 := JE_dn (s' := (13, w, 2, 0)) (by
        show zg_X11_breaks_0 s P w 0 0 = _
        unfold zg_X11_breaks_0
        rw [in_e hw (by decide) (by decide), decide_eq_true c]
        rfl) hy
      rcases break_run s1 s10 hP 11 2 0 (by decide) (by decide) hx hy1 with ⟨rfl, rfl⟩ | ⟨b2, b12, r, r0, r1, hr, hy2⟩
      · rw [if_neg (by decide), if_pos rfl] at ho
        cases ho
        rfl
      · rw [if_neg (by unfold zout; omega), if_neg (by omega), if_neg hw] at ho
        obtain ⟨v, v1, v2, v3⟩ := hr.2.2.2 r1
        have ey : zg_X11_breaks s P (21, w, b, r) = (if w = 0 then some (.inl b) else if w = 1 then some (.inl r) else Option.bind (zf_X11_isAll s P b (0 : Int)) (fun o10 => if o10 = false then some (.inl ((0 : Int))) else if zout b then none else if b = (12 : Int) then some (.inl ((1 : Int))) else Option.bind (zf_X11_isAll s P (b + (1 : Int)) (-1 : Int)) (fun o12 => if o12 = false then some (.inl ((0 : Int))) else some (.inl ((1 : Int)))))) := by
          show zg_X11_breaks_21 s P w b r = _
          unfold zg_X11_breaks_21
          rw [if_neg (by unfold zout; omega), if_neg (by unfold zout; omega), if_neg (by omega), v1]
          simp only [Option.bind_some]
          rw [if_neg v3, if_pos v2, if_neg hw]
        by_cases w0 : w = 0
        · rw [if_pos w0] at ho ey
          have e := JE_end ey hy2
          cases ho
          exact e.symm
        · rw [if_neg w0] at ho ey
          by_cases w1 : w = 1
          · rw [if_pos w1] at ho ey
            have e := JE_end ey hy2
            obtain ⟨r', hr', hq⟩ := break_x s1 s10 hP (l := b) (by omega) b12
            rw [hr'] at ho
            cases ho
            rcases hq with ⟨_, hq⟩ | ⟨_, _, hq⟩
            · exact absurd (BPl_u hq hr) (by omega)
            · rw [e]; exact BPl_u hq hr
          · rw [if_neg w1] at ho ey
            rw [if_pos (by omega)] at ho
            unfold zf_X2_comesBack at ho
            rw [eq_all s1 s10 hP (by omega) b12] at ho
            cases h1 : zf_X11_isAll s P b 0 with
            | none => rw [h1] at ho; cases ho
            | some b1 =>
              rw [h1] at ho ey
              simp only [Option.bind_some] at ho ey
              cases b1 with
              | false =>
                rw [if_pos rfl] at ho ey
                have e := JE_end ey hy2
                cases ho
                exact e.symm
              | true =>
                rw [if_neg (by decide), if_neg (by unfold zout; omega)] at ho ey
                by_cases c12 : b = 12
                · rw [if_pos c12] at ho ey
                  have e := JE_end ey hy2
                  cases ho
                  exact e.symm
                · rw [if_neg c12] at ho ey
                  rw [eq_all s1 s10 hP (by omega) (by omega)] at ho
                  cases h2 : zf_X11_isAll s P (b + 1) (-1) with
                  | none => rw [h2] at ho; cases ho
                  | some b2 =>
                    rw [h2] at ho ey
                    simp only [Option.bind_some] at ho ey
                    cases b2 with
                    | false =>
                      rw [if_pos rfl] at ho ey
                      have e := JE_end ey hy2
                      cases ho
                      exact e.symm
                    | true =>
                      rw [if_neg (by decide)] at ho ey
                      have e := JE_end ey hy2
                      cases ho
                      exact e.symm
    · have e := JE_end (o' := -1) (by
        show zg_X11_breaks_0 s P w 0 0 = _
        unfold zg_X11_breaks_0
        rw [in_e hw (by decide) (by decide), decide_eq_false c]
        rfl) hy
      subst e
      by_cases q1 : zout b
      · rw [if_pos q1] at ho; cases ho
      · rw [if_neg q1] at ho
        by_cases q2 : b = -1
        · rw [if_pos q2] at ho; cases ho; rfl
        · rw [if_neg q2, if_neg hw, if_neg (by omega), if_neg (by omega), if_neg (by omega)] at ho
          cases ho
          rfl
end

section
/-! period and ofCut -/
noncomputable def cpN (P : Nat) (f : Nat → Int) (k : Nat) : Nat := Nat.rec P (fun i ih => zset ih i (f i)) k
theorem cpN_s (P : Nat) (f : Nat → Int) (k : Nat) : cpN P f (k + 1) = zset (cpN P f k) k (f k) := rfl
theorem cpN_c {P : Nat} {f g : Nat → Int} : ∀ k : Nat, (∀ j : Nat, j < k → f j = g j) → cpN P f k = cpN P g k := by
  intro k
  induction k with
  | zero => intro _; rfl
  | succ k ih => intro h; rw [cpN_s, cpN_s, ih (fun j hj => h j (by omega)), h k (by omega)]
theorem become_e {s : Int} {P q : Nat} {n : Nat} (n10 : n ≤ 10) {o : zO_X2_become} (ho : zf_X2_become s P q (n : Int) = some o) : o = ((n : Int), (n : Int), cpN P (fun i => zget q i) n) := by
  have run : ∀ d k : Nat, k + d = n → ∀ i2 : Int, JE (zg_X2_become q) (12, i2, (k : Int), (n : Int), cpN P (fun i => zget q i) k) ((n : Int), (n : Int), cpN P (fun i => zget q i) n) := by
    intro d
    induction d with
    | zero =>
      intro k hk i2
      have hk : k = n := by omega
      subst hk
      refine JE_in ?_
      show zg_X2_become_12 q i2 (k : Int) (k : Int) (cpN P (fun i => zget q i) k) = _
      unfold zg_X2_become_12
      rw [if_neg (by unfold zout; omega), if_neg (by unfold zout; omega), if_pos (Int.le_refl _)]
    | succ d ih =>
      intro k hk i2
      have ih := ih (k + 1) (by omega) 0
      rw [show (((k + 1 : Nat) : Nat) : Int) = (k : Int) + 1 by omega, cpN_s] at ih
      refine JE_up ?_ ih
      show zg_X2_become_12 q i2 (k : Int) (n : Int) (cpN P (fun i => zget q i) k) = _
      unfold zg_X2_become_12
      rw [if_neg (by unfold zout; omega), if_neg (by unfold zout; omega), if_neg (by omega), if_neg (by omega), if_neg (by omega), Int.toNat_natCast]
  have h : JE (zg_X2_become q) (0, (n : Int), 0, s, P) ((n : Int), (n : Int), cpN P (fun i => zget q i) n) := by
    refine JE_up (s' := (12, (n : Int), 0, (n : Int), P)) ?_ (run n 0 (by omega) (n : Int))
    show zg_X2_become_0 q (n : Int) 0 s P = _
    unfold zg_X2_become_0 zmin
    rw [if_neg (by unfold zout; omega)]
    by_cases c : (10 : Int) < (n : Int)
    · omega
    · rw [if_neg c]
  exact JE_det (JE_of ho) h
/-- a row's numbers are taken -/
def accP (q : Nat) (n : Nat) : Prop := ∀ j : Nat, j < n → 1 ≤ zget q j ∧ zget q j ≤ 20
theorem acc_x {q n : Nat} (n1 : 1 ≤ n) (n10 : n ≤ 10) {b : Bool} (hb : zf_X2_accepts q (n : Int) = some b) : b = true ↔ accP q n := by
  have run : ∀ d k : Nat, k + d = n → (∀ j : Nat, j < k → 1 ≤ zget q j ∧ zget q j ≤ 20) → JE (zg_X2_accepts q) (21, (n : Int), (k : Int)) b → (b = true ↔ accP q n) := by
    intro d
    induction d with
    | zero =>
      intro k hk hp h
      have hk : k = n := by omega
      subst hk
      have e := JE_end (o' := true) (by
        show zg_X2_accepts_21 q (k : Int) (k : Int) = _
        unfold zg_X2_accepts_21
        rw [if_neg (by unfold zout; omega), if_neg (by unfold zout; omega), if_pos (Int.le_refl _)]) h
      subst e
      exact ⟨fun _ => hp, fun _ => rfl⟩
    | succ d ih =>
      intro k hk hp h
      by_cases c1 : zget q k < 1
      · have e := JE_end (o' := false) (by
          show zg_X2_accepts_21 q (n : Int) (k : Int) = _
          unfold zg_X2_accepts_21
          rw [if_neg (by unfold zout; omega), if_neg (by unfold zout; omega), if_neg (by omega), if_neg (by omega), Int.toNat_natCast, if_pos c1]) h
        subst e
        exact ⟨(fun z => by cases z), fun z => absurd (z k (by omega)) (by omega)⟩
      · by_cases c2 : zget q k ≤ 20
        · have h := JE_dn (s' := (21, (n : Int), (k : Int) + 1)) (by
            show zg_X2_accepts_21 q (n : Int) (k : Int) = _
            unfold zg_X2_accepts_21
            rw [if_neg (by unfold zout; omega), if_neg (by unfold zout; omega), if_neg (by omega), if_neg (by omega), Int.toNat_natCast, if_neg c1, if_pos c2]) h
          refine ih (k + 1) (by omega) ?_ (by rw [show (((k + 1 : Nat) : Nat) : Int) = (k : Int) + 1 by omega]; exact h)
          intro j hj
          by_cases e : j = k
          · rw [e]; omega
          · exact hp j (by omega)
        · have e := JE_end (o' := false) (by
            show zg_X2_accepts_21 q (n : Int) (k : Int) = _
            unfold zg_X2_accepts_21
            rw [if_neg (by unfold zout; omega), if_neg (by unfold zout; omega), if_neg (by omega), if_neg (by omega), Int.toNat_natCast, if_neg c1, if_neg c2]) h
          subst e
          exact ⟨(fun z => by cases z), fun z => absurd (z k (by omega)) (by omega)⟩
  refine run n 0 (by omega) (fun j hj => absurd hj (by omega)) (JE_dn (by
    show zg_X2_accepts_0 q (n : Int) 0 = _
    unfold zg_X2_accepts_0
    rw [if_neg (by unfold zout; omega), if_neg (by omega), if_neg (by omega), if_pos (by omega)]
    rfl) (JE_of hb))
theorem acc_n {q : Nat} {n : Int} (hz : ¬ zout n) (h : ¬ (1 ≤ n ∧ n ≤ 10)) {b : Bool} (hb : zf_X2_accepts q n = some b) : b = false := by
  have e : JE (zg_X2_accepts q) (0, n, 0) false := by
    refine JE_in ?_
    show zg_X2_accepts_0 q n 0 = _
    unfold zg_X2_accepts_0
    rw [if_neg hz]
    by_cases c : n < 1
    · rw [if_pos c]
    · rw [if_neg c, if_pos (by omega)]
  exact JE_det (JE_of hb) e
theorem per_y {B t : Nat} {n : Nat} (n1 : 1 ≤ n) (n10 : n ≤ 10) {ta sz so at_ en nu wo rm pm : Int} {P : Nat} {o : zO_X11_period} (h : JE (zg_X11_period B) (20, (n : Int), 0, ta, sz, so, at_, en, nu, wo, rm, pm, t, P) o) : (accP t n ∧ o = ((n : Int), ta, sz, so, at_, en, nu, wo, rm, (n : Int), t, cpN P (fun i => zget t i) n)) ∨ (¬ accP t n ∧ o = (-2, ta, sz, so, at_, en, nu, wo, rm, pm, t, P)) := by
  have copy : ∀ d k : Nat, k + d = n → JE (zg_X11_period B) (56, (n : Int), (k : Int), ta, sz, so, at_, en, nu, wo, rm, (n : Int), t, cpN P (fun i => zget t i) k) o → o = ((n : Int), ta, sz, so, at_, en, nu, wo, rm, (n : Int), t, cpN P (fun i => zget t i) n) := by
    intro d
    induction d with
    | zero =>
      intro k hk h
      have hk : k = n := by omega
      subst hk
      exact JE_end (by
        show zg_X11_period_56 B (k : Int) (k : Int) ta sz so at_ en nu wo rm (k : Int) t (cpN P (fun i => zget t i) k) = _
        unfold zg_X11_period_56
        rw [if_neg (by unfold zout; omega), if_neg (by unfold zout; omega), if_pos (Int.le_refl _)]) h
    | succ d ih =>
      intro k hk h
      have h := JE_dn (s' := (56, (n : Int), (k : Int) + 1, ta, sz, so, at_, en, nu, wo, rm, (n : Int), t, cpN P (fun i => zget t i) (k + 1))) (by
        show zg_X11_period_56 B (n : Int) (k : Int) ta sz so at_ en nu wo rm (n : Int) t (cpN P (fun i => zget t i) k) = _
        unfold zg_X11_period_56
        rw [if_neg (by unfold zout; omega), if_neg (by unfold zout; omega), if_neg (by omega), if_neg (by omega), if_neg (by omega), Int.toNat_natCast]
        rfl) h
      exact ih (k + 1) (by omega) (by rw [show (((k + 1 : Nat) : Nat) : Int) = (k : Int) + 1 by omega]; exact h)
  have run : ∀ d k : Nat, k + d = n → (∀ j : Nat, j < k → 1 ≤ zget t j ∧ zget t j ≤ 20) → JE (zg_X11_period B) (20, (n : Int), (k : Int), ta, sz, so, at_, en, nu, wo, rm, pm, t, P) o → (accP t n ∧ o = ((n : Int), ta, sz, so, at_, en, nu, wo, rm, (n : Int), t, cpN P (fun i => zget t i) n)) ∨ (¬ accP t n ∧ o = (-2, ta, sz, so, at_, en, nu, wo, rm, pm, t, P)) := by
    intro d
    induction d with
    | zero =>
      intro k hk hp h
      have hk : k = n := by omega
      subst hk
      have h := JE_dn (s' := (56, (k : Int), 0, ta, sz, so, at_, en, nu, wo, rm, (k : Int), t, P)) (by
        show zg_X11_period_20 B (k : Int) (k : Int) ta sz so at_ en nu wo rm pm t P = _
        unfold zg_X11_period_20
        rw [if_neg (by unfold zout; omega), if_neg (by unfold zout; omega), if_pos (Int.le_refl _)]) h
      exact Or.inl ⟨hp, copy k 0 (by omega) h⟩
    | succ d ih =>
      intro k hk hp h
      have ein := in_e (v := zget t k) (a := 1) (b := 20) (zget_in _ _) (by decide) (by decide)
      by_cases c : 1 ≤ zget t k ∧ zget t k ≤ 20
      · have h := JE_dn (s' := (20, (n : Int), (k : Int) + 1, ta, sz, so, at_, en, nu, wo, rm, pm, t, P)) (by
          show zg_X11_period_20 B (n : Int) (k : Int) ta sz so at_ en nu wo rm pm t P = _
          unfold zg_X11_period_20
          rw [if_neg (by unfold zout; omega), if_neg (by unfold zout; omega), if_neg (by omega), if_neg (by omega), Int.toNat_natCast, ein, decide_eq_true c]
          rfl) h
        refine ih (k + 1) (by omega) ?_ (by rw [show (((k + 1 : Nat) : Nat) : Int) = (k : Int) + 1 by omega]; exact h)
        intro j hj
        by_cases e : j = k
        · rw [e]; exact c
        · exact hp j (by omega)
      · have e := JE_end (o' := (-2, ta, sz, so, at_, en, nu, wo, rm, pm, t, P)) (by
          show zg_X11_period_20 B (n : Int) (k : Int) ta sz so at_ en nu wo rm pm t P = _
          unfold zg_X11_period_20
          rw [if_neg (by unfold zout; omega), if_neg (by unfold zout; omega), if_neg (by omega), if_neg (by omega), Int.toNat_natCast, ein, decide_eq_false c]
          rfl) h
        exact Or.inr ⟨fun z => c (z k (by omega)), e⟩
  exact run n 0 (by omega) (fun j hj => absurd hj (by omega)) h
theorem sh_0 {len : Int} (l0 : 0 ≤ len) (l3 : len ≤ 300) : zf_X8_shorten len 0 = some 0 := by
  unfold zf_X8_shorten
  rw [if_neg (by decide), if_neg (by decide), if_neg (by unfold zout; omega), if_neg (by omega)]
set_option maxHeartbeats 1000000 in
theorem eq_period (mk : Nat) {len nx kd pl va : Int} {B : Nat} {s : Int} {P q : Nat} {sz so at_ en nu wo rm : Int} {t : Nat} (l0 : 0 ≤ len) (l3 : len ≤ 300) (hB : BR B) {o : Int × Int × Int × Int × Int × Int × Int × Nat × Nat} {o2 : zO_X11_period} (ho : zf_X10_period mk len nx kd pl va B s P q = some o) (ho2 : zf_X11_period len sz so at_ en nu wo rm s B t P = some o2) : o.1 = o2.1 ∧ o.2.1 = o2.2.1 ∧ o.2.2.2.2.2.2.1 = o2.2.2.2.2.2.2.2.2.2.1 ∧ o.2.2.2.2.2.2.2.1 = o2.2.2.2.2.2.2.2.2.2.2.2 := by
  unfold zf_X10_period at ho
  cases h1 : zf_X8_readNumbers len nx kd pl va B q with
  | none => rw [h1] at ho; cases ho
  | some r =>
    rw [h1] at ho
    simp only [Option.bind_some] at ho
    rw [sh_0 l0 l3] at ho
    simp only [Option.bind_some] at ho
    have hy := JE_of ho2
    have ey : zg_X11_period B (0, 0, 0, len, sz, so, at_, en, nu, wo, rm, s, t, P) = zg_X11_period_0 B 0 0 len sz so at_ en nu wo rm s t P := rfl
    unfold zg_X11_period_0 at ey
    cases h2 : zf_X11_readRow len sz so at_ en nu wo rm B t with
    | none =>
      rw [h2] at ey
      exact (JE_none ey hy).elim
    | some r2 =>
      obtain ⟨e1, e2, e3, e4, e5⟩ := row_eq l0 l3 hB h1 h2
      rw [h2] at ey
      simp only [Option.bind_some] at ey
      rw [in_e (by unfold zout; omega) (by decide) (by decide)] at ey
      simp only [Option.bind_some] at ey
      by_cases c : 1 ≤ r2.1 ∧ r2.1 ≤ 10
      · rw [decide_eq_true c, if_neg (by decide)] at ey
        obtain ⟨n, hn⟩ : ∃ n : Nat, r2.1 = (n : Int) := ⟨r2.1.toNat, by omega⟩
        have hr : r.1 = (n : Int) := e1.trans hn
        rw [hr] at ho e5
        rw [hn] at ey
        have hy1 := JE_dn ey hy
        have acc : accP r.2.2.2.2.2 n ↔ accP r2.2.2.2.2.2.2.2.2.2 n := by
          constructor
          · intro h j hj; rw [← (e5 j (by omega)).1]; exact h j hj
          · intro h j hj; rw [(e5 j (by omega)).1]; exact h j hj
        cases hb : zf_X2_accepts r.2.2.2.2.2 (n : Int) with
        | none => rw [hb] at ho; cases ho
        | some b =>
          have hab := acc_x (by omega) (by omega) hb
          rw [hb] at ho
          simp only [Option.bind_some] at ho
          rcases per_y (by omega) (by omega) hy1 with ⟨p1, p2⟩ | ⟨p1, p2⟩
          · have : b = true := hab.mpr (acc.mpr p1)
            subst this
            rw [if_neg (by decide)] at ho
            cases hw : zf_X2_become s P r.2.2.2.2.2 (n : Int) with
            | none => rw [hw] at ho; cases ho
            | some w =>
              have ew := become_e (by omega) hw
              subst ew
              rw [hw] at ho
              cases ho
              subst p2
              refine ⟨rfl, e4.symm, rfl, ?_⟩
              exact cpN_c n (fun j hj => (e5 j (by omega)).1)
          · have : b = false := by
              cases b with
              | false => rfl
              | true => exact absurd (acc.mp (hab.mp rfl)) p1
            subst this
            rw [if_pos rfl] at ho
            cases ho
            subst p2
            exact ⟨rfl, e4.symm, rfl, rfl⟩
      · rw [decide_eq_false c, if_pos rfl] at ey
        have e := JE_end ey hy
        cases hb : zf_X2_accepts r.2.2.2.2.2 r.1 with
        | none => rw [hb] at ho; cases ho
        | some b =>
          have eb := acc_n (by unfold zout; omega) (by rw [e1]; exact c) hb
          subst eb
          rw [hb] at ho
          simp only [Option.bind_some] at ho
          rw [if_pos trivial] at ho
          cases ho
          subst e
          exact ⟨rfl, e4.symm, rfl, rfl⟩
/-- ofCut -/
theorem ofc_x {mk m : Nat} (p0 : ¬ zno mk m) {b : Int} (hb : isCut m b) {s : Int} {P : Nat} {o : zO_X10_ofCut} : ∀ (d k : Nat) (q : Nat), k + d = m → (∀ j : Nat, j < k → zget q j = rowN m b j m) → JE (zg_X10_ofCut mk m b) (2, (k : Int), s, P, q) o → o.1 = (m : Int) ∧ o.2.1 = (m : Int) ∧ o.2.2.1 = cpN P (fun i => rowN m b i m) m := by
  obtain ⟨h4, h9⟩ := zno_rng p0
  intro d
  induction d with
  | zero =>
    intro k q hk hq h
    have hk : k = m := by omega
    subst hk
    have ey : zg_X10_ofCut mk k b (2, (k : Int), s, P, q) = Option.bind (zf_X2_become s P q (k : Int)) (fun o6 => some (.inl ((o6.1), (o6.2.1), (o6.2.2), q))) := by
      show zg_X10_ofCut_2 mk k b (k : Int) s P q = _
      unfold zg_X10_ofCut_2 zf_X5_corners
      rw [if_neg p0]
      simp only [Option.bind_some]
      rw [if_neg (by unfold zout; omega), if_neg (by unfold zout; omega), if_pos (Int.le_refl _)]
    cases hw : zf_X2_become s P q (k : Int) with
    | none => rw [hw] at ey; exact (JE_none ey h).elim
    | some w =>
      have ew := become_e (by omega) hw
      subst ew
      rw [hw] at ey
      have e := JE_end ey h
      subst e
      refine ⟨rfl, rfl, ?_⟩
      exact cpN_c k hq
  | succ d ih =>
    intro k q hk hq h
    have ht := e_tri h4 h9 hb (i := (k : Int)) (by omega) (by omega)
    rw [Int.toNat_natCast] at ht
    obtain ⟨v, hv, v0, v64, -⟩ := ok_X5_trianglesAt m b (k : Int) h4 h9 (by omega) (by omega)
    rw [ht] at hv
    cases hv
    have h := JE_dn (s' := (2, (k : Int) + 1, s, P, zset q k (rowN m b k m))) (by
      show zg_X10_ofCut_2 mk m b (k : Int) s P q = _
      unfold zg_X10_ofCut_2 zf_X5_corners
      rw [if_neg p0]
      simp only [Option.bind_some]
      rw [if_neg (by unfold zout; omega), if_neg (by unfold zout; omega), if_neg (by omega), ht]
      simp only [Option.bind_some]
      rw [if_neg (by omega), Int.toNat_natCast]) h
    refine ih (k + 1) (zset q k (rowN m b k m)) (by omega) ?_ (by rw [show (((k + 1 : Nat) : Nat) : Int) = (k : Int) + 1 by omega]; exact h)
    intro j hj
    rw [zget_set]
    by_cases e : j = k
    · rw [if_pos e, zw_id (by unfold zout; omega), e]
    · rw [if_neg e]; exact hq j (by omega)
theorem ofc_y {m : Nat} (h4 : 4 ≤ m) (h9 : m ≤ 9) {b : Int} {P : Nat} {ln lf pm : Int} {nf ls gr : Nat} (hN : LN m nf m 0) {o : zO_X11_ofCut} : ∀ (d k : Nat), k + d = m → JE (zg_X11_ofCut (m : Int) b) (18, (k : Int), ln, lf, pm, nf, ls, gr, cpN P (fun i => rowN m b i m) k) o → o = ((m : Int), ln, lf, pm, nf, ls, gr, cpN P (fun i => rowN m b i m) m) := by
  intro d
  induction d with
  | zero =>
    intro k hk h
    have hk : k = m := by omega
    subst hk
    exact JE_end (by
      show zg_X11_ofCut_18 (k : Int) b (k : Int) ln lf pm nf ls gr (cpN P (fun i => rowN k b i k) k) = _
      unfold zg_X11_ofCut_18
      rw [if_neg (by unfold zout; omega), if_neg (by unfold zout; omega), if_pos (Int.le_refl _)]) h
  | succ d ih =>
    intro k hk h
    have ht := e_rowAt h4 h9 hN b (i := (k : Int)) (by omega) (by omega)
    rw [Int.toNat_natCast] at ht
    have h := JE_dn (s' := (18, (k : Int) + 1, ln, lf, pm, nf, ls, gr, cpN P (fun i => rowN m b i m) (k + 1))) (by
      show zg_X11_ofCut_18 (m : Int) b (k : Int) ln lf pm nf ls gr (cpN P (fun i => rowN m b i m) k) = _
      unfold zg_X11_ofCut_18
      rw [if_neg (by unfold zout; omega), if_neg (by unfold zout; omega), if_neg (by omega), ht]
      simp only [Option.bind_some]
      rw [if_neg (by omega), Int.toNat_natCast]
      rfl) h
    exact ih (k + 1) (by omega) (by rw [show (((k + 1 : Nat) : Nat) : Int) = (k : Int) + 1 by omega]; exact h)
theorem eq_ofCut {mk m : Nat} (p0 : ¬ zno mk m) {b : Int} (hb : isCut m b) {s : Int} {P q : Nat} {ln lf : Int} {nf ls gr : Nat} (hT : TL lf ln nf ls gr) {o : zO_X10_ofCut} {o2 : zO_X11_ofCut} (ho : zf_X10_ofCut mk m b s P q = some o) (ho2 : zf_X11_ofCut (m : Int) ln lf b s nf ls gr P = some o2) : o.1 = o2.1 ∧ o.2.1 = o2.2.2.2.1 ∧ o.2.2.1 = o2.2.2.2.2.2.2.2 := by
  obtain ⟨h4, h9⟩ := zno_rng p0
  obtain ⟨x1, x2, x3⟩ := ofc_x p0 hb m 0 q (by omega) (fun j hj => absurd hj (by omega)) (JE_dn (s' := (2, 0, s, P, q)) rfl (JE_of ho))
  obtain ⟨w, hw, w0, w1, -⟩ := oy_linesOf ln lf nf ls gr (m : Int) hT (by omega) (by omega)
  have hN : LN m w.2.2.1 m 0 := by have := w1.2.2.2.1; rw [Int.toNat_natCast] at this; exact this
  have hy := JE_dn (s' := (18, 0, w.1, w.2.1, (m : Int), w.2.2.1, w.2.2.2.1, w.2.2.2.2, P)) (by
    show zg_X11_ofCut_0 (m : Int) b 0 ln lf s nf ls gr P = _
    unfold zg_X11_ofCut_0
    rw [hw]
    rfl) (JE_of ho2)
  have e := ofc_y h4 h9 hN m 0 (by omega) hy
  subst e
  exact ⟨x1, x2, x3⟩
end

section
/-! read, mend, row, told, entry, flip -/
theorem isC_e {m : Nat} (h9 : m ≤ 9) {i : Int} (hi : ¬ zout i) : zf_X11_isCorner (m : Int) i = some (decide (0 ≤ i ∧ i < (m : Int))) := by
  unfold zf_X11_isCorner
  rw [in_e hi (by decide) (by unfold zout; omega)]
  simp only [Option.bind_some]
  by_cases c : 0 ≤ i ∧ i < (m : Int)
  · rw [decide_eq_true c, decide_eq_true (by omega)]
  · rw [decide_eq_false c, decide_eq_false (by omega)]
theorem hasC_e {m : Nat} (h4 : 4 ≤ m) (h9 : m ≤ 9) {i : Int} (hi : ¬ zout i) : zf_X5_hasCorner m i = some (decide (0 ≤ i ∧ i < (m : Int))) := ok_hasC m i h4 h9 (by unfold zout at hi; omega) (by unfold zout at hi; omega)
theorem LNof {m : Nat} {ln : Int} {nf ls gr : Nat} (h : TL (m : Int) ln nf ls gr) : LN m nf m 0 := by
  have := h.2.2.2.1
  rw [Int.toNat_natCast] at this
  exact this
theorem LIof {m : Nat} {lm : Int} {li : Nat} (h : LK (m : Int) lm li) : LI m lm li := by
  have := h.2.2
  rw [Int.toNat_natCast] at this
  exact this
/-- row -/
theorem eq_row {mk m : Nat} (p0 : ¬ zno mk m) {b : Int} (hb : isCut m b) {i : Int} (hi : ¬ zout i) {ln lf : Int} {nf ls gr : Nat} (hT : TL lf ln nf ls gr) {o : Int} {o2 : Int × Int × Int × Nat × Nat × Nat} (ho : zf_X10_row mk m b i = some o) (ho2 : zf_X11_row (m : Int) ln lf b nf ls gr i = some o2) : o = o2.1 := by
  obtain ⟨h4, h9⟩ := zno_rng p0
  unfold zf_X10_row at ho
  unfold zf_X11_row at ho2
  rw [if_neg p0, hasC_e h4 h9 hi] at ho
  rw [isC_e h9 hi] at ho2
  simp only [Option.bind_some] at ho ho2
  by_cases c : 0 ≤ i ∧ i < (m : Int)
  · rw [decide_eq_true c, if_neg (by decide)] at ho ho2
    obtain ⟨w, hw, w0, w1, -⟩ := oy_linesOf ln lf nf ls gr (m : Int) hT (by omega) (by omega)
    rw [e_tri h4 h9 hb c.1 c.2] at ho
    rw [hw] at ho2
    simp only [Option.bind_some] at ho ho2
    rw [e_rowAt h4 h9 (LNof w1) b c.1 c.2] at ho2
    cases ho
    cases ho2
    rfl
  · rw [decide_eq_false c, if_pos rfl] at ho ho2
    cases ho
    cases ho2
    rfl
/-- the number of a cut, both sides -/
noncomputable def numK (m k : Nat) : Bool := match decide ((k : Int) < pg8 m) with
  | true => decide (zf_X5_numberOf m (zget (pg6 m) k) = some (k : Int))
  | false => true
theorem num_tab : ∀ m : Nat, 4 ≤ m → m ≤ 9 → allF (fun k => numK m k) 0 429 = true := pg_cases (by decide +kernel) (by decide +kernel) (by decide +kernel) (by decide +kernel) (by decide +kernel) (by decide +kernel)
theorem num_e {m k : Nat} (h4 : 4 ≤ m) (h9 : m ≤ 9) (hk : (k : Int) < pg8 m) : zf_X5_numberOf m (zget (pg6 m) k) = some (k : Int) := by
  have r8 := rpg8 h4 h9
  have t := allF_at (num_tab m h4 h9) (m := k) (by omega)
  replace t : numK m k = true := t
  unfold numK at t
  rw [decide_eq_true hk] at t
  exact of_decide_eq_true t
theorem own_e {m : Nat} (h4 : 4 ≤ m) (h9 : m ≤ 9) {b : Int} (hb : isCut m b) {ln lf lm lc : Int} {nf ls gr li : Nat} (hT : TL lf ln nf ls gr) (hK : LK lc lm li) {o2 : Int × Int × Int × Int × Int × Nat × Nat × Nat × Nat} (ho2 : zf_X11_ownNumber (m : Int) ln lf lm lc b nf ls gr li = some o2) : zf_X5_numberOf m b = some o2.1 := by
  obtain ⟨k, hk, rfl⟩ := hb
  unfold zf_X11_ownNumber at ho2
  obtain ⟨w, hw, w0, w1, w2, w3, w4, w5, w6, -⟩ := oy_listFor ln lf lm lc nf ls gr li (m : Int) hT hK (by omega) (by omega)
  rw [hw] at ho2
  simp only [Option.bind_some] at ho2
  rw [pl_ok h4 h9 (LIof w6) hk] at ho2
  cases ho2
  exact num_e h4 h9 hk
/-- told -/
theorem eq_told {mk m : Nat} (p0 : ¬ zno mk m) {b : Int} (hb : isCut m b) {s w : Int} (hw : ¬ zout w) {ln lf lm lc : Int} {nf ls gr li : Nat} (hT : TL lf ln nf ls gr) (hK : LK lc lm li) {o : Int} {o2 : Int × Int × Int × Int × Int × Nat × Nat × Nat × Nat} (ho : zf_X10_told mk m b s w = some o) (ho2 : zf_X11_told (m : Int) ln lf lm lc b s nf ls gr li w = some o2) : o = o2.1 := by
  obtain ⟨h4, h9⟩ := zno_rng p0
  unfold zf_X10_told at ho
  unfold zf_X11_told at ho2
  rw [if_neg hw] at ho ho2
  by_cases c0 : w = 0
  · rw [if_pos c0] at ho ho2
    rw [if_neg p0] at ho
    cases ho
    cases ho2
    rfl
  · rw [if_neg c0] at ho ho2
    by_cases c1 : w = 1
    · rw [if_pos c1] at ho ho2
      rw [if_neg p0] at ho
      cases h : zf_X11_ownNumber (m : Int) ln lf lm lc b nf ls gr li with
      | none => rw [h] at ho2; cases ho2
      | some u =>
        rw [own_e h4 h9 hb hT hK h] at ho
        rw [h] at ho2
        cases ho
        cases ho2
        rfl
    · rw [if_neg c1] at ho ho2
      by_cases c2 : w = 2
      · rw [if_pos c2] at ho ho2
        rw [if_neg p0] at ho
        obtain ⟨u, hu, w0, w1, w2, w3, w4, w5, w6, -⟩ := oy_listFor ln lf lm lc nf ls gr li (m : Int) hT hK (by omega) (by omega)
        rw [hu] at ho2
        cases ho
        cases ho2
        exact (LIof w6).1.symm
      · rw [if_neg c2] at ho ho2
        by_cases c3 : w = 3
        · rw [if_pos c3] at ho ho2
          cases ho
          cases ho2
          rfl
        · rw [if_neg c3] at ho ho2
          cases ho
          cases ho2
          rfl
/-! read -/
set_option maxHeartbeats 1000000 in
theorem eq_read {mk m : Nat} (p0 : ¬ zno mk m) {b : Int} (hb : isCut m b) {len nx kd pl va : Int} {B q : Nat} {sz so at_ en nu wo rm ln lf lm lc : Int} {nf ls gr li t : Nat} (l0 : 0 ≤ len) (l3 : len ≤ 300) (hB : BR B) (hq : ∀ k : Nat, k < 10 → 0 ≤ zget q k ∧ zget q k ≤ 999) (ht : ∀ k : Nat, k < 10 → 0 ≤ zget t k ∧ zget t k ≤ 999) (hT : TL lf ln nf ls gr) (hK : LK lc lm li) {o : Int × Int × Int × Int × Int × Int × Int × Nat} {o2 : Int × Int × Int × Int × Int × Int × Int × Int × Int × Int × Int × Int × Int × Int × Nat × Nat × Nat × Nat × Nat} (ho : zf_X10_read mk m b len nx kd pl va B q = some o) (ho2 : zf_X11_read len sz so at_ en nu wo (m : Int) ln lf lm lc b rm B nf ls gr li t = some o2) : o.1 = o2.1 ∧ o.2.1 = o2.2.2.2.2.2.2.2.2.2.2.2.2.1 ∧ o.2.2.1 = o2.2.1 := by
  obtain ⟨h4, h9⟩ := zno_rng p0
  unfold zf_X10_read zf_X10_takeRow at ho
  unfold zf_X11_read at ho2
  obtain ⟨r, h1, r1, r2, r3⟩ := ok_X8_readNumbers len nx kd pl va B q l0 l3 hq
  obtain ⟨y, h2, y1, y2, y3, y4⟩ := ok_X11_readRow len sz so at_ en nu wo rm B t l0 l3 ht
  obtain ⟨e1, e2, e3, e4, e5⟩ := row_eq l0 l3 hB h1 h2
  rw [h1, sh_0 l0 l3] at ho
  rw [h2] at ho2
  unfold zf_X5_corners at ho
  simp only [Option.bind_some] at ho ho2
  rw [if_neg p0, if_neg (by unfold zout; omega), if_neg (by unfold zout; omega)] at ho
  rw [if_neg (by unfold zout; omega), if_neg (by unfold zout; omega), ← e1] at ho2
  by_cases c : r.1 = (m : Int)
  · rw [if_pos c] at ho ho2
    simp only [Option.bind_some] at ho
    rw [if_neg (by decide), if_neg p0] at ho
    obtain ⟨u, hu, fu⟩ := e_nearX h4 h9 r3
    obtain ⟨w, hw, fw⟩ := e_nearY h4 h9 hT hK y4
    have e := FM_u (FM_c fu (fun j hj => (e5 j (by omega)).1)) fw
    obtain ⟨w', hw', z1, z2, z3, z4, -, -, -, -, z5, -⟩ := ok_X11_nearest (m : Int) ln lf lm lc nf ls gr li y.2.2.2.2.2.2.2.2.2 hT hK (by omega) (by omega) y4
    rw [hw] at hw'
    cases hw'
    rw [hu] at ho
    rw [hw] at ho2
    simp only [Option.bind_some] at ho ho2
    have lic := LIof z5
    have u0 := fu.1
    have u1 := fu.2.1
    have r8 := rpg8 h4 h9
    rw [cutAt_e h4 h9 u0 u1] at ho
    simp only [Option.bind_some] at ho
    rw [← e] at ho2
    rw [if_neg (by omega), lic.2 u.toNat (by omega), e_apart h4 h9 (LNof z4) y4] at ho2
    rw [e_dif h4 h9 (pg6_cut (by omega)) r3] at ho
    simp only [Option.bind_some] at ho ho2
    have ed : difN m (zget (pg6 m) u.toNat) r.2.2.2.2.2 m = difN m (zget (pg6 m) u.toNat) y.2.2.2.2.2.2.2.2.2 m := difN_c m (fun j hj => (e5 j (by omega)).1)
    rw [← ed] at ho2
    by_cases z : zout (difN m (zget (pg6 m) u.toNat) r.2.2.2.2.2 m)
    · rw [if_pos z] at ho; cases ho
    · rw [if_neg z] at ho ho2
      by_cases z0 : difN m (zget (pg6 m) u.toNat) r.2.2.2.2.2 m = 0
      · rw [if_pos z0] at ho ho2
        cases ho
        cases ho2
        exact ⟨rfl, rfl, e4.symm⟩
      · rw [if_neg z0] at ho ho2
        cases ho
        cases ho2
        exact ⟨rfl, rfl, e4.symm⟩
  · rw [if_neg c] at ho ho2
    simp only [Option.bind_some] at ho
    rw [if_pos trivial] at ho
    cases ho
    cases ho2
    exact ⟨rfl, rfl, e4.symm⟩
/-! mend -/
set_option maxHeartbeats 1000000 in
theorem eq_mend {mk m : Nat} (p0 : ¬ zno mk m) {mn : Int} {len nx kd pl va : Int} {B q : Nat} {sz so at_ en nu wo rm ln lf lm lc : Int} {nf ls gr li t : Nat} (l0 : 0 ≤ len) (l3 : len ≤ 300) (hB : BR B) (hq : ∀ k : Nat, k < 10 → 0 ≤ zget q k ∧ zget q k ≤ 999) (ht : ∀ k : Nat, k < 10 → 0 ≤ zget t k ∧ zget t k ≤ 999) (hT : TL lf ln nf ls gr) (hK : LK lc lm li) {o : Int × Int × Int × Int × Int × Int × Int × Nat} {o2 : Int × Int × Int × Int × Int × Int × Int × Int × Int × Int × Int × Int × Int × Int × Nat × Nat × Nat × Nat × Nat} (ho : zf_X10_mend mk m mn len nx kd pl va B q = some o) (ho2 : zf_X11_mend len sz so at_ en nu wo (m : Int) ln lf lm lc rm mn B nf ls gr li t = some o2) : o.1 = o2.1 ∧ o.2.1 = o2.2.2.2.2.2.2.2.2.2.2.2.2.2.1 ∧ o.2.2.1 = o2.2.1 := by
  obtain ⟨h4, h9⟩ := zno_rng p0
  unfold zf_X10_mend zf_X10_takeRow at ho
  unfold zf_X11_mend at ho2
  obtain ⟨r, h1, r1, r2, r3⟩ := ok_X8_readNumbers len nx kd pl va B q l0 l3 hq
  obtain ⟨y, h2, y1, y2, y3, y4⟩ := ok_X11_readRow len sz so at_ en nu wo rm B t l0 l3 ht
  obtain ⟨e1, e2, e3, e4, e5⟩ := row_eq l0 l3 hB h1 h2
  rw [h1, sh_0 l0 l3] at ho
  rw [h2] at ho2
  unfold zf_X5_corners at ho
  simp only [Option.bind_some] at ho ho2
  rw [if_neg p0, if_neg (by unfold zout; omega), if_neg (by unfold zout; omega)] at ho
  rw [if_neg (by unfold zout; omega), if_neg (by unfold zout; omega), ← e1] at ho2
  by_cases c : r.1 = (m : Int)
  · rw [if_pos c] at ho ho2
    simp only [Option.bind_some] at ho
    rw [if_neg (by decide), if_neg p0] at ho
    obtain ⟨u, hu, fu⟩ := e_nearX h4 h9 r3
    obtain ⟨w, hw, fw⟩ := e_nearY h4 h9 hT hK y4
    have e := FM_u (FM_c fu (fun j hj => (e5 j (by omega)).1)) fw
    obtain ⟨w', hw', z1, z2, z3, z4, -, -, -, -, z5, -⟩ := ok_X11_nearest (m : Int) ln lf lm lc nf ls gr li y.2.2.2.2.2.2.2.2.2 hT hK (by omega) (by omega) y4
    rw [hw] at hw'
    cases hw'
    rw [hu] at ho
    rw [hw] at ho2
    simp only [Option.bind_some] at ho ho2
    have lic := LIof z5
    have u0 := fu.1
    have u1 := fu.2.1
    have r8 := rpg8 h4 h9
    rw [cutAt_e h4 h9 u0 u1] at ho
    simp only [Option.bind_some] at ho
    rw [← e] at ho2
    rw [if_neg (by omega), lic.2 u.toNat (by omega), e_apart h4 h9 (LNof z4) y4] at ho2
    rw [e_dif h4 h9 (pg6_cut (by omega)) r3] at ho
    have ed : difN m (zget (pg6 m) u.toNat) r.2.2.2.2.2 m = difN m (zget (pg6 m) u.toNat) y.2.2.2.2.2.2.2.2.2 m := difN_c m (fun j hj => (e5 j (by omega)).1)
    rw [← ed] at ho2
    cases ho
    cases ho2
    exact ⟨rfl, rfl, e4.symm⟩
  · rw [if_neg c] at ho ho2
    simp only [Option.bind_some] at ho
    rw [if_pos trivial] at ho
    cases ho
    cases ho2
    exact ⟨rfl, rfl, e4.symm⟩
theorem areC_e {mk m : Nat} (p0 : ¬ zno mk m) {i j : Int} (hi : ¬ zout i) (hj : ¬ zout j) : zf_X10_areCorners mk m i j = some (decide ((0 ≤ i ∧ i < (m : Int)) ∧ (0 ≤ j ∧ j < (m : Int)))) := by
  obtain ⟨h4, h9⟩ := zno_rng p0
  unfold zf_X10_areCorners
  rw [if_neg p0, hasC_e h4 h9 hi, hasC_e h4 h9 hj]
  simp only [Option.bind_some]
  by_cases c : 0 ≤ i ∧ i < (m : Int)
  · rw [decide_eq_true c, if_neg (by decide)]
    by_cases d : 0 ≤ j ∧ j < (m : Int)
    · rw [decide_eq_true d, if_neg (by decide), decide_eq_true ⟨c, d⟩]
    · rw [decide_eq_false d, if_pos rfl, decide_eq_false (fun z => d z.2)]
  · rw [decide_eq_false c, if_pos rfl, decide_eq_false (fun z => c z.1)]
theorem CUof {m : Nat} (h4 : 4 ≤ m) (h9 : m ≤ 9) {b : Int} (hb : isCut m b) : CU (m : Int) b := ⟨by omega, by omega, by rw [Int.toNat_natCast]; exact hb⟩
theorem entY_e {m : Nat} (h4 : 4 ≤ m) (h9 : m ≤ 9) {b : Int} (hb : isCut m b) {ln lf : Int} {nf ls gr tA tB tC fr : Nat} (hT : TL lf ln nf ls gr) {i j : Int} (i0 : 0 ≤ i) (i1 : i < (m : Int)) (j0 : 0 ≤ j) (j1 : j < (m : Int)) : Go (fun o => zf_X5_entryOf m b i j = some o.1 ∧ 0 ≤ o.1 ∧ o.1 ≤ 21 ∧ TL o.2.2.1 o.2.1 o.2.2.2.1 o.2.2.2.2.1 o.2.2.2.2.2.1) (zf_X11_entryOf ln lf nf ls gr tA tB tC fr (m : Int) b i j) := by
  unfold zf_X11_entryOf
  refine Go_bindP (oy_ent ln lf nf ls gr tA tB tC fr (m : Int) b i hT (by omega) (by omega) (CUof h4 h9 hb) i0 i1) (fun o q => ?_)
  obtain ⟨q0, q1, q2, q3, q4, q5, q6⟩ := q
  obtain ⟨r, r1, r2, r3, r4⟩ := q5 j.toNat (by omega)
  rw [Int.toNat_natCast, show ((j.toNat : Nat) : Int) = j by omega] at r1
  refine Go_chk (by omega) ?_
  refine Go_i ⟨?_, ?_, ?_, q2⟩
  · show zf_X5_entryOf m b i j = some (zget o.2.2.2.2.2.2.2.2 j.toNat)
    rw [r1, r2]
  · show 0 ≤ zget o.2.2.2.2.2.2.2.2 j.toNat
    rw [r2]; exact r3
  · show zget o.2.2.2.2.2.2.2.2 j.toNat ≤ 21
    rw [r2]; exact r4
/-- entry -/
theorem eq_entry {mk m : Nat} (p0 : ¬ zno mk m) {b : Int} (hb : isCut m b) {i j : Int} (hi : ¬ zout i) (hj : ¬ zout j) {ln lf : Int} {nf ls gr tA tB tC fr : Nat} (hT : TL lf ln nf ls gr) {o : Int} {o2 : Int × Int × Int × Nat × Nat × Nat × Nat × Nat × Nat × Nat} (ho : zf_X10_entry mk m b i j = some o) (ho2 : zf_X11_entry (m : Int) ln lf b nf ls gr tA tB tC fr i j = some o2) : o = o2.1 := by
  obtain ⟨h4, h9⟩ := zno_rng p0
  unfold zf_X10_entry at ho
  unfold zf_X11_entry at ho2
  rw [areC_e p0 hi hj] at ho
  rw [isC_e h9 hi, isC_e h9 hj] at ho2
  simp only [Option.bind_some] at ho ho2
  by_cases c : 0 ≤ i ∧ i < (m : Int)
  · rw [decide_eq_true c, if_neg (by decide)] at ho2
    by_cases d : 0 ≤ j ∧ j < (m : Int)
    · rw [decide_eq_true ⟨c, d⟩, if_neg (by decide), if_neg p0] at ho
      rw [decide_eq_true d, if_neg (by decide)] at ho2
      obtain ⟨u, hu, u1, -⟩ := entY_e h4 h9 hb (tA := tA) (tB := tB) (tC := tC) (fr := fr) hT c.1 c.2 d.1 d.2
      rw [hu] at ho2
      rw [u1] at ho
      cases ho
      cases ho2
      rfl
    · rw [decide_eq_false (fun z => d z.2), if_pos rfl] at ho
      rw [decide_eq_false d, if_pos rfl] at ho2
      cases ho
      cases ho2
      rfl
  · rw [decide_eq_false (fun z => c z.1), if_pos rfl] at ho
    rw [decide_eq_false c, if_pos rfl] at ho2
    cases ho
    cases ho2
    rfl
/-! spread -/
set_option maxHeartbeats 1000000 in
theorem spr_run {m : Nat} (h4 : 4 ≤ m) (h9 : m ≤ 9) {i j v : Int} (i0 : 0 ≤ i) (i1 : i < (m : Int)) (j0 : 0 ≤ j) (j1 : j < (m : Int)) (hv : ¬ zout v) {o : zO_X5_countWith} {o2 : zO_X11_spread} {lm lc : Int} {li : Nat} (hL : LI m lm li) : ∀ (d k : Nat) (n ln lf : Int) (nf ls gr tA tB tC fr : Nat), (k : Int) + (d : Int) = pg8 m → TL lf ln nf ls gr → JE (zg_X5_countWith m) (6, i, j, v, n, (k : Int)) o → JE (zg_X11_spread (m : Int)) (33, i, j, v, n, (k : Int), ln, lf, lm, lc, nf, ls, gr, li, tA, tB, tC, fr) o2 → o = o2.1 := by
  have r8 := rpg8 h4 h9
  have el := hL.1
  intro d
  induction d with
  | zero =>
    intro k n ln lf nf ls gr tA tB tC fr hk hT hx hy
    have e1 := JE_end (o' := n) (by
      show zg_X5_countWith_6 m i j v n (k : Int) = _
      unfold zg_X5_countWith_6
      rw [if_neg (by unfold zout; omega), if_neg (by unfold zout; omega), if_pos (by omega)]) hx
    have e2 := JE_end (o' := (n, ln, lf, lm, lc, nf, ls, gr, li, tA, tB, tC, fr)) (by
      show zg_X11_spread_33 (m : Int) i j v n (k : Int) ln lf lm lc nf ls gr li tA tB tC fr = _
      unfold zg_X11_spread_33
      rw [if_neg (by unfold zout; omega), if_neg (by unfold zout; omega), if_pos (by omega)]) hy
    rw [e1, e2]
  | succ d ih =>
    intro k n ln lf nf ls gr tA tB tC fr hk hT hx hy
    have hc : isCut m (zget (pg6 m) k) := pg6_cut (by omega)
    obtain ⟨u, hu, u1, u2, u3, u4⟩ := entY_e h4 h9 hc (tA := tA) (tB := tB) (tC := tC) (fr := fr) hT i0 i1 j0 j1
    have ek : zgetL li (Int.toNat (k : Int)) = zget (pg6 m) k := by rw [Int.toNat_natCast]; exact hL.2 k (by omega)
    by_cases c : u.1 = v
    · have hx := JE_dn (s' := (6, i, j, v, n + 1, (k : Int) + 1)) (by
        show zg_X5_countWith_6 m i j v n (k : Int) = _
        unfold zg_X5_countWith_6
        rw [if_neg (by unfold zout; omega), if_neg (by unfold zout; omega), if_neg (by omega), if_neg (by omega), Int.toNat_natCast, u1]
        simp only [Option.bind_some]
        rw [if_neg (by unfold zout; omega), if_neg hv, if_pos c]) hx
      have hy := JE_dn (s' := (33, i, j, v, n + 1, (k : Int) + 1, u.2.1, u.2.2.1, lm, lc, u.2.2.2.1, u.2.2.2.2.1, u.2.2.2.2.2.1, li, u.2.2.2.2.2.2.1, u.2.2.2.2.2.2.2.1, u.2.2.2.2.2.2.2.2.1, u.2.2.2.2.2.2.2.2.2)) (by
        show zg_X11_spread_33 (m : Int) i j v n (k : Int) ln lf lm lc nf ls gr li tA tB tC fr = _
        unfold zg_X11_spread_33
        rw [if_neg (by unfold zout; omega), if_neg (by unfold zout; omega), if_neg (by omega), if_neg (by omega), ek, hu]
        simp only [Option.bind_some]
        rw [if_neg (by unfold zout; omega), if_neg hv, if_pos c]) hy
      rw [show (k : Int) + 1 = ((k + 1 : Nat) : Int) by omega] at hx hy
      exact ih (k + 1) (n + 1) _ _ _ _ _ _ _ _ _ (by omega) u4 hx hy
    · have hx := JE_dn (s' := (6, i, j, v, n, (k : Int) + 1)) (by
        show zg_X5_countWith_6 m i j v n (k : Int) = _
        unfold zg_X5_countWith_6
        rw [if_neg (by unfold zout; omega), if_neg (by unfold zout; omega), if_neg (by omega), if_neg (by omega), Int.toNat_natCast, u1]
        simp only [Option.bind_some]
        rw [if_neg (by unfold zout; omega), if_neg hv, if_neg c]) hx
      have hy := JE_dn (s' := (33, i, j, v, n + 0, (k : Int) + 1, u.2.1, u.2.2.1, lm, lc, u.2.2.2.1, u.2.2.2.2.1, u.2.2.2.2.2.1, li, u.2.2.2.2.2.2.1, u.2.2.2.2.2.2.2.1, u.2.2.2.2.2.2.2.2.1, u.2.2.2.2.2.2.2.2.2)) (by
        show zg_X11_spread_33 (m : Int) i j v n (k : Int) ln lf lm lc nf ls gr li tA tB tC fr = _
        unfold zg_X11_spread_33
        rw [if_neg (by unfold zout; omega), if_neg (by unfold zout; omega), if_neg (by omega), if_neg (by omega), ek, hu]
        simp only [Option.bind_some]
        rw [if_neg (by unfold zout; omega), if_neg hv, if_neg c]) hy
      rw [Int.add_zero] at hy
      rw [show (k : Int) + 1 = ((k + 1 : Nat) : Int) by omega] at hx hy
      exact ih (k + 1) n _ _ _ _ _ _ _ _ _ (by omega) u4 hx hy
theorem eq_spread {mk m : Nat} (p0 : ¬ zno mk m) {i j v : Int} (hi : ¬ zout i) (hj : ¬ zout j) (hv : ¬ zout v) {ln lf lm lc : Int} {nf ls gr li tA tB tC fr : Nat} (hT : TL lf ln nf ls gr) (hK : LK lc lm li) {o : Int} {o2 : zO_X11_spread} (ho : zf_X10_spread mk m i j v = some o) (ho2 : zf_X11_spread (m : Int) ln lf lm lc nf ls gr li tA tB tC fr i j v = some o2) : o = o2.1 := by
  obtain ⟨h4, h9⟩ := zno_rng p0
  have r8 := rpg8 h4 h9
  have hy := JE_of ho2
  have ey : zg_X11_spread (m : Int) (0, i, j, v, 0, 0, ln, lf, lm, lc, nf, ls, gr, li, tA, tB, tC, fr) = zg_X11_spread_0 (m : Int) i j v 0 0 ln lf lm lc nf ls gr li tA tB tC fr := rfl
  unfold zg_X11_spread_0 at ey
  unfold zf_X10_spread at ho
  rw [areC_e p0 hi hj] at ho
  rw [isC_e h9 hi, isC_e h9 hj] at ey
  simp only [Option.bind_some] at ho ey
  by_cases c : 0 ≤ i ∧ i < (m : Int)
  · rw [decide_eq_true c, if_neg (by decide)] at ey
    by_cases d : 0 ≤ j ∧ j < (m : Int)
    · rw [decide_eq_true ⟨c, d⟩, if_neg (by decide), if_neg p0] at ho
      rw [decide_eq_true d, if_neg (by decide)] at ey
      obtain ⟨u, hu, w0, w1, w2, w3, w4, w5, w6, -⟩ := oy_listFor ln lf lm lc nf ls gr li (m : Int) hT hK (by omega) (by omega)
      rw [hu] at ey
      have hy1 := JE_dn ey hy
      cases hx : zf_X5_countWith m i j v with
      | none => rw [hx] at ho; cases ho
      | some x =>
        rw [hx] at ho
        have hx1 := JE_dn (s' := (6, i, j, v, 0, 0)) rfl (JE_of hx)
        have e := spr_run h4 h9 c.1 c.2 d.1 d.2 hv (LIof w6) (pg8 m).toNat 0 0 _ _ _ _ _ _ _ _ _ (by omega) w2 hx1 hy1
        cases ho
        exact e
    · rw [decide_eq_false (fun z => d z.2), if_pos rfl] at ho
      rw [decide_eq_false d, if_pos rfl] at ey
      have e := JE_end ey hy
      cases ho
      rw [e]
  · rw [decide_eq_false (fun z => c z.1), if_pos rfl] at ho
    rw [decide_eq_false c, if_pos rfl] at ey
    have e := JE_end ey hy
    cases ho
    rw [e]
/-! flip -/
set_option maxHeartbeats 1000000 in
theorem eq_flip {mk m : Nat} (p0 : ¬ zno mk m) {b : Int} (hb : isCut m b) {i j : Int} (hi : ¬ zout i) (hj : ¬ zout j) {ln lf f1 f2 : Int} {nf ls gr : Nat} (hT : TL lf ln nf ls gr) {o : Int × Int} {o2 : Int × Int × Int × Int × Int × Int × Nat × Nat × Nat} (ho : zf_X10_flip mk m b i j = some o) (ho2 : zf_X11_flip (m : Int) ln lf b f1 f2 nf ls gr i j = some o2) : o.1 = o2.1 ∧ o.2 = o2.2.2.2.1 := by
  obtain ⟨h4, h9⟩ := zno_rng p0
  unfold zf_X10_flip at ho
  unfold zf_X11_flip at ho2
  rw [areC_e p0 hi hj] at ho
  rw [isC_e h9 hi, isC_e h9 hj] at ho2
  simp only [Option.bind_some] at ho ho2
  by_cases c : 0 ≤ i ∧ i < (m : Int)
  · rw [decide_eq_true c, if_neg (by decide)] at ho2
    by_cases d : 0 ≤ j ∧ j < (m : Int)
    · rw [decide_eq_true ⟨c, d⟩, if_neg (by decide), if_neg p0] at ho
      rw [decide_eq_true d, if_neg (by decide)] at ho2
      obtain ⟨w, hw, w0, w1, -⟩ := oy_linesOf ln lf nf ls gr (m : Int) hT (by omega) (by omega)
      rw [hw, isLine_c h4 h9 c.1 c.2 d.1 d.2] at ho2
      rw [lineOf_e h4 h9 c.1 c.2 d.1 d.2] at ho
      simp only [Option.bind_some] at ho ho2
      have g7 := rpg7 h4 h9
      have r3 := rpg3 h4 h9 (9 * i.toNat + j.toNat) (by omega)
      have r7 := of_decide_eq_true (allF_at (pg3_lt_tab m h4 h9) (m := 9 * i.toNat + j.toNat) (by omega))
      have hN := LNof w1
      have en := near_eq h4 h9 hN b c.1 c.2 d.1 d.2
      by_cases l0 : 0 ≤ lnO m i j
      · rw [decide_eq_true l0, if_neg (by decide), en] at ho2
        simp only [Option.bind_some] at ho2
        unfold lnO at l0
        have be := bit_eq h4 h9 hb l0 (by omega)
        have ij : ¬ i.toNat = j.toNat := by
          intro q
          have := of_decide_eq_true (allF_at (diag_tab m h4 h9) (m := i.toNat) (by omega)) (by omega)
          rw [← q] at l0
          omega
        have eh : zf_X5_has m b (zget (pg3 m) (9 * i.toNat + j.toNat)) = some (decide (¬ zand (zshr b (zget (pg3 m) (9 * i.toNat + j.toNat))) 1 = 0)) := by
          unfold zf_X5_has
          rw [hasLine_e h4 h9 l0 r7]
          simp only [Option.bind_some]
          rw [if_neg (by decide)]
          by_cases z : zand (zshr b (zget (pg3 m) (9 * i.toNat + j.toNat))) 1 = 0
          · rw [if_pos z, decide_eq_false (fun q => q z)]
          · rw [if_neg z, decide_eq_true z]
        rw [eh] at ho
        simp only [Option.bind_some] at ho
        by_cases z : zand (zshr b (zget (pg3 m) (9 * i.toNat + j.toNat))) 1 = 0
        · rw [decide_eq_false (fun q => q z), if_pos rfl] at ho
          have enf : nearB m b i.toNat j.toNat = false := by
            unfold nearB
            rw [be.1, z]
            exact decide_eq_false (by omega)
          rw [enf, if_pos rfl] at ho2
          cases ho
          cases ho2
          exact ⟨rfl, rfl⟩
        · rw [decide_eq_true z, if_neg (by decide)] at ho
          have z1 : zand (zshr b (zget (pg3 m) (9 * i.toNat + j.toNat))) 1 = 1 := by have := be.2; omega
          have ent : nearB m b i.toNat j.toNat = true := by
            unfold nearB
            rw [be.1, z1]
            exact decide_eq_true ⟨ij, Or.inr rfl⟩
          rw [ent, if_neg (by decide)] at ho2
          obtain ⟨q, q1, q2, q3, q4, q5⟩ := fl_ok h4 h9 hN hb (p := i.toNat) (q := j.toNat) (by omega) (by omega) ij l0 (by rw [be.1]; exact z) f1 f2
          rw [show ((i.toNat : Nat) : Int) = i by omega, show ((j.toNat : Nat) : Int) = j by omega] at q5
          rw [q5] at ho2
          rw [q1] at ho
          simp only [Option.bind_some] at ho ho2
          have ep : zf_X5_pairOf m q = some (16 * zget (pg1 m) q.toNat + zget (pg2 m) q.toNat) := by
            unfold zf_X5_pairOf
            rw [hasLine_e h4 h9 q2 q3]
            simp only [Option.bind_some]
            rw [if_neg (by decide), if_neg (by omega)]
          rw [ep] at ho
          cases ho
          cases ho2
          exact ⟨rfl, rfl⟩
      · rw [decide_eq_false l0, if_pos rfl] at ho2
        unfold lnO at l0
        have eh : zf_X5_has m b (zget (pg3 m) (9 * i.toNat + j.toNat)) = some false := by
          unfold zf_X5_has zf_X5_hasLine
          rw [if_neg (by unfold zout; omega), if_pos (by omega)]
          rfl
        rw [eh] at ho
        cases ho
        cases ho2
        exact ⟨rfl, rfl⟩
    · rw [decide_eq_false (fun z => d z.2), if_pos rfl] at ho
      rw [decide_eq_false d, if_pos rfl] at ho2
      cases ho
      cases ho2
      exact ⟨rfl, rfl⟩
  · rw [decide_eq_false (fun z => c z.1), if_pos rfl] at ho
    rw [decide_eq_false c, if_pos rfl] at ho2
    cases ho
    cases ho2
    exact ⟨rfl, rfl⟩
end

section
/-! cut and take, as wholes -/
theorem KM_1 {k s : Int} (h : KM k s) : (k = 1 ↔ s = 1) ∧ (k = 2 ↔ s = 2) ∧ (k = 3 ↔ s = 3) ∧ ¬ zout k ∧ ¬ zout s := by
  unfold KM at h
  unfold zout
  omega
/-- the reference fails at its first token -/
theorem rc_f1 {B : Nat} {len so at_ en nu wo ln lf nc nw : Int} {nf ls gr : Nat} (hz : ¬ zout so) (h : so = 1 → ¬ wo = 3743880787) {o : zO_X11_readCut} (ho : zf_X11_readCut len so at_ en nu 0 (-1) wo ln lf nc nw B nf ls gr = some o) : o.1 = false ∧ o.2.2.2.2.2.1 = 1 ∧ o.2.2.2.2.2.2.1 = at_ := by
  have hy := JE_of ho
  by_cases c : so = 1
  · by_cases hw : zoutL wo
    · refine (JE_none ?_ hy).elim
      show zg_X11_readCut_0 len B 0 0 0 0 so at_ en nu 0 (-1) wo ln lf nc nw nf ls gr = _
      unfold zg_X11_readCut_0
      rw [if_neg hz, if_pos c, if_pos hw]
    have e := JE_end (o' := (false, so, at_, en, nu, 1, at_, wo, ln, lf, nc, nw, nf, ls, gr)) (by
      show zg_X11_readCut_0 len B 0 0 0 0 so at_ en nu 0 (-1) wo ln lf nc nw nf ls gr = _
      unfold zg_X11_readCut_0
      rw [if_neg hz, if_pos c, if_neg hw, if_neg (h c)]
      rfl) hy
    subst e
    exact ⟨rfl, rfl, rfl⟩
  · have e := JE_end (o' := (false, so, at_, en, nu, 1, at_, wo, ln, lf, nc, nw, nf, ls, gr)) (by
      show zg_X11_readCut_0 len B 0 0 0 0 so at_ en nu 0 (-1) wo ln lf nc nw nf ls gr = _
      unfold zg_X11_readCut_0
      rw [if_neg hz, if_neg c]
      rfl) hy
    subst e
    exact ⟨rfl, rfl, rfl⟩
set_option maxHeartbeats 1000000 in
theorem rc_F {B : Nat} {len : Int} (l0 : 0 ≤ len) (l3 : len ≤ 300) (hB : BR B) {kd pl va fi : Int} {out : zO_X1_understand} (hF : zuF len kd pl va B fi out) {so at_ nu wo : Int} {ln lf nc nw : Int} {nf ls gr : Nat} {r : Int × Int × Int × Int × Int} (hr : zf_X11_scan len so at_ 0 nu wo B = some r) {o : zO_X11_readCut} (ho : zf_X11_readCut len r.1 r.2.1 r.2.2.1 r.2.2.2.1 0 (-1) r.2.2.2.2 ln lf nc nw B nf ls gr = some o) : o.1 = false ∧ out.1 = false ∧ out.2.1 = o.2.2.2.2.2.1 ∧ out.2.2.1 = o.2.2.2.2.2.2.1 := by
  obtain ⟨k1, a1, n1, v1, s1, u1, w1, t1, t2, t3, t4, t5, t6, t7, t8, t9, t10⟩ := tok_eq l0 l3 (Int.le_refl 0) l0 hB kd pl va so at_ nu wo
  rw [t2] at hr
  cases hr
  have km := KM_1 t3
  rcases hF with ⟨n4, k4, p4, v4, f1, f2, rfl⟩ | ⟨n4, p4, v4, n5, k5, p5, v5, f1, f2, f3, f4⟩
  · rw [t1] at f1
    cases f1
    have := rc_f1 km.2.2.2.2 (fun z => by
      have k := km.1.mpr z
      obtain ⟨q1, q2, q3, q4⟩ := t10 k
      rw [k, word_eq l3 t7 t6 q1 q2 q3 q4] at f2
      intro e
      rw [decide_eq_true e] at f2
      cases f2) ho
    exact ⟨this.1, rfl, this.2.1.symm, this.2.2.symm⟩
  · rw [t1] at f1
    cases f1
    obtain ⟨q1, q2, q3, q4⟩ := t10 rfl
    rw [word_eq l3 t7 t6 q1 q2 q3 q4] at f2
    have ew : w1 = 3743880787 := by
      by_cases e : w1 = 3743880787
      · exact e
      · rw [decide_eq_false e] at f2; cases f2
    have es : s1 = 1 := km.1.mp rfl
    obtain ⟨k2, a2, n2, v2, s2, u2, w2, d1, d2, d3, d4, d5, d6, d7, d8, d9, d10⟩ := tok_eq l0 l3 (show 0 ≤ n1 by omega) t6 hB 1 a1 v1 s1 a1 u1 w1
    rw [d1] at f3
    cases f3
    have km2 := KM_1 d3
    have hy := JE_of ho
    rcases f4 with ⟨g1, g2, rfl⟩ | ⟨g1, g2, g3, rfl⟩
    · have e := JE_end (o' := (false, s2, p5, n5, u2, 1, p5, w2, ln, lf, nc, nw, nf, ls, gr)) (by
        show zg_X11_readCut_0 len B 0 0 0 0 s1 a1 n1 u1 0 (-1) w1 ln lf nc nw nf ls gr = _
        unfold zg_X11_readCut_0
        rw [if_neg km.2.2.2.2, if_pos es, if_neg (show ¬ zoutL w1 by rw [ew]; decide), if_pos ew, d2]
        simp only [Option.bind_some]
        rw [if_neg km2.2.2.2.2, if_neg (fun z => g1 (km2.2.1.mpr z))]
        rfl) hy
      subst e
      exact ⟨rfl, rfl, rfl, rfl⟩
    · obtain ⟨x1, x2, x3⟩ := d4 g1
      have e := JE_end (o' := (false, s2, p5, n5, u2, 2, p5, w2, ln, lf, nc, nw, nf, ls, gr)) (by
        show zg_X11_readCut_0 len B 0 0 0 0 s1 a1 n1 u1 0 (-1) w1 ln lf nc nw nf ls gr = _
        unfold zg_X11_readCut_0
        rw [if_neg km.2.2.2.2, if_pos es, if_neg (show ¬ zoutL w1 by rw [ew]; decide), if_pos ew, d2]
        simp only [Option.bind_some]
        rw [if_neg km2.2.2.2.2, if_pos (km2.2.1.mp g1), in_e (by unfold zout; omega) (by decide) (by decide), decide_eq_false (by omega)]
        rfl) hy
      subst e
      exact ⟨rfl, rfl, rfl, rfl⟩
set_option maxHeartbeats 1000000 in
theorem rc_M {B : Nat} {len : Int} (l0 : 0 ≤ len) (l3 : len ≤ 300) (hB : BR B) {mk : Nat} {kd pl va fi n4 p4 v4 n5 p5 : Int} {c : Nat} {out : zO_X1_understand} (h4 : 4 ≤ c) (h9 : c ≤ 9) (f1 : zf_X8_readToken len 0 kd pl va B = some (n4, 1, p4, v4)) (f2 : zf_X8_isWordF len n4 1 p4 B = some true) (f3 : zf_X8_readToken len n4 1 p4 v4 B = some (n5, 2, p5, (c : Int))) (f6 : jrun (zg_X1_understand (zmk mk c) len B) jfuel (31, (0 + 1) + 1, 0, (-1), 4, fi, c, 0, n5, 2, p5, (c : Int)) = some out) {so at_ nu wo : Int} {ln lf nc nw : Int} {nf ls gr : Nat} (hT : TL lf ln nf ls gr) {r : Int × Int × Int × Int × Int} (hr : zf_X11_scan len so at_ 0 nu wo B = some r) {o : zO_X11_readCut} (ho : zf_X11_readCut len r.1 r.2.1 r.2.2.1 r.2.2.2.1 0 (-1) r.2.2.2.2 ln lf nc nw B nf ls gr = some o) : undQ c out o := by
  obtain ⟨k1, a1, n1, v1, s1, u1, w1, t1, t2, t3, t4, t5, t6, t7, t8, t9, t10⟩ := tok_eq l0 l3 (Int.le_refl 0) l0 hB kd pl va so at_ nu wo
  rw [t2] at hr
  cases hr
  have km := KM_1 t3
  rw [t1] at f1
  cases f1
  obtain ⟨q1, q2, q3, q4⟩ := t10 rfl
  rw [word_eq l3 t7 t6 q1 q2 q3 q4] at f2
  have ew : w1 = 3743880787 := by
    by_cases e : w1 = 3743880787
    · exact e
    · rw [decide_eq_false e] at f2; cases f2
  have es : s1 = 1 := km.1.mp rfl
  obtain ⟨k2, a2, n2, v2, s2, u2, w2, d1, d2, d3, d4, d5, d6, d7, d8, d9, d10⟩ := tok_eq l0 l3 (show 0 ≤ n4 by omega) t6 hB 1 p4 v4 s1 p4 u1 w1
  rw [d1] at f3
  cases f3
  have km2 := KM_1 d3
  obtain ⟨x1, x2, x3⟩ := d4 rfl
  have t9 := t9 (by decide)
  have d9 := d9 (by decide)
  obtain ⟨lw, hlw, y0, y1, y2, y3, y4⟩ := oy_linesOf ln lf nf ls gr (c : Int) hT (by omega) (by omega)
  obtain ⟨k3, a3, n3, v3, s3, u3, w3, g1, g2, g3, g4, g5, g6, g7, g8, g9, g10⟩ := tok_eq l0 l3 (show 0 ≤ n5 by omega) d6 hB 2 p5 (c : Int) s2 p5 u2 w2
  have km3 := KM_1 g3
  have hy := JE_of ho
  have hx := JE_of f6
  have p0 : ¬ zno (zmk mk c) c := zmk_yes h4 h9
  have ex1 : u2 = (c : Int) := x1.symm
  have hL : LT c lw.1 lw.2.2.1 lw.2.2.2.1 lw.2.2.2.2 := by have := y1.2.2; rw [Int.toNat_natCast] at this; exact this
  by_cases e3 : k3 = 3
  · have hs3 : s3 = 3 := km3.2.2.1.mp e3
    obtain ⟨k4, a4, n4', v4', s4, u4, w4, b1, b2, b3, b4, b5, b6, b7, b8, b9, b10⟩ := tok_eq l0 l3 (show 0 ≤ n3 by omega) g6 hB k3 a3 v3 s3 a3 u3 w3
    have hy1 := JE_dn (s' := (107, 0, 0, 0, 0, s4, a4, n4', u4, 0, -1, w4, lw.1, lw.2.1, u2, 0, lw.2.2.1, lw.2.2.2.1, lw.2.2.2.2)) (by
      show zg_X11_readCut_0 len B 0 0 0 0 s1 p4 n4 u1 0 (-1) w1 ln lf nc nw nf ls gr = _
      unfold zg_X11_readCut_0
      rw [if_neg km.2.2.2.2, if_pos es, if_neg (show ¬ zoutL w1 by rw [ew]; decide), if_pos ew, d2]
      simp only [Option.bind_some]
      rw [if_neg km2.2.2.2.2, if_pos (km2.2.1.mp rfl), in_e (by unfold zout; omega) (by decide) (by decide), decide_eq_true (by omega)]
      simp only [Option.bind_some]
      rw [if_neg (by decide), ex1, hlw]
      simp only [Option.bind_some]
      rw [ex1] at g2
      rw [g2]
      simp only [Option.bind_some]
      rw [if_neg km3.2.2.2.2, if_pos hs3]
      rw [b2]
      rfl) hy
    have hx1 := JE_dn (s' := (31, (0 + 1) + 1 + 1, 0, -1, 2, fi, c, 0, n3, 3, a3, v3)) (by
      show zg_X1_understand_31 (zmk mk c) len B ((0 + 1) + 1) 0 (-1) 4 fi c 0 n5 2 p5 (c : Int) = _
      subst e3
      rw [un31 (by decide) (by decide) g1 (tt4y (zmk mk c) fi c 0 n3 a3 v3) (by decide) (by dsimp only; decide) (by omega)]
      rfl) hx
    rw [ex1] at hy1
    subst e3
    refine und_eq l0 l3 hB p0 hL ((len - n3).toNat + 1) (0 + 1 + 1 + 1) fi n3 3 a3 v3 0 0 0 0 0 n4' k4 a4 v4' s4 u4 w4 out o (by omega) (by decide) (by have := g9 (by decide); omega) g6 (Nat.two_pow_pos _) (fun a b _ _ h => by rw [Nat.zero_testBit] at h; cases h) (by rw [pop_0]; rfl) b1 b3 b4 b5 b6 b9 hx1 hy1
  · have hs3 : ¬ s3 = 3 := fun z => e3 (km3.2.2.1.mpr z)
    have e1 := JE_end (o' := (false, 1, a3, 2, fi, c, 0, n3, k3, a3, v3)) (by
      show zg_X1_understand_31 (zmk mk c) len B ((0 + 1) + 1) 0 (-1) 4 fi c 0 n5 2 p5 (c : Int) = _
      rw [un31 (by decide) (by decide) g1 (tt4n (zmk mk c) fi c 0 n3 k3 a3 v3 e3 km3.2.2.2.1) km3.2.2.2.1 (by dsimp only; decide) (by omega)]
      rfl) hx
    have e2 := JE_end (o' := (false, s3, a3, n3, u3, 1, a3, w3, lw.1, lw.2.1, u2, 0, lw.2.2.1, lw.2.2.2.1, lw.2.2.2.2)) (by
      show zg_X11_readCut_0 len B 0 0 0 0 s1 p4 n4 u1 0 (-1) w1 ln lf nc nw nf ls gr = _
      unfold zg_X11_readCut_0
      rw [if_neg km.2.2.2.2, if_pos es, if_neg (show ¬ zoutL w1 by rw [ew]; decide), if_pos ew, d2]
      simp only [Option.bind_some]
      rw [if_neg km2.2.2.2.2, if_pos (km2.2.1.mp rfl), in_e (by unfold zout; omega) (by decide) (by decide), decide_eq_true (by omega)]
      simp only [Option.bind_some]
      rw [if_neg (by decide), ex1, hlw]
      simp only [Option.bind_some]
      rw [ex1] at g2
      rw [g2]
      simp only [Option.bind_some]
      rw [if_neg km3.2.2.2.2, if_neg hs3]
      rfl) hy
    rw [ex1] at e2
    subst e1 e2
    exact ⟨rfl, rfl, rfl, rfl, rfl, fun z => by cases z⟩
/-- what the whole of cut comes to on the reference's side -/
def cutP (o2 : Int × Int × Int × Int × Int × Int × Int × Int × Int × Int × Int × Int × Int × Int × Int × Int × Int × Int × Int × Int × Int × Nat × Nat × Nat × Nat) (out : zO_X1_understand) (co ow : Int) (c : Nat) : Prop := o2.2.1 = 0 ∧ o2.2.2.2.2.2.2.2.1 = out.2.1 ∧ o2.2.2.2.2.2.2.2.2.1 = out.2.2.1 ∧ (out.1 = false → o2.1 = -1 ∧ o2.2.2.2.2.2.2.2.2.2.2.1 = co ∧ o2.2.2.2.2.2.2.2.2.2.2.2.2.2.2.2.1 = ow) ∧ (out.1 = true → zf_X5_numberOf c out.2.2.2.2.2.2.1 = some o2.1 ∧ o2.2.2.2.2.2.2.2.2.2.2.1 = (c : Int) ∧ o2.2.2.2.2.2.2.2.2.2.2.2.2.2.2.2.1 = out.2.2.2.2.2.2.1)
theorem cut_F {B : Nat} {len : Int} (l0 : 0 ≤ len) (l3 : len ≤ 300) (hB : BR B) {kd pl va fi : Int} {out : zO_X1_understand} (hF : zuF len kd pl va B fi out) {sz so at_ en nu fk fp wo co ln lf lm lc ow nc nw sm rm lt : Int} {nf ls gr li : Nat} {o2 : Int × Int × Int × Int × Int × Int × Int × Int × Int × Int × Int × Int × Int × Int × Int × Int × Int × Int × Int × Int × Int × Nat × Nat × Nat × Nat} (ho2 : zf_X11_cut len sz so at_ en nu fk fp wo co ln lf lm lc ow nc nw sm rm lt B nf ls gr li = some o2) : out.1 = false ∧ cutP o2 out co ow 0 := by
  unfold zf_X11_cut zf_X11_begin at ho2
  cases h1 : zf_X11_scan len so at_ 0 nu wo B with
  | none => rw [h1] at ho2; cases ho2
  | some r =>
    rw [h1] at ho2
    simp only [Option.bind_some] at ho2
    cases h2 : zf_X11_readCut len r.1 r.2.1 r.2.2.1 r.2.2.2.1 0 (-1) r.2.2.2.2 ln lf nc nw B nf ls gr with
    | none => rw [h2] at ho2; cases ho2
    | some u =>
      obtain ⟨q1, q2, q3, q4⟩ := rc_F l0 l3 hB hF h1 h2
      rw [h2] at ho2
      simp only [Option.bind_some] at ho2
      rw [if_pos q1] at ho2
      cases ho2
      refine ⟨q2, rfl, q3.symm, q4.symm, fun _ => ⟨rfl, rfl, rfl⟩, fun z => ?_⟩
      rw [q2] at z
      cases z
theorem cut_M {B : Nat} {len : Int} (l0 : 0 ≤ len) (l3 : len ≤ 300) (hB : BR B) {mk : Nat} {kd pl va fi n4 p4 v4 n5 p5 : Int} {c : Nat} {out : zO_X1_understand} (h4 : 4 ≤ c) (h9 : c ≤ 9) (f1 : zf_X8_readToken len 0 kd pl va B = some (n4, 1, p4, v4)) (f2 : zf_X8_isWordF len n4 1 p4 B = some true) (f3 : zf_X8_readToken len n4 1 p4 v4 B = some (n5, 2, p5, (c : Int))) (f6 : jrun (zg_X1_understand (zmk mk c) len B) jfuel (31, (0 + 1) + 1, 0, (-1), 4, fi, c, 0, n5, 2, p5, (c : Int)) = some out) (hct : out.1 = true → isCut c out.2.2.2.2.2.2.1) {sz so at_ en nu fk fp wo co ln lf lm lc ow nc nw sm rm lt : Int} {nf ls gr li : Nat} (hT : TL lf ln nf ls gr) (hK : LK lc lm li) {o2 : Int × Int × Int × Int × Int × Int × Int × Int × Int × Int × Int × Int × Int × Int × Int × Int × Int × Int × Int × Int × Int × Nat × Nat × Nat × Nat} (ho2 : zf_X11_cut len sz so at_ en nu fk fp wo co ln lf lm lc ow nc nw sm rm lt B nf ls gr li = some o2) : cutP o2 out co ow c := by
  unfold zf_X11_cut zf_X11_begin at ho2
  cases h1 : zf_X11_scan len so at_ 0 nu wo B with
  | none => rw [h1] at ho2; cases ho2
  | some r =>
    rw [h1] at ho2
    simp only [Option.bind_some] at ho2
    cases h2 : zf_X11_readCut len r.1 r.2.1 r.2.2.1 r.2.2.2.1 0 (-1) r.2.2.2.2 ln lf nc nw B nf ls gr with
    | none => rw [h2] at ho2; cases ho2
    | some u =>
      obtain ⟨q1, q2, q3, q4, q5, q6⟩ := rc_M l0 l3 hB h4 h9 f1 f2 f3 f6 hT h1 h2
      rw [h2] at ho2
      simp only [Option.bind_some] at ho2
      cases e : out.1 with
      | false =>
        rw [e] at q1
        rw [if_pos q1.symm] at ho2
        cases ho2
        exact ⟨rfl, q2.symm, q3.symm, fun _ => ⟨rfl, rfl, rfl⟩, fun z => by rw [e] at z; cases z⟩
      | true =>
        obtain ⟨z1, z2, z3⟩ := q6 e
        rw [e] at q1
        rw [if_neg (by rw [← q1]; decide)] at ho2
        have hc := hct e
        rw [z1] at hc
        cases h3 : zf_X11_becomes co ow sm rm lt u.2.2.2.2.2.2.2.2.2.2.1 u.2.2.2.2.2.2.2.2.2.2.2.1 with
        | none => rw [h3] at ho2; cases ho2
        | some w =>
          have hb : w.1 = u.2.2.2.2.2.2.2.2.2.2.1 ∧ w.2.1 = u.2.2.2.2.2.2.2.2.2.2.2.1 := by
            unfold zf_X11_becomes at h3
            split at h3
            · cases h3
            · split at h3
              · cases h3
              · split at h3 <;> (cases h3; exact ⟨rfl, rfl⟩)
          rw [h3] at ho2
          simp only [Option.bind_some] at ho2
          obtain ⟨r', hr', s0, s1, s2, s3, s4, s5, s6, s7, -⟩ := ok_X11_scan len so at_ 0 nu wo B l0 l3 (Int.le_refl 0) l0
          rw [h1] at hr'
          cases hr'
          obtain ⟨u', hu', -, -, hTL⟩ := ok_X11_readCut len r.1 r.2.1 r.2.2.1 r.2.2.2.1 0 (-1) r.2.2.2.2 ln lf nc nw B nf ls gr l0 l3 s4 s5 s0 s1 s6 s7 hT
          rw [h2] at hu'
          cases hu'
          rw [hb.1, hb.2, q5] at ho2
          cases h5 : zf_X11_ownNumber (c : Int) u.2.2.2.2.2.2.2.2.1 u.2.2.2.2.2.2.2.2.2.1 lm lc u.2.2.2.2.2.2.2.2.2.2.2.1 u.2.2.2.2.2.2.2.2.2.2.2.2.1 u.2.2.2.2.2.2.2.2.2.2.2.2.2.1 u.2.2.2.2.2.2.2.2.2.2.2.2.2.2 li with
          | none => rw [h5] at ho2; cases ho2
          | some x =>
            have ex := own_e h4 h9 hc hTL hK h5
            rw [h5] at ho2
            cases ho2
            refine ⟨rfl, q2.symm, q3.symm, (fun z => by rw [e] at z; cases z), fun _ => ⟨?_, rfl, z1.symm⟩⟩
            rw [z1]
            exact ex
/-- take -/
theorem take_n {co ln lf lm lc ow sm rm lt n k : Int} {nf ls gr li : Nat} (hz : ¬ zout n) (hn : n < 4 ∨ 9 < n) {o2 : Int × Int × Int × Int × Int × Int × Int × Int × Int × Int × Nat × Nat × Nat × Nat} (ho2 : zf_X11_take co ln lf lm lc ow sm rm lt nf ls gr li n k = some o2) : o2.1 = -2 ∧ o2.2.1 = co ∧ o2.2.2.2.2.2.2.1 = ow := by
  unfold zf_X11_take at ho2
  rw [in_e hz (by decide) (by decide), decide_eq_false (by omega)] at ho2
  simp only [Option.bind_some] at ho2
  rw [if_pos trivial] at ho2
  cases ho2
  exact ⟨rfl, rfl, rfl⟩
theorem take_m {co ln lf lm lc ow sm rm lt k : Int} {c nf ls gr li : Nat} (h4 : 4 ≤ c) (h9 : c ≤ 9) (hz : ¬ zout k) (hT : TL lf ln nf ls gr) (hK : LK lc lm li) {o2 : Int × Int × Int × Int × Int × Int × Int × Int × Int × Int × Nat × Nat × Nat × Nat} (ho2 : zf_X11_take co ln lf lm lc ow sm rm lt nf ls gr li (c : Int) k = some o2) : ((0 ≤ k ∧ k < pg8 c) → o2.1 = k ∧ o2.2.1 = (c : Int) ∧ o2.2.2.2.2.2.2.1 = zget (pg6 c) k.toNat) ∧ (¬ (0 ≤ k ∧ k < pg8 c) → o2.1 = -2 ∧ o2.2.1 = co ∧ o2.2.2.2.2.2.2.1 = ow) := by
  have r8 := rpg8 h4 h9
  unfold zf_X11_take at ho2
  rw [in_e (by unfold zout; omega) (by decide) (by decide), decide_eq_true (by omega)] at ho2
  simp only [Option.bind_some] at ho2
  rw [if_neg (by decide), if_neg hz] at ho2
  by_cases c0 : 0 ≤ k
  · rw [if_pos c0] at ho2
    obtain ⟨w, hw, w0, w1, w2, w3, w4, w5, w6, -⟩ := oy_listFor ln lf lm lc nf ls gr li (c : Int) hT hK (by omega) (by omega)
    have hL := LIof w6
    have hl := hL.1
    rw [hw] at ho2
    simp only [Option.bind_some] at ho2
    rw [if_neg (by unfold zout; omega)] at ho2
    by_cases c1 : k < w.2.2.1
    · rw [if_pos c1, if_neg (by omega), hL.2 k.toNat (by omega)] at ho2
      cases h3 : zf_X11_becomes co ow sm rm lt (c : Int) (zget (pg6 c) k.toNat) with
      | none => rw [h3] at ho2; cases ho2
      | some x =>
        have hb : x.1 = (c : Int) ∧ x.2.1 = zget (pg6 c) k.toNat := by
          unfold zf_X11_becomes at h3
          split at h3
          · cases h3
          · split at h3
            · cases h3
            · split at h3 <;> (cases h3; exact ⟨rfl, rfl⟩)
        rw [h3] at ho2
        cases ho2
        exact ⟨fun _ => ⟨rfl, hb.1, hb.2⟩, fun z => absurd ⟨c0, by omega⟩ z⟩
    · rw [if_neg c1] at ho2
      cases ho2
      exact ⟨fun z => absurd z.2 (by omega), fun _ => ⟨rfl, rfl, rfl⟩⟩
  · rw [if_neg c0] at ho2
    cases ho2
    exact ⟨fun z => absurd z.1 c0, fun _ => ⟨rfl, rfl, rfl⟩⟩
end

section
/-! the smaller ones -/
theorem eq_fault (mk : Nat) {fk fp w : Int} (hw : ¬ zout w) {o o2 : Int} (ho : zf_X10_fault mk fk fp w = some o) (ho2 : zf_X11_fault fk fp w = some o2) : o = o2 := by
  unfold zf_X10_fault zf_X1_faultKind zf_X1_faultPlace at ho
  unfold zf_X11_fault at ho2
  rw [if_neg hw] at ho ho2
  by_cases c : w = 0
  · rw [if_pos c] at ho ho2
    cases ho
    cases ho2
    rfl
  · rw [if_neg c] at ho ho2
    by_cases d : w = 1
    · rw [if_pos d] at ho ho2
      cases ho
      cases ho2
      rfl
    · rw [if_neg d] at ho ho2
      cases ho
      cases ho2
      rfl
theorem eq_mended (mk : Nat) {mn o o2 : Int} (ho : zf_X10_mended mk mn = some o) (ho2 : zf_X11_mended mn = some o2) : o = o2 := by
  cases ho
  cases ho2
  rfl
theorem eq_of2 (mk : Nat) {s i : Int} {P : Nat} (s1 : 1 ≤ s) (s10 : s ≤ 10) (hi : ¬ zout i) {o o2 : Int} (ho : zf_X10_of mk s P i = some o) (ho2 : zf_X11_of s P i = some o2) : o = o2 := by
  rw [eq_of mk s1 s10 hi, ho2] at ho
  exact (Option.some.inj ho).symm
theorem eq_along2 (mk : Nat) {s i len : Int} {P : Nat} (s1 : 1 ≤ s) (s10 : s ≤ 10) (hP : ∀ k : Nat, k < 10 → 0 ≤ zget P k ∧ zget P k ≤ 20) (hi : ¬ zout i) (hl : ¬ zout len) {o o2 : Int} (ho : zf_X10_along mk s P i len = some o) (ho2 : zf_X11_along s P i len = some o2) : o = o2 := by
  rw [eq_along mk s1 s10 hP hi hl, ho2] at ho
  exact (Option.some.inj ho).symm
theorem eq_growth2 (mk : Nat) {s : Int} {P : Nat} (s1 : 1 ≤ s) (s10 : s ≤ 10) (hP : ∀ k : Nat, k < 10 → 0 ≤ zget P k ∧ zget P k ≤ 20) (hP' : ∀ k : Nat, k < 11 → 0 ≤ zget P k ∧ zget P k ≤ 20) {o o2 : Int} (ho : zf_X10_growth mk s P = some o) (ho2 : zf_X11_growth s P = some o2) : o = o2 := by
  rw [eq_growth mk s1 s10 hP hP', ho2] at ho
  exact (Option.some.inj ho).symm
theorem hasCut_e {m : Nat} (h4 : 4 ≤ m) (h9 : m ≤ 9) {k : Int} (hk : ¬ zout k) : zf_X5_hasCut m k = some (decide (0 ≤ k ∧ k < pg8 m)) := by
  have r8 := rpg8 h4 h9
  unfold zf_X5_hasCut
  rw [if_neg hk]
  by_cases c : k < 0
  · rw [if_pos c, decide_eq_false (by omega)]
  · rw [if_neg c, if_neg (by unfold zout; omega)]
    by_cases d : pg8 m ≤ k
    · rw [if_pos d, decide_eq_false (by omega)]
    · rw [if_neg d, decide_eq_true (by omega)]
theorem hasCut_f {m : Nat} (h4 : 4 ≤ m) (h9 : m ≤ 9) {k : Int} (hk : ¬ zout k) (h : zf_X5_hasCut m k = some false) : ¬ (0 ≤ k ∧ k < pg8 m) := by
  rw [hasCut_e h4 h9 hk] at h
  exact of_decide_eq_false (Option.some.inj h)
theorem hasCut_t {m : Nat} (h4 : 4 ≤ m) (h9 : m ≤ 9) {k : Int} (hk : ¬ zout k) (h : zf_X5_hasCut m k = some true) : 0 ≤ k ∧ k < pg8 m := by
  rw [hasCut_e h4 h9 hk] at h
  exact of_decide_eq_true (Option.some.inj h)
theorem cutAt_o {m : Nat} (h4 : 4 ≤ m) (h9 : m ≤ 9) {k o : Int} (hk : 0 ≤ k ∧ k < pg8 m) (h : zf_X5_cutAt m k = some o) : o = zget (pg6 m) k.toNat := by
  rw [cutAt_e h4 h9 hk.1 hk.2] at h
  exact (Option.some.inj h).symm
theorem BR_0 : BR 0 := by
  intro k
  have : zget 0 k = 0 := by
    unfold zget zslot
    rw [Nat.zero_shiftRight]
    rfl
  rw [this]
  decide
theorem LTof {m : Nat} {ln : Int} {nf ls gr : Nat} (h : TL (m : Int) ln nf ls gr) : LT m ln nf ls gr := h.2.2
theorem rcut0 {n : Nat} (h4 : 4 ≤ n) (h9 : n ≤ 9) {b : Int} (h : isCut n b) : 0 ≤ b ∧ b ≤ 134217727 := by
  obtain ⟨k, hk, rfl⟩ := h
  have r8 := (rpg8 h4 h9).2
  exact rpg6 h4 h9 k (by omega)
theorem cutN {m : Nat} (h4 : 4 ≤ m) (h9 : m ≤ 9) {c : Int} (hc : isCut m c) : ∃ T : Nat, c = (T : Int) := by
  obtain ⟨k, hk, rfl⟩ := hc
  have r8 := rpg8 h4 h9
  have := rpg6 h4 h9 k (by omega)
  exact ⟨(zget (pg6 m) k).toNat, by omega⟩
theorem lnN_27 {m : Nat} (h4 : 4 ≤ m) (h9 : m ≤ 9) : 2 ≤ lnN m ∧ lnN m ≤ 27 := by
  have r7 := rpg7 h4 h9
  unfold lnN
  omega
theorem bitL_f {T l : Nat} (h : T < 134217728) (hl : l < 27) (hb : T.testBit l = false) : zandL (zshrL (T : Int) (l : Int)) 1 = 0 := by rw [bitL h hl, hb]; rfl
theorem bitL_t {T l : Nat} (h : T < 134217728) (hl : l < 27) (hb : T.testBit l = true) : zandL (zshrL (T : Int) (l : Int)) 1 = 1 := by rw [bitL h hl, hb]; rfl
theorem bitI_f {T l : Nat} (h : T < 134217728) (hl : l < 27) (hb : T.testBit l = false) : zand (zshr (T : Int) (l : Int)) 1 = 0 := by rw [bitI h hl, hb]; rfl
theorem bitI_t {T l : Nat} (h : T < 134217728) (hl : l < 27) (hb : T.testBit l = true) : zand (zshr (T : Int) (l : Int)) 1 = 1 := by rw [bitI h hl, hb]; rfl
end
