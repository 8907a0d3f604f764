section
/-! glue, cutOff, core -/
theorem zset_comm {A i j : Nat} {v w : Int} (h : ¬ i = j) : zset (zset A i v) j w = zset (zset A j w) i v := by
  apply Nat.eq_of_testBit_eq
  intro p
  rw [zset_bit, zset_bit, zset_bit, zset_bit]
  by_cases a : p < 32 * i
  · rw [if_pos a]
    by_cases c : p < 32 * j
    · rw [if_pos c, if_pos a]
    · rw [if_neg c]
      by_cases d : p < 32 * j + 32
      · rw [if_pos d, if_pos a]
      · rw [if_neg d, if_pos a]
  · rw [if_neg a]
    by_cases b : p < 32 * i + 32
    · rw [if_pos b, if_neg a, if_pos b]
      by_cases c : p < 32 * j
      · rw [if_pos c]
      · rw [if_neg c, if_neg (by omega)]
    · rw [if_neg b, if_neg a, if_neg b]
theorem glue_run {i s : Int} (i0 : 0 ≤ i) (i1 : i < s) (s9 : s ≤ 9) : ∀ (d : Nat) (k : Int) (P : Nat) (j : Int) (o : zO_X2_glueBehind) (o2 : zO_X11_glue), k = i + 1 + (d : Int) → k ≤ s → JE zg_X2_glueBehind (52, i, k, s, P) o → JE zg_X11_glue (110, i, j, k, s, P) o2 → o = o2 := by
  intro d
  induction d with
  | zero =>
    intro k P j o o2 hk hs hx hy
    have hk : k = i + 1 := by omega
    subst hk
    have e1 := JE_end (o' := (s + 1, s + 1, zset P (Int.toNat (i + 1)) 1)) (by
      show zg_X2_glueBehind_52 i (i + 1) s P = _
      unfold zg_X2_glueBehind_52
      rw [if_neg (by unfold zout; omega), if_neg (by unfold zout; omega), if_pos (Int.le_refl _), if_neg (by omega)]) hx
    have e2 := JE_end (o' := (s + 1, s + 1, zset P (Int.toNat (i + 1)) 1)) (by
      show zg_X11_glue_110 i j (i + 1) s P = _
      unfold zg_X11_glue_110
      rw [if_neg (by unfold zout; omega), if_neg (by unfold zout; omega), if_pos (Int.le_refl _), if_neg (by omega)]) hy
    rw [e1, e2]
  | succ d ih =>
    intro k P j o o2 hk hs hx hy
    have hx := JE_dn (s' := (52, i, k + -1, s, zset P (Int.toNat k) (zget P (Int.toNat (k - 1))))) (by
      show zg_X2_glueBehind_52 i k s P = _
      unfold zg_X2_glueBehind_52
      rw [if_neg (by unfold zout; omega), if_neg (by unfold zout; omega), if_neg (by omega), if_neg (by omega), if_neg (by omega)]) hx
    have hy := JE_dn (s' := (110, i, 0, k + -1, s, zset P (Int.toNat k) (zget P (Int.toNat (k - 1))))) (by
      show zg_X11_glue_110 i j k s P = _
      unfold zg_X11_glue_110
      rw [if_neg (by unfold zout; omega), if_neg (by unfold zout; omega), if_neg (by omega), if_neg (by omega), if_neg (by omega)]) hy
    exact ih (k + -1) _ 0 o o2 (by omega) (by omega) hx hy
set_option maxHeartbeats 1000000 in
theorem eq_glue (mk : Nat) {s i : Int} {P : Nat} (s1 : 1 ≤ s) (s10 : s ≤ 10) (hP : ∀ k : Nat, k < 10 → 0 ≤ zget P k ∧ zget P k ≤ 20) (hi : ¬ zout i) {o o2 : Int × Int × Nat} (ho : zf_X10_glue mk s P i = some o) (ho2 : zf_X11_glue s P i = some o2) : o = o2 := by
  have hy := JE_of ho2
  have ey : zg_X11_glue (0, i, 0, 0, s, P) = zg_X11_glue_0 i 0 0 s P := rfl
  unfold zf_X10_glue at ho
  rw [place_e (by unfold zout; omega) hi] at ho
  simp only [Option.bind_some] at ho
  unfold zg_X11_glue_0 at ey
  rw [in_e hi (by decide) (by unfold zout; omega)] at ey
  simp only [Option.bind_some] at ey
  by_cases c : 0 ≤ i ∧ i ≤ s - 1
  · rw [decide_eq_true c, if_neg (by decide)] at ho
    rw [decide_eq_true c, if_neg (by decide), if_neg (by unfold zout; omega)] at ey
    have p0 := hP i.toNat (by omega)
    have r := rtmod (show 0 ≤ i + 1 by omega) (show 0 < s by omega)
    have p1 := hP (Int.toNat (Int.tmod (i + 1) s)) (by omega)
    have ei : Int.tmod i s = i := Int.tmod_eq_of_lt (by omega) (by omega)
    unfold zf_X2_canGlue at ho
    rw [if_neg (by unfold zout; omega)] at ho
    by_cases c10 : s = 10
    · rw [if_neg (by omega)] at ho
      simp only [Option.bind_some] at ho
      rw [if_pos trivial] at ho
      rw [if_pos c10] at ey
      have e2 := JE_end ey hy
      cases ho
      exact e2.symm
    · rw [if_pos (by omega), at_e s1 s10 (by omega) (by omega), at_e s1 s10 (by omega) (by omega), ei] at ho
      rw [if_neg c10, if_neg (by unfold zout; omega), if_neg (by omega)] at ey
      -- the step that glues
      have go : ∀ (_ : zf_X2_canGlue s P i = some true), Option.bind (zf_X2_glueBehind s P i) (fun o3 => some ((o3.1), (o3.2.1), (o3.2.2))) = some o → zg_X11_glue (0, i, 0, 0, s, P) = some (.inr (85, i, (Int.tmod (i + (1 : Int)) s), 0, s, P)) → o = o2 := by
        intro hcg ho ey
        have hy1 := JE_dn ey hy
        have hy2 := JE_dn (s' := (110, i, Int.tmod (i + 1) s, s, s, (zset (zset P (Int.toNat i) ((zget P (Int.toNat i)) + (1 : Int))) (Int.toNat (Int.tmod (i + 1) s)) ((zget (zset P (Int.toNat i) ((zget P (Int.toNat i)) + (1 : Int))) (Int.toNat (Int.tmod (i + 1) s))) + (1 : Int))))) (by
          show zg_X11_glue_85 i (Int.tmod (i + 1) s) 0 s P = _
          unfold zg_X11_glue_85
          rw [if_neg (by omega), if_neg (by omega)]) hy1
        cases hg : zf_X2_glueBehind s P i with
        | none => rw [hg] at ho; cases ho
        | some og =>
          rw [hg] at ho
          have hx1 := JE_dn (s' := (52, i, s, s, (zset (zset P (Int.toNat i) ((zget P (Int.toNat i)) + (1 : Int))) (Int.toNat (Int.tmod (i + 1) s)) ((zget (zset P (Int.toNat i) ((zget P (Int.toNat i)) + (1 : Int))) (Int.toNat (Int.tmod (i + 1) s))) + (1 : Int))))) (by
            show zg_X2_glueBehind_0 i 0 s P = _
            unfold zg_X2_glueBehind_0
            rw [place_e (by unfold zout; omega) hi, decide_eq_true c]
            simp only [Option.bind_some]
            rw [if_neg (by decide), hcg]
            simp only [Option.bind_some]
            rw [if_neg (by decide), if_neg (by omega), wrap_e s1 s10 (by omega) (by omega)]
            simp only [Option.bind_some]
            rw [if_neg (by omega)]) (JE_of hg)
          have e := glue_run (by omega) (by omega) (by omega) (s - (i + 1)).toNat s _ _ og o2 (by omega) (Int.le_refl _) hx1 hy2
          cases ho
          rw [← e]
      have hcg : zf_X2_canGlue s P i = (if s = 1 then (if 20 < zget P (Int.toNat i) + 2 then some false else if 20 < zget P (Int.toNat (Int.tmod (i + 1) s)) + 2 then some false else some true) else (if 20 < zget P (Int.toNat i) + 1 then some false else if 20 < zget P (Int.toNat (Int.tmod (i + 1) s)) + 1 then some false else some true)) := by
        unfold zf_X2_canGlue
        rw [if_neg (by unfold zout; omega), if_pos (by omega), at_e s1 s10 (by omega) (by omega), at_e s1 s10 (by omega) (by omega), ei]
        simp only [Option.bind_some]
        by_cases q1 : s = 1
        · rw [if_pos q1, if_pos q1, if_neg (by unfold zout; omega)]
          by_cases q2 : 20 < zget P (Int.toNat i) + 2
          · rw [if_pos q2, if_pos q2]
          · rw [if_neg q2, if_neg q2, if_neg (by unfold zout; omega)]
        · rw [if_neg q1, if_neg q1, if_neg (by unfold zout; omega)]
          by_cases q2 : 20 < zget P (Int.toNat i) + 1
          · rw [if_pos q2, if_pos q2]
          · rw [if_neg q2, if_neg q2, if_neg (by unfold zout; omega)]
      have hx : Option.bind (zf_X2_canGlue s P i) (fun o2 => if o2 = false then some ((-3 : Int), s, P) else Option.bind (zf_X2_glueBehind s P i) (fun o3 => some ((o3.1), (o3.2.1), (o3.2.2)))) = some o := by
        unfold zf_X2_canGlue
        rw [if_neg (by unfold zout; omega), if_pos (by omega), at_e s1 s10 (by omega) (by omega), at_e s1 s10 (by omega) (by omega), ei]
        exact ho
      have full : zg_X11_glue (0, i, 0, 0, s, P) = some (.inl ((-3 : Int), s, P)) → some ((-3 : Int), s, P) = some o → o = o2 := by
        intro ey ho
        have e2 := JE_end ey hy
        cases ho
        exact e2.symm
      have gy : zf_X2_canGlue s P i = some true → zg_X11_glue (0, i, 0, 0, s, P) = some (.inr (85, i, (Int.tmod (i + (1 : Int)) s), 0, s, P)) → o = o2 := by
        intro hb ey
        rw [hb] at hx
        simp only [Option.bind_some] at hx
        rw [if_neg (by decide)] at hx
        exact go hb hx ey
      have fy : zf_X2_canGlue s P i = some false → zg_X11_glue (0, i, 0, 0, s, P) = some (.inl ((-3 : Int), s, P)) → o = o2 := by
        intro hb ey
        rw [hb] at hx
        simp only [Option.bind_some] at hx
        first
          | rw [if_pos trivial] at hx
          | rw [if_pos rfl] at hx
        exact full ey hx
      by_cases s1' : s = 1
      · rw [if_pos s1'] at ey
        have ei0 : i = 0 := by omega
        have et : Int.tmod (i + 1) s = 0 := by rw [s1', ei0]; rfl
        by_cases q : zget P (Int.toNat 0) ≤ 18
        · rw [if_pos q] at ey
          refine gy ?_ ey
          rw [hcg, if_pos s1', et, ei0, if_neg (by omega), if_neg (by omega)]
        · rw [if_neg q] at ey
          refine fy ?_ ey
          rw [hcg, if_pos s1', ei0, if_pos (by omega)]
      · rw [if_neg s1', if_neg (by omega)] at ey
        by_cases q : 19 < zget P (Int.toNat i)
        · rw [if_pos q] at ey
          refine fy ?_ ey
          rw [hcg, if_neg s1', if_pos (by omega)]
        · rw [if_neg q, if_neg (by omega)] at ey
          by_cases q2 : zget P (Int.toNat (Int.tmod (i + 1) s)) ≤ 19
          · rw [if_pos q2] at ey
            refine gy ?_ ey
            rw [hcg, if_neg s1', if_neg (by omega), if_neg (by omega)]
          · rw [if_neg q2] at ey
            refine fy ?_ ey
            rw [hcg, if_neg s1', if_neg (by omega), if_pos (by omega)]
  · rw [decide_eq_false c, if_pos rfl] at ho
    rw [decide_eq_false c, if_pos rfl] at ey
    have e2 := JE_end ey hy
    cases ho
    exact e2.symm
/-- a loss -/
theorem lose_run {s : Int} (s3 : 3 ≤ s) (s10 : s ≤ 10) : ∀ (d : Nat) (k a b : Int) (P : Nat) (o : zO_X2_lose) (o2 : zO_X11_off), s = k + 1 + (d : Int) → 0 ≤ k → JE zg_X2_lose (55, a, k, s, P) o → JE zg_X11_off (37, b, s, k, s, P) o2 → o = (o2.1, o2.1, o2.2) ∧ o2.1 = s - 1 := by
  intro d
  induction d with
  | zero =>
    intro k a b P o o2 hk h0 hx hy
    have e1 := JE_end (o' := (s - 1, s - 1, P)) (by
      show zg_X2_lose_55 a k s P = _
      unfold zg_X2_lose_55
      rw [if_neg (by unfold zout; omega), if_neg (by unfold zout; omega), if_pos (by omega)]) hx
    have e2 := JE_end (o' := (s - 1, P)) (by
      show zg_X11_off_37 b s k s P = _
      unfold zg_X11_off_37
      rw [if_neg (by unfold zout; omega), if_neg (by unfold zout; omega), if_pos (by omega)]) hy
    rw [e1, e2]
    exact ⟨rfl, rfl⟩
  | succ d ih =>
    intro k a b P o o2 hk h0 hx hy
    have hx := JE_dn (s' := (55, 0, k + 1, s, zset P (Int.toNat k) (zget P (Int.toNat (k + 1))))) (by
      show zg_X2_lose_55 a k s P = _
      unfold zg_X2_lose_55
      rw [if_neg (by unfold zout; omega), if_neg (by unfold zout; omega), if_neg (by omega), if_neg (by omega), if_neg (by omega)]) hx
    have hy := JE_dn (s' := (37, 0, s, k + 1, s, zset P (Int.toNat k) (zget P (Int.toNat (k + 1))))) (by
      show zg_X11_off_37 b s k s P = _
      unfold zg_X11_off_37
      rw [if_neg (by unfold zout; omega), if_neg (by unfold zout; omega), if_neg (by omega), if_neg (by omega), if_neg (by omega)]) hy
    exact ih (k + 1) 0 0 _ o o2 (by omega) (by omega) hx hy
theorem prev_e {s i : Int} (s3 : 3 ≤ s) (s10 : s ≤ 10) (i0 : 0 ≤ i) (i1 : i < s) : zf_X2_wrapped s (i - 1) = some (Int.tmod ((i + s) - 1) s) ∧ Int.tmod ((i + s) - 1) s = (if i = 0 then s - 1 else i - 1) := by
  by_cases c : i = 0
  · subst c
    rw [show (0 : Int) - 1 = -1 by decide, wrap_m (by omega) s10, if_pos rfl, show (0 : Int) + s - 1 = s - 1 by omega, Int.tmod_eq_of_lt (by omega) (by omega)]
    exact ⟨rfl, rfl⟩
  · have e : Int.tmod ((i + s) - 1) s = i - 1 := by
      have h := Int.tmod_eq_emod_of_nonneg (a := (i + s) - 1) (b := s) (by omega)
      rw [h, show (i + s) - 1 = (i - 1) + s by omega, Int.add_emod_right, Int.emod_eq_of_lt (by omega) (by omega)]
    rw [wrap_e (by omega) s10 (by omega) (by omega), if_neg c, e, Int.tmod_eq_of_lt (by omega) (by omega)]
    exact ⟨rfl, rfl⟩
theorem next_e {s i : Int} (s3 : 3 ≤ s) (i0 : 0 ≤ i) (i1 : i < s) : Int.tmod (i + 1) s = (if i + 1 = s then 0 else i + 1) := by
  by_cases c : i + 1 = s
  · rw [if_pos c, c, Int.tmod_self]
  · rw [if_neg c, Int.tmod_eq_of_lt (by omega) (by omega)]
theorem lose_e {s i : Int} {P : Nat} (s1 : 1 ≤ s) (s10 : s ≤ 10) (hP : ∀ k : Nat, k < 10 → 0 ≤ zget P k ∧ zget P k ≤ 20) (i0 : 0 ≤ i) (i1 : i < s) : zf_X2_canLose s P i = zf_X11_isOff s P i := by
  unfold zf_X2_canLose zf_X11_isOff
  have zs : ¬ zout s := by unfold zout; omega
  rw [if_neg zs, if_neg zs]
  by_cases c : s < 3
  · rw [if_pos c, if_pos (by omega)]
  · rw [if_neg c, if_neg (by omega), if_neg (by omega)]
    have ei : Int.tmod i s = i := Int.tmod_eq_of_lt i0 i1
    have pe := prev_e (by omega) s10 i0 i1
    have ne := next_e (by omega) i0 i1
    have p0 := hP i.toNat (by omega)
    have r1 := rtmod (show 0 ≤ i + 1 by omega) (show 0 < s by omega)
    have r2 := rtmod (show 0 ≤ (i + s) - 1 by omega) (show 0 < s by omega)
    have p1 := hP (Int.toNat (Int.tmod (i + 1) s)) (by omega)
    have p2 := hP (Int.toNat (Int.tmod ((i + s) - 1) s)) (by omega)
    have ea : zf_X2_at s P (i - 1) = some (zget P (Int.toNat (Int.tmod ((i + s) - 1) s))) := by
      unfold zf_X2_at
      rw [pe.1]
      simp only [Option.bind_some]
      rw [if_neg (by omega)]
    rw [at_e s1 s10 i0 (by omega), ei]
    simp only [Option.bind_some]
    rw [if_neg (by unfold zout; omega)]
    by_cases q : zget P (Int.toNat i) = 1
    · rw [if_pos q, if_pos q, ea, at_e s1 s10 (by omega) (by omega)]
      simp only [Option.bind_some]
      have A1 : ¬ zout (zget P (Int.toNat (Int.tmod ((i + s) - 1) s))) := by unfold zout; omega
      have A2 : ¬ zout (zget P (Int.toNat (Int.tmod (i + 1) s))) := by unfold zout; omega
      have A3 : ¬ zout (i + 1) := by unfold zout; omega
      have A4 : ¬ s = 0 := by omega
      have A5 : ¬ (Int.tmod (i + 1) s < 0 ∨ 11 ≤ Int.tmod (i + 1) s) := by omega
      have A6 : ¬ zout ((i + s) - 1) := by unfold zout; omega
      have A7 : ¬ (Int.tmod ((i + s) - 1) s < 0 ∨ 11 ≤ Int.tmod ((i + s) - 1) s) := by omega
      by_cases q1 : zget P (Int.toNat (Int.tmod (i + 1) s)) ≤ 1
      · by_cases q2 : zget P (Int.toNat (Int.tmod ((i + s) - 1) s)) ≤ 1
        · simp only [if_neg A1, if_neg A2, if_neg A3, if_neg A4, if_neg A5, if_neg A6, if_neg A7, if_pos q1, if_pos q2]
        · simp only [if_neg A1, if_neg A2, if_neg A3, if_neg A4, if_neg A5, if_neg A6, if_neg A7, if_pos q1, if_neg q2]
      · by_cases q2 : zget P (Int.toNat (Int.tmod ((i + s) - 1) s)) ≤ 1
        · simp only [if_neg A1, if_neg A2, if_neg A3, if_neg A4, if_neg A5, if_neg A6, if_neg A7, if_neg q1, if_pos q2]
        · simp only [if_neg A1, if_neg A2, if_neg A3, if_neg A4, if_neg A5, if_neg A6, if_neg A7, if_neg q1, if_neg q2]
    · rw [if_neg q, if_neg q]
theorem off_e {s i : Int} {P : Nat} (s3 : 3 ≤ s) (s10 : s ≤ 10) (i0 : 0 ≤ i) (i1 : i < s) (hc : zf_X2_canLose s P i = some true) {o : zO_X2_lose} {o2 : zO_X11_off} (ho : zf_X2_lose s P i = some o) (ho2 : zf_X11_off s P i = some o2) : o = (o2.1, o2.1, o2.2) ∧ o2.1 = s - 1 := by
  have pe := prev_e s3 s10 i0 i1
  have ne := next_e s3 i0 i1
  have r1 := rtmod (show 0 ≤ i + 1 by omega) (show 0 < s by omega)
  have r2 := rtmod (show 0 ≤ (i + s) - 1 by omega) (show 0 < s by omega)
  have hd : ¬ Int.toNat (Int.tmod ((i + s) - 1) s) = Int.toNat (Int.tmod (i + 1) s) := by
    rw [pe.2, ne]
    split <;> split <;> omega
  have hx := JE_dn (s' := (55, i, i, s, (zset (zset P (Int.toNat (Int.tmod ((i + s) - 1) s)) ((zget P (Int.toNat (Int.tmod ((i + s) - 1) s))) - (1 : Int))) (Int.toNat (Int.tmod (i + 1) s)) ((zget (zset P (Int.toNat (Int.tmod ((i + s) - 1) s)) ((zget P (Int.toNat (Int.tmod ((i + s) - 1) s))) - (1 : Int))) (Int.toNat (Int.tmod (i + 1) s))) - (1 : Int))))) (by
    show zg_X2_lose_0 i 0 s P = _
    unfold zg_X2_lose_0
    rw [place_e (by unfold zout; omega) (by unfold zout; omega), decide_eq_true (by omega)]
    simp only [Option.bind_some]
    rw [if_neg (by decide), hc]
    simp only [Option.bind_some]
    rw [if_neg (by decide), pe.1]
    simp only [Option.bind_some]
    rw [if_neg (by omega), wrap_e (by omega) s10 (by omega) (by omega)]
    simp only [Option.bind_some]
    rw [if_neg (by omega)]) (JE_of ho)
  have hy := JE_dn (s' := (37, i, s, i, s, (zset (zset P (Int.toNat (Int.tmod (i + 1) s)) ((zget P (Int.toNat (Int.tmod (i + 1) s))) - (1 : Int))) (Int.toNat (Int.tmod ((i + s) - 1) s)) ((zget (zset P (Int.toNat (Int.tmod (i + 1) s)) ((zget P (Int.toNat (Int.tmod (i + 1) s))) - (1 : Int))) (Int.toNat (Int.tmod ((i + s) - 1) s))) - (1 : Int))))) (by
    show zg_X11_off_0 i 0 0 s P = _
    unfold zg_X11_off_0
    rw [if_neg (by unfold zout; omega), if_neg (by unfold zout; omega), if_neg (by omega), if_neg (by omega), if_neg (by unfold zout; omega), if_neg (by omega), if_neg (by omega)]) (JE_of ho2)
  rw [zget_set, if_neg (fun q => hd q.symm), zset_comm hd] at hx
  rw [zget_set, if_neg hd] at hy
  exact lose_run s3 s10 (s - (i + 1)).toNat i i i _ o o2 (by omega) i0 hx hy
theorem eq_cutOff (mk : Nat) {s i : Int} {P : Nat} (s1 : 1 ≤ s) (s10 : s ≤ 10) (hP : ∀ k : Nat, k < 10 → 0 ≤ zget P k ∧ zget P k ≤ 20) (hi : ¬ zout i) {o o2 : Int × Int × Nat} (ho : zf_X10_cutOff mk s P i = some o) (ho2 : zf_X11_cutOff s P i = some o2) : o = o2 := by
  unfold zf_X10_cutOff at ho
  unfold zf_X11_cutOff at ho2
  rw [place_e (by unfold zout; omega) hi] at ho
  rw [in_e hi (by decide) (by unfold zout; omega)] at ho2
  simp only [Option.bind_some] at ho ho2
  by_cases c : 0 ≤ i ∧ i ≤ s - 1
  · rw [decide_eq_true c, if_neg (by decide)] at ho ho2
    have e := lose_e s1 s10 hP c.1 (by omega)
    rw [← e] at ho2
    cases hc : zf_X2_canLose s P i with
    | none => rw [hc] at ho; cases ho
    | some b =>
      rw [hc] at ho ho2
      simp only [Option.bind_some] at ho ho2
      cases b with
      | false =>
        rw [if_pos rfl] at ho ho2
        cases ho
        cases ho2
        rfl
      | true =>
        rw [if_neg (by decide)] at ho ho2
        have s3 : 3 ≤ s := by
          by_cases q : s < 3
          · unfold zf_X2_canLose at hc
            rw [if_neg (by unfold zout; omega), if_pos q] at hc
            cases hc
          · omega
        cases h1 : zf_X2_lose s P i with
        | none => rw [h1] at ho; cases ho
        | some u =>
          cases h2 : zf_X11_off s P i with
          | none => rw [h2] at ho2; cases ho2
          | some v =>
            have q := off_e s3 s10 c.1 (by omega) hc h1 h2
            rw [h1] at ho
            rw [h2] at ho2
            cases ho
            cases ho2
            rw [q.1]
  · rw [decide_eq_false c, if_pos rfl] at ho ho2
    cases ho
    cases ho2
    rfl
end

section
/-! core, breaks, period, ofCut -/
def F1 (P : Nat) (s f : Int) : Prop := 0 ≤ f ∧ f ≤ s ∧ (∀ j : Nat, (j : Int) < f → ¬ zget P j = 1) ∧ (f < s → zget P f.toNat = 1)
theorem F1_u {P : Nat} {s f g : Int} (hf : F1 P s f) (hg : F1 P s g) : f = g := by
  obtain ⟨f0, f1, f2, f3⟩ := hf
  obtain ⟨g0, g1, g2, g3⟩ := hg
  by_cases c : f < g
  · exact absurd (f3 (by omega)) (g2 f.toNat (by omega))
  · by_cases d : g < f
    · exact absurd (g3 (by omega)) (f2 g.toNat (by omega))
    · omega
theorem first_x {P : Nat} {s : Int} (s1 : 1 ≤ s) (s10 : s ≤ 10) : Go (fun (o : Int) => (o = -1 ∧ F1 P s s) ∨ (0 ≤ o ∧ o < s ∧ F1 P s o)) (zf_X2_firstOne s P) := by
  refine jok (fun (st : zS_X2_firstOne) => match st with | (lab, i) => lab = 0 ∨ (lab = 2 ∧ 0 ≤ i ∧ i ≤ s ∧ ∀ j : Nat, (j : Int) < i → ¬ zget P j = 1)) (fun (st : zS_X2_firstOne) => match st with | (lab, i) => if lab = 0 then 100 else (s - i).toNat) _ ?_ _ ?_ ?_
  · intro st h
    obtain ⟨lab, i⟩ := st
    rcases h with rfl | ⟨rfl, h0, h1, h2⟩
    · show Go _ (zg_X2_firstOne_0 s P i)
      unfold zg_X2_firstOne_0
      refine Go_i ⟨Or.inr ⟨rfl, Int.le_refl 0, by show (0 : Int) ≤ s; omega, fun j hj => absurd hj (by show ¬ (j : Int) < 0; omega)⟩, ?_⟩
      show (if (2 : Nat) = 0 then 100 else (s - 0).toNat) < (if (0 : Nat) = 0 then 100 else (s - i).toNat)
      rw [if_neg (by decide), if_pos rfl]
      omega
    · show Go _ (zg_X2_firstOne_2 s P i)
      unfold zg_X2_firstOne_2
      refine Go_chk (by unfold zout; omega) ?_
      refine Go_chk (by unfold zout; omega) ?_
      refine Go_ite (fun c => ?_) (fun c => ?_)
      · have : i = s := by omega
        subst this
        exact Go_i (Or.inl ⟨rfl, h0, h1, h2, fun z => absurd z (by omega)⟩)
      · refine Go_chk (by omega) ?_
        refine Go_ite (fun c1 => ?_) (fun c1 => ?_)
        · exact Go_i (Or.inr ⟨h0, by show i < s; omega, h0, h1, h2, fun _ => c1⟩)
        · refine Go_i ⟨Or.inr ⟨rfl, by show 0 ≤ i + 1; omega, by show i + 1 ≤ s; omega, ?_⟩, ?_⟩
          · intro j hj
            replace hj : (j : Int) < i + 1 := hj
            by_cases e : (j : Int) = i
            · rw [show j = i.toNat by omega]; exact c1
            · exact h2 j (by omega)
          · show (if (2 : Nat) = 0 then 100 else (s - (i + 1)).toNat) < (if (2 : Nat) = 0 then 100 else (s - i).toNat)
            rw [if_neg (by decide), if_neg (by decide)]
            omega
  · exact Or.inl rfl
  · show (if (0 : Nat) = 0 then 100 else (s - 0).toNat) < jfuel
    rw [if_pos rfl]
    unfold jfuel
    decide
/-- the reference's way to the first one -/
theorem first_y {P : Nat} {s n : Int} (s1 : 1 ≤ s) (s10 : s ≤ 10) {o : zO_X11_core} : ∀ (d : Nat) (i : Int), i + (d : Int) = s → 0 ≤ i → (∀ j : Nat, (j : Int) < i → ¬ zget P j = 1) → JE zg_X11_core (4, n, i, s, P) o → ∃ f : Int, F1 P s f ∧ JE zg_X11_core (28, n, f, s, P) o := by
  intro d
  induction d with
  | zero =>
    intro i hi h0 hp h
    have hi : i = s := by omega
    subst hi
    refine ⟨i, ⟨h0, Int.le_refl _, hp, fun z => absurd z (by omega)⟩, ?_⟩
    exact JE_dn (by
      show zg_X11_core_4 n i i P = _
      unfold zg_X11_core_4
      rw [if_neg (by unfold zout; omega), if_neg (by unfold zout; omega), if_pos (Int.le_refl _)]) h
  | succ d ih =>
    intro i hi h0 hp h
    by_cases c : zget P (Int.toNat i) = 1
    · refine ⟨i, ⟨h0, by omega, hp, fun _ => c⟩, ?_⟩
      exact JE_dn (by
        show zg_X11_core_4 n i s P = _
        unfold zg_X11_core_4
        rw [if_neg (by unfold zout; omega), if_neg (by unfold zout; omega), if_neg (by omega), if_neg (by omega), if_pos c]) h
    · refine ih (i + 1) (by omega) (by omega) ?_ (JE_dn (by
        show zg_X11_core_4 n i s P = _
        unfold zg_X11_core_4
        rw [if_neg (by unfold zout; omega), if_neg (by unfold zout; omega), if_neg (by omega), if_neg (by omega), if_neg c]) h)
      intro j hj
      by_cases e : (j : Int) = i
      · rw [show j = i.toNat by omega]; exact c
      · exact hp j (by omega)
theorem JE_none {S O : Type} {g : S → Option (O ⊕ S)} {s : S} {o : O} (e : g s = none) (h : JE g s o) : False := by
  obtain ⟨n, hn⟩ := h
  cases n with
  | zero => rw [jrun_0] at hn; cases hn
  | succ n => rw [jrun_s, e] at hn; cases hn
set_option maxHeartbeats 1000000 in
theorem core_run : ∀ (m : Nat) (s n r i2 : Int) (P : Nat) (o : zO_X2_loseAll) (o2 : zO_X11_core), s ≤ (m : Int) → 1 ≤ s → s + r ≤ 10 → 0 ≤ r → (∀ k : Nat, k < 10 → 0 ≤ zget P k ∧ zget P k ≤ 20) → JE zg_X2_loseAll (4, n, r, s, P) o → JE zg_X11_core (2, n, i2, s, P) o2 → o = o2 := by
  intro m
  induction m with
  | zero => intro s n r i2 P o o2 h1 h2; omega
  | succ m ih =>
    intro s n r i2 P o o2 hm s1 hsr r0 hP hx hy
    obtain ⟨f, hf, hq⟩ := first_x (P := P) s1 (show s ≤ 10 by omega)
    have hy1 := JE_dn (s' := (4, n, 0, s, P)) rfl hy
    obtain ⟨g, hg, hy2⟩ := first_y s1 (by omega) s.toNat 0 (by omega) (Int.le_refl 0) (fun j hj => absurd hj (by omega)) hy1
    rcases hq with ⟨rfl, hq⟩ | ⟨f0, f1, hq⟩
    · have e := F1_u hq hg
      subst e
      have e1 := JE_end (o' := (n, s, P)) (by
        show zg_X2_loseAll_4 n r s P = _
        unfold zg_X2_loseAll_4
        rw [if_neg (by unfold zout; omega), if_neg (by omega), hf]
        rfl) hx
      have e2 := JE_end (o' := (n, s, P)) (by
        show zg_X11_core_28 n s s P = _
        unfold zg_X11_core_28
        rw [if_neg (by unfold zout; omega), if_neg (by unfold zout; omega), if_pos rfl]) hy2
      rw [e1, e2]
    · have e := F1_u hq hg
      subst e
      have el := lose_e s1 (show s ≤ 10 by omega) hP f0 f1
      cases hc : zf_X2_canLose s P f with
      | none =>
        obtain ⟨q, hq, -⟩ := ok_X2_canLose s P f s1 (by omega) hP f0 f1
        rw [hc] at hq
        cases hq
      | some b =>
        rw [hc] at el
        cases b with
        | false =>
          have e1 := JE_end (o' := (n, s, P)) (by
            show zg_X2_loseAll_4 n r s P = _
            unfold zg_X2_loseAll_4
            rw [if_neg (by unfold zout; omega), if_neg (by omega), hf]
            simp only [Option.bind_some]
            rw [if_neg (by unfold zout; omega), if_neg (by omega), hc]
            rfl) hx
          have e2 := JE_end (o' := (n, s, P)) (by
            show zg_X11_core_28 n f s P = _
            unfold zg_X11_core_28
            rw [if_neg (by unfold zout; omega), if_neg (by unfold zout; omega), if_neg (by omega), ← el]
            rfl) hy2
          rw [e1, e2]
        | true =>
          have s3 : 3 ≤ s := by
            by_cases q : s < 3
            · unfold zf_X2_canLose at hc
              rw [if_neg (by unfold zout; omega), if_pos q] at hc
              cases hc
            · omega
          obtain ⟨u, hu, u1, u2, u3, u4⟩ := ok_X2_lose s P f s1 (by omega) hP (by omega) (by omega)
          have hx2 := JE_dn (s' := (4, n + 1, r + 1, u.2.1, u.2.2)) (by
            show zg_X2_loseAll_4 n r s P = _
            unfold zg_X2_loseAll_4
            rw [if_neg (by unfold zout; omega), if_neg (by omega), hf]
            simp only [Option.bind_some]
            rw [if_neg (by unfold zout; omega), if_neg (by omega), hc]
            simp only [Option.bind_some]
            rw [if_neg (by decide), hu]
            rfl) hx
          cases hv : zf_X11_off s P f with
          | none =>
            exfalso
            refine JE_none ?_ hy2
            show zg_X11_core_28 n f s P = _
            unfold zg_X11_core_28
            rw [if_neg (by unfold zout; omega), if_neg (by unfold zout; omega), if_neg (by omega), ← el]
            simp only [Option.bind_some]
            rw [if_neg (by decide), hv]
            rfl
          | some v =>
            have q := off_e s3 (by omega) f0 f1 hc hu hv
            have hy3 := JE_dn (s' := (2, n + 1, f, v.1, v.2)) (by
              show zg_X11_core_28 n f s P = _
              unfold zg_X11_core_28
              rw [if_neg (by unfold zout; omega), if_neg (by unfold zout; omega), if_neg (by omega), ← el]
              simp only [Option.bind_some]
              rw [if_neg (by decide), hv]
              rfl) hy2
            have q2 := q.2
            have q1 := q.1
            subst q1
            exact ih v.1 (n + 1) (r + 1) f v.2 o o2 (by omega) (by omega) (by omega) (by omega) u3 hx2 hy3
theorem eq_core (mk : Nat) {s : Int} {P : Nat} (s1 : 1 ≤ s) (s10 : s ≤ 10) (hP : ∀ k : Nat, k < 10 → 0 ≤ zget P k ∧ zget P k ≤ 20) {o o2 : Int × Int × Nat} (ho : zf_X10_core mk s P = some o) (ho2 : zf_X11_core s P = some o2) : o = o2 := by
  unfold zf_X10_core at ho
  cases h : zf_X2_loseAll s P with
  | none => rw [h] at ho; cases ho
  | some u =>
    rw [h] at ho
    have hx := JE_dn (s' := (4, 0, 0, s, P)) rfl (JE_of h)
    have hy := JE_dn (s' := (2, 0, 0, s, P)) rfl (JE_of ho2)
    have e := core_run s.toNat s 0 0 0 P u o2 (by omega) s1 (by omega) (by omega) hP hx hy
    cases ho
    rw [← e]
/-! breaks -/
def BPl (s : Int) (P : Nat) (l r : Int) : Prop := 0 ≤ r ∧ r ≤ s ∧ (∀ j : Nat, (j : Int) < r → ∃ v : Int, zf_X11_alongOf s P (j : Int) l = some v ∧ 0 < v ∧ ¬ zoutL v) ∧ (r < s → ∃ v : Int, zf_X11_alongOf s P r l = some v ∧ v ≤ 0 ∧ ¬ zoutL v)
theorem along_v {s : Int} {P : Nat} (s1 : 1 ≤ s) (s10 : s ≤ 10) (hP : ∀ k : Nat, k < 11 → 0 ≤ zget P k ∧ zget P k ≤ 20) {i l : Int} (i0 : 0 ≤ i) (i9 : i ≤ 10) (l0 : 0 ≤ l) (l9 : l ≤ 12) : ∃ v : Int, zf_X11_alongOf s P i l = some v ∧ zf_X2_entryAt s P i l = some v ∧ ¬ zoutL v := by
  obtain ⟨v, hv, h1, h2⟩ := ok_X11_alongOf s P i l s1 s10 hP i0 i9 l0 (by omega)
  refine ⟨v, hv, ?_, by unfold zoutL; omega⟩
  rw [eq_ent s1 s10 (fun k hk => hP k (by omega)) i0 (by omega) l0 l9]
  exact hv
theorem break_x {s : Int} {P : Nat} (s1 : 1 ≤ s) (s10 : s ≤ 10) (hP : ∀ k : Nat, k < 11 → 0 ≤ zget P k ∧ zget P k ≤ 20) {l : Int} (l0 : 0 ≤ l) (l9 : l ≤ 12) : Go (fun (o : Int) => (o = -1 ∧ BPl s P l s) ∨ (0 ≤ o ∧ o < s ∧ BPl s P l o)) (zf_X2_breakPlace s P l) := by
  refine jok (fun (st : zS_X2_breakPlace) => match st with | (lab, a, i) => a = l ∧ (lab = 0 ∨ (lab = 2 ∧ 0 ≤ i ∧ i ≤ s ∧ ∀ j : Nat, (j : Int) < i → ∃ v : Int, zf_X11_alongOf s P (j : Int) l = some v ∧ 0 < v ∧ ¬ zoutL v))) (fun (st : zS_X2_breakPlace) => match st with | (lab, a, i) => if lab = 0 then 100 else (s - i).toNat) _ ?_ _ ?_ ?_
  · intro st h
    obtain ⟨lab, a, i⟩ := st
    obtain ⟨rfl, h⟩ := h
    rcases h with rfl | ⟨rfl, h0, h1, h2⟩
    · show Go _ (zg_X2_breakPlace_0 s P a i)
      unfold zg_X2_breakPlace_0
      refine Go_i ⟨⟨rfl, Or.inr ⟨rfl, Int.le_refl 0, by show (0 : Int) ≤ s; omega, fun j hj => absurd hj (by show ¬ (j : Int) < 0; omega)⟩⟩, ?_⟩
      show (if (2 : Nat) = 0 then 100 else (s - 0).toNat) < (if (0 : Nat) = 0 then 100 else (s - i).toNat)
      rw [if_neg (by decide), if_pos rfl]
      omega
    · show Go _ (zg_X2_breakPlace_2 s P a i)
      unfold zg_X2_breakPlace_2
      refine Go_chk (by unfold zout; omega) ?_
      refine Go_chk (by unfold zout; omega) ?_
      refine Go_ite (fun c => ?_) (fun c => ?_)
      · have : i = s := by omega
        subst this
        exact Go_i (Or.inl ⟨rfl, h0, h1, h2, fun z => absurd z (by omega)⟩)
      · obtain ⟨v, v1, v2, v3⟩ := along_v s1 s10 hP (i := i) (l := a) h0 (by omega) l0 l9
        rw [v2]
        simp only [Option.bind_some]
        refine Go_chk v3 ?_
        refine Go_ite (fun c1 => ?_) (fun c1 => ?_)
        · refine Go_i ⟨⟨rfl, Or.inr ⟨rfl, by show 0 ≤ i + 1; omega, by show i + 1 ≤ s; omega, ?_⟩⟩, ?_⟩
          · intro j hj
            replace hj : (j : Int) < i + 1 := hj
            by_cases e : (j : Int) = i
            · rw [e]; exact ⟨v, v1, c1, v3⟩
            · exact h2 j (by omega)
          · show (if (2 : Nat) = 0 then 100 else (s - (i + 1)).toNat) < (if (2 : Nat) = 0 then 100 else (s - i).toNat)
            rw [if_neg (by decide), if_neg (by decide)]
            omega
        · exact Go_i (Or.inr ⟨h0, by show i < s; omega, h0, h1, h2, fun _ => ⟨v, v1, by omega, v3⟩⟩)
  · exact ⟨rfl, Or.inl rfl⟩
  · show (if (0 : Nat) = 0 then 100 else (s - 0).toNat) < jfuel
    rw [if_pos rfl]
    unfold jfuel
    decide
theorem eq_all {s : Int} {P : Nat} (s1 : 1 ≤ s) (s10 : s ≤ 10) (hP : ∀ k : Nat, k < 11 → 0 ≤ zget P k ∧ zget P k ≤ 20) {l w : Int} (l0 : 0 ≤ l) (l9 : l ≤ 12) : zf_X2_allAre s P l w = zf_X11_isAll s P l w := by
  unfold zf_X2_allAre zf_X11_isAll
  refine jrun_congr (fun (st : zS_X2_allAre) => match st with | (lab, a, b, i) => a = l ∧ b = w ∧ (lab = 0 ∨ (lab = 3 ∧ 0 ≤ i ∧ i ≤ s))) ?_ ?_ jfuel _ ⟨rfl, rfl, Or.inl rfl⟩
  · intro st h
    obtain ⟨lab, a, b, i⟩ := st
    obtain ⟨rfl, rfl, h⟩ := h
    rcases h with rfl | ⟨rfl, h0, h1⟩
    · show zg_X2_allAre_0 s P a b i = zg_X11_isAll_0 s P a b i
      unfold zg_X2_allAre_0 zg_X11_isAll_0
      rfl
    · show zg_X2_allAre_3 s P a b i = zg_X11_isAll_3 s P a b i
      unfold zg_X2_allAre_3 zg_X11_isAll_3
      by_cases c : s ≤ i
      · rw [if_neg (by unfold zout; omega), if_neg (by unfold zout; omega), if_pos c, if_neg (by unfold zout; omega), if_neg (by unfold zout; omega), if_pos c]
      · rw [eq_ent s1 s10 (fun k hk => hP k (by omega)) h0 (by omega) l0 l9]
  · intro st st' h e
    obtain ⟨lab, a, b, i⟩ := st
    obtain ⟨rfl, rfl, h⟩ := h
    rcases h with rfl | ⟨rfl, h0, h1⟩
    · replace e : zg_X2_allAre_0 s P a b i = some (.inr st') := e
      unfold zg_X2_allAre_0 at e
      cases e
      exact ⟨rfl, rfl, Or.inr ⟨rfl, Int.le_refl 0, by show (0 : Int) ≤ s; omega⟩⟩
    · replace e : zg_X2_allAre_3 s P a b i = some (.inr st') := e
      unfold zg_X2_allAre_3 at e
      by_cases c : s ≤ i
      · rw [if_neg (by unfold zout; omega), if_neg (by unfold zout; omega), if_pos c] at e
        cases e
      · obtain ⟨v, v1, v2, v3⟩ := along_v s1 s10 hP (i := i) (l := a) h0 (by omega) l0 l9
        rw [if_neg (by unfold zout; omega), if_neg (by unfold zout; omega), if_neg c, v2] at e
        simp only [Option.bind_some] at e
        rw [if_neg v3] at e
        by_cases zb : zoutL b
        · rw [if_pos zb] at e; cases e
        · rw [if_neg zb] at e
          by_cases q : v = b
          · rw [if_pos q] at e
            cases e
            exact ⟨rfl, rfl, Or.inr ⟨rfl, by show 0 ≤ i + 1; omega, by show i + 1 ≤ s; omega⟩⟩
          · rw [if_neg q] at e
            cases e
theorem BPl_u {s : Int} {P : Nat} {l r q : Int} (hr : BPl s P l r) (hq : BPl s P l q) : r = q := by
  obtain ⟨r0, r1, r2, r3⟩ := hr
  obtain ⟨q0, q1, q2, q3⟩ := hq
  by_cases c : r < q
  · obtain ⟨v, v1, v2, -⟩ := r3 (by omega)
    obtain ⟨w, w1, w2, -⟩ := q2 r.toNat (by omega)
    rw [show ((r.toNat : Nat) : Int) = r by omega, v1] at w1
    cases w1
    omega
  · by_cases d : q < r
    · obtain ⟨v, v1, v2, -⟩ := q3 (by omega)
      obtain ⟨w, w1, w2, -⟩ := r2 q.toNat (by omega)
      rw [show ((q.toNat : Nat) : Int) = q by omega, v1] at w1
      cases w1
      omega
    · omega
theorem y21 {s : Int} {P : Nat} (s1 : 1 ≤ s) (s10 : s ≤ 10) {w l r : Int} (hr : BPl s P l r) {o : zO_X11_breaks} : ∀ (d : Nat) (i : Int), i + (d : Int) = r → 0 ≤ i → JE (zg_X11_breaks s P) (21, w, l, i) o → JE (zg_X11_breaks s P) (21, w, l, r) o := by
  obtain ⟨r0, r1, r2, r3⟩ := hr
  intro d
  induction d with
  | zero => intro i hi h0 h; have : i = r := (by omega); subst this; exact h
  | succ d ih =>
    intro i hi h0 h
    obtain ⟨v, v1, v2, v3⟩ := r2 i.toNat (by omega)
    rw [show ((i.toNat : Nat) : Int) = i by omega] at v1
    refine ih (i + 1) (by omega) (by omega) (JE_dn (by
      show zg_X11_breaks_21 s P w l i = _
      unfold zg_X11_breaks_21
      rw [if_neg (by unfold zout; omega), if_neg (by unfold zout; omega), if_neg (by omega), v1]
      simp only [Option.bind_some]
      rw [if_neg v3, if_neg (by omega)]) h)
theorem break_run {s : Int} {P : Nat} (s1 : 1 ≤ s) (s10 : s ≤ 10) (hP : ∀ k : Nat, k < 11 → 0 ≤ zget P k ∧ zget P k ≤ 20) {w : Int} {b : Int} {o2 : zO_X11_breaks} : ∀ (d : Nat) (l i3 : Int), l + (d : Int) = 13 → 2 ≤ l → JE (zg_X2_breakLength s P) (2, l) b → JE (zg_X11_breaks s P) (13, w, l, i3) o2 → (b = -1 ∧ o2 = -1) ∨ (2 ≤ b ∧ b ≤ 12 ∧ ∃ r : Int, 0 ≤ r ∧ r < s ∧ BPl s P b r ∧ JE (zg_X11_breaks s P) (21, w, b, r) o2) := by
  intro d
  induction d with
  | zero =>
    intro l i3 hl h2 hx hy
    have hl : l = 13 := by omega
    subst hl
    have e1 := JE_end (o' := -1) rfl hx
    have e2 := JE_end (o' := -1) rfl hy
    exact Or.inl ⟨e1, e2⟩
  | succ d ih =>
    intro l i3 hl h2 hx hy
    have hy1 := JE_dn (s' := (21, w, l, 0)) (by
      show zg_X11_breaks_13 s P w l i3 = _
      unfold zg_X11_breaks_13
      rw [if_neg (by unfold zout; omega), if_neg (by omega)]) hy
    obtain ⟨r, hr, hq⟩ := break_x s1 s10 hP (l := l) (by omega) (by omega)
    rcases hq with ⟨rfl, hq⟩ | ⟨r0, r1, hq⟩
    · have hx1 := JE_dn (s' := (2, l + 1)) (by
        show zg_X2_breakLength_2 s P l = _
        unfold zg_X2_breakLength_2
        rw [if_neg (by unfold zout; omega), if_neg (by omega), hr]
        rfl) hx
      have hy2 := y21 s1 s10 hq s.toNat 0 (by omega) (Int.le_refl 0) hy1
      have hy3 := JE_dn (s' := (13, w, l + 1, s)) (by
        show zg_X11_breaks_21 s P w l s = _
        unfold zg_X11_breaks_21
        rw [if_neg (by unfold zout; omega), if_neg (by unfold zout; omega), if_pos (Int.le_refl _)]) hy2
      exact ih (l + 1) s (by omega) (by omega) hx1 hy3
    · have e1 := JE_end (o' := l) (by
        show zg_X2_breakLength_2 s P l = _
        unfold zg_X2_breakLength_2
        rw [if_neg (by unfold zout; omega), if_neg (by omega), hr]
        simp only [Option.bind_some]
        rw [if_neg (by unfold zout; omega), if_neg (by omega)]) hx
      subst e1
      exact Or.inr ⟨h2, by omega, r, r0, r1, hq, y21 s1 s10 hq r.toNat 0 (by omega) (Int.le_refl 0) hy1⟩
theorem eq_breaks (mk : Nat) {s w : Int} {P : Nat} (s1 : 1 ≤ s) (s10 : s ≤ 10) (hP : ∀ k : Nat, k < 11 → 0 ≤ zget P k ∧ zget P k ≤ 20) (hw : ¬ zout w) {o o2 : Int} (ho : zf_X10_breaks mk s P w = some o) (ho2 : zf_X11_breaks s P w = some o2) : o = o2 := by
  have hy := JE_of ho2
  unfold zf_X10_breaks at ho
  cases hb : zf_X2_breakLength s P with
  | none => rw [hb] at ho; cases ho
  | some b =>
    rw [hb] at ho
    simp only [Option.bind_some] at ho
    have hx := JE_dn (s' := (2, 2)) rfl (JE_of hb)
    by_cases c : 0 ≤ w ∧ w ≤ 2
    · have hy1 := JE_dn (s' := (13, w, 2, 0)) (by
        show zg_X11_breaks_0 s P w 0 0 = _
        unfold zg_X11_breaks_0
        rw [in_e hw (by decide) (by decide), decide_eq_true c]
        rfl) hy
      rcases break_run s1 s10 hP 11 2 0 (by decide) (by decide) hx hy1 with ⟨rfl, rfl⟩ | ⟨b2, b12, r, r0, r1, hr, hy2⟩
      · rw [if_neg (by decide), if_pos rfl] at ho
        cases ho
        rfl
      · rw [if_neg (by unfold zout; omega), if_neg (by omega), if_neg hw] at ho
        obtain ⟨v, v1, v2, v3⟩ := hr.2.2.2 r1
        have ey : zg_X11_breaks s P (21, w, b, r) = (if w = 0 then some (.inl b) else if w = 1 then some (.inl r) else Option.bind (zf_X11_isAll s P b (0 : Int)) (fun o10 => if o10 = false then some (.inl ((0 : Int))) else if zout b then none else if b = (12 : Int) then some (.inl ((1 : Int))) else Option.bind (zf_X11_isAll s P (b + (1 : Int)) (-1 : Int)) (fun o12 => if o12 = false then some (.inl ((0 : Int))) else some (.inl ((1 : Int)))))) := by
          show zg_X11_breaks_21 s P w b r = _
          unfold zg_X11_breaks_21
          rw [if_neg (by unfold zout; omega), if_neg (by unfold zout; omega), if_neg (by omega), v1]
          simp only [Option.bind_some]
          rw [if_neg v3, if_pos v2, if_neg hw]
        by_cases w0 : w = 0
        · rw [if_pos w0] at ho ey
          have e := JE_end ey hy2
          cases ho
          exact e.symm
        · rw [if_neg w0] at ho ey
          by_cases w1 : w = 1
          · rw [if_pos w1] at ho ey
            have e := JE_end ey hy2
            obtain ⟨r', hr', hq⟩ := break_x s1 s10 hP (l := b) (by omega) b12
            rw [hr'] at ho
            cases ho
            rcases hq with ⟨_, hq⟩ | ⟨_, _, hq⟩
            · exact absurd (BPl_u hq hr) (by omega)
            · rw [e]; exact BPl_u hq hr
          · rw [if_neg w1] at ho ey
            rw [if_pos (by omega)] at ho
            unfold zf_X2_comesBack at ho
            rw [eq_all s1 s10 hP (by omega) b12] at ho
            cases h1 : zf_X11_isAll s P b 0 with
            | none => rw [h1] at ho; cases ho
            | some b1 =>
              rw [h1] at ho ey
              simp only [Option.bind_some] at ho ey
              cases b1 with
              | false =>
                rw [if_pos rfl] at ho ey
                have e := JE_end ey hy2
                cases ho
                exact e.symm
              | true =>
                rw [if_neg (by decide), if_neg (by unfold zout; omega)] at ho ey
                by_cases c12 : b = 12
                · rw [if_pos c12] at ho ey
                  have e := JE_end ey hy2
                  cases ho
                  exact e.symm
                · rw [if_neg c12] at ho ey
                  rw [eq_all s1 s10 hP (by omega) (by omega)] at ho
                  cases h2 : zf_X11_isAll s P (b + 1) (-1) with
                  | none => rw [h2] at ho; cases ho
                  | some b2 =>
                    rw [h2] at ho ey
                    simp only [Option.bind_some] at ho ey
                    cases b2 with
                    | false =>
                      rw [if_pos rfl] at ho ey
                      have e := JE_end ey hy2
                      cases ho
                      exact e.symm
                    | true =>
                      rw [if_neg (by decide)] at ho ey
                      have e := JE_end ey hy2
                      cases ho
                      exact e.symm
    · have e := JE_end (o' := -1) (by
        show zg_X11_breaks_0 s P w 0 0 = _
        unfold zg_X11_breaks_0
        rw [in_e hw (by decide) (by decide), decide_eq_false c]
        rfl) hy
      subst e
      by_cases q1 : zout b
      · rw [if_pos q1] at ho; cases ho
      · rw [if_neg q1] at ho
        by_cases q2 : b = -1
        · rw [if_pos q2] at ho; cases ho; rfl
        · rw [if_neg q2, if_neg hw, if_neg (by omega), if_neg (by omega), if_neg (by omega)] at ho
          cases ho
          rfl
end

section
/-! period and ofCut -/
noncomputable def cpN (P : Nat) (f : Nat → Int) (k : Nat) : Nat := Nat.rec P (fun i ih => zset ih i (f i)) k
theorem cpN_s (P : Nat) (f : Nat → Int) (k : Nat) : cpN P f (k + 1) = zset (cpN P f k) k (f k) := rfl
theorem cpN_c {P : Nat} {f g : Nat → Int} : ∀ k : Nat, (∀ j : Nat, j < k → f j = g j) → cpN P f k = cpN P g k := by
  intro k
  induction k with
  | zero => intro _; rfl
  | succ k ih => intro h; rw [cpN_s, cpN_s, ih (fun j hj => h j (by omega)), h k (by omega)]
theorem become_e {s : Int} {P q : Nat} {n : Nat} (n10 : n ≤ 10) {o : zO_X2_become} (ho : zf_X2_become s P q (n : Int) = some o) : o = ((n : Int), (n : Int), cpN P (fun i => zget q i) n) := by
  have run : ∀ d k : Nat, k + d = n → ∀ i2 : Int, JE (zg_X2_become q) (12, i2, (k : Int), (n : Int), cpN P (fun i => zget q i) k) ((n : Int), (n : Int), cpN P (fun i => zget q i) n) := by
    intro d
    induction d with
    | zero =>
      intro k hk i2
      have hk : k = n := by omega
      subst hk
      refine JE_in ?_
      show zg_X2_become_12 q i2 (k : Int) (k : Int) (cpN P (fun i => zget q i) k) = _
      unfold zg_X2_become_12
      rw [if_neg (by unfold zout; omega), if_neg (by unfold zout; omega), if_pos (Int.le_refl _)]
    | succ d ih =>
      intro k hk i2
      have ih := ih (k + 1) (by omega) 0
      rw [show (((k + 1 : Nat) : Nat) : Int) = (k : Int) + 1 by omega, cpN_s] at ih
      refine JE_up ?_ ih
      show zg_X2_become_12 q i2 (k : Int) (n : Int) (cpN P (fun i => zget q i) k) = _
      unfold zg_X2_become_12
      rw [if_neg (by unfold zout; omega), if_neg (by unfold zout; omega), if_neg (by omega), if_neg (by omega), if_neg (by omega), Int.toNat_natCast]
  have h : JE (zg_X2_become q) (0, (n : Int), 0, s, P) ((n : Int), (n : Int), cpN P (fun i => zget q i) n) := by
    refine JE_up (s' := (12, (n : Int), 0, (n : Int), P)) ?_ (run n 0 (by omega) (n : Int))
    show zg_X2_become_0 q (n : Int) 0 s P = _
    unfold zg_X2_become_0 zmin
    rw [if_neg (by unfold zout; omega)]
    by_cases c : (10 : Int) < (n : Int)
    · omega
    · rw [if_neg c]
  exact JE_det (JE_of ho) h
/-- a row's numbers are taken -/
def accP (q : Nat) (n : Nat) : Prop := ∀ j : Nat, j < n → 1 ≤ zget q j ∧ zget q j ≤ 20
theorem acc_x {q n : Nat} (n1 : 1 ≤ n) (n10 : n ≤ 10) {b : Bool} (hb : zf_X2_accepts q (n : Int) = some b) : b = true ↔ accP q n := by
  have run : ∀ d k : Nat, k + d = n → (∀ j : Nat, j < k → 1 ≤ zget q j ∧ zget q j ≤ 20) → JE (zg_X2_accepts q) (21, (n : Int), (k : Int)) b → (b = true ↔ accP q n) := by
    intro d
    induction d with
    | zero =>
      intro k hk hp h
      have hk : k = n := by omega
      subst hk
      have e := JE_end (o' := true) (by
        show zg_X2_accepts_21 q (k : Int) (k : Int) = _
        unfold zg_X2_accepts_21
        rw [if_neg (by unfold zout; omega), if_neg (by unfold zout; omega), if_pos (Int.le_refl _)]) h
      subst e
      exact ⟨fun _ => hp, fun _ => rfl⟩
    | succ d ih =>
      intro k hk hp h
      by_cases c1 : zget q k < 1
      · have e := JE_end (o' := false) (by
          show zg_X2_accepts_21 q (n : Int) (k : Int) = _
          unfold zg_X2_accepts_21
          rw [if_neg (by unfold zout; omega), if_neg (by unfold zout; omega), if_neg (by omega), if_neg (by omega), Int.toNat_natCast, if_pos c1]) h
        subst e
        exact ⟨(fun z => by cases z), fun z => absurd (z k (by omega)) (by omega)⟩
      · by_cases c2 : zget q k ≤ 20
        · have h := JE_dn (s' := (21, (n : Int), (k : Int) + 1)) (by
            show zg_X2_accepts_21 q (n : Int) (k : Int) = _
            unfold zg_X2_accepts_21
            rw [if_neg (by unfold zout; omega), if_neg (by unfold zout; omega), if_neg (by omega), if_neg (by omega), Int.toNat_natCast, if_neg c1, if_pos c2]) h
          refine ih (k + 1) (by omega) ?_ (by rw [show (((k + 1 : Nat) : Nat) : Int) = (k : Int) + 1 by omega]; exact h)
          intro j hj
          by_cases e : j = k
          · rw [e]; omega
          · exact hp j (by omega)
        · have e := JE_end (o' := false) (by
            show zg_X2_accepts_21 q (n : Int) (k : Int) = _
            unfold zg_X2_accepts_21
            rw [if_neg (by unfold zout; omega), if_neg (by unfold zout; omega), if_neg (by omega), if_neg (by omega), Int.toNat_natCast, if_neg c1, if_neg c2]) h
          subst e
          exact ⟨(fun z => by cases z), fun z => absurd (z k (by omega)) (by omega)⟩
  refine run n 0 (by omega) (fun j hj => absurd hj (by omega)) (JE_dn (by
    show zg_X2_accepts_0 q (n : Int) 0 = _
    unfold zg_X2_accepts_0
    rw [if_neg (by unfold zout; omega), if_neg (by omega), if_neg (by omega), if_pos (by omega)]
    rfl) (JE_of hb))
theorem acc_n {q : Nat} {n : Int} (hz : ¬ zout n) (h : ¬ (1 ≤ n ∧ n ≤ 10)) {b : Bool} (hb : zf_X2_accepts q n = some b) : b = false := by
  have e : JE (zg_X2_accepts q) (0, n, 0) false := by
    refine JE_in ?_
    show zg_X2_accepts_0 q n 0 = _
    unfold zg_X2_accepts_0
    rw [if_neg hz]
    by_cases c : n < 1
    · rw [if_pos c]
    · rw [if_neg c, if_pos (by omega)]
  exact JE_det (JE_of hb) e
theorem per_y {B t : Nat} {n : Nat} (n1 : 1 ≤ n) (n10 : n ≤ 10) {ta sz so at_ en nu wo rm pm : Int} {P : Nat} {o : zO_X11_period} (h : JE (zg_X11_period B) (20, (n : Int), 0, ta, sz, so, at_, en, nu, wo, rm, pm, t, P) o) : (accP t n ∧ o = ((n : Int), ta, sz, so, at_, en, nu, wo, rm, (n : Int), t, cpN P (fun i => zget t i) n)) ∨ (¬ accP t n ∧ o = (-2, ta, sz, so, at_, en, nu, wo, rm, pm, t, P)) := by
  have copy : ∀ d k : Nat, k + d = n → JE (zg_X11_period B) (56, (n : Int), (k : Int), ta, sz, so, at_, en, nu, wo, rm, (n : Int), t, cpN P (fun i => zget t i) k) o → o = ((n : Int), ta, sz, so, at_, en, nu, wo, rm, (n : Int), t, cpN P (fun i => zget t i) n) := by
    intro d
    induction d with
    | zero =>
      intro k hk h
      have hk : k = n := by omega
      subst hk
      exact JE_end (by
        show zg_X11_period_56 B (k : Int) (k : Int) ta sz so at_ en nu wo rm (k : Int) t (cpN P (fun i => zget t i) k) = _
        unfold zg_X11_period_56
        rw [if_neg (by unfold zout; omega), if_neg (by unfold zout; omega), if_pos (Int.le_refl _)]) h
    | succ d ih =>
      intro k hk h
      have h := JE_dn (s' := (56, (n : Int), (k : Int) + 1, ta, sz, so, at_, en, nu, wo, rm, (n : Int), t, cpN P (fun i => zget t i) (k + 1))) (by
        show zg_X11_period_56 B (n : Int) (k : Int) ta sz so at_ en nu wo rm (n : Int) t (cpN P (fun i => zget t i) k) = _
        unfold zg_X11_period_56
        rw [if_neg (by unfold zout; omega), if_neg (by unfold zout; omega), if_neg (by omega), if_neg (by omega), if_neg (by omega), Int.toNat_natCast]
        rfl) h
      exact ih (k + 1) (by omega) (by rw [show (((k + 1 : Nat) : Nat) : Int) = (k : Int) + 1 by omega]; exact h)
  have run : ∀ d k : Nat, k + d = n → (∀ j : Nat, j < k → 1 ≤ zget t j ∧ zget t j ≤ 20) → JE (zg_X11_period B) (20, (n : Int), (k : Int), ta, sz, so, at_, en, nu, wo, rm, pm, t, P) o → (accP t n ∧ o = ((n : Int), ta, sz, so, at_, en, nu, wo, rm, (n : Int), t, cpN P (fun i => zget t i) n)) ∨ (¬ accP t n ∧ o = (-2, ta, sz, so, at_, en, nu, wo, rm, pm, t, P)) := by
    intro d
    induction d with
    | zero =>
      intro k hk hp h
      have hk : k = n := by omega
      subst hk
      have h := JE_dn (s' := (56, (k : Int), 0, ta, sz, so, at_, en, nu, wo, rm, (k : Int), t, P)) (by
        show zg_X11_period_20 B (k : Int) (k : Int) ta sz so at_ en nu wo rm pm t P = _
        unfold zg_X11_period_20
        rw [if_neg (by unfold zout; omega), if_neg (by unfold zout; omega), if_pos (Int.le_refl _)]) h
      exact Or.inl ⟨hp, copy k 0 (by omega) h⟩
    | succ d ih =>
      intro k hk hp h
      have ein := in_e (v := zget t k) (a := 1) (b := 20) (zget_in _ _) (by decide) (by decide)
      by_cases c : 1 ≤ zget t k ∧ zget t k ≤ 20
      · have h := JE_dn (s' := (20, (n : Int), (k : Int) + 1, ta, sz, so, at_, en, nu, wo, rm, pm, t, P)) (by
          show zg_X11_period_20 B (n : Int) (k : Int) ta sz so at_ en nu wo rm pm t P = _
          unfold zg_X11_period_20
          rw [if_neg (by unfold zout; omega), if_neg (by unfold zout; omega), if_neg (by omega), if_neg (by omega), Int.toNat_natCast, ein, decide_eq_true c]
          rfl) h
        refine ih (k + 1) (by omega) ?_ (by rw [show (((k + 1 : Nat) : Nat) : Int) = (k : Int) + 1 by omega]; exact h)
        intro j hj
        by_cases e : j = k
        · rw [e]; exact c
        · exact hp j (by omega)
      · have e := JE_end (o' := (-2, ta, sz, so, at_, en, nu, wo, rm, pm, t, P)) (by
          show zg_X11_period_20 B (n : Int) (k : Int) ta sz so at_ en nu wo rm pm t P = _
          unfold zg_X11_period_20
          rw [if_neg (by unfold zout; omega), if_neg (by unfold zout; omega), if_neg (by omega), if_neg (by omega), Int.toNat_natCast, ein, decide_eq_false c]
          rfl) h
        exact Or.inr ⟨fun z => c (z k (by omega)), e⟩
  exact run n 0 (by omega) (fun j hj => absurd hj (by omega)) h
theorem sh_0 {len : Int} (l0 : 0 ≤ len) (l3 : len ≤ 300) : zf_X8_shorten len 0 = some 0 := by
  unfold zf_X8_shorten
  rw [if_neg (by decide), if_neg (by decide), if_neg (by unfold zout; omega), if_neg (by omega)]
set_option maxHeartbeats 1000000 in
theorem eq_period (mk : Nat) {len nx kd pl va : Int} {B : Nat} {s : Int} {P q : Nat} {sz so at_ en nu wo rm : Int} {t : Nat} (l0 : 0 ≤ len) (l3 : len ≤ 300) (hB : BR B) {o : Int × Int × Int × Int × Int × Int × Int × Nat × Nat} {o2 : zO_X11_period} (ho : zf_X10_period mk len nx kd pl va B s P q = some o) (ho2 : zf_X11_period len sz so at_ en nu wo rm s B t P = some o2) : o.1 = o2.1 ∧ o.2.1 = o2.2.1 ∧ o.2.2.2.2.2.2.1 = o2.2.2.2.2.2.2.2.2.2.1 ∧ o.2.2.2.2.2.2.2.1 = o2.2.2.2.2.2.2.2.2.2.2.2 := by
  unfold zf_X10_period at ho
  cases h1 : zf_X8_readNumbers len nx kd pl va B q with
  | none => rw [h1] at ho; cases ho
  | some r =>
    rw [h1] at ho
    simp only [Option.bind_some] at ho
    rw [sh_0 l0 l3] at ho
    simp only [Option.bind_some] at ho
    have hy := JE_of ho2
    have ey : zg_X11_period B (0, 0, 0, len, sz, so, at_, en, nu, wo, rm, s, t, P) = zg_X11_period_0 B 0 0 len sz so at_ en nu wo rm s t P := rfl
    unfold zg_X11_period_0 at ey
    cases h2 : zf_X11_readRow len sz so at_ en nu wo rm B t with
    | none =>
      rw [h2] at ey
      exact (JE_none ey hy).elim
    | some r2 =>
      obtain ⟨e1, e2, e3, e4, e5⟩ := row_eq l0 l3 hB h1 h2
      rw [h2] at ey
      simp only [Option.bind_some] at ey
      rw [in_e (by unfold zout; omega) (by decide) (by decide)] at ey
      simp only [Option.bind_some] at ey
      by_cases c : 1 ≤ r2.1 ∧ r2.1 ≤ 10
      · rw [decide_eq_true c, if_neg (by decide)] at ey
        obtain ⟨n, hn⟩ : ∃ n : Nat, r2.1 = (n : Int) := ⟨r2.1.toNat, by omega⟩
        have hr : r.1 = (n : Int) := e1.trans hn
        rw [hr] at ho e5
        rw [hn] at ey
        have hy1 := JE_dn ey hy
        have acc : accP r.2.2.2.2.2 n ↔ accP r2.2.2.2.2.2.2.2.2.2 n := by
          constructor
          · intro h j hj; rw [← (e5 j (by omega)).1]; exact h j hj
          · intro h j hj; rw [(e5 j (by omega)).1]; exact h j hj
        cases hb : zf_X2_accepts r.2.2.2.2.2 (n : Int) with
        | none => rw [hb] at ho; cases ho
        | some b =>
          have hab := acc_x (by omega) (by omega) hb
          rw [hb] at ho
          simp only [Option.bind_some] at ho
          rcases per_y (by omega) (by omega) hy1 with ⟨p1, p2⟩ | ⟨p1, p2⟩
          · have : b = true := hab.mpr (acc.mpr p1)
            subst this
            rw [if_neg (by decide)] at ho
            cases hw : zf_X2_become s P r.2.2.2.2.2 (n : Int) with
            | none => rw [hw] at ho; cases ho
            | some w =>
              have ew := become_e (by omega) hw
              subst ew
              rw [hw] at ho
              cases ho
              subst p2
              refine ⟨rfl, e4.symm, rfl, ?_⟩
              exact cpN_c n (fun j hj => (e5 j (by omega)).1)
          · have : b = false := by
              cases b with
              | false => rfl
              | true => exact absurd (acc.mp (hab.mp rfl)) p1
            subst this
            rw [if_pos rfl] at ho
            cases ho
            subst p2
            exact ⟨rfl, e4.symm, rfl, rfl⟩
      · rw [decide_eq_false c, if_pos rfl] at ey
        have e := JE_end ey hy
        cases hb : zf_X2_accepts r.2.2.2.2.2 r.1 with
        | none => rw [hb] at ho; cases ho
        | some b =>
          have eb := acc_n (by unfold zout; omega) (by rw [e1]; exact c) hb
          subst eb
          rw [hb] at ho
          simp only [Option.bind_some] at ho
          rw [if_pos trivial] at ho
          cases ho
          subst e
          exact ⟨rfl, e4.symm, rfl, rfl⟩
/-- ofCut -/
theorem ofc_x {mk m : Nat} (p0 : ¬ zno mk m) {b : Int} (hb : isCut m b) {s : Int} {P : Nat} {o : zO_X10_ofCut} : ∀ (d k : Nat) (q : Nat), k + d = m → (∀ j : Nat, j < k → zget q j = rowN m b j m) → JE (zg_X10_ofCut mk m b) (2, (k : Int), s, P, q) o → o.1 = (m : Int) ∧ o.2.1 = (m : Int) ∧ o.2.2.1 = cpN P (fun i => rowN m b i m) m := by
  obtain ⟨h4, h9⟩ := zno_rng p0
  intro d
  induction d with
  | zero =>
    intro k q hk hq h
    have hk : k = m := by omega
    subst hk
    have ey : zg_X10_ofCut mk k b (2, (k : Int), s, P, q) = Option.bind (zf_X2_become s P q (k : Int)) (fun o6 => some (.inl ((o6.1), (o6.2.1), (o6.2.2), q))) := by
      show zg_X10_ofCut_2 mk k b (k : Int) s P q = _
      unfold zg_X10_ofCut_2 zf_X5_corners
      rw [if_neg p0]
      simp only [Option.bind_some]
      rw [if_neg (by unfold zout; omega), if_neg (by unfold zout; omega), if_pos (Int.le_refl _)]
    cases hw : zf_X2_become s P q (k : Int) with
    | none => rw [hw] at ey; exact (JE_none ey h).elim
    | some w =>
      have ew := become_e (by omega) hw
      subst ew
      rw [hw] at ey
      have e := JE_end ey h
      subst e
      refine ⟨rfl, rfl, ?_⟩
      exact cpN_c k hq
  | succ d ih =>
    intro k q hk hq h
    have ht := e_tri h4 h9 hb (i := (k : Int)) (by omega) (by omega)
    rw [Int.toNat_natCast] at ht
    obtain ⟨v, hv, v0, v64, -⟩ := ok_X5_trianglesAt m b (k : Int) h4 h9 (by omega) (by omega)
    rw [ht] at hv
    cases hv
    have h := JE_dn (s' := (2, (k : Int) + 1, s, P, zset q k (rowN m b k m))) (by
      show zg_X10_ofCut_2 mk m b (k : Int) s P q = _
      unfold zg_X10_ofCut_2 zf_X5_corners
      rw [if_neg p0]
      simp only [Option.bind_some]
      rw [if_neg (by unfold zout; omega), if_neg (by unfold zout; omega), if_neg (by omega), ht]
      simp only [Option.bind_some]
      rw [if_neg (by omega), Int.toNat_natCast]) h
    refine ih (k + 1) (zset q k (rowN m b k m)) (by omega) ?_ (by rw [show (((k + 1 : Nat) : Nat) : Int) = (k : Int) + 1 by omega]; exact h)
    intro j hj
    rw [zget_set]
    by_cases e : j = k
    · rw [if_pos e, zw_id (by unfold zout; omega), e]
    · rw [if_neg e]; exact hq j (by omega)
theorem ofc_y {m : Nat} (h4 : 4 ≤ m) (h9 : m ≤ 9) {b : Int} {P : Nat} {ln lf pm : Int} {nf ls gr : Nat} (hN : LN m nf m 0) {o : zO_X11_ofCut} : ∀ (d k : Nat), k + d = m → JE (zg_X11_ofCut (m : Int) b) (18, (k : Int), ln, lf, pm, nf, ls, gr, cpN P (fun i => rowN m b i m) k) o → o = ((m : Int), ln, lf, pm, nf, ls, gr, cpN P (fun i => rowN m b i m) m) := by
  intro d
  induction d with
  | zero =>
    intro k hk h
    have hk : k = m := by omega
    subst hk
    exact JE_end (by
      show zg_X11_ofCut_18 (k : Int) b (k : Int) ln lf pm nf ls gr (cpN P (fun i => rowN k b i k) k) = _
      unfold zg_X11_ofCut_18
      rw [if_neg (by unfold zout; omega), if_neg (by unfold zout; omega), if_pos (Int.le_refl _)]) h
  | succ d ih =>
    intro k hk h
    have ht := e_rowAt h4 h9 hN b (i := (k : Int)) (by omega) (by omega)
    rw [Int.toNat_natCast] at ht
    have h := JE_dn (s' := (18, (k : Int) + 1, ln, lf, pm, nf, ls, gr, cpN P (fun i => rowN m b i m) (k + 1))) (by
      show zg_X11_ofCut_18 (m : Int) b (k : Int) ln lf pm nf ls gr (cpN P (fun i => rowN m b i m) k) = _
      unfold zg_X11_ofCut_18
      rw [if_neg (by unfold zout; omega), if_neg (by unfold zout; omega), if_neg (by omega), ht]
      simp only [Option.bind_some]
      rw [if_neg (by omega), Int.toNat_natCast]
      rfl) h
    exact ih (k + 1) (by omega) (by rw [show (((k + 1 : Nat) : Nat) : Int) = (k : Int) + 1 by omega]; exact h)
theorem eq_ofCut {mk m : Nat} (p0 : ¬ zno mk m) {b : Int} (hb : isCut m b) {s : Int} {P q : Nat} {ln lf : Int} {nf ls gr : Nat} (hT : TL lf ln nf ls gr) {o : zO_X10_ofCut} {o2 : zO_X11_ofCut} (ho : zf_X10_ofCut mk m b s P q = some o) (ho2 : zf_X11_ofCut (m : Int) ln lf b s nf ls gr P = some o2) : o.1 = o2.1 ∧ o.2.1 = o2.2.2.2.1 ∧ o.2.2.1 = o2.2.2.2.2.2.2.2 := by
  obtain ⟨h4, h9⟩ := zno_rng p0
  obtain ⟨x1, x2, x3⟩ := ofc_x p0 hb m 0 q (by omega) (fun j hj => absurd hj (by omega)) (JE_dn (s' := (2, 0, s, P, q)) rfl (JE_of ho))
  obtain ⟨w, hw, w0, w1, -⟩ := oy_linesOf ln lf nf ls gr (m : Int) hT (by omega) (by omega)
  have hN : LN m w.2.2.1 m 0 := by have := w1.2.2.2.1; rw [Int.toNat_natCast] at this; exact this
  have hy := JE_dn (s' := (18, 0, w.1, w.2.1, (m : Int), w.2.2.1, w.2.2.2.1, w.2.2.2.2, P)) (by
    show zg_X11_ofCut_0 (m : Int) b 0 ln lf s nf ls gr P = _
    unfold zg_X11_ofCut_0
    rw [hw]
    rfl) (JE_of ho2)
  have e := ofc_y h4 h9 hN m 0 (by omega) hy
  subst e
  exact ⟨x1, x2, x3⟩
end

section
/-! read, mend, row, told, entry, flip -/
theorem isC_e {m : Nat} (h9 : m ≤ 9) {i : Int} (hi : ¬ zout i) : zf_X11_isCorner (m : Int) i = some (decide (0 ≤ i ∧ i < (m : Int))) := by
  unfold zf_X11_isCorner
  rw [in_e hi (by decide) (by unfold zout; omega)]
  simp only [Option.bind_some]
  by_cases c : 0 ≤ i ∧ i < (m : Int)
  · rw [decide_eq_true c, decide_eq_true (by omega)]
  · rw [decide_eq_false c, decide_eq_false (by omega)]
theorem hasC_e {m : Nat} (h4 : 4 ≤ m) (h9 : m ≤ 9) {i : Int} (hi : ¬ zout i) : zf_X5_hasCorner m i = some (decide (0 ≤ i ∧ i < (m : Int))) := ok_hasC m i h4 h9 (by unfold zout at hi; omega) (by unfold zout at hi; omega)
theorem LNof {m : Nat} {ln : Int} {nf ls gr : Nat} (h : TL (m : Int) ln nf ls gr) : LN m nf m 0 := by
  have := h.2.2.2.1
  rw [Int.toNat_natCast] at this
  exact this
theorem LIof {m : Nat} {lm : Int} {li : Nat} (h : LK (m : Int) lm li) : LI m lm li := by
  have := h.2.2
  rw [Int.toNat_natCast] at this
  exact this
/-- row -/
theorem eq_row {mk m : Nat} (p0 : ¬ zno mk m) {b : Int} (hb : isCut m b) {i : Int} (hi : ¬ zout i) {ln lf : Int} {nf ls gr : Nat} (hT : TL lf ln nf ls gr) {o : Int} {o2 : Int × Int × Int × Nat × Nat × Nat} (ho : zf_X10_row mk m b i = some o) (ho2 : zf_X11_row (m : Int) ln lf b nf ls gr i = some o2) : o = o2.1 := by
  obtain ⟨h4, h9⟩ := zno_rng p0
  unfold zf_X10_row at ho
  unfold zf_X11_row at ho2
  rw [if_neg p0, hasC_e h4 h9 hi] at ho
  rw [isC_e h9 hi] at ho2
  simp only [Option.bind_some] at ho ho2
  by_cases c : 0 ≤ i ∧ i < (m : Int)
  · rw [decide_eq_true c, if_neg (by decide)] at ho ho2
    obtain ⟨w, hw, w0, w1, -⟩ := oy_linesOf ln lf nf ls gr (m : Int) hT (by omega) (by omega)
    rw [e_tri h4 h9 hb c.1 c.2] at ho
    rw [hw] at ho2
    simp only [Option.bind_some] at ho ho2
    rw [e_rowAt h4 h9 (LNof w1) b c.1 c.2] at ho2
    cases ho
    cases ho2
    rfl
  · rw [decide_eq_false c, if_pos rfl] at ho ho2
    cases ho
    cases ho2
    rfl
/-- the number of a cut, both sides -/
noncomputable def numK (m k : Nat) : Bool := match decide ((k : Int) < pg8 m) with
  | true => decide (zf_X5_numberOf m (zget (pg6 m) k) = some (k : Int))
  | false => true
theorem num_tab : ∀ m : Nat, 4 ≤ m → m ≤ 9 → allF (fun k => numK m k) 0 429 = true := pg_cases (by decide +kernel) (by decide +kernel) (by decide +kernel) (by decide +kernel) (by decide +kernel) (by decide +kernel)
theorem num_e {m k : Nat} (h4 : 4 ≤ m) (h9 : m ≤ 9) (hk : (k : Int) < pg8 m) : zf_X5_numberOf m (zget (pg6 m) k) = some (k : Int) := by
  have r8 := rpg8 h4 h9
  have t := allF_at (num_tab m h4 h9) (m := k) (by omega)
  replace t : numK m k = true := t
  unfold numK at t
  rw [decide_eq_true hk] at t
  exact of_decide_eq_true t
theorem own_e {m : Nat} (h4 : 4 ≤ m) (h9 : m ≤ 9) {b : Int} (hb : isCut m b) {ln lf lm lc : Int} {nf ls gr li : Nat} (hT : TL lf ln nf ls gr) (hK : LK lc lm li) {o2 : Int × Int × Int × Int × Int × Nat × Nat × Nat × Nat} (ho2 : zf_X11_ownNumber (m : Int) ln lf lm lc b nf ls gr li = some o2) : zf_X5_numberOf m b = some o2.1 := by
  obtain ⟨k, hk, rfl⟩ := hb
  unfold zf_X11_ownNumber at ho2
  obtain ⟨w, hw, w0, w1, w2, w3, w4, w5, w6, -⟩ := oy_listFor ln lf lm lc nf ls gr li (m : Int) hT hK (by omega) (by omega)
  rw [hw] at ho2
  simp only [Option.bind_some] at ho2
  rw [pl_ok h4 h9 (LIof w6) hk] at ho2
  cases ho2
  exact num_e h4 h9 hk
/-- told -/
theorem eq_told {mk m : Nat} (p0 : ¬ zno mk m) {b : Int} (hb : isCut m b) {s w : Int} (hw : ¬ zout w) {ln lf lm lc : Int} {nf ls gr li : Nat} (hT : TL lf ln nf ls gr) (hK : LK lc lm li) {o : Int} {o2 : Int × Int × Int × Int × Int × Nat × Nat × Nat × Nat} (ho : zf_X10_told mk m b s w = some o) (ho2 : zf_X11_told (m : Int) ln lf lm lc b s nf ls gr li w = some o2) : o = o2.1 := by
  obtain ⟨h4, h9⟩ := zno_rng p0
  unfold zf_X10_told at ho
  unfold zf_X11_told at ho2
  rw [if_neg hw] at ho ho2
  by_cases c0 : w = 0
  · rw [if_pos c0] at ho ho2
    rw [if_neg p0] at ho
    cases ho
    cases ho2
    rfl
  · rw [if_neg c0] at ho ho2
    by_cases c1 : w = 1
    · rw [if_pos c1] at ho ho2
      rw [if_neg p0] at ho
      cases h : zf_X11_ownNumber (m : Int) ln lf lm lc b nf ls gr li with
      | none => rw [h] at ho2; cases ho2
      | some u =>
        rw [own_e h4 h9 hb hT hK h] at ho
        rw [h] at ho2
        cases ho
        cases ho2
        rfl
    · rw [if_neg c1] at ho ho2
      by_cases c2 : w = 2
      · rw [if_pos c2] at ho ho2
        rw [if_neg p0] at ho
        obtain ⟨u, hu, w0, w1, w2, w3, w4, w5, w6, -⟩ := oy_listFor ln lf lm lc nf ls gr li (m : Int) hT hK (by omega) (by omega)
        rw [hu] at ho2
        cases ho
        cases ho2
        exact (LIof w6).1.symm
      · rw [if_neg c2] at ho ho2
        by_cases c3 : w = 3
        · rw [if_pos c3] at ho ho2
          cases ho
          cases ho2
          rfl
        · rw [if_neg c3] at ho ho2
          cases ho
          cases ho2
          rfl
/-! read -/
set_option maxHeartbeats 1000000 in
theorem eq_read {mk m : Nat} (p0 : ¬ zno mk m) {b : Int} (hb : isCut m b) {len nx kd pl va : Int} {B q : Nat} {sz so at_ en nu wo rm ln lf lm lc : Int} {nf ls gr li t : Nat} (l0 : 0 ≤ len) (l3 : len ≤ 300) (hB : BR B) (hq : ∀ k : Nat, k < 10 → 0 ≤ zget q k ∧ zget q k ≤ 999) (ht : ∀ k : Nat, k < 10 → 0 ≤ zget t k ∧ zget t k ≤ 999) (hT : TL lf ln nf ls gr) (hK : LK lc lm li) {o : Int × Int × Int × Int × Int × Int × Int × Nat} {o2 : Int × Int × Int × Int × Int × Int × Int × Int × Int × Int × Int × Int × Int × Int × Nat × Nat × Nat × Nat × Nat} (ho : zf_X10_read mk m b len nx kd pl va B q = some o) (ho2 : zf_X11_read len sz so at_ en nu wo (m : Int) ln lf lm lc b rm B nf ls gr li t = some o2) : o.1 = o2.1 ∧ o.2.1 = o2.2.2.2.2.2.2.2.2.2.2.2.2.1 ∧ o.2.2.1 = o2.2.1 := by
  obtain ⟨h4, h9⟩ := zno_rng p0
  unfold zf_X10_read zf_X10_takeRow at ho
  unfold zf_X11_read at ho2
  obtain ⟨r, h1, r1, r2, r3⟩ := ok_X8_readNumbers len nx kd pl va B q l0 l3 hq
  obtain ⟨y, h2, y1, y2, y3, y4⟩ := ok_X11_readRow len sz so at_ en nu wo rm B t l0 l3 ht
  obtain ⟨e1, e2, e3, e4, e5⟩ := row_eq l0 l3 hB h1 h2
  rw [h1, sh_0 l0 l3] at ho
  rw [h2] at ho2
  unfold zf_X5_corners at ho
  simp only [Option.bind_some] at ho ho2
  rw [if_neg p0, if_neg (by unfold zout; omega), if_neg (by unfold zout; omega)] at ho
  rw [if_neg (by unfold zout; omega), if_neg (by unfold zout; omega), ← e1] at ho2
  by_cases c : r.1 = (m : Int)
  · rw [if_pos c] at ho ho2
    simp only [Option.bind_some] at ho
    rw [if_neg (by decide), if_neg p0] at ho
    obtain ⟨u, hu, fu⟩ := e_nearX h4 h9 r3
    obtain ⟨w, hw, fw⟩ := e_nearY h4 h9 hT hK y4
    have e := FM_u (FM_c fu (fun j hj => (e5 j (by omega)).1)) fw
    obtain ⟨w', hw', z1, z2, z3, z4, -, -, -, -, z5, -⟩ := ok_X11_nearest (m : Int) ln lf lm lc nf ls gr li y.2.2.2.2.2.2.2.2.2 hT hK (by omega) (by omega) y4
    rw [hw] at hw'
    cases hw'
    rw [hu] at ho
    rw [hw] at ho2
    simp only [Option.bind_some] at ho ho2
    have lic := LIof z5
    have u0 := fu.1
    have u1 := fu.2.1
    have r8 := rpg8 h4 h9
    rw [cutAt_e h4 h9 u0 u1] at ho
    simp only [Option.bind_some] at ho
    rw [← e] at ho2
    rw [if_neg (by omega), lic.2 u.toNat (by omega), e_apart h4 h9 (LNof z4) y4] at ho2
    rw [e_dif h4 h9 (pg6_cut (by omega)) r3] at ho
    simp only [Option.bind_some] at ho ho2
    have ed : difN m (zget (pg6 m) u.toNat) r.2.2.2.2.2 m = difN m (zget (pg6 m) u.toNat) y.2.2.2.2.2.2.2.2.2 m := difN_c m (fun j hj => (e5 j (by omega)).1)
    rw [← ed] at ho2
    by_cases z : zout (difN m (zget (pg6 m) u.toNat) r.2.2.2.2.2 m)
    · rw [if_pos z] at ho; cases ho
    · rw [if_neg z] at ho ho2
      by_cases z0 : difN m (zget (pg6 m) u.toNat) r.2.2.2.2.2 m = 0
      · rw [if_pos z0] at ho ho2
        cases ho
        cases ho2
        exact ⟨rfl, rfl, e4.symm⟩
      · rw [if_neg z0] at ho ho2
        cases ho
        cases ho2
        exact ⟨rfl, rfl, e4.symm⟩
  · rw [if_neg c] at ho ho2
    simp only [Option.bind_some] at ho
    rw [if_pos trivial] at ho
    cases ho
    cases ho2
    exact ⟨rfl, rfl, e4.symm⟩
/-! mend -/
set_option maxHeartbeats 1000000 in
theorem eq_mend {mk m : Nat} (p0 : ¬ zno mk m) {mn : Int} {len nx kd pl va : Int} {B q : Nat} {sz so at_ en nu wo rm ln lf lm lc : Int} {nf ls gr li t : Nat} (l0 : 0 ≤ len) (l3 : len ≤ 300) (hB : BR B) (hq : ∀ k : Nat, k < 10 → 0 ≤ zget q k ∧ zget q k ≤ 999) (ht : ∀ k : Nat, k < 10 → 0 ≤ zget t k ∧ zget t k ≤ 999) (hT : TL lf ln nf ls gr) (hK : LK lc lm li) {o : Int × Int × Int × Int × Int × Int × Int × Nat} {o2 : Int × Int × Int × Int × Int × Int × Int × Int × Int × Int × Int × Int × Int × Int × Nat × Nat × Nat × Nat × Nat} (ho : zf_X10_mend mk m mn len nx kd pl va B q = some o) (ho2 : zf_X11_mend len sz so at_ en nu wo (m : Int) ln lf lm lc rm mn B nf ls gr li t = some o2) : o.1 = o2.1 ∧ o.2.1 = o2.2.2.2.2.2.2.2.2.2.2.2.2.2.1 ∧ o.2.2.1 = o2.2.1 := by
  obtain ⟨h4, h9⟩ := zno_rng p0
  unfold zf_X10_mend zf_X10_takeRow at ho
  unfold zf_X11_mend at ho2
  obtain ⟨r, h1, r1, r2, r3⟩ := ok_X8_readNumbers len nx kd pl va B q l0 l3 hq
  obtain ⟨y, h2, y1, y2, y3, y4⟩ := ok_X11_readRow len sz so at_ en nu wo rm B t l0 l3 ht
  obtain ⟨e1, e2, e3, e4, e5⟩ := row_eq l0 l3 hB h1 h2
  rw [h1, sh_0 l0 l3] at ho
  rw [h2] at ho2
  unfold zf_X5_corners at ho
  simp only [Option.bind_some] at ho ho2
  rw [if_neg p0, if_neg (by unfold zout; omega), if_neg (by unfold zout; omega)] at ho
  rw [if_neg (by unfold zout; omega), if_neg (by unfold zout; omega), ← e1] at ho2
  by_cases c : r.1 = (m : Int)
  · rw [if_pos c] at ho ho2
    simp only [Option.bind_some] at ho
    rw [if_neg (by decide), if_neg p0] at ho
    obtain ⟨u, hu, fu⟩ := e_nearX h4 h9 r3
    obtain ⟨w, hw, fw⟩ := e_nearY h4 h9 hT hK y4
    have e := FM_u (FM_c fu (fun j hj => (e5 j (by omega)).1)) fw
    obtain ⟨w', hw', z1, z2, z3, z4, -, -, -, -, z5, -⟩ := ok_X11_nearest (m : Int) ln lf lm lc nf ls gr li y.2.2.2.2.2.2.2.2.2 hT hK (by omega) (by omega) y4
    rw [hw] at hw'
    cases hw'
    rw [hu] at ho
    rw [hw] at ho2
    simp only [Option.bind_some] at ho ho2
    have lic := LIof z5
    have u0 := fu.1
    have u1 := fu.2.1
    have r8 := rpg8 h4 h9
    rw [cutAt_e h4 h9 u0 u1] at ho
    simp only [Option.bind_some] at ho
    rw [← e] at ho2
    rw [if_neg (by omega), lic.2 u.toNat (by omega), e_apart h4 h9 (LNof z4) y4] at ho2
    rw [e_dif h4 h9 (pg6_cut (by omega)) r3] at ho
    have ed : difN m (zget (pg6 m) u.toNat) r.2.2.2.2.2 m = difN m (zget (pg6 m) u.toNat) y.2.2.2.2.2.2.2.2.2 m := difN_c m (fun j hj => (e5 j (by omega)).1)
    rw [← ed] at ho2
    cases ho
    cases ho2
    exact ⟨rfl, rfl, e4.symm⟩
  · rw [if_neg c] at ho ho2
    simp only [Option.bind_some] at ho
    rw [if_pos trivial] at ho
    cases ho
    cases ho2
    exact ⟨rfl, rfl, e4.symm⟩
theorem areC_e {mk m : Nat} (p0 : ¬ zno mk m) {i j : Int} (hi : ¬ zout i) (hj : ¬ zout j) : zf_X10_areCorners mk m i j = some (decide ((0 ≤ i ∧ i < (m : Int)) ∧ (0 ≤ j ∧ j < (m : Int)))) := by
  obtain ⟨h4, h9⟩ := zno_rng p0
  unfold zf_X10_areCorners
  rw [if_neg p0, hasC_e h4 h9 hi, hasC_e h4 h9 hj]
  simp only [Option.bind_some]
  by_cases c : 0 ≤ i ∧ i < (m : Int)
  · rw [decide_eq_true c, if_neg (by decide)]
    by_cases d : 0 ≤ j ∧ j < (m : Int)
    · rw [decide_eq_true d, if_neg (by decide), decide_eq_true ⟨c, d⟩]
    · rw [decide_eq_false d, if_pos rfl, decide_eq_false (fun z => d z.2)]
  · rw [decide_eq_false c, if_pos rfl, decide_eq_false (fun z => c z.1)]
theorem CUof {m : Nat} (h4 : 4 ≤ m) (h9 : m ≤ 9) {b : Int} (hb : isCut m b) : CU (m : Int) b := ⟨by omega, by omega, by rw [Int.toNat_natCast]; exact hb⟩
theorem entY_e {m : Nat} (h4 : 4 ≤ m) (h9 : m ≤ 9) {b : Int} (hb : isCut m b) {ln lf : Int} {nf ls gr tA tB tC fr : Nat} (hT : TL lf ln nf ls gr) {i j : Int} (i0 : 0 ≤ i) (i1 : i < (m : Int)) (j0 : 0 ≤ j) (j1 : j < (m : Int)) : Go (fun o => zf_X5_entryOf m b i j = some o.1 ∧ 0 ≤ o.1 ∧ o.1 ≤ 21 ∧ TL o.2.2.1 o.2.1 o.2.2.2.1 o.2.2.2.2.1 o.2.2.2.2.2.1) (zf_X11_entryOf ln lf nf ls gr tA tB tC fr (m : Int) b i j) := by
  unfold zf_X11_entryOf
  refine Go_bindP (oy_ent ln lf nf ls gr tA tB tC fr (m : Int) b i hT (by omega) (by omega) (CUof h4 h9 hb) i0 i1) (fun o q => ?_)
  obtain ⟨q0, q1, q2, q3, q4, q5, q6⟩ := q
  obtain ⟨r, r1, r2, r3, r4⟩ := q5 j.toNat (by omega)
  rw [Int.toNat_natCast, show ((j.toNat : Nat) : Int) = j by omega] at r1
  refine Go_chk (by omega) ?_
  refine Go_i ⟨?_, ?_, ?_, q2⟩
  · show zf_X5_entryOf m b i j = some (zget o.2.2.2.2.2.2.2.2 j.toNat)
    rw [r1, r2]
  · show 0 ≤ zget o.2.2.2.2.2.2.2.2 j.toNat
    rw [r2]; exact r3
  · show zget o.2.2.2.2.2.2.2.2 j.toNat ≤ 21
    rw [r2]; exact r4
/-- entry -/
theorem eq_entry {mk m : Nat} (p0 : ¬ zno mk m) {b : Int} (hb : isCut m b) {i j : Int} (hi : ¬ zout i) (hj : ¬ zout j) {ln lf : Int} {nf ls gr tA tB tC fr : Nat} (hT : TL lf ln nf ls gr) {o : Int} {o2 : Int × Int × Int × Nat × Nat × Nat × Nat × Nat × Nat × Nat} (ho : zf_X10_entry mk m b i j = some o) (ho2 : zf_X11_entry (m : Int) ln lf b nf ls gr tA tB tC fr i j = some o2) : o = o2.1 := by
  obtain ⟨h4, h9⟩ := zno_rng p0
  unfold zf_X10_entry at ho
  unfold zf_X11_entry at ho2
  rw [areC_e p0 hi hj] at ho
  rw [isC_e h9 hi, isC_e h9 hj] at ho2
  simp only [Option.bind_some] at ho ho2
  by_cases c : 0 ≤ i ∧ i < (m : Int)
  · rw [decide_eq_true c, if_neg (by decide)] at ho2
    by_cases d : 0 ≤ j ∧ j < (m : Int)
    · rw [decide_eq_true ⟨c, d⟩, if_neg (by decide), if_neg p0] at ho
      rw [decide_eq_true d, if_neg (by decide)] at ho2
      obtain ⟨u, hu, u1, -⟩ := entY_e h4 h9 hb (tA := tA) (tB := tB) (tC := tC) (fr := fr) hT c.1 c.2 d.1 d.2
      rw [hu] at ho2
      rw [u1] at ho
      cases ho
      cases ho2
      rfl
    · rw [decide_eq_false (fun z => d z.2), if_pos rfl] at ho
      rw [decide_eq_false d, if_pos rfl] at ho2
      cases ho
      cases ho2
      rfl
  · rw [decide_eq_false (fun z => c z.1), if_pos rfl] at ho
    rw [decide_eq_false c, if_pos rfl] at ho2
    cases ho
    cases ho2
    rfl
/-! spread -/
set_option maxHeartbeats 1000000 in
theorem spr_run {m : Nat} (h4 : 4 ≤ m) (h9 : m ≤ 9) {i j v : Int} (i0 : 0 ≤ i) (i1 : i < (m : Int)) (j0 : 0 ≤ j) (j1 : j < (m : Int)) (hv : ¬ zout v) {o : zO_X5_countWith} {o2 : zO_X11_spread} {lm lc : Int} {li : Nat} (hL : LI m lm li) : ∀ (d k : Nat) (n ln lf : Int) (nf ls gr tA tB tC fr : Nat), (k : Int) + (d : Int) = pg8 m → TL lf ln nf ls gr → JE (zg_X5_countWith m) (6, i, j, v, n, (k : Int)) o → JE (zg_X11_spread (m : Int)) (33, i, j, v, n, (k : Int), ln, lf, lm, lc, nf, ls, gr, li, tA, tB, tC, fr) o2 → o = o2.1 := by
  have r8 := rpg8 h4 h9
  have el := hL.1
  intro d
  induction d with
  | zero =>
    intro k n ln lf nf ls gr tA tB tC fr hk hT hx hy
    have e1 := JE_end (o' := n) (by
      show zg_X5_countWith_6 m i j v n (k : Int) = _
      unfold zg_X5_countWith_6
      rw [if_neg (by unfold zout; omega), if_neg (by unfold zout; omega), if_pos (by omega)]) hx
    have e2 := JE_end (o' := (n, ln, lf, lm, lc, nf, ls, gr, li, tA, tB, tC, fr)) (by
      show zg_X11_spread_33 (m : Int) i j v n (k : Int) ln lf lm lc nf ls gr li tA tB tC fr = _
      unfold zg_X11_spread_33
      rw [if_neg (by unfold zout; omega), if_neg (by unfold zout; omega), if_pos (by omega)]) hy
    rw [e1, e2]
  | succ d ih =>
    intro k n ln lf nf ls gr tA tB tC fr hk hT hx hy
    have hc : isCut m (zget (pg6 m) k) := pg6_cut (by omega)
    obtain ⟨u, hu, u1, u2, u3, u4⟩ := entY_e h4 h9 hc (tA := tA) (tB := tB) (tC := tC) (fr := fr) hT i0 i1 j0 j1
    have ek : zgetL li (Int.toNat (k : Int)) = zget (pg6 m) k := by rw [Int.toNat_natCast]; exact hL.2 k (by omega)
    by_cases c : u.1 = v
    · have hx := JE_dn (s' := (6, i, j, v, n + 1, (k : Int) + 1)) (by
        show zg_X5_countWith_6 m i j v n (k : Int) = _
        unfold zg_X5_countWith_6
        rw [if_neg (by unfold zout; omega), if_neg (by unfold zout; omega), if_neg (by omega), if_neg (by omega), Int.toNat_natCast, u1]
        simp only [Option.bind_some]
        rw [if_neg (by unfold zout; omega), if_neg hv, if_pos c]) hx
      have hy := JE_dn (s' := (33, i, j, v, n + 1, (k : Int) + 1, u.2.1, u.2.2.1, lm, lc, u.2.2.2.1, u.2.2.2.2.1, u.2.2.2.2.2.1, li, u.2.2.2.2.2.2.1, u.2.2.2.2.2.2.2.1, u.2.2.2.2.2.2.2.2.1, u.2.2.2.2.2.2.2.2.2)) (by
        show zg_X11_spread_33 (m : Int) i j v n (k : Int) ln lf lm lc nf ls gr li tA tB tC fr = _
        unfold zg_X11_spread_33
        rw [if_neg (by unfold zout; omega), if_neg (by unfold zout; omega), if_neg (by omega), if_neg (by omega), ek, hu]
        simp only [Option.bind_some]
        rw [if_neg (by unfold zout; omega), if_neg hv, if_pos c]) hy
      rw [show (k : Int) + 1 = ((k + 1 : Nat) : Int) by omega] at hx hy
      exact ih (k + 1) (n + 1) _ _ _ _ _ _ _ _ _ (by omega) u4 hx hy
    · have hx := JE_dn (s' := (6, i, j, v, n, (k : Int) + 1)) (by
        show zg_X5_countWith_6 m i j v n (k : Int) = _
        unfold zg_X5_countWith_6
        rw [if_neg (by unfold zout; omega), if_neg (by unfold zout; omega), if_neg (by omega), if_neg (by omega), Int.toNat_natCast, u1]
        simp only [Option.bind_some]
        rw [if_neg (by unfold zout; omega), if_neg hv, if_neg c]) hx
      have hy := JE_dn (s' := (33, i, j, v, n + 0, (k : Int) + 1, u.2.1, u.2.2.1, lm, lc, u.2.2.2.1, u.2.2.2.2.1, u.2.2.2.2.2.1, li, u.2.2.2.2.2.2.1, u.2.2.2.2.2.2.2.1, u.2.2.2.2.2.2.2.2.1, u.2.2.2.2.2.2.2.2.2)) (by
        show zg_X11_spread_33 (m : Int) i j v n (k : Int) ln lf lm lc nf ls gr li tA tB tC fr = _
        unfold zg_X11_spread_33
        rw [if_neg (by unfold zout; omega), if_neg (by unfold zout; omega), if_neg (by omega), if_neg (by omega), ek, hu]
        simp only [Option.bind_some]
        rw [if_neg (by unfold zout; omega), if_neg hv, if_neg c]) hy
      rw [Int.add_zero] at hy
      rw [show (k : Int) + 1 = ((k + 1 : Nat) : Int) by omega] at hx hy
      exact ih (k + 1) n _ _ _ _ _ _ _ _ _ (by omega) u4 hx hy
theorem eq_spread {mk m : Nat} (p0 : ¬ zno mk m) {i j v : Int} (hi : ¬ zout i) (hj : ¬ zout j) (hv : ¬ zout v) {ln lf lm lc : Int} {nf ls gr li tA tB tC fr : Nat} (hT : TL lf ln nf ls gr) (hK : LK lc lm li) {o : Int} {o2 : zO_X11_spread} (ho : zf_X10_spread mk m i j v = some o) (ho2 : zf_X11_spread (m : Int) ln lf lm lc nf ls gr li tA tB tC fr i j v = some o2) : o = o2.1 := by
  obtain ⟨h4, h9⟩ := zno_rng p0
  have r8 := rpg8 h4 h9
  have hy := JE_of ho2
  have ey : zg_X11_spread (m : Int) (0, i, j, v, 0, 0, ln, lf, lm, lc, nf, ls, gr, li, tA, tB, tC, fr) = zg_X11_spread_0 (m : Int) i j v 0 0 ln lf lm lc nf ls gr li tA tB tC fr := rfl
  unfold zg_X11_spread_0 at ey
  unfold zf_X10_spread at ho
  rw [areC_e p0 hi hj] at ho
  rw [isC_e h9 hi, isC_e h9 hj] at ey
  simp only [Option.bind_some] at ho ey
  by_cases c : 0 ≤ i ∧ i < (m : Int)
  · rw [decide_eq_true c, if_neg (by decide)] at ey
    by_cases d : 0 ≤ j ∧ j < (m : Int)
    · rw [decide_eq_true ⟨c, d⟩, if_neg (by decide), if_neg p0] at ho
      rw [decide_eq_true d, if_neg (by decide)] at ey
      obtain ⟨u, hu, w0, w1, w2, w3, w4, w5, w6, -⟩ := oy_listFor ln lf lm lc nf ls gr li (m : Int) hT hK (by omega) (by omega)
      rw [hu] at ey
      have hy1 := JE_dn ey hy
      cases hx : zf_X5_countWith m i j v with
      | none => rw [hx] at ho; cases ho
      | some x =>
        rw [hx] at ho
        have hx1 := JE_dn (s' := (6, i, j, v, 0, 0)) rfl (JE_of hx)
        have e := spr_run h4 h9 c.1 c.2 d.1 d.2 hv (LIof w6) (pg8 m).toNat 0 0 _ _ _ _ _ _ _ _ _ (by omega) w2 hx1 hy1
        cases ho
        exact e
    · rw [decide_eq_false (fun z => d z.2), if_pos rfl] at ho
      rw [decide_eq_false d, if_pos rfl] at ey
      have e := JE_end ey hy
      cases ho
      rw [e]
  · rw [decide_eq_false (fun z => c z.1), if_pos rfl] at ho
    rw [decide_eq_false c, if_pos rfl] at ey
    have e := JE_end ey hy
    cases ho
    rw [e]
/-! flip -/
set_option maxHeartbeats 1000000 in
theorem eq_flip {mk m : Nat} (p0 : ¬ zno mk m) {b : Int} (hb : isCut m b) {i j : Int} (hi : ¬ zout i) (hj : ¬ zout j) {ln lf f1 f2 : Int} {nf ls gr : Nat} (hT : TL lf ln nf ls gr) {o : Int × Int} {o2 : Int × Int × Int × Int × Int × Int × Nat × Nat × Nat} (ho : zf_X10_flip mk m b i j = some o) (ho2 : zf_X11_flip (m : Int) ln lf b f1 f2 nf ls gr i j = some o2) : o.1 = o2.1 ∧ o.2 = o2.2.2.2.1 := by
  obtain ⟨h4, h9⟩ := zno_rng p0
  unfold zf_X10_flip at ho
  unfold zf_X11_flip at ho2
  rw [areC_e p0 hi hj] at ho
  rw [isC_e h9 hi, isC_e h9 hj] at ho2
  simp only [Option.bind_some] at ho ho2
  by_cases c : 0 ≤ i ∧ i < (m : Int)
  · rw [decide_eq_true c, if_neg (by decide)] at ho2
    by_cases d : 0 ≤ j ∧ j < (m : Int)
    · rw [decide_eq_true ⟨c, d⟩, if_neg (by decide), if_neg p0] at ho
      rw [decide_eq_true d, if_neg (by decide)] at ho2
      obtain ⟨w, hw, w0, w1, -⟩ := oy_linesOf ln lf nf ls gr (m : Int) hT (by omega) (by omega)
      rw [hw, isLine_c h4 h9 c.1 c.2 d.1 d.2] at ho2
      rw [lineOf_e h4 h9 c.1 c.2 d.1 d.2] at ho
      simp only [Option.bind_some] at ho ho2
      have g7 := rpg7 h4 h9
      have r3 := rpg3 h4 h9 (9 * i.toNat + j.toNat) (by omega)
      have r7 := of_decide_eq_true (allF_at (pg3_lt_tab m h4 h9) (m := 9 * i.toNat + j.toNat) (by omega))
      have hN := LNof w1
      have en := near_eq h4 h9 hN b c.1 c.2 d.1 d.2
      by_cases l0 : 0 ≤ lnO m i j
      · rw [decide_eq_true l0, if_neg (by decide), en] at ho2
        simp only [Option.bind_some] at ho2
        unfold lnO at l0
        have be := bit_eq h4 h9 hb l0 (by omega)
        have ij : ¬ i.toNat = j.toNat := by
          intro q
          have := of_decide_eq_true (allF_at (diag_tab m h4 h9) (m := i.toNat) (by omega)) (by omega)
          rw [← q] at l0
          omega
        have eh : zf_X5_has m b (zget (pg3 m) (9 * i.toNat + j.toNat)) = some (decide (¬ zand (zshr b (zget (pg3 m) (9 * i.toNat + j.toNat))) 1 = 0)) := by
          unfold zf_X5_has
          rw [hasLine_e h4 h9 l0 r7]
          simp only [Option.bind_some]
          rw [if_neg (by decide)]
          by_cases z : zand (zshr b (zget (pg3 m) (9 * i.toNat + j.toNat))) 1 = 0
          · rw [if_pos z, decide_eq_false (fun q => q z)]
          · rw [if_neg z, decide_eq_true z]
        rw [eh] at ho
        simp only [Option.bind_some] at ho
        by_cases z : zand (zshr b (zget (pg3 m) (9 * i.toNat + j.toNat))) 1 = 0
        · rw [decide_eq_false (fun q => q z), if_pos rfl] at ho
          have enf : nearB m b i.toNat j.toNat = false := by
            unfold nearB
            rw [be.1, z]
            exact decide_eq_false (by omega)
          rw [enf, if_pos rfl] at ho2
          cases ho
          cases ho2
          exact ⟨rfl, rfl⟩
        · rw [decide_eq_true z, if_neg (by decide)] at ho
          have z1 : zand (zshr b (zget (pg3 m) (9 * i.toNat + j.toNat))) 1 = 1 := by have := be.2; omega
          have ent : nearB m b i.toNat j.toNat = true := by
            unfold nearB
            rw [be.1, z1]
            exact decide_eq_true ⟨ij, Or.inr rfl⟩
          rw [ent, if_neg (by decide)] at ho2
          obtain ⟨q, q1, q2, q3, q4, q5⟩ := fl_ok h4 h9 hN hb (p := i.toNat) (q := j.toNat) (by omega) (by omega) ij l0 (by rw [be.1]; exact z) f1 f2
          rw [show ((i.toNat : Nat) : Int) = i by omega, show ((j.toNat : Nat) : Int) = j by omega] at q5
          rw [q5] at ho2
          rw [q1] at ho
          simp only [Option.bind_some] at ho ho2
          have ep : zf_X5_pairOf m q = some (16 * zget (pg1 m) q.toNat + zget (pg2 m) q.toNat) := by
            unfold zf_X5_pairOf
            rw [hasLine_e h4 h9 q2 q3]
            simp only [Option.bind_some]
            rw [if_neg (by decide), if_neg (by omega)]
          rw [ep] at ho
          cases ho
          cases ho2
          exact ⟨rfl, rfl⟩
      · rw [decide_eq_false l0, if_pos rfl] at ho2
        unfold lnO at l0
        have eh : zf_X5_has m b (zget (pg3 m) (9 * i.toNat + j.toNat)) = some false := by
          unfold zf_X5_has zf_X5_hasLine
          rw [if_neg (by unfold zout; omega), if_pos (by omega)]
          rfl
        rw [eh] at ho
        cases ho
        cases ho2
        exact ⟨rfl, rfl⟩
    · rw [decide_eq_false (fun z => d z.2), if_pos rfl] at ho
      rw [decide_eq_false d, if_pos rfl] at ho2
      cases ho
      cases ho2
      exact ⟨rfl, rfl⟩
  · rw [decide_eq_false (fun z => c z.1), if_pos rfl] at ho
    rw [decide_eq_false c, if_pos rfl] at ho2
    cases ho
    cases ho2
    exact ⟨rfl, rfl⟩
end

section
/-! cut and take, as wholes -/
theorem KM_1 {k s : Int} (h : KM k s) : (k = 1 ↔ s = 1) ∧ (k = 2 ↔ s = 2) ∧ (k = 3 ↔ s = 3) ∧ ¬ zout k ∧ ¬ zout s := by
  unfold KM at h
  unfold zout
  omega
/-- the reference fails at its first token -/
theorem rc_f1 {B : Nat} {len so at_ en nu wo ln lf nc nw : Int} {nf ls gr : Nat} (hz : ¬ zout so) (h : so = 1 → ¬ wo = 3743880787) {o : zO_X11_readCut} (ho : zf_X11_readCut len so at_ en nu 0 (-1) wo ln lf nc nw B nf ls gr = some o) : o.1 = false ∧ o.2.2.2.2.2.1 = 1 ∧ o.2.2.2.2.2.2.1 = at_ := by
  have hy := JE_of ho
  by_cases c : so = 1
  · by_cases hw : zoutL wo
    · refine (JE_none ?_ hy).elim
      show zg_X11_readCut_0 len B 0 0 0 0 so at_ en nu 0 (-1) wo ln lf nc nw nf ls gr = _
      unfold zg_X11_readCut_0
      rw [if_neg hz, if_pos c, if_pos hw]
    have e := JE_end (o' := (false, so, at_, en, nu, 1, at_, wo, ln, lf, nc, nw, nf, ls, gr)) (by
      show zg_X11_readCut_0 len B 0 0 0 0 so at_ en nu 0 (-1) wo ln lf nc nw nf ls gr = _
      unfold zg_X11_readCut_0
      rw [if_neg hz, if_pos c, if_neg hw, if_neg (h c)]
      rfl) hy
    subst e
    exact ⟨rfl, rfl, rfl⟩
  · have e := JE_end (o' := (false, so, at_, en, nu, 1, at_, wo, ln, lf, nc, nw, nf, ls, gr)) (by
      show zg_X11_readCut_0 len B 0 0 0 0 so at_ en nu 0 (-1) wo ln lf nc nw nf ls gr = _
      unfold zg_X11_readCut_0
      rw [if_neg hz, if_neg c]
      rfl) hy
    subst e
    exact ⟨rfl, rfl, rfl⟩
set_option maxHeartbeats 1000000 in
theorem rc_F {B : Nat} {len : Int} (l0 : 0 ≤ len) (l3 : len ≤ 300) (hB : BR B) {kd pl va fi : Int} {out : zO_X1_understand} (hF : zuF len kd pl va B fi out) {so at_ nu wo : Int} {ln lf nc nw : Int} {nf ls gr : Nat} {r : Int × Int × Int × Int × Int} (hr : zf_X11_scan len so at_ 0 nu wo B = some r) {o : zO_X11_readCut} (ho : zf_X11_readCut len r.1 r.2.1 r.2.2.1 r.2.2.2.1 0 (-1) r.2.2.2.2 ln lf nc nw B nf ls gr = some o) : o.1 = false ∧ out.1 = false ∧ out.2.1 = o.2.2.2.2.2.1 ∧ out.2.2.1 = o.2.2.2.2.2.2.1 := by
  obtain ⟨k1, a1, n1, v1, s1, u1, w1, t1, t2, t3, t4, t5, t6, t7, t8, t9, t10⟩ := tok_eq l0 l3 (Int.le_refl 0) l0 hB kd pl va so at_ nu wo
  rw [t2] at hr
  cases hr
  have km := KM_1 t3
  rcases hF with ⟨n4, k4, p4, v4, f1, f2, rfl⟩ | ⟨n4, p4, v4, n5, k5, p5, v5, f1, f2, f3, f4⟩
  · rw [t1] at f1
    cases f1
    have := rc_f1 km.2.2.2.2 (fun z => by
      have k := km.1.mpr z
      obtain ⟨q1, q2, q3, q4⟩ := t10 k
      rw [k, word_eq l3 t7 t6 q1 q2 q3 q4] at f2
      intro e
      rw [decide_eq_true e] at f2
      cases f2) ho
    exact ⟨this.1, rfl, this.2.1.symm, this.2.2.symm⟩
  · rw [t1] at f1
    cases f1
    obtain ⟨q1, q2, q3, q4⟩ := t10 rfl
    rw [word_eq l3 t7 t6 q1 q2 q3 q4] at f2
    have ew : w1 = 3743880787 := by
      by_cases e : w1 = 3743880787
      · exact e
      · rw [decide_eq_false e] at f2; cases f2
    have es : s1 = 1 := km.1.mp rfl
    obtain ⟨k2, a2, n2, v2, s2, u2, w2, d1, d2, d3, d4, d5, d6, d7, d8, d9, d10⟩ := tok_eq l0 l3 (show 0 ≤ n1 by omega) t6 hB 1 a1 v1 s1 a1 u1 w1
    rw [d1] at f3
    cases f3
    have km2 := KM_1 d3
    have hy := JE_of ho
    rcases f4 with ⟨g1, g2, rfl⟩ | ⟨g1, g2, g3, rfl⟩
    · have e := JE_end (o' := (false, s2, p5, n5, u2, 1, p5, w2, ln, lf, nc, nw, nf, ls, gr)) (by
        show zg_X11_readCut_0 len B 0 0 0 0 s1 a1 n1 u1 0 (-1) w1 ln lf nc nw nf ls gr = _
        unfold zg_X11_readCut_0
        rw [if_neg km.2.2.2.2, if_pos es, if_neg (show ¬ zoutL w1 by rw [ew]; decide), if_pos ew, d2]
        simp only [Option.bind_some]
        rw [if_neg km2.2.2.2.2, if_neg (fun z => g1 (km2.2.1.mpr z))]
        rfl) hy
      subst e
      exact ⟨rfl, rfl, rfl, rfl⟩
    · obtain ⟨x1, x2, x3⟩ := d4 g1
      have e := JE_end (o' := (false, s2, p5, n5, u2, 2, p5, w2, ln, lf, nc, nw, nf, ls, gr)) (by
        show zg_X11_readCut_0 len B 0 0 0 0 s1 a1 n1 u1 0 (-1) w1 ln lf nc nw nf ls gr = _
        unfold zg_X11_readCut_0
        rw [if_neg km.2.2.2.2, if_pos es, if_neg (show ¬ zoutL w1 by rw [ew]; decide), if_pos ew, d2]
        simp only [Option.bind_some]
        rw [if_neg km2.2.2.2.2, if_pos (km2.2.1.mp g1), in_e (by unfold zout; omega) (by decide) (by decide), decide_eq_false (by omega)]
        rfl) hy
      subst e
      exact ⟨rfl, rfl, rfl, rfl⟩
set_option maxHeartbeats 1000000 in
theorem rc_M {B : Nat} {len : Int} (l0 : 0 ≤ len) (l3 : len ≤ 300) (hB : BR B) {mk : Nat} {kd pl va fi n4 p4 v4 n5 p5 : Int} {c : Nat} {out : zO_X1_understand} (h4 : 4 ≤ c) (h9 : c ≤ 9) (f1 : zf_X8_readToken len 0 kd pl va B = some (n4, 1, p4, v4)) (f2 : zf_X8_isWordF len n4 1 p4 B = some true) (f3 : zf_X8_readToken len n4 1 p4 v4 B = some (n5, 2, p5, (c : Int))) (f6 : jrun (zg_X1_understand (zmk mk c) len B) jfuel (31, (0 + 1) + 1, 0, (-1), 4, fi, c, 0, n5, 2, p5, (c : Int)) = some out) {so at_ nu wo : Int} {ln lf nc nw : Int} {nf ls gr : Nat} (hT : TL lf ln nf ls gr) {r : Int × Int × Int × Int × Int} (hr : zf_X11_scan len so at_ 0 nu wo B = some r) {o : zO_X11_readCut} (ho : zf_X11_readCut len r.1 r.2.1 r.2.2.1 r.2.2.2.1 0 (-1) r.2.2.2.2 ln lf nc nw B nf ls gr = some o) : undQ c out o := by
  obtain ⟨k1, a1, n1, v1, s1, u1, w1, t1, t2, t3, t4, t5, t6, t7, t8, t9, t10⟩ := tok_eq l0 l3 (Int.le_refl 0) l0 hB kd pl va so at_ nu wo
  rw [t2] at hr
  cases hr
  have km := KM_1 t3
  rw [t1] at f1
  cases f1
  obtain ⟨q1, q2, q3, q4⟩ := t10 rfl
  rw [word_eq l3 t7 t6 q1 q2 q3 q4] at f2
  have ew : w1 = 3743880787 := by
    by_cases e : w1 = 3743880787
    · exact e
    · rw [decide_eq_false e] at f2; cases f2
  have es : s1 = 1 := km.1.mp rfl
  obtain ⟨k2, a2, n2, v2, s2, u2, w2, d1, d2, d3, d4, d5, d6, d7, d8, d9, d10⟩ := tok_eq l0 l3 (show 0 ≤ n4 by omega) t6 hB 1 p4 v4 s1 p4 u1 w1
  rw [d1] at f3
  cases f3
  have km2 := KM_1 d3
  obtain ⟨x1, x2, x3⟩ := d4 rfl
  have t9 := t9 (by decide)
  have d9 := d9 (by decide)
  obtain ⟨lw, hlw, y0, y1, y2, y3, y4⟩ := oy_linesOf ln lf nf ls gr (c : Int) hT (by omega) (by omega)
  obtain ⟨k3, a3, n3, v3, s3, u3, w3, g1, g2, g3, g4, g5, g6, g7, g8, g9, g10⟩ := tok_eq l0 l3 (show 0 ≤ n5 by omega) d6 hB 2 p5 (c : Int) s2 p5 u2 w2
  have km3 := KM_1 g3
  have hy := JE_of ho
  have hx := JE_of f6
  have p0 : ¬ zno (zmk mk c) c := zmk_yes h4 h9
  have ex1 : u2 = (c : Int) := x1.symm
  have hL : LT c lw.1 lw.2.2.1 lw.2.2.2.1 lw.2.2.2.2 := by have := y1.2.2; rw [Int.toNat_natCast] at this; exact this
  by_cases e3 : k3 = 3
  · have hs3 : s3 = 3 := km3.2.2.1.mp e3
    obtain ⟨k4, a4, n4', v4', s4, u4, w4, b1, b2, b3, b4, b5, b6, b7, b8, b9, b10⟩ := tok_eq l0 l3 (show 0 ≤ n3 by omega) g6 hB k3 a3 v3 s3 a3 u3 w3
    have hy1 := JE_dn (s' := (107, 0, 0, 0, 0, s4, a4, n4', u4, 0, -1, w4, lw.1, lw.2.1, u2, 0, lw.2.2.1, lw.2.2.2.1, lw.2.2.2.2)) (by
      show zg_X11_readCut_0 len B 0 0 0 0 s1 p4 n4 u1 0 (-1) w1 ln lf nc nw nf ls gr = _
      unfold zg_X11_readCut_0
      rw [if_neg km.2.2.2.2, if_pos es, if_neg (show ¬ zoutL w1 by rw [ew]; decide), if_pos ew, d2]
      simp only [Option.bind_some]
      rw [if_neg km2.2.2.2.2, if_pos (km2.2.1.mp rfl), in_e (by unfold zout; omega) (by decide) (by decide), decide_eq_true (by omega)]
      simp only [Option.bind_some]
      rw [if_neg (by decide), ex1, hlw]
      simp only [Option.bind_some]
      rw [ex1] at g2
      rw [g2]
      simp only [Option.bind_some]
      rw [if_neg km3.2.2.2.2, if_pos hs3]
      rw [b2]
      rfl) hy
    have hx1 := JE_dn (s' := (31, (0 + 1) + 1 + 1, 0, -1, 2, fi, c, 0, n3, 3, a3, v3)) (by
      show zg_X1_understand_31 (zmk mk c) len B ((0 + 1) + 1) 0 (-1) 4 fi c 0 n5 2 p5 (c : Int) = _
      subst e3
      rw [un31 (by decide) (by decide) g1 (tt4y (zmk mk c) fi c 0 n3 a3 v3) (by decide) (by dsimp only; decide) (by omega)]
      rfl) hx
    rw [ex1] at hy1
    subst e3
    refine und_eq l0 l3 hB p0 hL ((len - n3).toNat + 1) (0 + 1 + 1 + 1) fi n3 3 a3 v3 0 0 0 0 0 n4' k4 a4 v4' s4 u4 w4 out o (by omega) (by decide) (by have := g9 (by decide); omega) g6 (Nat.two_pow_pos _) (fun a b _ _ h => by rw [Nat.zero_testBit] at h; cases h) (by rw [pop_0]; rfl) b1 b3 b4 b5 b6 b9 hx1 hy1
  · have hs3 : ¬ s3 = 3 := fun z => e3 (km3.2.2.1.mpr z)
    have e1 := JE_end (o' := (false, 1, a3, 2, fi, c, 0, n3, k3, a3, v3)) (by
      show zg_X1_understand_31 (zmk mk c) len B ((0 + 1) + 1) 0 (-1) 4 fi c 0 n5 2 p5 (c : Int) = _
      rw [un31 (by decide) (by decide) g1 (tt4n (zmk mk c) fi c 0 n3 k3 a3 v3 e3 km3.2.2.2.1) km3.2.2.2.1 (by dsimp only; decide) (by omega)]
      rfl) hx
    have e2 := JE_end (o' := (false, s3, a3, n3, u3, 1, a3, w3, lw.1, lw.2.1, u2, 0, lw.2.2.1, lw.2.2.2.1, lw.2.2.2.2)) (by
      show zg_X11_readCut_0 len B 0 0 0 0 s1 p4 n4 u1 0 (-1) w1 ln lf nc nw nf ls gr = _
      unfold zg_X11_readCut_0
      rw [if_neg km.2.2.2.2, if_pos es, if_neg (show ¬ zoutL w1 by rw [ew]; decide), if_pos ew, d2]
      simp only [Option.bind_some]
      rw [if_neg km2.2.2.2.2, if_pos (km2.2.1.mp rfl), in_e (by unfold zout; omega) (by decide) (by decide), decide_eq_true (by omega)]
      simp only [Option.bind_some]
      rw [if_neg (by decide), ex1, hlw]
      simp only [Option.bind_some]
      rw [ex1] at g2
      rw [g2]
      simp only [Option.bind_some]
      rw [if_neg km3.2.2.2.2, if_neg hs3]
      rfl) hy
    rw [ex1] at e2
    subst e1 e2
    exact ⟨rfl, rfl, rfl, rfl, rfl, fun z => by cases z⟩
/-- what the whole of cut comes to on the reference's side -/
def cutP (o2 : Int × Int × Int × Int × Int × Int × Int × Int × Int × Int × Int × Int × Int × Int × Int × Int × Int × Int × Int × Int × Int × Nat × Nat × Nat × Nat) (out : zO_X1_understand) (co ow : Int) (c : Nat) : Prop := o2.2.1 = 0 ∧ o2.2.2.2.2.2.2.2.1 = out.2.1 ∧ o2.2.2.2.2.2.2.2.2.1 = out.2.2.1 ∧ (out.1 = false → o2.1 = -1 ∧ o2.2.2.2.2.2.2.2.2.2.2.1 = co ∧ o2.2.2.2.2.2.2.2.2.2.2.2.2.2.2.2.1 = ow) ∧ (out.1 = true → zf_X5_numberOf c out.2.2.2.2.2.2.1 = some o2.1 ∧ o2.2.2.2.2.2.2.2.2.2.2.1 = (c : Int) ∧ o2.2.2.2.2.2.2.2.2.2.2.2.2.2.2.2.1 = out.2.2.2.2.2.2.1)
theorem cut_F {B : Nat} {len : Int} (l0 : 0 ≤ len) (l3 : len ≤ 300) (hB : BR B) {kd pl va fi : Int} {out : zO_X1_understand} (hF : zuF len kd pl va B fi out) {sz so at_ en nu fk fp wo co ln lf lm lc ow nc nw sm rm lt : Int} {nf ls gr li : Nat} {o2 : Int × Int × Int × Int × Int × Int × Int × Int × Int × Int × Int × Int × Int × Int × Int × Int × Int × Int × Int × Int × Int × Nat × Nat × Nat × Nat} (ho2 : zf_X11_cut len sz so at_ en nu fk fp wo co ln lf lm lc ow nc nw sm rm lt B nf ls gr li = some o2) : out.1 = false ∧ cutP o2 out co ow 0 := by
  unfold zf_X11_cut zf_X11_begin at ho2
  cases h1 : zf_X11_scan len so at_ 0 nu wo B with
  | none => rw [h1] at ho2; cases ho2
  | some r =>
    rw [h1] at ho2
    simp only [Option.bind_some] at ho2
    cases h2 : zf_X11_readCut len r.1 r.2.1 r.2.2.1 r.2.2.2.1 0 (-1) r.2.2.2.2 ln lf nc nw B nf ls gr with
    | none => rw [h2] at ho2; cases ho2
    | some u =>
      obtain ⟨q1, q2, q3, q4⟩ := rc_F l0 l3 hB hF h1 h2
      rw [h2] at ho2
      simp only [Option.bind_some] at ho2
      rw [if_pos q1] at ho2
      cases ho2
      refine ⟨q2, rfl, q3.symm, q4.symm, fun _ => ⟨rfl, rfl, rfl⟩, fun z => ?_⟩
      rw [q2] at z
      cases z
theorem cut_M {B : Nat} {len : Int} (l0 : 0 ≤ len) (l3 : len ≤ 300) (hB : BR B) {mk : Nat} {kd pl va fi n4 p4 v4 n5 p5 : Int} {c : Nat} {out : zO_X1_understand} (h4 : 4 ≤ c) (h9 : c ≤ 9) (f1 : zf_X8_readToken len 0 kd pl va B = some (n4, 1, p4, v4)) (f2 : zf_X8_isWordF len n4 1 p4 B = some true) (f3 : zf_X8_readToken len n4 1 p4 v4 B = some (n5, 2, p5, (c : Int))) (f6 : jrun (zg_X1_understand (zmk mk c) len B) jfuel (31, (0 + 1) + 1, 0, (-1), 4, fi, c, 0, n5, 2, p5, (c : Int)) = some out) (hct : out.1 = true → isCut c out.2.2.2.2.2.2.1) {sz so at_ en nu fk fp wo co ln lf lm lc ow nc nw sm rm lt : Int} {nf ls gr li : Nat} (hT : TL lf ln nf ls gr) (hK : LK lc lm li) {o2 : Int × Int × Int × Int × Int × Int × Int × Int × Int × Int × Int × Int × Int × Int × Int × Int × Int × Int × Int × Int × Int × Nat × Nat × Nat × Nat} (ho2 : zf_X11_cut len sz so at_ en nu fk fp wo co ln lf lm lc ow nc nw sm rm lt B nf ls gr li = some o2) : cutP o2 out co ow c := by
  unfold zf_X11_cut zf_X11_begin at ho2
  cases h1 : zf_X11_scan len so at_ 0 nu wo B with
  | none => rw [h1] at ho2; cases ho2
  | some r =>
    rw [h1] at ho2
    simp only [Option.bind_some] at ho2
    cases h2 : zf_X11_readCut len r.1 r.2.1 r.2.2.1 r.2.2.2.1 0 (-1) r.2.2.2.2 ln lf nc nw B nf ls gr with
    | none => rw [h2] at ho2; cases ho2
    | some u =>
      obtain ⟨q1, q2, q3, q4, q5, q6⟩ := rc_M l0 l3 hB h4 h9 f1 f2 f3 f6 hT h1 h2
      rw [h2] at ho2
      simp only [Option.bind_some] at ho2
      cases e : out.1 with
      | false =>
        rw [e] at q1
        rw [if_pos q1.symm] at ho2
        cases ho2
        exact ⟨rfl, q2.symm, q3.symm, fun _ => ⟨rfl, rfl, rfl⟩, fun z => by rw [e] at z; cases z⟩
      | true =>
        obtain ⟨z1, z2, z3⟩ := q6 e
        rw [e] at q1
        rw [if_neg (by rw [← q1]; decide)] at ho2
        have hc := hct e
        rw [z1] at hc
        cases h3 : zf_X11_becomes co ow sm rm lt u.2.2.2.2.2.2.2.2.2.2.1 u.2.2.2.2.2.2.2.2.2.2.2.1 with
        | none => rw [h3] at ho2; cases ho2
        | some w =>
          have hb : w.1 = u.2.2.2.2.2.2.2.2.2.2.1 ∧ w.2.1 = u.2.2.2.2.2.2.2.2.2.2.2.1 := by
            unfold zf_X11_becomes at h3
            split at h3
            · cases h3
            · split at h3
              · cases h3
              · split at h3 <;> (cases h3; exact ⟨rfl, rfl⟩)
          rw [h3] at ho2
          simp only [Option.bind_some] at ho2
          obtain ⟨r', hr', s0, s1, s2, s3, s4, s5, s6, s7, -⟩ := ok_X11_scan len so at_ 0 nu wo B l0 l3 (Int.le_refl 0) l0
          rw [h1] at hr'
          cases hr'
          obtain ⟨u', hu', -, -, hTL⟩ := ok_X11_readCut len r.1 r.2.1 r.2.2.1 r.2.2.2.1 0 (-1) r.2.2.2.2 ln lf nc nw B nf ls gr l0 l3 s4 s5 s0 s1 s6 s7 hT
          rw [h2] at hu'
          cases hu'
          rw [hb.1, hb.2, q5] at ho2
          cases h5 : zf_X11_ownNumber (c : Int) u.2.2.2.2.2.2.2.2.1 u.2.2.2.2.2.2.2.2.2.1 lm lc u.2.2.2.2.2.2.2.2.2.2.2.1 u.2.2.2.2.2.2.2.2.2.2.2.2.1 u.2.2.2.2.2.2.2.2.2.2.2.2.2.1 u.2.2.2.2.2.2.2.2.2.2.2.2.2.2 li with
          | none => rw [h5] at ho2; cases ho2
          | some x =>
            have ex := own_e h4 h9 hc hTL hK h5
            rw [h5] at ho2
            cases ho2
            refine ⟨rfl, q2.symm, q3.symm, (fun z => by rw [e] at z; cases z), fun _ => ⟨?_, rfl, z1.symm⟩⟩
            rw [z1]
            exact ex
/-- take -/
theorem take_n {co ln lf lm lc ow sm rm lt n k : Int} {nf ls gr li : Nat} (hz : ¬ zout n) (hn : n < 4 ∨ 9 < n) {o2 : Int × Int × Int × Int × Int × Int × Int × Int × Int × Int × Nat × Nat × Nat × Nat} (ho2 : zf_X11_take co ln lf lm lc ow sm rm lt nf ls gr li n k = some o2) : o2.1 = -2 ∧ o2.2.1 = co ∧ o2.2.2.2.2.2.2.1 = ow := by
  unfold zf_X11_take at ho2
  rw [in_e hz (by decide) (by decide), decide_eq_false (by omega)] at ho2
  simp only [Option.bind_some] at ho2
  rw [if_pos trivial] at ho2
  cases ho2
  exact ⟨rfl, rfl, rfl⟩
theorem take_m {co ln lf lm lc ow sm rm lt k : Int} {c nf ls gr li : Nat} (h4 : 4 ≤ c) (h9 : c ≤ 9) (hz : ¬ zout k) (hT : TL lf ln nf ls gr) (hK : LK lc lm li) {o2 : Int × Int × Int × Int × Int × Int × Int × Int × Int × Int × Nat × Nat × Nat × Nat} (ho2 : zf_X11_take co ln lf lm lc ow sm rm lt nf ls gr li (c : Int) k = some o2) : ((0 ≤ k ∧ k < pg8 c) → o2.1 = k ∧ o2.2.1 = (c : Int) ∧ o2.2.2.2.2.2.2.1 = zget (pg6 c) k.toNat) ∧ (¬ (0 ≤ k ∧ k < pg8 c) → o2.1 = -2 ∧ o2.2.1 = co ∧ o2.2.2.2.2.2.2.1 = ow) := by
  have r8 := rpg8 h4 h9
  unfold zf_X11_take at ho2
  rw [in_e (by unfold zout; omega) (by decide) (by decide), decide_eq_true (by omega)] at ho2
  simp only [Option.bind_some] at ho2
  rw [if_neg (by decide), if_neg hz] at ho2
  by_cases c0 : 0 ≤ k
  · rw [if_pos c0] at ho2
    obtain ⟨w, hw, w0, w1, w2, w3, w4, w5, w6, -⟩ := oy_listFor ln lf lm lc nf ls gr li (c : Int) hT hK (by omega) (by omega)
    have hL := LIof w6
    have hl := hL.1
    rw [hw] at ho2
    simp only [Option.bind_some] at ho2
    rw [if_neg (by unfold zout; omega)] at ho2
    by_cases c1 : k < w.2.2.1
    · rw [if_pos c1, if_neg (by omega), hL.2 k.toNat (by omega)] at ho2
      cases h3 : zf_X11_becomes co ow sm rm lt (c : Int) (zget (pg6 c) k.toNat) with
      | none => rw [h3] at ho2; cases ho2
      | some x =>
        have hb : x.1 = (c : Int) ∧ x.2.1 = zget (pg6 c) k.toNat := by
          unfold zf_X11_becomes at h3
          split at h3
          · cases h3
          · split at h3
            · cases h3
            · split at h3 <;> (cases h3; exact ⟨rfl, rfl⟩)
        rw [h3] at ho2
        cases ho2
        exact ⟨fun _ => ⟨rfl, hb.1, hb.2⟩, fun z => absurd ⟨c0, by omega⟩ z⟩
    · rw [if_neg c1] at ho2
      cases ho2
      exact ⟨fun z => absurd z.2 (by omega), fun _ => ⟨rfl, rfl, rfl⟩⟩
  · rw [if_neg c0] at ho2
    cases ho2
    exact ⟨fun z => absurd z.1 c0, fun _ => ⟨rfl, rfl, rfl⟩⟩
end

section
/-! the smaller ones -/
theorem eq_fault (mk : Nat) {fk fp w : Int} (hw : ¬ zout w) {o o2 : Int} (ho : zf_X10_fault mk fk fp w = some o) (ho2 : zf_X11_fault fk fp w = some o2) : o = o2 := by
  unfold zf_X10_fault zf_X1_faultKind zf_X1_faultPlace at ho
  unfold zf_X11_fault at ho2
  rw [if_neg hw] at ho ho2
  by_cases c : w = 0
  · rw [if_pos c] at ho ho2
    cases ho
    cases ho2
    rfl
  · rw [if_neg c] at ho ho2
    by_cases d : w = 1
    · rw [if_pos d] at ho ho2
      cases ho
      cases ho2
      rfl
    · rw [if_neg d] at ho ho2
      cases ho
      cases ho2
      rfl
theorem eq_mended (mk : Nat) {mn o o2 : Int} (ho : zf_X10_mended mk mn = some o) (ho2 : zf_X11_mended mn = some o2) : o = o2 := by
  cases ho
  cases ho2
  rfl
theorem eq_of2 (mk : Nat) {s i : Int} {P : Nat} (s1 : 1 ≤ s) (s10 : s ≤ 10) (hi : ¬ zout i) {o o2 : Int} (ho : zf_X10_of mk s P i = some o) (ho2 : zf_X11_of s P i = some o2) : o = o2 := by
  rw [eq_of mk s1 s10 hi, ho2] at ho
  exact (Option.some.inj ho).symm
theorem eq_along2 (mk : Nat) {s i len : Int} {P : Nat} (s1 : 1 ≤ s) (s10 : s ≤ 10) (hP : ∀ k : Nat, k < 10 → 0 ≤ zget P k ∧ zget P k ≤ 20) (hi : ¬ zout i) (hl : ¬ zout len) {o o2 : Int} (ho : zf_X10_along mk s P i len = some o) (ho2 : zf_X11_along s P i len = some o2) : o = o2 := by
  rw [eq_along mk s1 s10 hP hi hl, ho2] at ho
  exact (Option.some.inj ho).symm
theorem eq_growth2 (mk : Nat) {s : Int} {P : Nat} (s1 : 1 ≤ s) (s10 : s ≤ 10) (hP : ∀ k : Nat, k < 10 → 0 ≤ zget P k ∧ zget P k ≤ 20) (hP' : ∀ k : Nat, k < 11 → 0 ≤ zget P k ∧ zget P k ≤ 20) {o o2 : Int} (ho : zf_X10_growth mk s P = some o) (ho2 : zf_X11_growth s P = some o2) : o = o2 := by
  rw [eq_growth mk s1 s10 hP hP', ho2] at ho
  exact (Option.some.inj ho).symm
theorem hasCut_e {m : Nat} (h4 : 4 ≤ m) (h9 : m ≤ 9) {k : Int} (hk : ¬ zout k) : zf_X5_hasCut m k = some (decide (0 ≤ k ∧ k < pg8 m)) := by
  have r8 := rpg8 h4 h9
  unfold zf_X5_hasCut
  rw [if_neg hk]
  by_cases c : k < 0
  · rw [if_pos c, decide_eq_false (by omega)]
  · rw [if_neg c, if_neg (by unfold zout; omega)]
    by_cases d : pg8 m ≤ k
    · rw [if_pos d, decide_eq_false (by omega)]
    · rw [if_neg d, decide_eq_true (by omega)]
theorem hasCut_f {m : Nat} (h4 : 4 ≤ m) (h9 : m ≤ 9) {k : Int} (hk : ¬ zout k) (h : zf_X5_hasCut m k = some false) : ¬ (0 ≤ k ∧ k < pg8 m) := by
  rw [hasCut_e h4 h9 hk] at h
  exact of_decide_eq_false (Option.some.inj h)
theorem hasCut_t {m : Nat} (h4 : 4 ≤ m) (h9 : m ≤ 9) {k : Int} (hk : ¬ zout k) (h : zf_X5_hasCut m k = some true) : 0 ≤ k ∧ k < pg8 m := by
  rw [hasCut_e h4 h9 hk] at h
  exact of_decide_eq_true (Option.some.inj h)
theorem cutAt_o {m : Nat} (h4 : 4 ≤ m) (h9 : m ≤ 9) {k o : Int} (hk : 0 ≤ k ∧ k < pg8 m) (h : zf_X5_cutAt m k = some o) : o = zget (pg6 m) k.toNat := by
  rw [cutAt_e h4 h9 hk.1 hk.2] at h
  exact (Option.some.inj h).symm
theorem BR_0 : BR 0 := by
  intro k
  have : zget 0 k = 0 := by
    unfold zget zslot
    rw [Nat.zero_shiftRight]
    rfl
  rw [this]
  decide
theorem LTof {m : Nat} {ln : Int} {nf ls gr : Nat} (h : TL (m : Int) ln nf ls gr) : LT m ln nf ls gr := h.2.2
theorem rcut0 {n : Nat} (h4 : 4 ≤ n) (h9 : n ≤ 9) {b : Int} (h : isCut n b) : 0 ≤ b ∧ b ≤ 134217727 := by
  obtain ⟨k, hk, rfl⟩ := h
  have r8 := (rpg8 h4 h9).2
  exact rpg6 h4 h9 k (by omega)
theorem cutN {m : Nat} (h4 : 4 ≤ m) (h9 : m ≤ 9) {c : Int} (hc : isCut m c) : ∃ T : Nat, c = (T : Int) := by
  obtain ⟨k, hk, rfl⟩ := hc
  have r8 := rpg8 h4 h9
  have := rpg6 h4 h9 k (by omega)
  exact ⟨(zget (pg6 m) k).toNat, by omega⟩
theorem lnN_27 {m : Nat} (h4 : 4 ≤ m) (h9 : m ≤ 9) : 2 ≤ lnN m ∧ lnN m ≤ 27 := by
  have r7 := rpg7 h4 h9
  unfold lnN
  omega
theorem bitL_f {T l : Nat} (h : T < 134217728) (hl : l < 27) (hb : T.testBit l = false) : zandL (zshrL (T : Int) (l : Int)) 1 = 0 := by rw [bitL h hl, hb]; rfl
theorem bitL_t {T l : Nat} (h : T < 134217728) (hl : l < 27) (hb : T.testBit l = true) : zandL (zshrL (T : Int) (l : Int)) 1 = 1 := by rw [bitL h hl, hb]; rfl
theorem bitI_f {T l : Nat} (h : T < 134217728) (hl : l < 27) (hb : T.testBit l = false) : zand (zshr (T : Int) (l : Int)) 1 = 0 := by rw [bitI h hl, hb]; rfl
theorem bitI_t {T l : Nat} (h : T < 134217728) (hl : l < 27) (hb : T.testBit l = true) : zand (zshr (T : Int) (l : Int)) 1 = 1 := by rw [bitI h hl, hb]; rfl
end

section
/-! a call of one object, the other one beside it -/
theorem zD_left {A : Nat → Prop} {X Y : va_W} (h : va_D A (X ++ Y)) : va_D A X := by
  refine ⟨fun i j p q hi hj e => ?_, fun k q hk => ?_⟩
  · exact h.1 i j p q (by rw [List.getElem?_append_left (List.getElem?_eq_some_iff.mp hi).1]; exact hi) (by rw [List.getElem?_append_left (List.getElem?_eq_some_iff.mp hj).1]; exact hj) e
  · exact h.2 k q (by rw [List.getElem?_append_left (List.getElem?_eq_some_iff.mp hk).1]; exact hk)
theorem zD_right {A : Nat → Prop} {X Y : va_W} (h : va_D A (X ++ Y)) : va_D A Y := by
  have at' : ∀ (k : Nat) (q : Nat × va_E), Y[k]? = some q → (X ++ Y)[X.length + k]? = some q := fun k q hk => by rw [List.getElem?_append_right (by omega), show X.length + k - X.length = k by omega]; exact hk
  refine ⟨fun i j p q hi hj e => ?_, fun k q hk => h.2 _ q (at' k q hk)⟩
  have := h.1 _ _ p q (at' i p hi) (at' j q hj) e
  omega
theorem zD_cross {A : Nat → Prop} {X Y : va_W} (h : va_D A (X ++ Y)) {i j : Nat} {p q : Nat × va_E} (hi : X[i]? = some p) (hj : Y[j]? = some q) : p.1 ≠ q.1 := by
  intro e
  have hl : i < X.length := (List.getElem?_eq_some_iff.mp hi).1
  have := h.1 i (X.length + j) p q (by rw [List.getElem?_append_left hl]; exact hi) (by rw [List.getElem?_append_right (by omega), show X.length + j - X.length = j by omega]; exact hj) e
  omega
theorem zD_swap {A : Nat → Prop} {X Y : va_W} (h : va_D A (X ++ Y)) : va_D A (Y ++ X) := (zD_right h).app (zD_left h) (fun i j p q hi hj e => zD_cross h hj hi e.symm)
theorem zfst_at {X X1 : va_W} (hf : X1.map Prod.fst = X.map Prod.fst) {i : Nat} {q : Nat × va_E} (h : X1[i]? = some q) : ∃ w, X[i]? = some w ∧ w.1 = q.1 := by
  have h3 : (X1.map Prod.fst)[i]? = some q.1 := by rw [List.getElem?_map, h]; rfl
  rw [hf, List.getElem?_map] at h3
  cases hw : X[i]? with
  | none => rw [hw] at h3; cases h3
  | some w =>
    rw [hw] at h3
    exact ⟨w, rfl, Option.some.inj h3⟩
theorem zD_put {A : Nat → Prop} {X X1 Y : va_W} (h : va_D A (X ++ Y)) (h1 : va_D A X1) (hf : X1.map Prod.fst = X.map Prod.fst) : va_D A (X1 ++ Y) :=
  h1.app (zD_right h) (fun i j p q hi hj e => by
    obtain ⟨w, hw, e2⟩ := zfst_at hf hi
    exact zD_cross h hw hj (e2.trans e))
theorem zkeepY {D : va_G} {A : Nat → Prop} {X Y wc : va_W} {H H1 : Heap} (hP : va_P D vwCl Y H) (hD : va_D A (X ++ Y)) (isC : List Nat) (hC : isC.map (fun i => X[i]?) = wc.map some) (hk1 : ∀ q : Nat, q < H.size → ¬ va_A wc H.size q → H1[q]? = H[q]?) : va_P D vwCl Y H1 := by
  refine hP.kept (fun k q hk => ?_)
  have hlt : q.1 < H.size := (hP k q hk).lt
  refine hk1 _ hlt ?_
  rintro (⟨j, e, hj⟩ | hs)
  · have h3 : (wc.map some)[j]? = some (some (q.1, e)) := by rw [List.getElem?_map, hj]; rfl
    rw [← hC, List.getElem?_map] at h3
    cases hi : isC[j]? with
    | none => rw [hi] at h3; cases h3
    | some i =>
      rw [hi] at h3
      have h4 : X[i]? = some (q.1, e) := Option.some.inj h3
      exact zD_cross hD h4 hk rfl
  · omega
section ZLB
variable {p : Program} {l : Launch} {e : Env} {R : Room} {s : State} {m : MethodId} {args : Array Value} {below : List Frame} {meth : Method} {c : Code} {H H0 : Heap} {locs : List Loc} {cells slots : Nat} {Q : State → Prop} {ls : Array Slot} {pc : Nat} {st0 rest As : List Value}
  {cc : ByteArray} {D : va_G} {κ : Nat → ClassId} {wc : va_W} {mk : Nat} {ad : Nat → Nat → Nat} {A0 : Nat → Prop} {X X1 Y wr w1 : va_W}
theorem zjx_i {a : Array Value} {o : Int32} (hr : va_Run p l e R s m args below meth c H locs cells slots 0 0 (F0 m pc ls st0) rest (va_Qi (fun r (_ : Unit) => r = o) (fun _ => zB D κ (va_A wc H.size) w1) (va_A wc H.size) a) (va_A wc H.size))
    (hPx : va_P D vwCl X H) (hPy : va_P D vwCl Y H) (hD : va_D A0 (X ++ Y)) (hS : va_S A0 H0 H locs) (hB : zAmb D κ mk ad H) (hZx : zSep mk ad X H.size) (hZy : zSep mk ad Y H.size) (hA : ∀ q, H0.size ≤ q → A0 q) (isC isR pm : List Nat) (hC : isC.map (fun i => X[i]?) = wc.map some) (hR : isR.map (fun i => X[i]?) = wr.map some) (hn : va_nd isR = true) (hdis : isR.all (fun i => !isC.contains i) = true) (hp1 : pm.filterMap (fun i => (wr ++ w1)[i]?) = X1) (hp2 : pm.map (fun i => (wr ++ w1)[i]?) = X1.map some) (hnp : va_nd pm = true) (hf : X1.map Prod.fst = X.map Prod.fst)
    (kk : ∀ (H1 : Heap) (locs1 : List Loc), va_P D vwCl X1 H1 → va_P D vwCl Y H1 → va_D A0 (X1 ++ Y) → va_S A0 H0 H1 locs1 → zAmb D κ mk ad H1 → zSep mk ad X1 H1.size → zSep mk ad Y H1.size → W p l e R s m args below meth c H1 locs1 cells slots Q (F0 m (pc + 3) ls (.int o :: rest))) : W p l e R s m args below meth c H locs cells slots Q (F0 m pc ls st0) := by
  have hDx := zD_left hD
  have hFc := va_free (wc := wc) hDx hS hA isC hC
  refine va_calli hr hS (fun q _ h => hFc q h) hFc (fun r u t H1 locs1 ht hvm hw hBB hz1 hk1 hS1 => ?_)
  obtain ⟨hP1, -, hD1⟩ := hBB
  rw [ht] at hP1
  have hw : r = o := hw
  subst hw
  obtain ⟨hP2, hD2⟩ := va_join (wr := wr) (w1 := w1) hPx hDx isC isR hC hR hn (fun i hi hc => by have := List.all_eq_true.mp hdis i hi; simp [List.contains_iff_mem, hc] at this) hk1 hFc hP1 hD1
  exact kk H1 locs1 (hP2.sub pm hp1) (zkeepY hPy hD isC hC hk1) (zD_put hD (hD2.sub pm hnp hp2) hf) hS1 (hB.keep (hZx.apt isC hC) hk1) (hZx.same hz1 hf) (hZy.same hz1 rfl)
theorem zjx_l {a : Array Value} {o : Int64} (hr : va_Run p l e R s m args below meth c H locs cells slots 0 0 (F0 m pc ls st0) rest (va_Ql (fun r (_ : Unit) => r = o) (fun _ => zB D κ (va_A wc H.size) w1) (va_A wc H.size) a) (va_A wc H.size))
    (hPx : va_P D vwCl X H) (hPy : va_P D vwCl Y H) (hD : va_D A0 (X ++ Y)) (hS : va_S A0 H0 H locs) (hB : zAmb D κ mk ad H) (hZx : zSep mk ad X H.size) (hZy : zSep mk ad Y H.size) (hA : ∀ q, H0.size ≤ q → A0 q) (isC isR pm : List Nat) (hC : isC.map (fun i => X[i]?) = wc.map some) (hR : isR.map (fun i => X[i]?) = wr.map some) (hn : va_nd isR = true) (hdis : isR.all (fun i => !isC.contains i) = true) (hp1 : pm.filterMap (fun i => (wr ++ w1)[i]?) = X1) (hp2 : pm.map (fun i => (wr ++ w1)[i]?) = X1.map some) (hnp : va_nd pm = true) (hf : X1.map Prod.fst = X.map Prod.fst)
    (kk : ∀ (H1 : Heap) (locs1 : List Loc), va_P D vwCl X1 H1 → va_P D vwCl Y H1 → va_D A0 (X1 ++ Y) → va_S A0 H0 H1 locs1 → zAmb D κ mk ad H1 → zSep mk ad X1 H1.size → zSep mk ad Y H1.size → W p l e R s m args below meth c H1 locs1 cells slots Q (F0 m (pc + 3) ls (.long o :: rest))) : W p l e R s m args below meth c H locs cells slots Q (F0 m pc ls st0) := by
  have hDx := zD_left hD
  have hFc := va_free (wc := wc) hDx hS hA isC hC
  refine va_calll hr hS (fun q _ h => hFc q h) hFc (fun r u t H1 locs1 ht hvm hw hBB hz1 hk1 hS1 => ?_)
  obtain ⟨hP1, -, hD1⟩ := hBB
  rw [ht] at hP1
  have hw : r = o := hw
  subst hw
  obtain ⟨hP2, hD2⟩ := va_join (wr := wr) (w1 := w1) hPx hDx isC isR hC hR hn (fun i hi hc => by have := List.all_eq_true.mp hdis i hi; simp [List.contains_iff_mem, hc] at this) hk1 hFc hP1 hD1
  exact kk H1 locs1 (hP2.sub pm hp1) (zkeepY hPy hD isC hC hk1) (zD_put hD (hD2.sub pm hnp hp2) hf) hS1 (hB.keep (hZx.apt isC hC) hk1) (hZx.same hz1 hf) (hZy.same hz1 rfl)
end ZLB
abbrev zLX (κ : Nat → ClassId) (x : Nat → Nat) (mk : Nat) (ad : Nat → Nat → Nat) (x_polygon : Nat) (x_bits : Int) (x_mendedNumber : Int) (tape_length : Int) (tape_next : Int) (tape_kind : Int) (tape_place : Int) (tape_value : Int) (tape_bytes : Nat) (text_faultKind : Int) (text_faultPlace : Int) (text_expected : Int) (text_first : Int) (text_polygon : Nat) (text_bits : Int) (triangles_count : Int) (triangles_polygon : Nat) (triangles_from : Int) (triangles_length : Int) (triangles_waysAhead : Int) (triangles_cornersOf : Nat) (triangles_chosen : Nat) (crossedLines_size : Int) (crossedLines_lines : Nat) (flips_wayLength : Int) (flips_queued : Int) (flips_steps : Nat) (flips_queue : Nat) (flips_way : Nat) (endless_size : Int) (endless_numbers : Nat) (sightings_size : Int) (sightings_rights : Int) (sightings_latest : Int) (sightings_seenStep : Nat) (sightings_seenFrom : Nat) (sightings_seenTo : Nat) (sightings_seenValue : Nat) (sightings_timesRight : Nat) (sightings_rightStep : Nat) (sightings_rightOf : Nat) (sightings_rightValue : Nat) (sightings_knownValue : Nat) (fitting_size : Int) (fitting_numbers : Nat) (fitting_tally : Nat) (x_toldRow : Nat) : va_W := [((x 0), .inr (10, [.ref (x 1), .ref (x 3), .ref (x 5), .ref (x 6), .ref (x 9), .ref (x 11), .ref (x 15), .ref (x 17), .ref (x 27), .ref (x 30), zpg ad x_polygon, .int (zi x_bits), .int (zi x_mendedNumber)])), ((x 1), .inr (8, [.ref (x 2), .int (zi tape_length), .int (zi tape_next), .int (zi tape_kind), .int (zi tape_place), .int (zi tape_value)])), ((x 2), .inl (κ 0, 300, .inl (zc tape_bytes))), ((x 3), .inr (6, [.ref (x 4)])), ((x 4), .inl (κ 4, 6, .inr (.inr (.inr (.inr (zmade mk ad)))))), ((x 5), .inr (1, [.int (zi text_faultKind), .int (zi text_faultPlace), .int (zi text_expected), .int (zi text_first), zpg ad text_polygon, .int (zi text_bits)])), ((x 6), .inr (9, [.ref (x 7), .ref (x 8), .int (zi triangles_count), zpg ad triangles_polygon, .int (zi triangles_from), .int (zi triangles_length), .int (zi triangles_waysAhead)])), ((x 7), .inl (κ 1, 21, .inl (zc triangles_cornersOf))), ((x 8), .inl (κ 1, 7, .inl (zc triangles_chosen))), ((x 9), .inr (0, [.ref (x 10), .int (zi crossedLines_size)])), ((x 10), .inl (κ 1, 27, .inl (zc crossedLines_lines))), ((x 11), .inr (4, [.ref (x 12), .ref (x 13), .ref (x 14), .int (zi flips_wayLength), .int (zi flips_queued)])), ((x 12), .inl (κ 1, 429, .inl (zc flips_steps))), ((x 13), .inl (κ 1, 429, .inl (zc flips_queue))), ((x 14), .inl (κ 1, 429, .inl (zc flips_way))), ((x 15), .inr (2, [.ref (x 16), .int (zi endless_size)])), ((x 16), .inl (κ 1, 10, .inl (zc endless_numbers))), ((x 17), .inr (7, [.ref (x 18), .ref (x 19), .ref (x 20), .ref (x 21), .ref (x 22), .ref (x 23), .ref (x 24), .ref (x 25), .ref (x 26), .int (zi sightings_size), .int (zi sightings_rights), .int (zi sightings_latest)])), ((x 18), .inl (κ 1, 20, .inl (zc sightings_seenStep))), ((x 19), .inl (κ 1, 20, .inl (zc sightings_seenFrom))), ((x 20), .inl (κ 1, 20, .inl (zc sightings_seenTo))), ((x 21), .inl (κ 1, 20, .inl (zc sightings_seenValue))), ((x 22), .inl (κ 1, 20, .inl (zc sightings_timesRight))), ((x 23), .inl (κ 1, 20, .inl (zc sightings_rightStep))), ((x 24), .inl (κ 1, 20, .inl (zc sightings_rightOf))), ((x 25), .inl (κ 1, 20, .inl (zc sightings_rightValue))), ((x 26), .inl (κ 1, 20, .inl (zc sightings_knownValue))), ((x 27), .inr (3, [.ref (x 28), .ref (x 29), .int (zi fitting_size)])), ((x 28), .inl (κ 1, 429, .inl (zc fitting_numbers))), ((x 29), .inl (κ 1, 22, .inl (zc fitting_tally))), ((x 30), .inl (κ 1, 10, .inl (zc x_toldRow)))]
abbrev zLY (κ : Nat → ClassId) (y : Nat → Nat) (y_taped : Int) (y_size : Int) (y_sort : Int) (y_at : Int) (y_end : Int) (y_number : Int) (y_faultKind : Int) (y_faultPlace : Int) (y_word : Int) (y_corners : Int) (y_lines : Int) (y_linesFor : Int) (y_listMany : Int) (y_listCorners : Int) (y_own : Int) (y_newCorners : Int) (y_newCut : Int) (y_wayLeft : Int) (y_flipOne : Int) (y_flipTwo : Int) (y_passedMany : Int) (y_rowMany : Int) (y_mendedBy : Int) (y_crossMany : Int) (y_periodMany : Int) (y_seenMany : Int) (y_rightMany : Int) (y_lastTold : Int) (y_tape : Nat) (y_numberOf : Nat) (y_lesser : Nat) (y_greater : Nat) (y_list : Nat) (y_tA : Nat) (y_tB : Nat) (y_tC : Nat) (y_from : Nat) (y_wayAt : Nat) (y_far : Nat) (y_queue : Nat) (y_passedBy : Nat) (y_told : Nat) (y_crossLine : Nat) (y_crossFar : Nat) (y_period : Nat) (y_sTold : Nat) (y_sOne : Nat) (y_sTwo : Nat) (y_sEntry : Nat) (y_rTold : Nat) (y_rOf : Nat) (y_rEntry : Nat) (y_fits : Nat) (y_heaps : Nat) : va_W := [((y 0), .inr (11, [.ref (y 1), .int (zi y_taped), .int (zi y_size), .int (zi y_sort), .int (zi y_at), .int (zi y_end), .int (zi y_number), .int (zi y_faultKind), .int (zi y_faultPlace), .long (zl y_word), .int (zi y_corners), .ref (y 2), .ref (y 3), .ref (y 4), .int (zi y_lines), .int (zi y_linesFor), .ref (y 5), .int (zi y_listMany), .int (zi y_listCorners), .long (zl y_own), .int (zi y_newCorners), .long (zl y_newCut), .ref (y 6), .ref (y 7), .ref (y 8), .ref (y 9), .int (zi y_wayLeft), .ref (y 10), .int (zi y_flipOne), .int (zi y_flipTwo), .ref (y 11), .ref (y 12), .int (zi y_passedMany), .ref (y 13), .int (zi y_rowMany), .ref (y 14), .int (zi y_mendedBy), .int (zi y_crossMany), .ref (y 15), .ref (y 16), .int (zi y_periodMany), .ref (y 17), .int (zi y_seenMany), .int (zi y_rightMany), .int (zi y_lastTold), .ref (y 18), .ref (y 19), .ref (y 20), .ref (y 21), .ref (y 22), .ref (y 23), .ref (y 24), .ref (y 25), .ref (y 26)])), ((y 1), .inl (κ 0, 300, .inl (zc y_tape))), ((y 2), .inl (κ 1, 100, .inl (zc y_numberOf))), ((y 3), .inl (κ 1, 35, .inl (zc y_lesser))), ((y 4), .inl (κ 1, 35, .inl (zc y_greater))), ((y 5), .inl (κ 2, 429, .inr (.inl (zcL y_list)))), ((y 6), .inl (κ 1, 8, .inl (zc y_tA))), ((y 7), .inl (κ 1, 8, .inl (zc y_tB))), ((y 8), .inl (κ 1, 8, .inl (zc y_tC))), ((y 9), .inl (κ 1, 10, .inl (zc y_from))), ((y 10), .inl (κ 1, 10, .inl (zc y_wayAt))), ((y 11), .inl (κ 1, 429, .inl (zc y_far))), ((y 12), .inl (κ 1, 429, .inl (zc y_queue))), ((y 13), .inl (κ 1, 64, .inl (zc y_passedBy))), ((y 14), .inl (κ 1, 10, .inl (zc y_told))), ((y 15), .inl (κ 1, 7, .inl (zc y_crossLine))), ((y 16), .inl (κ 1, 7, .inl (zc y_crossFar))), ((y 17), .inl (κ 1, 11, .inl (zc y_period))), ((y 18), .inl (κ 1, 20, .inl (zc y_sTold))), ((y 19), .inl (κ 1, 20, .inl (zc y_sOne))), ((y 20), .inl (κ 1, 20, .inl (zc y_sTwo))), ((y 21), .inl (κ 1, 20, .inl (zc y_sEntry))), ((y 22), .inl (κ 1, 20, .inl (zc y_rTold))), ((y 23), .inl (κ 1, 20, .inl (zc y_rOf))), ((y 24), .inl (κ 1, 20, .inl (zc y_rEntry))), ((y 25), .inl (κ 3, 429, .inl (zc y_fits))), ((y 26), .inl (κ 1, 6400, .inl (zc y_heaps)))]
theorem zLX_f {κ : Nat → ClassId} {x : Nat → Nat} {mk : Nat} {ad : Nat → Nat → Nat} {x_polygon : Nat} {x_bits : Int} {x_mendedNumber : Int} {tape_length : Int} {tape_next : Int} {tape_kind : Int} {tape_place : Int} {tape_value : Int} {tape_bytes : Nat} {text_faultKind : Int} {text_faultPlace : Int} {text_expected : Int} {text_first : Int} {text_polygon : Nat} {text_bits : Int} {triangles_count : Int} {triangles_polygon : Nat} {triangles_from : Int} {triangles_length : Int} {triangles_waysAhead : Int} {triangles_cornersOf : Nat} {triangles_chosen : Nat} {crossedLines_size : Int} {crossedLines_lines : Nat} {flips_wayLength : Int} {flips_queued : Int} {flips_steps : Nat} {flips_queue : Nat} {flips_way : Nat} {endless_size : Int} {endless_numbers : Nat} {sightings_size : Int} {sightings_rights : Int} {sightings_latest : Int} {sightings_seenStep : Nat} {sightings_seenFrom : Nat} {sightings_seenTo : Nat} {sightings_seenValue : Nat} {sightings_timesRight : Nat} {sightings_rightStep : Nat} {sightings_rightOf : Nat} {sightings_rightValue : Nat} {sightings_knownValue : Nat} {fitting_size : Int} {fitting_numbers : Nat} {fitting_tally : Nat} {x_toldRow : Nat} : (zLX κ x mk ad x_polygon x_bits x_mendedNumber tape_length tape_next tape_kind tape_place tape_value tape_bytes text_faultKind text_faultPlace text_expected text_first text_polygon text_bits triangles_count triangles_polygon triangles_from triangles_length triangles_waysAhead triangles_cornersOf triangles_chosen crossedLines_size crossedLines_lines flips_wayLength flips_queued flips_steps flips_queue flips_way endless_size endless_numbers sightings_size sightings_rights sightings_latest sightings_seenStep sightings_seenFrom sightings_seenTo sightings_seenValue sightings_timesRight sightings_rightStep sightings_rightOf sightings_rightValue sightings_knownValue fitting_size fitting_numbers fitting_tally x_toldRow).map Prod.fst = [(x 0), (x 1), (x 2), (x 3), (x 4), (x 5), (x 6), (x 7), (x 8), (x 9), (x 10), (x 11), (x 12), (x 13), (x 14), (x 15), (x 16), (x 17), (x 18), (x 19), (x 20), (x 21), (x 22), (x 23), (x 24), (x 25), (x 26), (x 27), (x 28), (x 29), (x 30)] := rfl
theorem zLY_f {κ : Nat → ClassId} {y : Nat → Nat} {y_taped : Int} {y_size : Int} {y_sort : Int} {y_at : Int} {y_end : Int} {y_number : Int} {y_faultKind : Int} {y_faultPlace : Int} {y_word : Int} {y_corners : Int} {y_lines : Int} {y_linesFor : Int} {y_listMany : Int} {y_listCorners : Int} {y_own : Int} {y_newCorners : Int} {y_newCut : Int} {y_wayLeft : Int} {y_flipOne : Int} {y_flipTwo : Int} {y_passedMany : Int} {y_rowMany : Int} {y_mendedBy : Int} {y_crossMany : Int} {y_periodMany : Int} {y_seenMany : Int} {y_rightMany : Int} {y_lastTold : Int} {y_tape : Nat} {y_numberOf : Nat} {y_lesser : Nat} {y_greater : Nat} {y_list : Nat} {y_tA : Nat} {y_tB : Nat} {y_tC : Nat} {y_from : Nat} {y_wayAt : Nat} {y_far : Nat} {y_queue : Nat} {y_passedBy : Nat} {y_told : Nat} {y_crossLine : Nat} {y_crossFar : Nat} {y_period : Nat} {y_sTold : Nat} {y_sOne : Nat} {y_sTwo : Nat} {y_sEntry : Nat} {y_rTold : Nat} {y_rOf : Nat} {y_rEntry : Nat} {y_fits : Nat} {y_heaps : Nat} : (zLY κ y y_taped y_size y_sort y_at y_end y_number y_faultKind y_faultPlace y_word y_corners y_lines y_linesFor y_listMany y_listCorners y_own y_newCorners y_newCut y_wayLeft y_flipOne y_flipTwo y_passedMany y_rowMany y_mendedBy y_crossMany y_periodMany y_seenMany y_rightMany y_lastTold y_tape y_numberOf y_lesser y_greater y_list y_tA y_tB y_tC y_from y_wayAt y_far y_queue y_passedBy y_told y_crossLine y_crossFar y_period y_sTold y_sOne y_sTwo y_sEntry y_rTold y_rOf y_rEntry y_fits y_heaps).map Prod.fst = [(y 0), (y 1), (y 2), (y 3), (y 4), (y 5), (y 6), (y 7), (y 8), (y 9), (y 10), (y 11), (y 12), (y 13), (y 14), (y 15), (y 16), (y 17), (y 18), (y 19), (y 20), (y 21), (y 22), (y 23), (y 24), (y 25), (y 26)] := rfl
/-! a call that makes a polygon, the other object beside it -/
theorem zsep_new {D : va_G} {κ : Nat → ClassId} {mk k : Nat} {ad ad1 : Nat → Nat → Nat} {ws ws1 : va_W} {H H1 : Heap} (hZ : zSep mk ad ws H.size) (hP : va_P D vwCl ws H) (hag : ∀ n, ¬ zno mk n → ad1 n = ad n) (hnew : zno mk k → ∀ j, j < 7 → H.size ≤ ad1 k j) (hz : H.size ≤ H1.size) (hB1 : zAmb D κ (zmk mk k) ad1 H1) (hf : ws1.map Prod.fst = ws.map Prod.fst) : zSep (zmk mk k) ad1 ws1 H1.size := by
  intro n hn j hj
  have hlt : ad1 n j < H1.size := by
    obtain ⟨e, he⟩ : ∃ e, (zpgc κ (ad1 n) n)[j]? = some (ad1 n j, e) := by
      have h : j = 0 ∨ j = 1 ∨ j = 2 ∨ j = 3 ∨ j = 4 ∨ j = 5 ∨ j = 6 := by omega
      rcases h with rfl | rfl | rfl | rfl | rfl | rfl | rfl <;> exact ⟨_, rfl⟩
    exact (hB1 n hn j _ he).lt
  refine ⟨hlt, fun i q hq => ?_⟩
  obtain ⟨w, hw, e⟩ := zfst_at hf hq
  by_cases hm : zno mk n
  · have en : n = k := Classical.byContradiction (fun q => hn ((zmk_ne q).mpr hm))
    subst en
    have h1 := hnew hm j hj
    have h2 := (hP i w hw).lt
    rw [← e]
    omega
  · rw [hag n hm, ← e]
    exact (hZ n hm j hj).2 i w hw
section ZLM
variable {p : Program} {l : Launch} {e : Env} {R : Room} {s : State} {m : MethodId} {args : Array Value} {below : List Frame} {meth : Method} {c : Code} {H H0 : Heap} {locs : List Loc} {cells slots : Nat} {Q : State → Prop} {ls : Array Slot} {pc : Nat} {st0 rest As : List Value}
  {cc : ByteArray} {D : va_G} {κ : Nat → ClassId} {wc : va_W} {mk : Nat} {ad : Nat → Nat → Nat} {A0 : Nat → Prop} {X Y wr : va_W}
theorem zjx7_i {a : Array Value} {o : Int32} {X1 w1 : va_W} (hr : va_Run p l e R s m args below meth c H locs cells slots 7 609 (F0 m pc ls st0) rest (va_Qi (fun r (_ : Unit) => r = o) (fun _ => zB D κ (va_A wc H.size) w1) (va_A wc H.size) a) (va_A wc H.size))
    (hPx : va_P D vwCl X H) (hPy : va_P D vwCl Y H) (hD : va_D A0 (X ++ Y)) (hS : va_S A0 H0 H locs) (hB : zAmb D κ mk ad H) (hZx : zSep mk ad X H.size) (hZy : zSep mk ad Y H.size) (hA : ∀ q, H0.size ≤ q → A0 q) (isC isR pm : List Nat) (hC : isC.map (fun i => X[i]?) = wc.map some) (hR : isR.map (fun i => X[i]?) = wr.map some) (hn : va_nd isR = true) (hdis : isR.all (fun i => !isC.contains i) = true) (hp1 : pm.filterMap (fun i => (wr ++ w1)[i]?) = X1) (hp2 : pm.map (fun i => (wr ++ w1)[i]?) = X1.map some) (hnp : va_nd pm = true) (hf : X1.map Prod.fst = X.map Prod.fst)
    (kk : ∀ (H1 : Heap) (locs1 : List Loc), va_P D vwCl X1 H1 → va_P D vwCl Y H1 → va_D A0 (X1 ++ Y) → va_S A0 H0 H1 locs1 → zAmb D κ mk ad H1 → zSep mk ad X1 H1.size → zSep mk ad Y H1.size → W p l e R s m args below meth c H1 locs1 (cells + 7) (slots + 609) Q (F0 m (pc + 3) ls (.int o :: rest))) : W p l e R s m args below meth c H locs cells slots Q (F0 m pc ls st0) := by
  have hDx := zD_left hD
  have hFc := va_free (wc := wc) hDx hS hA isC hC
  refine va_calli hr hS (fun q _ h => hFc q h) hFc (fun r u t H1 locs1 ht hvm hw hBB hz1 hk1 hS1 => ?_)
  obtain ⟨hP1, -, hD1⟩ := hBB
  rw [ht] at hP1
  have hw : r = o := hw
  subst hw
  obtain ⟨hP2, hD2⟩ := va_join (wr := wr) (w1 := w1) hPx hDx isC isR hC hR hn (fun i hi hc => by have := List.all_eq_true.mp hdis i hi; simp [List.contains_iff_mem, hc] at this) hk1 hFc hP1 hD1
  exact kk H1 locs1 (hP2.sub pm hp1) (zkeepY hPy hD isC hC hk1) (zD_put hD (hD2.sub pm hnp hp2) hf) hS1 (hB.keep (hZx.apt isC hC) hk1) (hZx.same hz1 hf) (hZy.same hz1 rfl)
theorem zjm_i {a : Array Value} {o : Int32} {k : Nat} {wr1 w1 X1 : (Nat → Nat → Nat) → va_W} (hr : va_Run p l e R s m args below meth c H locs cells slots 7 609 (F0 m pc ls st0) rest (va_Qi (fun r (ad1 : Nat → Nat → Nat) => r = o ∧ (∀ n, ¬ zno mk n → ad1 n = ad n) ∧ (zno mk k → ∀ j, j < 7 → H.size ≤ ad1 k j)) (fun ad1 u => zB D κ (va_A wc H.size) (w1 ad1) u ∧ zAmb D κ (zmk mk k) ad1 u.heap) (va_A wc H.size) a) (va_A wc H.size))
    (hwr : ∀ ad1, (∀ n, ¬ zno mk n → ad1 n = ad n) → wr = wr1 ad1) (hPx : va_P D vwCl X H) (hPy : va_P D vwCl Y H) (hD : va_D A0 (X ++ Y)) (hS : va_S A0 H0 H locs) (hB : zAmb D κ mk ad H) (hZx : zSep mk ad X H.size) (hZy : zSep mk ad Y H.size) (hA : ∀ q, H0.size ≤ q → A0 q) (isC isR pm : List Nat) (hC : isC.map (fun i => X[i]?) = wc.map some) (hR : isR.map (fun i => X[i]?) = wr.map some) (hn : va_nd isR = true) (hdis : isR.all (fun i => !isC.contains i) = true) (hp1 : ∀ ad1, pm.filterMap (fun i => (wr1 ad1 ++ w1 ad1)[i]?) = X1 ad1) (hp2 : ∀ ad1, pm.map (fun i => (wr1 ad1 ++ w1 ad1)[i]?) = (X1 ad1).map some) (hnp : va_nd pm = true) (hf : ∀ ad1, (X1 ad1).map Prod.fst = X.map Prod.fst)
    (kk : ∀ (ad1 : Nat → Nat → Nat) (H1 : Heap) (locs1 : List Loc), va_P D vwCl (X1 ad1) H1 → va_P D vwCl Y H1 → va_D A0 (X1 ad1 ++ Y) → va_S A0 H0 H1 locs1 → zAmb D κ (zmk mk k) ad1 H1 → zSep (zmk mk k) ad1 (X1 ad1) H1.size → zSep (zmk mk k) ad1 Y H1.size → W p l e R s m args below meth c H1 locs1 (cells + 7) (slots + 609) Q (F0 m (pc + 3) ls (.int o :: rest))) : W p l e R s m args below meth c H locs cells slots Q (F0 m pc ls st0) := by
  have hDx := zD_left hD
  have hFc := va_free (wc := wc) hDx hS hA isC hC
  refine va_calli hr hS (fun q _ h => hFc q h) hFc (fun r ad1 t H1 locs1 ht hvm hw hBB hz1 hk1 hS1 => ?_)
  obtain ⟨⟨hP1, -, hD1⟩, hB1⟩ := hBB
  rw [ht] at hP1 hB1
  obtain ⟨hw, hag, hnew⟩ := hw
  subst hw
  obtain ⟨hP2, hD2⟩ := va_join (wr := wr) (w1 := w1 ad1) hPx hDx isC isR hC hR hn (fun i hi hc => by have := List.all_eq_true.mp hdis i hi; simp [List.contains_iff_mem, hc] at this) hk1 hFc hP1 hD1
  rw [hwr ad1 hag] at hP2 hD2
  exact kk ad1 H1 locs1 (hP2.sub pm (hp1 ad1)) (zkeepY hPy hD isC hC hk1) (zD_put hD (hD2.sub pm hnp (hp2 ad1)) (hf ad1)) hS1 hB1 (zsep_new hZx hPx hag hnew hz1 hB1 (hf ad1)) (zsep_new hZy hPy hag hnew hz1 hB1 rfl)
end ZLM
end

section
set_option maxHeartbeats 4000000 in
set_option maxRecDepth 100000 in
theorem zo_0 {p : Program} {l : Launch} {e : Env} {s : State} {m : MethodId} {args : Array Value} {below : List Frame} {meth : Method} {c : Code} {Q : State → Prop} {D : va_G} {κ : Nat → ClassId} {A : Nat → Prop} {H0 : Heap} {b L : Nat} {xs : Nat → Int32} {cells slots : Nat} (x y : Nat → Nat) (mk : Nat) (ad : Nat → Nat → Nat) (x_polygon : Nat) (x_bits : Int) (x_mendedNumber : Int) (tape_length : Int) (tape_next : Int) (tape_kind : Int) (tape_place : Int) (tape_value : Int) (tape_bytes : Nat) (text_faultKind : Int) (text_faultPlace : Int) (text_expected : Int) (text_first : Int) (text_polygon : Nat) (text_bits : Int) (triangles_count : Int) (triangles_polygon : Nat) (triangles_from : Int) (triangles_length : Int) (triangles_waysAhead : Int) (triangles_cornersOf : Nat) (triangles_chosen : Nat) (crossedLines_size : Int) (crossedLines_lines : Nat) (flips_wayLength : Int) (flips_queued : Int) (flips_steps : Nat) (flips_queue : Nat) (flips_way : Nat) (endless_size : Int) (endless_numbers : Nat) (sightings_size : Int) (sightings_rights : Int) (sightings_latest : Int) (sightings_seenStep : Nat) (sightings_seenFrom : Nat) (sightings_seenTo : Nat) (sightings_seenValue : Nat) (sightings_timesRight : Nat) (sightings_rightStep : Nat) (sightings_rightOf : Nat) (sightings_rightValue : Nat) (sightings_knownValue : Nat) (fitting_size : Int) (fitting_numbers : Nat) (fitting_tally : Nat) (x_toldRow : Nat) (y_taped : Int) (y_size : Int) (y_sort : Int) (y_at : Int) (y_end : Int) (y_number : Int) (y_faultKind : Int) (y_faultPlace : Int) (y_word : Int) (y_corners : Int) (y_lines : Int) (y_linesFor : Int) (y_listMany : Int) (y_listCorners : Int) (y_own : Int) (y_newCorners : Int) (y_newCut : Int) (y_wayLeft : Int) (y_flipOne : Int) (y_flipTwo : Int) (y_passedMany : Int) (y_rowMany : Int) (y_mendedBy : Int) (y_crossMany : Int) (y_periodMany : Int) (y_seenMany : Int) (y_rightMany : Int) (y_lastTold : Int) (y_tape : Nat) (y_numberOf : Nat) (y_lesser : Nat) (y_greater : Nat) (y_list : Nat) (y_tA : Nat) (y_tB : Nat) (y_tC : Nat) (y_from : Nat) (y_wayAt : Nat) (y_far : Nat) (y_queue : Nat) (y_passedBy : Nat) (y_told : Nat) (y_crossLine : Nat) (y_crossFar : Nat) (y_period : Nat) (y_sTold : Nat) (y_sOne : Nat) (y_sTwo : Nat) (y_sEntry : Nat) (y_rTold : Nat) (y_rOf : Nat) (y_rEntry : Nat) (y_fits : Nat) (y_heaps : Nat) (hx : p.tables.exec = Jvm.exec) (hb : c.code = cL_law) (hml : c.maxLocals = 4) (hown : s.vm.findClass RL = some m.cls) (hts : ∀ w ∈ wsL_law, w.before args s = true) (hK : va_K D vwCl (zTY κ) s) (hA : ∀ q : Nat, H0.size ≤ q → A q) (hX : va_X b L xs s H0) (hbl : b < H0.size) (hbA : ¬ A b) (hL : L ≤ 3072) (hroom : cells ≤ room_1.cells ∧ slots ≤ room_1.slots) (i : Nat) (hi : i + 6 ≤ L) (H : Heap) (locs : List Loc) (ls : Array Slot) (hPx : va_P D vwCl (zLX κ x mk ad x_polygon x_bits x_mendedNumber tape_length tape_next tape_kind tape_place tape_value tape_bytes text_faultKind text_faultPlace text_expected text_first text_polygon text_bits triangles_count triangles_polygon triangles_from triangles_length triangles_waysAhead triangles_cornersOf triangles_chosen crossedLines_size crossedLines_lines flips_wayLength flips_queued flips_steps flips_queue flips_way endless_size endless_numbers sightings_size sightings_rights sightings_latest sightings_seenStep sightings_seenFrom sightings_seenTo sightings_seenValue sightings_timesRight sightings_rightStep sightings_rightOf sightings_rightValue sightings_knownValue fitting_size fitting_numbers fitting_tally x_toldRow) H) (hPy : va_P D vwCl (zLY κ y y_taped y_size y_sort y_at y_end y_number y_faultKind y_faultPlace y_word y_corners y_lines y_linesFor y_listMany y_listCorners y_own y_newCorners y_newCut y_wayLeft y_flipOne y_flipTwo y_passedMany y_rowMany y_mendedBy y_crossMany y_periodMany y_seenMany y_rightMany y_lastTold y_tape y_numberOf y_lesser y_greater y_list y_tA y_tB y_tC y_from y_wayAt y_far y_queue y_passedBy y_told y_crossLine y_crossFar y_period y_sTold y_sOne y_sTwo y_sEntry y_rTold y_rOf y_rEntry y_fits y_heaps) H) (hD : va_D A (zLX κ x mk ad x_polygon x_bits x_mendedNumber tape_length tape_next tape_kind tape_place tape_value tape_bytes text_faultKind text_faultPlace text_expected text_first text_polygon text_bits triangles_count triangles_polygon triangles_from triangles_length triangles_waysAhead triangles_cornersOf triangles_chosen crossedLines_size crossedLines_lines flips_wayLength flips_queued flips_steps flips_queue flips_way endless_size endless_numbers sightings_size sightings_rights sightings_latest sightings_seenStep sightings_seenFrom sightings_seenTo sightings_seenValue sightings_timesRight sightings_rightStep sightings_rightOf sightings_rightValue sightings_knownValue fitting_size fitting_numbers fitting_tally x_toldRow ++ zLY κ y y_taped y_size y_sort y_at y_end y_number y_faultKind y_faultPlace y_word y_corners y_lines y_linesFor y_listMany y_listCorners y_own y_newCorners y_newCut y_wayLeft y_flipOne y_flipTwo y_passedMany y_rowMany y_mendedBy y_crossMany y_periodMany y_seenMany y_rightMany y_lastTold y_tape y_numberOf y_lesser y_greater y_list y_tA y_tB y_tC y_from y_wayAt y_far y_queue y_passedBy y_told y_crossLine y_crossFar y_period y_sTold y_sOne y_sTwo y_sEntry y_rTold y_rOf y_rEntry y_fits y_heaps)) (hS : va_S A H0 H locs) (hB : zAmb D κ mk ad H) (hZx : zSep mk ad (zLX κ x mk ad x_polygon x_bits x_mendedNumber tape_length tape_next tape_kind tape_place tape_value tape_bytes text_faultKind text_faultPlace text_expected text_first text_polygon text_bits triangles_count triangles_polygon triangles_from triangles_length triangles_waysAhead triangles_cornersOf triangles_chosen crossedLines_size crossedLines_lines flips_wayLength flips_queued flips_steps flips_queue flips_way endless_size endless_numbers sightings_size sightings_rights sightings_latest sightings_seenStep sightings_seenFrom sightings_seenTo sightings_seenValue sightings_timesRight sightings_rightStep sightings_rightOf sightings_rightValue sightings_knownValue fitting_size fitting_numbers fitting_tally x_toldRow) H.size) (hZy : zSep mk ad (zLY κ y y_taped y_size y_sort y_at y_end y_number y_faultKind y_faultPlace y_word y_corners y_lines y_linesFor y_listMany y_listCorners y_own y_newCorners y_newCut y_wayLeft y_flipOne y_flipTwo y_passedMany y_rowMany y_mendedBy y_crossMany y_periodMany y_seenMany y_rightMany y_lastTold y_tape y_numberOf y_lesser y_greater y_list y_tA y_tB y_tC y_from y_wayAt y_far y_queue y_passedBy y_told y_crossLine y_crossFar y_period y_sTold y_sOne y_sTwo y_sEntry y_rTold y_rOf y_rEntry y_fits y_heaps) H.size) (hl : lv_has ls 4 [(0, .ref b), (1, .ref (x 0)), (2, .ref (y 0)), (3, .int (zi (i : Int)))])  (o1 : Int × Int × Nat) (ho1 : zf_X10_feed mk tape_length tape_bytes (zX xs (i + 1)) (zX xs (i + 2)) (zX xs (i + 3)) (zX xs (i + 4)) (zX xs (i + 5)) = some o1) (o2 : Int × Int × Nat) (ho2 : zf_X11_feed y_taped y_tape (zX xs (i + 1)) (zX xs (i + 2)) (zX xs (i + 3)) (zX xs (i + 4)) (zX xs (i + 5)) = some o2) 
    (kk : ∀ (H : Heap) (locs : List Loc), va_P D vwCl (zLX κ x mk ad x_polygon x_bits x_mendedNumber (o1.2.1) tape_next tape_kind tape_place tape_value (o1.2.2) text_faultKind text_faultPlace text_expected text_first text_polygon text_bits triangles_count triangles_polygon triangles_from triangles_length triangles_waysAhead triangles_cornersOf triangles_chosen crossedLines_size crossedLines_lines flips_wayLength flips_queued flips_steps flips_queue flips_way endless_size endless_numbers sightings_size sightings_rights sightings_latest sightings_seenStep sightings_seenFrom sightings_seenTo sightings_seenValue sightings_timesRight sightings_rightStep sightings_rightOf sightings_rightValue sightings_knownValue fitting_size fitting_numbers fitting_tally x_toldRow) H → va_P D vwCl (zLY κ y (o2.2.1) y_size y_sort y_at y_end y_number y_faultKind y_faultPlace y_word y_corners y_lines y_linesFor y_listMany y_listCorners y_own y_newCorners y_newCut y_wayLeft y_flipOne y_flipTwo y_passedMany y_rowMany y_mendedBy y_crossMany y_periodMany y_seenMany y_rightMany y_lastTold (o2.2.2) y_numberOf y_lesser y_greater y_list y_tA y_tB y_tC y_from y_wayAt y_far y_queue y_passedBy y_told y_crossLine y_crossFar y_period y_sTold y_sOne y_sTwo y_sEntry y_rTold y_rOf y_rEntry y_fits y_heaps) H → va_D A (zLX κ x mk ad x_polygon x_bits x_mendedNumber (o1.2.1) tape_next tape_kind tape_place tape_value (o1.2.2) text_faultKind text_faultPlace text_expected text_first text_polygon text_bits triangles_count triangles_polygon triangles_from triangles_length triangles_waysAhead triangles_cornersOf triangles_chosen crossedLines_size crossedLines_lines flips_wayLength flips_queued flips_steps flips_queue flips_way endless_size endless_numbers sightings_size sightings_rights sightings_latest sightings_seenStep sightings_seenFrom sightings_seenTo sightings_seenValue sightings_timesRight sightings_rightStep sightings_rightOf sightings_rightValue sightings_knownValue fitting_size fitting_numbers fitting_tally x_toldRow ++ zLY κ y (o2.2.1) y_size y_sort y_at y_end y_number y_faultKind y_faultPlace y_word y_corners y_lines y_linesFor y_listMany y_listCorners y_own y_newCorners y_newCut y_wayLeft y_flipOne y_flipTwo y_passedMany y_rowMany y_mendedBy y_crossMany y_periodMany y_seenMany y_rightMany y_lastTold (o2.2.2) y_numberOf y_lesser y_greater y_list y_tA y_tB y_tC y_from y_wayAt y_far y_queue y_passedBy y_told y_crossLine y_crossFar y_period y_sTold y_sOne y_sTwo y_sEntry y_rTold y_rOf y_rEntry y_fits y_heaps) → va_S A H0 H locs → zAmb D κ mk ad H → zSep mk ad (zLX κ x mk ad x_polygon x_bits x_mendedNumber (o1.2.1) tape_next tape_kind tape_place tape_value (o1.2.2) text_faultKind text_faultPlace text_expected text_first text_polygon text_bits triangles_count triangles_polygon triangles_from triangles_length triangles_waysAhead triangles_cornersOf triangles_chosen crossedLines_size crossedLines_lines flips_wayLength flips_queued flips_steps flips_queue flips_way endless_size endless_numbers sightings_size sightings_rights sightings_latest sightings_seenStep sightings_seenFrom sightings_seenTo sightings_seenValue sightings_timesRight sightings_rightStep sightings_rightOf sightings_rightValue sightings_knownValue fitting_size fitting_numbers fitting_tally x_toldRow) H.size → zSep mk ad (zLY κ y (o2.2.1) y_size y_sort y_at y_end y_number y_faultKind y_faultPlace y_word y_corners y_lines y_linesFor y_listMany y_listCorners y_own y_newCorners y_newCut y_wayLeft y_flipOne y_flipTwo y_passedMany y_rowMany y_mendedBy y_crossMany y_periodMany y_seenMany y_rightMany y_lastTold (o2.2.2) y_numberOf y_lesser y_greater y_list y_tA y_tB y_tC y_from y_wayAt y_far y_queue y_passedBy y_told y_crossLine y_crossFar y_period y_sTold y_sOne y_sTwo y_sEntry y_rTold y_rOf y_rEntry y_fits y_heaps) H.size → W p l e room_1 s m args below meth c H locs cells slots Q (F0 m 1306 ls [])) : W p l e room_1 s m args below meth c H locs cells slots Q (F0 m 200 ls []) := by
  refine lv_aload_n hx hb dL_law_200 rfl (lv_at hl 1 rfl) ?_
  refine lv_aload_n hx hb dL_law_201 rfl (lv_at hl 0 rfl) ?_
  refine lv_iload_n hx hb dL_law_202 rfl (lv_at hl 3 rfl) ?_
  refine zv_iconst hx hb dL_law_203 ?_
  refine zv_iadd hx hb dL_law_204 ?_
  refine zv_sld hx hb hX hbl hbA hS (i + 1) (by omega) (by omega) hL dL_law_205 ?_
  refine lv_aload_n hx hb dL_law_206 rfl (lv_at hl 0 rfl) ?_
  refine lv_iload_n hx hb dL_law_207 rfl (lv_at hl 3 rfl) ?_
  refine zv_iconst hx hb dL_law_208 ?_
  refine zv_iadd hx hb dL_law_209 ?_
  refine zv_sld hx hb hX hbl hbA hS (i + 2) (by omega) (by omega) hL dL_law_210 ?_
  refine lv_aload_n hx hb dL_law_211 rfl (lv_at hl 0 rfl) ?_
  refine lv_iload_n hx hb dL_law_212 rfl (lv_at hl 3 rfl) ?_
  refine zv_iconst hx hb dL_law_213 ?_
  refine zv_iadd hx hb dL_law_214 ?_
  refine zv_sld hx hb hX hbl hbA hS (i + 3) (by omega) (by omega) hL dL_law_215 ?_
  refine lv_aload_n hx hb dL_law_216 rfl (lv_at hl 0 rfl) ?_
  refine lv_iload_n hx hb dL_law_217 rfl (lv_at hl 3 rfl) ?_
  refine zv_iconst hx hb dL_law_218 ?_
  refine zv_iadd hx hb dL_law_219 ?_
  refine zv_sld hx hb hX hbl hbA hS (i + 4) (by omega) (by omega) hL dL_law_220 ?_
  refine lv_aload_n hx hb dL_law_221 rfl (lv_at hl 0 rfl) ?_
  refine lv_iload_n hx hb dL_law_222 rfl (lv_at hl 3 rfl) ?_
  refine zv_iconst hx hb dL_law_223 ?_
  refine zv_iadd hx hb dL_law_224 ?_
  refine zv_sld hx hb hX hbl hbA hS (i + 5) (by omega) (by omega) hL dL_law_225 ?_
  refine zjx_i (wr := [((x 3), .inr (6, [.ref (x 4)])), ((x 4), .inl (κ 4, 6, .inr (.inr (.inr (.inr (zmade mk ad)))))), ((x 5), .inr (1, [.int (zi text_faultKind), .int (zi text_faultPlace), .int (zi text_expected), .int (zi text_first), zpg ad text_polygon, .int (zi text_bits)])), ((x 6), .inr (9, [.ref (x 7), .ref (x 8), .int (zi triangles_count), zpg ad triangles_polygon, .int (zi triangles_from), .int (zi triangles_length), .int (zi triangles_waysAhead)])), ((x 7), .inl (κ 1, 21, .inl (zc triangles_cornersOf))), ((x 8), .inl (κ 1, 7, .inl (zc triangles_chosen))), ((x 9), .inr (0, [.ref (x 10), .int (zi crossedLines_size)])), ((x 10), .inl (κ 1, 27, .inl (zc crossedLines_lines))), ((x 11), .inr (4, [.ref (x 12), .ref (x 13), .ref (x 14), .int (zi flips_wayLength), .int (zi flips_queued)])), ((x 12), .inl (κ 1, 429, .inl (zc flips_steps))), ((x 13), .inl (κ 1, 429, .inl (zc flips_queue))), ((x 14), .inl (κ 1, 429, .inl (zc flips_way))), ((x 15), .inr (2, [.ref (x 16), .int (zi endless_size)])), ((x 16), .inl (κ 1, 10, .inl (zc endless_numbers))), ((x 17), .inr (7, [.ref (x 18), .ref (x 19), .ref (x 20), .ref (x 21), .ref (x 22), .ref (x 23), .ref (x 24), .ref (x 25), .ref (x 26), .int (zi sightings_size), .int (zi sightings_rights), .int (zi sightings_latest)])), ((x 18), .inl (κ 1, 20, .inl (zc sightings_seenStep))), ((x 19), .inl (κ 1, 20, .inl (zc sightings_seenFrom))), ((x 20), .inl (κ 1, 20, .inl (zc sightings_seenTo))), ((x 21), .inl (κ 1, 20, .inl (zc sightings_seenValue))), ((x 22), .inl (κ 1, 20, .inl (zc sightings_timesRight))), ((x 23), .inl (κ 1, 20, .inl (zc sightings_rightStep))), ((x 24), .inl (κ 1, 20, .inl (zc sightings_rightOf))), ((x 25), .inl (κ 1, 20, .inl (zc sightings_rightValue))), ((x 26), .inl (κ 1, 20, .inl (zc sightings_knownValue))), ((x 27), .inr (3, [.ref (x 28), .ref (x 29), .int (zi fitting_size)])), ((x 28), .inl (κ 1, 429, .inl (zc fitting_numbers))), ((x 29), .inl (κ 1, 22, .inl (zc fitting_tally))), ((x 30), .inl (κ 1, 10, .inl (zc x_toldRow)))]) (X1 := zLX κ x mk ad x_polygon x_bits x_mendedNumber (o1.2.1) tape_next tape_kind tape_place tape_value (o1.2.2) text_faultKind text_faultPlace text_expected text_first text_polygon text_bits triangles_count triangles_polygon triangles_from triangles_length triangles_waysAhead triangles_cornersOf triangles_chosen crossedLines_size crossedLines_lines flips_wayLength flips_queued flips_steps flips_queue flips_way endless_size endless_numbers sightings_size sightings_rights sightings_latest sightings_seenStep sightings_seenFrom sightings_seenTo sightings_seenValue sightings_timesRight sightings_rightStep sightings_rightOf sightings_rightValue sightings_knownValue fitting_size fitting_numbers fitting_tally x_toldRow) (va_runV (rest := []) ⟨hx, hb, hml, hown, hts⟩ (zc_X10_feed l D κ x mk ad H.size x_polygon x_bits x_mendedNumber tape_length tape_next tape_kind tape_place tape_value tape_bytes (zX xs (i + 1)) (zX xs (i + 2)) (zX xs (i + 3)) (zX xs (i + 4)) (zX xs (i + 5)) o1 ho1) (cwV 5 hts gL_law_X10_feed rfl rfl rfl (by decide +kernel) ⟨Nat.le_of_ble_eq_true rfl, Nat.le_of_ble_eq_true rfl⟩) (zpreWVa hK (hPx.sub [0, 1, 2] rfl) ((zD_left hD).sub [0, 1, 2] (by decide) rfl) hB (hZx.apt [0, 1, 2] rfl) 10 0 rfl rfl) rfl rfl hl.1 rfl (lv_room (Nat.le_of_ble_eq_true rfl)) dL_law_226 hroom) hPx hPy hD hS hB hZx hZy hA [0, 1, 2] [3, 4, 5, 6, 7, 8, 9, 10, 11, 12, 13, 14, 15, 16, 17, 18, 19, 20, 21, 22, 23, 24, 25, 26, 27, 28, 29, 30] [28, 29, 30, 0, 1, 2, 3, 4, 5, 6, 7, 8, 9, 10, 11, 12, 13, 14, 15, 16, 17, 18, 19, 20, 21, 22, 23, 24, 25, 26, 27] rfl rfl (by decide) (by decide) rfl rfl (by decide) (zLX_f.trans zLX_f.symm) (fun H locs hPx hPy hD hS hB hZx hZy => ?_)
  refine lv_pop hx hb dL_law_229 rfl ?_
  refine lv_aload_n hx hb dL_law_230 rfl (lv_at hl 2 rfl) ?_
  refine lv_aload_n hx hb dL_law_231 rfl (lv_at hl 0 rfl) ?_
  refine lv_iload_n hx hb dL_law_232 rfl (lv_at hl 3 rfl) ?_
  refine zv_iconst hx hb dL_law_233 ?_
  refine zv_iadd hx hb dL_law_234 ?_
  refine zv_sld hx hb hX hbl hbA hS (i + 1) (by omega) (by omega) hL dL_law_235 ?_
  refine lv_aload_n hx hb dL_law_236 rfl (lv_at hl 0 rfl) ?_
  refine lv_iload_n hx hb dL_law_237 rfl (lv_at hl 3 rfl) ?_
  refine zv_iconst hx hb dL_law_238 ?_
  refine zv_iadd hx hb dL_law_239 ?_
  refine zv_sld hx hb hX hbl hbA hS (i + 2) (by omega) (by omega) hL dL_law_240 ?_
  refine lv_aload_n hx hb dL_law_241 rfl (lv_at hl 0 rfl) ?_
  refine lv_iload_n hx hb dL_law_242 rfl (lv_at hl 3 rfl) ?_
  refine zv_iconst hx hb dL_law_243 ?_
  refine zv_iadd hx hb dL_law_244 ?_
  refine zv_sld hx hb hX hbl hbA hS (i + 3) (by omega) (by omega) hL dL_law_245 ?_
  refine lv_aload_n hx hb dL_law_246 rfl (lv_at hl 0 rfl) ?_
  refine lv_iload_n hx hb dL_law_247 rfl (lv_at hl 3 rfl) ?_
  refine zv_iconst hx hb dL_law_248 ?_
  refine zv_iadd hx hb dL_law_249 ?_
  refine zv_sld hx hb hX hbl hbA hS (i + 4) (by omega) (by omega) hL dL_law_250 ?_
  refine lv_aload_n hx hb dL_law_251 rfl (lv_at hl 0 rfl) ?_
  refine lv_iload_n hx hb dL_law_252 rfl (lv_at hl 3 rfl) ?_
  refine zv_iconst hx hb dL_law_253 ?_
  refine zv_iadd hx hb dL_law_254 ?_
  refine zv_sld hx hb hX hbl hbA hS (i + 5) (by omega) (by omega) hL dL_law_255 ?_
  refine zjx_i (wr := [((y 2), .inl (κ 1, 100, .inl (zc y_numberOf))), ((y 3), .inl (κ 1, 35, .inl (zc y_lesser))), ((y 4), .inl (κ 1, 35, .inl (zc y_greater))), ((y 5), .inl (κ 2, 429, .inr (.inl (zcL y_list)))), ((y 6), .inl (κ 1, 8, .inl (zc y_tA))), ((y 7), .inl (κ 1, 8, .inl (zc y_tB))), ((y 8), .inl (κ 1, 8, .inl (zc y_tC))), ((y 9), .inl (κ 1, 10, .inl (zc y_from))), ((y 10), .inl (κ 1, 10, .inl (zc y_wayAt))), ((y 11), .inl (κ 1, 429, .inl (zc y_far))), ((y 12), .inl (κ 1, 429, .inl (zc y_queue))), ((y 13), .inl (κ 1, 64, .inl (zc y_passedBy))), ((y 14), .inl (κ 1, 10, .inl (zc y_told))), ((y 15), .inl (κ 1, 7, .inl (zc y_crossLine))), ((y 16), .inl (κ 1, 7, .inl (zc y_crossFar))), ((y 17), .inl (κ 1, 11, .inl (zc y_period))), ((y 18), .inl (κ 1, 20, .inl (zc y_sTold))), ((y 19), .inl (κ 1, 20, .inl (zc y_sOne))), ((y 20), .inl (κ 1, 20, .inl (zc y_sTwo))), ((y 21), .inl (κ 1, 20, .inl (zc y_sEntry))), ((y 22), .inl (κ 1, 20, .inl (zc y_rTold))), ((y 23), .inl (κ 1, 20, .inl (zc y_rOf))), ((y 24), .inl (κ 1, 20, .inl (zc y_rEntry))), ((y 25), .inl (κ 3, 429, .inl (zc y_fits))), ((y 26), .inl (κ 1, 6400, .inl (zc y_heaps)))]) (X1 := zLY κ y (o2.2.1) y_size y_sort y_at y_end y_number y_faultKind y_faultPlace y_word y_corners y_lines y_linesFor y_listMany y_listCorners y_own y_newCorners y_newCut y_wayLeft y_flipOne y_flipTwo y_passedMany y_rowMany y_mendedBy y_crossMany y_periodMany y_seenMany y_rightMany y_lastTold (o2.2.2) y_numberOf y_lesser y_greater y_list y_tA y_tB y_tC y_from y_wayAt y_far y_queue y_passedBy y_told y_crossLine y_crossFar y_period y_sTold y_sOne y_sTwo y_sEntry y_rTold y_rOf y_rEntry y_fits y_heaps) (va_runV (rest := []) ⟨hx, hb, hml, hown, hts⟩ (zc_X11_feed l D κ y H.size y_taped y_size y_sort y_at y_end y_number y_faultKind y_faultPlace y_word y_corners y_lines y_linesFor y_listMany y_listCorners y_own y_newCorners y_newCut y_wayLeft y_flipOne y_flipTwo y_passedMany y_rowMany y_mendedBy y_crossMany y_periodMany y_seenMany y_rightMany y_lastTold y_tape (zX xs (i + 1)) (zX xs (i + 2)) (zX xs (i + 3)) (zX xs (i + 4)) (zX xs (i + 5)) o2 ho2) (cwV 5 hts gL_law_X11_feed rfl rfl rfl (by decide +kernel) ⟨Nat.le_of_ble_eq_true rfl, Nat.le_of_ble_eq_true rfl⟩) (zpreWV hK (hPy.sub [0, 1] rfl) ((zD_left (zD_swap hD)).sub [0, 1] (by decide) rfl) 11 0 rfl rfl) rfl rfl hl.1 rfl (lv_room (Nat.le_of_ble_eq_true rfl)) dL_law_256 hroom) hPy hPx (zD_swap hD) hS hB hZy hZx hA [0, 1] [2, 3, 4, 5, 6, 7, 8, 9, 10, 11, 12, 13, 14, 15, 16, 17, 18, 19, 20, 21, 22, 23, 24, 25, 26] [25, 26, 0, 1, 2, 3, 4, 5, 6, 7, 8, 9, 10, 11, 12, 13, 14, 15, 16, 17, 18, 19, 20, 21, 22, 23, 24] rfl rfl (by decide) (by decide) rfl rfl (by decide) (zLY_f.trans zLY_f.symm) (fun H locs hPy hPx hD hS hB hZy hZx => ?_)
  have hD := zD_swap hD
  refine lv_pop hx hb dL_law_259 rfl ?_
  refine lv_goto (tgt := 1306) hx hb dL_law_260 (by decide) ?_
  exact kk H locs hPx hPy hD hS hB hZx hZy
set_option maxHeartbeats 4000000 in
set_option maxRecDepth 100000 in
theorem zo_1 {p : Program} {l : Launch} {e : Env} {s : State} {m : MethodId} {args : Array Value} {below : List Frame} {meth : Method} {c : Code} {Q : State → Prop} {D : va_G} {κ : Nat → ClassId} {A : Nat → Prop} {H0 : Heap} {b L : Nat} {xs : Nat → Int32} {cells slots : Nat} (x y : Nat → Nat) (mk : Nat) (ad : Nat → Nat → Nat) (x_polygon : Nat) (x_bits : Int) (x_mendedNumber : Int) (tape_length : Int) (tape_next : Int) (tape_kind : Int) (tape_place : Int) (tape_value : Int) (tape_bytes : Nat) (text_faultKind : Int) (text_faultPlace : Int) (text_expected : Int) (text_first : Int) (text_polygon : Nat) (text_bits : Int) (triangles_count : Int) (triangles_polygon : Nat) (triangles_from : Int) (triangles_length : Int) (triangles_waysAhead : Int) (triangles_cornersOf : Nat) (triangles_chosen : Nat) (crossedLines_size : Int) (crossedLines_lines : Nat) (flips_wayLength : Int) (flips_queued : Int) (flips_steps : Nat) (flips_queue : Nat) (flips_way : Nat) (endless_size : Int) (endless_numbers : Nat) (sightings_size : Int) (sightings_rights : Int) (sightings_latest : Int) (sightings_seenStep : Nat) (sightings_seenFrom : Nat) (sightings_seenTo : Nat) (sightings_seenValue : Nat) (sightings_timesRight : Nat) (sightings_rightStep : Nat) (sightings_rightOf : Nat) (sightings_rightValue : Nat) (sightings_knownValue : Nat) (fitting_size : Int) (fitting_numbers : Nat) (fitting_tally : Nat) (x_toldRow : Nat) (y_taped : Int) (y_size : Int) (y_sort : Int) (y_at : Int) (y_end : Int) (y_number : Int) (y_faultKind : Int) (y_faultPlace : Int) (y_word : Int) (y_corners : Int) (y_lines : Int) (y_linesFor : Int) (y_listMany : Int) (y_listCorners : Int) (y_own : Int) (y_newCorners : Int) (y_newCut : Int) (y_wayLeft : Int) (y_flipOne : Int) (y_flipTwo : Int) (y_passedMany : Int) (y_rowMany : Int) (y_mendedBy : Int) (y_crossMany : Int) (y_periodMany : Int) (y_seenMany : Int) (y_rightMany : Int) (y_lastTold : Int) (y_tape : Nat) (y_numberOf : Nat) (y_lesser : Nat) (y_greater : Nat) (y_list : Nat) (y_tA : Nat) (y_tB : Nat) (y_tC : Nat) (y_from : Nat) (y_wayAt : Nat) (y_far : Nat) (y_queue : Nat) (y_passedBy : Nat) (y_told : Nat) (y_crossLine : Nat) (y_crossFar : Nat) (y_period : Nat) (y_sTold : Nat) (y_sOne : Nat) (y_sTwo : Nat) (y_sEntry : Nat) (y_rTold : Nat) (y_rOf : Nat) (y_rEntry : Nat) (y_fits : Nat) (y_heaps : Nat) (hx : p.tables.exec = Jvm.exec) (hb : c.code = cL_law) (hml : c.maxLocals = 4) (hown : s.vm.findClass RL = some m.cls) (hts : ∀ w ∈ wsL_law, w.before args s = true) (hK : va_K D vwCl (zTY κ) s) (hA : ∀ q : Nat, H0.size ≤ q → A q) (hX : va_X b L xs s H0) (hbl : b < H0.size) (hbA : ¬ A b) (hL : L ≤ 3072) (hroom : cells ≤ room_1.cells ∧ slots ≤ room_1.slots) (i : Nat) (hi : i + 6 ≤ L) (H : Heap) (locs : List Loc) (ls : Array Slot) (hPx : va_P D vwCl (zLX κ x mk ad x_polygon x_bits x_mendedNumber tape_length tape_next tape_kind tape_place tape_value tape_bytes text_faultKind text_faultPlace text_expected text_first text_polygon text_bits triangles_count triangles_polygon triangles_from triangles_length triangles_waysAhead triangles_cornersOf triangles_chosen crossedLines_size crossedLines_lines flips_wayLength flips_queued flips_steps flips_queue flips_way endless_size endless_numbers sightings_size sightings_rights sightings_latest sightings_seenStep sightings_seenFrom sightings_seenTo sightings_seenValue sightings_timesRight sightings_rightStep sightings_rightOf sightings_rightValue sightings_knownValue fitting_size fitting_numbers fitting_tally x_toldRow) H) (hPy : va_P D vwCl (zLY κ y y_taped y_size y_sort y_at y_end y_number y_faultKind y_faultPlace y_word y_corners y_lines y_linesFor y_listMany y_listCorners y_own y_newCorners y_newCut y_wayLeft y_flipOne y_flipTwo y_passedMany y_rowMany y_mendedBy y_crossMany y_periodMany y_seenMany y_rightMany y_lastTold y_tape y_numberOf y_lesser y_greater y_list y_tA y_tB y_tC y_from y_wayAt y_far y_queue y_passedBy y_told y_crossLine y_crossFar y_period y_sTold y_sOne y_sTwo y_sEntry y_rTold y_rOf y_rEntry y_fits y_heaps) H) (hD : va_D A (zLX κ x mk ad x_polygon x_bits x_mendedNumber tape_length tape_next tape_kind tape_place tape_value tape_bytes text_faultKind text_faultPlace text_expected text_first text_polygon text_bits triangles_count triangles_polygon triangles_from triangles_length triangles_waysAhead triangles_cornersOf triangles_chosen crossedLines_size crossedLines_lines flips_wayLength flips_queued flips_steps flips_queue flips_way endless_size endless_numbers sightings_size sightings_rights sightings_latest sightings_seenStep sightings_seenFrom sightings_seenTo sightings_seenValue sightings_timesRight sightings_rightStep sightings_rightOf sightings_rightValue sightings_knownValue fitting_size fitting_numbers fitting_tally x_toldRow ++ zLY κ y y_taped y_size y_sort y_at y_end y_number y_faultKind y_faultPlace y_word y_corners y_lines y_linesFor y_listMany y_listCorners y_own y_newCorners y_newCut y_wayLeft y_flipOne y_flipTwo y_passedMany y_rowMany y_mendedBy y_crossMany y_periodMany y_seenMany y_rightMany y_lastTold y_tape y_numberOf y_lesser y_greater y_list y_tA y_tB y_tC y_from y_wayAt y_far y_queue y_passedBy y_told y_crossLine y_crossFar y_period y_sTold y_sOne y_sTwo y_sEntry y_rTold y_rOf y_rEntry y_fits y_heaps)) (hS : va_S A H0 H locs) (hB : zAmb D κ mk ad H) (hZx : zSep mk ad (zLX κ x mk ad x_polygon x_bits x_mendedNumber tape_length tape_next tape_kind tape_place tape_value tape_bytes text_faultKind text_faultPlace text_expected text_first text_polygon text_bits triangles_count triangles_polygon triangles_from triangles_length triangles_waysAhead triangles_cornersOf triangles_chosen crossedLines_size crossedLines_lines flips_wayLength flips_queued flips_steps flips_queue flips_way endless_size endless_numbers sightings_size sightings_rights sightings_latest sightings_seenStep sightings_seenFrom sightings_seenTo sightings_seenValue sightings_timesRight sightings_rightStep sightings_rightOf sightings_rightValue sightings_knownValue fitting_size fitting_numbers fitting_tally x_toldRow) H.size) (hZy : zSep mk ad (zLY κ y y_taped y_size y_sort y_at y_end y_number y_faultKind y_faultPlace y_word y_corners y_lines y_linesFor y_listMany y_listCorners y_own y_newCorners y_newCut y_wayLeft y_flipOne y_flipTwo y_passedMany y_rowMany y_mendedBy y_crossMany y_periodMany y_seenMany y_rightMany y_lastTold y_tape y_numberOf y_lesser y_greater y_list y_tA y_tB y_tC y_from y_wayAt y_far y_queue y_passedBy y_told y_crossLine y_crossFar y_period y_sTold y_sOne y_sTwo y_sEntry y_rTold y_rOf y_rEntry y_fits y_heaps) H.size) (hl : lv_has ls 4 [(0, .ref b), (1, .ref (x 0)), (2, .ref (y 0)), (3, .int (zi (i : Int)))])  (o1 : Int × Int) (ho1 : zf_X10_end mk tape_length (zX xs (i + 1)) = some o1) (o2 : Int × Int) (ho2 : zf_X11_end y_taped (zX xs (i + 1)) = some o2) 
    (kk : ∀ (H : Heap) (locs : List Loc), va_P D vwCl (zLX κ x mk ad x_polygon x_bits x_mendedNumber (o1.2) tape_next tape_kind tape_place tape_value tape_bytes text_faultKind text_faultPlace text_expected text_first text_polygon text_bits triangles_count triangles_polygon triangles_from triangles_length triangles_waysAhead triangles_cornersOf triangles_chosen crossedLines_size crossedLines_lines flips_wayLength flips_queued flips_steps flips_queue flips_way endless_size endless_numbers sightings_size sightings_rights sightings_latest sightings_seenStep sightings_seenFrom sightings_seenTo sightings_seenValue sightings_timesRight sightings_rightStep sightings_rightOf sightings_rightValue sightings_knownValue fitting_size fitting_numbers fitting_tally x_toldRow) H → va_P D vwCl (zLY κ y (o2.2) y_size y_sort y_at y_end y_number y_faultKind y_faultPlace y_word y_corners y_lines y_linesFor y_listMany y_listCorners y_own y_newCorners y_newCut y_wayLeft y_flipOne y_flipTwo y_passedMany y_rowMany y_mendedBy y_crossMany y_periodMany y_seenMany y_rightMany y_lastTold y_tape y_numberOf y_lesser y_greater y_list y_tA y_tB y_tC y_from y_wayAt y_far y_queue y_passedBy y_told y_crossLine y_crossFar y_period y_sTold y_sOne y_sTwo y_sEntry y_rTold y_rOf y_rEntry y_fits y_heaps) H → va_D A (zLX κ x mk ad x_polygon x_bits x_mendedNumber (o1.2) tape_next tape_kind tape_place tape_value tape_bytes text_faultKind text_faultPlace text_expected text_first text_polygon text_bits triangles_count triangles_polygon triangles_from triangles_length triangles_waysAhead triangles_cornersOf triangles_chosen crossedLines_size crossedLines_lines flips_wayLength flips_queued flips_steps flips_queue flips_way endless_size endless_numbers sightings_size sightings_rights sightings_latest sightings_seenStep sightings_seenFrom sightings_seenTo sightings_seenValue sightings_timesRight sightings_rightStep sightings_rightOf sightings_rightValue sightings_knownValue fitting_size fitting_numbers fitting_tally x_toldRow ++ zLY κ y (o2.2) y_size y_sort y_at y_end y_number y_faultKind y_faultPlace y_word y_corners y_lines y_linesFor y_listMany y_listCorners y_own y_newCorners y_newCut y_wayLeft y_flipOne y_flipTwo y_passedMany y_rowMany y_mendedBy y_crossMany y_periodMany y_seenMany y_rightMany y_lastTold y_tape y_numberOf y_lesser y_greater y_list y_tA y_tB y_tC y_from y_wayAt y_far y_queue y_passedBy y_told y_crossLine y_crossFar y_period y_sTold y_sOne y_sTwo y_sEntry y_rTold y_rOf y_rEntry y_fits y_heaps) → va_S A H0 H locs → zAmb D κ mk ad H → zSep mk ad (zLX κ x mk ad x_polygon x_bits x_mendedNumber (o1.2) tape_next tape_kind tape_place tape_value tape_bytes text_faultKind text_faultPlace text_expected text_first text_polygon text_bits triangles_count triangles_polygon triangles_from triangles_length triangles_waysAhead triangles_cornersOf triangles_chosen crossedLines_size crossedLines_lines flips_wayLength flips_queued flips_steps flips_queue flips_way endless_size endless_numbers sightings_size sightings_rights sightings_latest sightings_seenStep sightings_seenFrom sightings_seenTo sightings_seenValue sightings_timesRight sightings_rightStep sightings_rightOf sightings_rightValue sightings_knownValue fitting_size fitting_numbers fitting_tally x_toldRow) H.size → zSep mk ad (zLY κ y (o2.2) y_size y_sort y_at y_end y_number y_faultKind y_faultPlace y_word y_corners y_lines y_linesFor y_listMany y_listCorners y_own y_newCorners y_newCut y_wayLeft y_flipOne y_flipTwo y_passedMany y_rowMany y_mendedBy y_crossMany y_periodMany y_seenMany y_rightMany y_lastTold y_tape y_numberOf y_lesser y_greater y_list y_tA y_tB y_tC y_from y_wayAt y_far y_queue y_passedBy y_told y_crossLine y_crossFar y_period y_sTold y_sOne y_sTwo y_sEntry y_rTold y_rOf y_rEntry y_fits y_heaps) H.size → W p l e room_1 s m args below meth c H locs cells slots Q (F0 m 1306 ls [])) : W p l e room_1 s m args below meth c H locs cells slots Q (F0 m 263 ls []) := by
  refine lv_aload_n hx hb dL_law_263 rfl (lv_at hl 1 rfl) ?_
  refine lv_aload_n hx hb dL_law_264 rfl (lv_at hl 0 rfl) ?_
  refine lv_iload_n hx hb dL_law_265 rfl (lv_at hl 3 rfl) ?_
  refine zv_iconst hx hb dL_law_266 ?_
  refine zv_iadd hx hb dL_law_267 ?_
  refine zv_sld hx hb hX hbl hbA hS (i + 1) (by omega) (by omega) hL dL_law_268 ?_
  refine zjx_i (wr := [((x 3), .inr (6, [.ref (x 4)])), ((x 4), .inl (κ 4, 6, .inr (.inr (.inr (.inr (zmade mk ad)))))), ((x 5), .inr (1, [.int (zi text_faultKind), .int (zi text_faultPlace), .int (zi text_expected), .int (zi text_first), zpg ad text_polygon, .int (zi text_bits)])), ((x 6), .inr (9, [.ref (x 7), .ref (x 8), .int (zi triangles_count), zpg ad triangles_polygon, .int (zi triangles_from), .int (zi triangles_length), .int (zi triangles_waysAhead)])), ((x 7), .inl (κ 1, 21, .inl (zc triangles_cornersOf))), ((x 8), .inl (κ 1, 7, .inl (zc triangles_chosen))), ((x 9), .inr (0, [.ref (x 10), .int (zi crossedLines_size)])), ((x 10), .inl (κ 1, 27, .inl (zc crossedLines_lines))), ((x 11), .inr (4, [.ref (x 12), .ref (x 13), .ref (x 14), .int (zi flips_wayLength), .int (zi flips_queued)])), ((x 12), .inl (κ 1, 429, .inl (zc flips_steps))), ((x 13), .inl (κ 1, 429, .inl (zc flips_queue))), ((x 14), .inl (κ 1, 429, .inl (zc flips_way))), ((x 15), .inr (2, [.ref (x 16), .int (zi endless_size)])), ((x 16), .inl (κ 1, 10, .inl (zc endless_numbers))), ((x 17), .inr (7, [.ref (x 18), .ref (x 19), .ref (x 20), .ref (x 21), .ref (x 22), .ref (x 23), .ref (x 24), .ref (x 25), .ref (x 26), .int (zi sightings_size), .int (zi sightings_rights), .int (zi sightings_latest)])), ((x 18), .inl (κ 1, 20, .inl (zc sightings_seenStep))), ((x 19), .inl (κ 1, 20, .inl (zc sightings_seenFrom))), ((x 20), .inl (κ 1, 20, .inl (zc sightings_seenTo))), ((x 21), .inl (κ 1, 20, .inl (zc sightings_seenValue))), ((x 22), .inl (κ 1, 20, .inl (zc sightings_timesRight))), ((x 23), .inl (κ 1, 20, .inl (zc sightings_rightStep))), ((x 24), .inl (κ 1, 20, .inl (zc sightings_rightOf))), ((x 25), .inl (κ 1, 20, .inl (zc sightings_rightValue))), ((x 26), .inl (κ 1, 20, .inl (zc sightings_knownValue))), ((x 27), .inr (3, [.ref (x 28), .ref (x 29), .int (zi fitting_size)])), ((x 28), .inl (κ 1, 429, .inl (zc fitting_numbers))), ((x 29), .inl (κ 1, 22, .inl (zc fitting_tally))), ((x 30), .inl (κ 1, 10, .inl (zc x_toldRow)))]) (X1 := zLX κ x mk ad x_polygon x_bits x_mendedNumber (o1.2) tape_next tape_kind tape_place tape_value tape_bytes text_faultKind text_faultPlace text_expected text_first text_polygon text_bits triangles_count triangles_polygon triangles_from triangles_length triangles_waysAhead triangles_cornersOf triangles_chosen crossedLines_size crossedLines_lines flips_wayLength flips_queued flips_steps flips_queue flips_way endless_size endless_numbers sightings_size sightings_rights sightings_latest sightings_seenStep sightings_seenFrom sightings_seenTo sightings_seenValue sightings_timesRight sightings_rightStep sightings_rightOf sightings_rightValue sightings_knownValue fitting_size fitting_numbers fitting_tally x_toldRow) (va_runV (rest := []) ⟨hx, hb, hml, hown, hts⟩ (zc_X10_end l D κ x mk ad H.size x_polygon x_bits x_mendedNumber tape_length tape_next tape_kind tape_place tape_value tape_bytes (zX xs (i + 1)) o1 ho1) (cwV 1 hts gL_law_X10_end rfl rfl rfl (by decide +kernel) ⟨Nat.le_of_ble_eq_true rfl, Nat.le_of_ble_eq_true rfl⟩) (zpreWVa hK (hPx.sub [0, 1, 2] rfl) ((zD_left hD).sub [0, 1, 2] (by decide) rfl) hB (hZx.apt [0, 1, 2] rfl) 10 0 rfl rfl) rfl rfl hl.1 rfl (lv_room (Nat.le_of_ble_eq_true rfl)) dL_law_269 hroom) hPx hPy hD hS hB hZx hZy hA [0, 1, 2] [3, 4, 5, 6, 7, 8, 9, 10, 11, 12, 13, 14, 15, 16, 17, 18, 19, 20, 21, 22, 23, 24, 25, 26, 27, 28, 29, 30] [28, 29, 30, 0, 1, 2, 3, 4, 5, 6, 7, 8, 9, 10, 11, 12, 13, 14, 15, 16, 17, 18, 19, 20, 21, 22, 23, 24, 25, 26, 27] rfl rfl (by decide) (by decide) rfl rfl (by decide) (zLX_f.trans zLX_f.symm) (fun H locs hPx hPy hD hS hB hZx hZy => ?_)
  refine lv_pop hx hb dL_law_272 rfl ?_
  refine lv_aload_n hx hb dL_law_273 rfl (lv_at hl 2 rfl) ?_
  refine lv_aload_n hx hb dL_law_274 rfl (lv_at hl 0 rfl) ?_
  refine lv_iload_n hx hb dL_law_275 rfl (lv_at hl 3 rfl) ?_
  refine zv_iconst hx hb dL_law_276 ?_
  refine zv_iadd hx hb dL_law_277 ?_
  refine zv_sld hx hb hX hbl hbA hS (i + 1) (by omega) (by omega) hL dL_law_278 ?_
  refine zjx_i (wr := [((y 1), .inl (κ 0, 300, .inl (zc y_tape))), ((y 2), .inl (κ 1, 100, .inl (zc y_numberOf))), ((y 3), .inl (κ 1, 35, .inl (zc y_lesser))), ((y 4), .inl (κ 1, 35, .inl (zc y_greater))), ((y 5), .inl (κ 2, 429, .inr (.inl (zcL y_list)))), ((y 6), .inl (κ 1, 8, .inl (zc y_tA))), ((y 7), .inl (κ 1, 8, .inl (zc y_tB))), ((y 8), .inl (κ 1, 8, .inl (zc y_tC))), ((y 9), .inl (κ 1, 10, .inl (zc y_from))), ((y 10), .inl (κ 1, 10, .inl (zc y_wayAt))), ((y 11), .inl (κ 1, 429, .inl (zc y_far))), ((y 12), .inl (κ 1, 429, .inl (zc y_queue))), ((y 13), .inl (κ 1, 64, .inl (zc y_passedBy))), ((y 14), .inl (κ 1, 10, .inl (zc y_told))), ((y 15), .inl (κ 1, 7, .inl (zc y_crossLine))), ((y 16), .inl (κ 1, 7, .inl (zc y_crossFar))), ((y 17), .inl (κ 1, 11, .inl (zc y_period))), ((y 18), .inl (κ 1, 20, .inl (zc y_sTold))), ((y 19), .inl (κ 1, 20, .inl (zc y_sOne))), ((y 20), .inl (κ 1, 20, .inl (zc y_sTwo))), ((y 21), .inl (κ 1, 20, .inl (zc y_sEntry))), ((y 22), .inl (κ 1, 20, .inl (zc y_rTold))), ((y 23), .inl (κ 1, 20, .inl (zc y_rOf))), ((y 24), .inl (κ 1, 20, .inl (zc y_rEntry))), ((y 25), .inl (κ 3, 429, .inl (zc y_fits))), ((y 26), .inl (κ 1, 6400, .inl (zc y_heaps)))]) (X1 := zLY κ y (o2.2) y_size y_sort y_at y_end y_number y_faultKind y_faultPlace y_word y_corners y_lines y_linesFor y_listMany y_listCorners y_own y_newCorners y_newCut y_wayLeft y_flipOne y_flipTwo y_passedMany y_rowMany y_mendedBy y_crossMany y_periodMany y_seenMany y_rightMany y_lastTold y_tape y_numberOf y_lesser y_greater y_list y_tA y_tB y_tC y_from y_wayAt y_far y_queue y_passedBy y_told y_crossLine y_crossFar y_period y_sTold y_sOne y_sTwo y_sEntry y_rTold y_rOf y_rEntry y_fits y_heaps) (va_runV (rest := []) ⟨hx, hb, hml, hown, hts⟩ (zc_X11_end l D κ y H.size y_taped y_size y_sort y_at y_end y_number y_faultKind y_faultPlace y_word y_corners y_lines y_linesFor y_listMany y_listCorners y_own y_newCorners y_newCut y_wayLeft y_flipOne y_flipTwo y_passedMany y_rowMany y_mendedBy y_crossMany y_periodMany y_seenMany y_rightMany y_lastTold (zX xs (i + 1)) o2 ho2) (cwV 1 hts gL_law_X11_end rfl rfl rfl (by decide +kernel) ⟨Nat.le_of_ble_eq_true rfl, Nat.le_of_ble_eq_true rfl⟩) (zpreWV hK (hPy.sub [0] rfl) ((zD_left (zD_swap hD)).sub [0] (by decide) rfl) 11 0 rfl rfl) rfl rfl hl.1 rfl (lv_room (Nat.le_of_ble_eq_true rfl)) dL_law_279 hroom) hPy hPx (zD_swap hD) hS hB hZy hZx hA [0] [1, 2, 3, 4, 5, 6, 7, 8, 9, 10, 11, 12, 13, 14, 15, 16, 17, 18, 19, 20, 21, 22, 23, 24, 25, 26] [26, 0, 1, 2, 3, 4, 5, 6, 7, 8, 9, 10, 11, 12, 13, 14, 15, 16, 17, 18, 19, 20, 21, 22, 23, 24, 25] rfl rfl (by decide) (by decide) rfl rfl (by decide) (zLY_f.trans zLY_f.symm) (fun H locs hPy hPx hD hS hB hZy hZx => ?_)
  have hD := zD_swap hD
  refine lv_pop hx hb dL_law_282 rfl ?_
  refine lv_goto (tgt := 1306) hx hb dL_law_283 (by decide) ?_
  exact kk H locs hPx hPy hD hS hB hZx hZy
set_option maxHeartbeats 4000000 in
set_option maxRecDepth 100000 in
theorem zo_3 {p : Program} {l : Launch} {e : Env} {s : State} {m : MethodId} {args : Array Value} {below : List Frame} {meth : Method} {c : Code} {Q : State → Prop} {D : va_G} {κ : Nat → ClassId} {A : Nat → Prop} {H0 : Heap} {b L : Nat} {xs : Nat → Int32} {cells slots : Nat} (x y : Nat → Nat) (mk : Nat) (ad : Nat → Nat → Nat) (x_polygon : Nat) (x_bits : Int) (x_mendedNumber : Int) (tape_length : Int) (tape_next : Int) (tape_kind : Int) (tape_place : Int) (tape_value : Int) (tape_bytes : Nat) (text_faultKind : Int) (text_faultPlace : Int) (text_expected : Int) (text_first : Int) (text_polygon : Nat) (text_bits : Int) (triangles_count : Int) (triangles_polygon : Nat) (triangles_from : Int) (triangles_length : Int) (triangles_waysAhead : Int) (triangles_cornersOf : Nat) (triangles_chosen : Nat) (crossedLines_size : Int) (crossedLines_lines : Nat) (flips_wayLength : Int) (flips_queued : Int) (flips_steps : Nat) (flips_queue : Nat) (flips_way : Nat) (endless_size : Int) (endless_numbers : Nat) (sightings_size : Int) (sightings_rights : Int) (sightings_latest : Int) (sightings_seenStep : Nat) (sightings_seenFrom : Nat) (sightings_seenTo : Nat) (sightings_seenValue : Nat) (sightings_timesRight : Nat) (sightings_rightStep : Nat) (sightings_rightOf : Nat) (sightings_rightValue : Nat) (sightings_knownValue : Nat) (fitting_size : Int) (fitting_numbers : Nat) (fitting_tally : Nat) (x_toldRow : Nat) (y_taped : Int) (y_size : Int) (y_sort : Int) (y_at : Int) (y_end : Int) (y_number : Int) (y_faultKind : Int) (y_faultPlace : Int) (y_word : Int) (y_corners : Int) (y_lines : Int) (y_linesFor : Int) (y_listMany : Int) (y_listCorners : Int) (y_own : Int) (y_newCorners : Int) (y_newCut : Int) (y_wayLeft : Int) (y_flipOne : Int) (y_flipTwo : Int) (y_passedMany : Int) (y_rowMany : Int) (y_mendedBy : Int) (y_crossMany : Int) (y_periodMany : Int) (y_seenMany : Int) (y_rightMany : Int) (y_lastTold : Int) (y_tape : Nat) (y_numberOf : Nat) (y_lesser : Nat) (y_greater : Nat) (y_list : Nat) (y_tA : Nat) (y_tB : Nat) (y_tC : Nat) (y_from : Nat) (y_wayAt : Nat) (y_far : Nat) (y_queue : Nat) (y_passedBy : Nat) (y_told : Nat) (y_crossLine : Nat) (y_crossFar : Nat) (y_period : Nat) (y_sTold : Nat) (y_sOne : Nat) (y_sTwo : Nat) (y_sEntry : Nat) (y_rTold : Nat) (y_rOf : Nat) (y_rEntry : Nat) (y_fits : Nat) (y_heaps : Nat) (hx : p.tables.exec = Jvm.exec) (hb : c.code = cL_law) (hml : c.maxLocals = 4) (hown : s.vm.findClass RL = some m.cls) (hts : ∀ w ∈ wsL_law, w.before args s = true) (hK : va_K D vwCl (zTY κ) s) (hA : ∀ q : Nat, H0.size ≤ q → A q) (hX : va_X b L xs s H0) (hbl : b < H0.size) (hbA : ¬ A b) (hL : L ≤ 3072) (hroom : cells ≤ room_1.cells ∧ slots ≤ room_1.slots) (i : Nat) (hi : i + 6 ≤ L) (H : Heap) (locs : List Loc) (ls : Array Slot) (hPx : va_P D vwCl (zLX κ x mk ad x_polygon x_bits x_mendedNumber tape_length tape_next tape_kind tape_place tape_value tape_bytes text_faultKind text_faultPlace text_expected text_first text_polygon text_bits triangles_count triangles_polygon triangles_from triangles_length triangles_waysAhead triangles_cornersOf triangles_chosen crossedLines_size crossedLines_lines flips_wayLength flips_queued flips_steps flips_queue flips_way endless_size endless_numbers sightings_size sightings_rights sightings_latest sightings_seenStep sightings_seenFrom sightings_seenTo sightings_seenValue sightings_timesRight sightings_rightStep sightings_rightOf sightings_rightValue sightings_knownValue fitting_size fitting_numbers fitting_tally x_toldRow) H) (hPy : va_P D vwCl (zLY κ y y_taped y_size y_sort y_at y_end y_number y_faultKind y_faultPlace y_word y_corners y_lines y_linesFor y_listMany y_listCorners y_own y_newCorners y_newCut y_wayLeft y_flipOne y_flipTwo y_passedMany y_rowMany y_mendedBy y_crossMany y_periodMany y_seenMany y_rightMany y_lastTold y_tape y_numberOf y_lesser y_greater y_list y_tA y_tB y_tC y_from y_wayAt y_far y_queue y_passedBy y_told y_crossLine y_crossFar y_period y_sTold y_sOne y_sTwo y_sEntry y_rTold y_rOf y_rEntry y_fits y_heaps) H) (hD : va_D A (zLX κ x mk ad x_polygon x_bits x_mendedNumber tape_length tape_next tape_kind tape_place tape_value tape_bytes text_faultKind text_faultPlace text_expected text_first text_polygon text_bits triangles_count triangles_polygon triangles_from triangles_length triangles_waysAhead triangles_cornersOf triangles_chosen crossedLines_size crossedLines_lines flips_wayLength flips_queued flips_steps flips_queue flips_way endless_size endless_numbers sightings_size sightings_rights sightings_latest sightings_seenStep sightings_seenFrom sightings_seenTo sightings_seenValue sightings_timesRight sightings_rightStep sightings_rightOf sightings_rightValue sightings_knownValue fitting_size fitting_numbers fitting_tally x_toldRow ++ zLY κ y y_taped y_size y_sort y_at y_end y_number y_faultKind y_faultPlace y_word y_corners y_lines y_linesFor y_listMany y_listCorners y_own y_newCorners y_newCut y_wayLeft y_flipOne y_flipTwo y_passedMany y_rowMany y_mendedBy y_crossMany y_periodMany y_seenMany y_rightMany y_lastTold y_tape y_numberOf y_lesser y_greater y_list y_tA y_tB y_tC y_from y_wayAt y_far y_queue y_passedBy y_told y_crossLine y_crossFar y_period y_sTold y_sOne y_sTwo y_sEntry y_rTold y_rOf y_rEntry y_fits y_heaps)) (hS : va_S A H0 H locs) (hB : zAmb D κ mk ad H) (hZx : zSep mk ad (zLX κ x mk ad x_polygon x_bits x_mendedNumber tape_length tape_next tape_kind tape_place tape_value tape_bytes text_faultKind text_faultPlace text_expected text_first text_polygon text_bits triangles_count triangles_polygon triangles_from triangles_length triangles_waysAhead triangles_cornersOf triangles_chosen crossedLines_size crossedLines_lines flips_wayLength flips_queued flips_steps flips_queue flips_way endless_size endless_numbers sightings_size sightings_rights sightings_latest sightings_seenStep sightings_seenFrom sightings_seenTo sightings_seenValue sightings_timesRight sightings_rightStep sightings_rightOf sightings_rightValue sightings_knownValue fitting_size fitting_numbers fitting_tally x_toldRow) H.size) (hZy : zSep mk ad (zLY κ y y_taped y_size y_sort y_at y_end y_number y_faultKind y_faultPlace y_word y_corners y_lines y_linesFor y_listMany y_listCorners y_own y_newCorners y_newCut y_wayLeft y_flipOne y_flipTwo y_passedMany y_rowMany y_mendedBy y_crossMany y_periodMany y_seenMany y_rightMany y_lastTold y_tape y_numberOf y_lesser y_greater y_list y_tA y_tB y_tC y_from y_wayAt y_far y_queue y_passedBy y_told y_crossLine y_crossFar y_period y_sTold y_sOne y_sTwo y_sEntry y_rTold y_rOf y_rEntry y_fits y_heaps) H.size) (hl : lv_has ls 4 [(0, .ref b), (1, .ref (x 0)), (2, .ref (y 0)), (3, .int (zi (i : Int)))])  (o1 : Int) (ho1 : zf_X10_fault mk text_faultKind text_faultPlace (zX xs (i + 1)) = some o1) (o2 : Int) (ho2 : zf_X11_fault y_faultKind y_faultPlace (zX xs (i + 1)) = some o2) 
    (kk : ∀ (H : Heap) (locs : List Loc), va_P D vwCl (zLX κ x mk ad x_polygon x_bits x_mendedNumber tape_length tape_next tape_kind tape_place tape_value tape_bytes text_faultKind text_faultPlace text_expected text_first text_polygon text_bits triangles_count triangles_polygon triangles_from triangles_length triangles_waysAhead triangles_cornersOf triangles_chosen crossedLines_size crossedLines_lines flips_wayLength flips_queued flips_steps flips_queue flips_way endless_size endless_numbers sightings_size sightings_rights sightings_latest sightings_seenStep sightings_seenFrom sightings_seenTo sightings_seenValue sightings_timesRight sightings_rightStep sightings_rightOf sightings_rightValue sightings_knownValue fitting_size fitting_numbers fitting_tally x_toldRow) H → va_P D vwCl (zLY κ y y_taped y_size y_sort y_at y_end y_number y_faultKind y_faultPlace y_word y_corners y_lines y_linesFor y_listMany y_listCorners y_own y_newCorners y_newCut y_wayLeft y_flipOne y_flipTwo y_passedMany y_rowMany y_mendedBy y_crossMany y_periodMany y_seenMany y_rightMany y_lastTold y_tape y_numberOf y_lesser y_greater y_list y_tA y_tB y_tC y_from y_wayAt y_far y_queue y_passedBy y_told y_crossLine y_crossFar y_period y_sTold y_sOne y_sTwo y_sEntry y_rTold y_rOf y_rEntry y_fits y_heaps) H → va_D A (zLX κ x mk ad x_polygon x_bits x_mendedNumber tape_length tape_next tape_kind tape_place tape_value tape_bytes text_faultKind text_faultPlace text_expected text_first text_polygon text_bits triangles_count triangles_polygon triangles_from triangles_length triangles_waysAhead triangles_cornersOf triangles_chosen crossedLines_size crossedLines_lines flips_wayLength flips_queued flips_steps flips_queue flips_way endless_size endless_numbers sightings_size sightings_rights sightings_latest sightings_seenStep sightings_seenFrom sightings_seenTo sightings_seenValue sightings_timesRight sightings_rightStep sightings_rightOf sightings_rightValue sightings_knownValue fitting_size fitting_numbers fitting_tally x_toldRow ++ zLY κ y y_taped y_size y_sort y_at y_end y_number y_faultKind y_faultPlace y_word y_corners y_lines y_linesFor y_listMany y_listCorners y_own y_newCorners y_newCut y_wayLeft y_flipOne y_flipTwo y_passedMany y_rowMany y_mendedBy y_crossMany y_periodMany y_seenMany y_rightMany y_lastTold y_tape y_numberOf y_lesser y_greater y_list y_tA y_tB y_tC y_from y_wayAt y_far y_queue y_passedBy y_told y_crossLine y_crossFar y_period y_sTold y_sOne y_sTwo y_sEntry y_rTold y_rOf y_rEntry y_fits y_heaps) → va_S A H0 H locs → zAmb D κ mk ad H → zSep mk ad (zLX κ x mk ad x_polygon x_bits x_mendedNumber tape_length tape_next tape_kind tape_place tape_value tape_bytes text_faultKind text_faultPlace text_expected text_first text_polygon text_bits triangles_count triangles_polygon triangles_from triangles_length triangles_waysAhead triangles_cornersOf triangles_chosen crossedLines_size crossedLines_lines flips_wayLength flips_queued flips_steps flips_queue flips_way endless_size endless_numbers sightings_size sightings_rights sightings_latest sightings_seenStep sightings_seenFrom sightings_seenTo sightings_seenValue sightings_timesRight sightings_rightStep sightings_rightOf sightings_rightValue sightings_knownValue fitting_size fitting_numbers fitting_tally x_toldRow) H.size → zSep mk ad (zLY κ y y_taped y_size y_sort y_at y_end y_number y_faultKind y_faultPlace y_word y_corners y_lines y_linesFor y_listMany y_listCorners y_own y_newCorners y_newCut y_wayLeft y_flipOne y_flipTwo y_passedMany y_rowMany y_mendedBy y_crossMany y_periodMany y_seenMany y_rightMany y_lastTold y_tape y_numberOf y_lesser y_greater y_list y_tA y_tB y_tC y_from y_wayAt y_far y_queue y_passedBy y_told y_crossLine y_crossFar y_period y_sTold y_sOne y_sTwo y_sEntry y_rTold y_rOf y_rEntry y_fits y_heaps) H.size → W p l e room_1 s m args below meth c H locs cells slots Q (F0 m 1306 ls [])) : W p l e room_1 s m args below meth c H locs cells slots Q (F0 m 299 ls []) := by
  refine lv_aload_n hx hb dL_law_299 rfl (lv_at hl 1 rfl) ?_
  refine lv_aload_n hx hb dL_law_300 rfl (lv_at hl 0 rfl) ?_
  refine lv_iload_n hx hb dL_law_301 rfl (lv_at hl 3 rfl) ?_
  refine zv_iconst hx hb dL_law_302 ?_
  refine zv_iadd hx hb dL_law_303 ?_
  refine zv_sld hx hb hX hbl hbA hS (i + 1) (by omega) (by omega) hL dL_law_304 ?_
  refine zc_vi (rest := []) ⟨hx, hb, hml, hown, hts⟩ (zc_X10_fault l D κ x mk ad x_polygon x_bits x_mendedNumber text_faultKind text_faultPlace text_expected text_first text_polygon text_bits (zX xs (i + 1)) o1 ho1) (cwV 1 hts gL_law_X10_fault rfl rfl rfl (by decide +kernel) ⟨Nat.le_of_ble_eq_true rfl, Nat.le_of_ble_eq_true rfl⟩) (zpreVa hK (hPx.sub [0, 5] rfl) hB 10 0 rfl rfl) rfl hl.1 rfl (Nat.le_of_ble_eq_true rfl) dL_law_305 hroom ?_
  refine lv_pop hx hb dL_law_308 rfl ?_
  refine lv_aload_n hx hb dL_law_309 rfl (lv_at hl 2 rfl) ?_
  refine lv_aload_n hx hb dL_law_310 rfl (lv_at hl 0 rfl) ?_
  refine lv_iload_n hx hb dL_law_311 rfl (lv_at hl 3 rfl) ?_
  refine zv_iconst hx hb dL_law_312 ?_
  refine zv_iadd hx hb dL_law_313 ?_
  refine zv_sld hx hb hX hbl hbA hS (i + 1) (by omega) (by omega) hL dL_law_314 ?_
  refine zc_vi (rest := []) ⟨hx, hb, hml, hown, hts⟩ (zc_X11_fault l D κ y y_taped y_size y_sort y_at y_end y_number y_faultKind y_faultPlace y_word y_corners y_lines y_linesFor y_listMany y_listCorners y_own y_newCorners y_newCut y_wayLeft y_flipOne y_flipTwo y_passedMany y_rowMany y_mendedBy y_crossMany y_periodMany y_seenMany y_rightMany y_lastTold (zX xs (i + 1)) o2 ho2) (cwV 1 hts gL_law_X11_fault rfl rfl rfl (by decide +kernel) ⟨Nat.le_of_ble_eq_true rfl, Nat.le_of_ble_eq_true rfl⟩) (zpreV hK (hPy.sub [0] rfl) 11 0 rfl rfl) rfl hl.1 rfl (Nat.le_of_ble_eq_true rfl) dL_law_315 hroom ?_
  refine lv_pop hx hb dL_law_318 rfl ?_
  refine lv_goto (tgt := 1306) hx hb dL_law_319 (by decide) ?_
  exact kk H locs hPx hPy hD hS hB hZx hZy
set_option maxHeartbeats 4000000 in
set_option maxRecDepth 100000 in
theorem zo_5 {p : Program} {l : Launch} {e : Env} {s : State} {m : MethodId} {args : Array Value} {below : List Frame} {meth : Method} {c : Code} {Q : State → Prop} {D : va_G} {κ : Nat → ClassId} {A : Nat → Prop} {H0 : Heap} {b L : Nat} {xs : Nat → Int32} {cells slots : Nat} (x y : Nat → Nat) (mk : Nat) (ad : Nat → Nat → Nat) (x_polygon : Nat) (x_bits : Int) (x_mendedNumber : Int) (tape_length : Int) (tape_next : Int) (tape_kind : Int) (tape_place : Int) (tape_value : Int) (tape_bytes : Nat) (text_faultKind : Int) (text_faultPlace : Int) (text_expected : Int) (text_first : Int) (text_polygon : Nat) (text_bits : Int) (triangles_count : Int) (triangles_polygon : Nat) (triangles_from : Int) (triangles_length : Int) (triangles_waysAhead : Int) (triangles_cornersOf : Nat) (triangles_chosen : Nat) (crossedLines_size : Int) (crossedLines_lines : Nat) (flips_wayLength : Int) (flips_queued : Int) (flips_steps : Nat) (flips_queue : Nat) (flips_way : Nat) (endless_size : Int) (endless_numbers : Nat) (sightings_size : Int) (sightings_rights : Int) (sightings_latest : Int) (sightings_seenStep : Nat) (sightings_seenFrom : Nat) (sightings_seenTo : Nat) (sightings_seenValue : Nat) (sightings_timesRight : Nat) (sightings_rightStep : Nat) (sightings_rightOf : Nat) (sightings_rightValue : Nat) (sightings_knownValue : Nat) (fitting_size : Int) (fitting_numbers : Nat) (fitting_tally : Nat) (x_toldRow : Nat) (y_taped : Int) (y_size : Int) (y_sort : Int) (y_at : Int) (y_end : Int) (y_number : Int) (y_faultKind : Int) (y_faultPlace : Int) (y_word : Int) (y_corners : Int) (y_lines : Int) (y_linesFor : Int) (y_listMany : Int) (y_listCorners : Int) (y_own : Int) (y_newCorners : Int) (y_newCut : Int) (y_wayLeft : Int) (y_flipOne : Int) (y_flipTwo : Int) (y_passedMany : Int) (y_rowMany : Int) (y_mendedBy : Int) (y_crossMany : Int) (y_periodMany : Int) (y_seenMany : Int) (y_rightMany : Int) (y_lastTold : Int) (y_tape : Nat) (y_numberOf : Nat) (y_lesser : Nat) (y_greater : Nat) (y_list : Nat) (y_tA : Nat) (y_tB : Nat) (y_tC : Nat) (y_from : Nat) (y_wayAt : Nat) (y_far : Nat) (y_queue : Nat) (y_passedBy : Nat) (y_told : Nat) (y_crossLine : Nat) (y_crossFar : Nat) (y_period : Nat) (y_sTold : Nat) (y_sOne : Nat) (y_sTwo : Nat) (y_sEntry : Nat) (y_rTold : Nat) (y_rOf : Nat) (y_rEntry : Nat) (y_fits : Nat) (y_heaps : Nat) (hx : p.tables.exec = Jvm.exec) (hb : c.code = cL_law) (hml : c.maxLocals = 4) (hown : s.vm.findClass RL = some m.cls) (hts : ∀ w ∈ wsL_law, w.before args s = true) (hK : va_K D vwCl (zTY κ) s) (hA : ∀ q : Nat, H0.size ≤ q → A q) (hX : va_X b L xs s H0) (hbl : b < H0.size) (hbA : ¬ A b) (hL : L ≤ 3072) (hroom : cells ≤ room_1.cells ∧ slots ≤ room_1.slots) (i : Nat) (hi : i + 6 ≤ L) (H : Heap) (locs : List Loc) (ls : Array Slot) (hPx : va_P D vwCl (zLX κ x mk ad x_polygon x_bits x_mendedNumber tape_length tape_next tape_kind tape_place tape_value tape_bytes text_faultKind text_faultPlace text_expected text_first text_polygon text_bits triangles_count triangles_polygon triangles_from triangles_length triangles_waysAhead triangles_cornersOf triangles_chosen crossedLines_size crossedLines_lines flips_wayLength flips_queued flips_steps flips_queue flips_way endless_size endless_numbers sightings_size sightings_rights sightings_latest sightings_seenStep sightings_seenFrom sightings_seenTo sightings_seenValue sightings_timesRight sightings_rightStep sightings_rightOf sightings_rightValue sightings_knownValue fitting_size fitting_numbers fitting_tally x_toldRow) H) (hPy : va_P D vwCl (zLY κ y y_taped y_size y_sort y_at y_end y_number y_faultKind y_faultPlace y_word y_corners y_lines y_linesFor y_listMany y_listCorners y_own y_newCorners y_newCut y_wayLeft y_flipOne y_flipTwo y_passedMany y_rowMany y_mendedBy y_crossMany y_periodMany y_seenMany y_rightMany y_lastTold y_tape y_numberOf y_lesser y_greater y_list y_tA y_tB y_tC y_from y_wayAt y_far y_queue y_passedBy y_told y_crossLine y_crossFar y_period y_sTold y_sOne y_sTwo y_sEntry y_rTold y_rOf y_rEntry y_fits y_heaps) H) (hD : va_D A (zLX κ x mk ad x_polygon x_bits x_mendedNumber tape_length tape_next tape_kind tape_place tape_value tape_bytes text_faultKind text_faultPlace text_expected text_first text_polygon text_bits triangles_count triangles_polygon triangles_from triangles_length triangles_waysAhead triangles_cornersOf triangles_chosen crossedLines_size crossedLines_lines flips_wayLength flips_queued flips_steps flips_queue flips_way endless_size endless_numbers sightings_size sightings_rights sightings_latest sightings_seenStep sightings_seenFrom sightings_seenTo sightings_seenValue sightings_timesRight sightings_rightStep sightings_rightOf sightings_rightValue sightings_knownValue fitting_size fitting_numbers fitting_tally x_toldRow ++ zLY κ y y_taped y_size y_sort y_at y_end y_number y_faultKind y_faultPlace y_word y_corners y_lines y_linesFor y_listMany y_listCorners y_own y_newCorners y_newCut y_wayLeft y_flipOne y_flipTwo y_passedMany y_rowMany y_mendedBy y_crossMany y_periodMany y_seenMany y_rightMany y_lastTold y_tape y_numberOf y_lesser y_greater y_list y_tA y_tB y_tC y_from y_wayAt y_far y_queue y_passedBy y_told y_crossLine y_crossFar y_period y_sTold y_sOne y_sTwo y_sEntry y_rTold y_rOf y_rEntry y_fits y_heaps)) (hS : va_S A H0 H locs) (hB : zAmb D κ mk ad H) (hZx : zSep mk ad (zLX κ x mk ad x_polygon x_bits x_mendedNumber tape_length tape_next tape_kind tape_place tape_value tape_bytes text_faultKind text_faultPlace text_expected text_first text_polygon text_bits triangles_count triangles_polygon triangles_from triangles_length triangles_waysAhead triangles_cornersOf triangles_chosen crossedLines_size crossedLines_lines flips_wayLength flips_queued flips_steps flips_queue flips_way endless_size endless_numbers sightings_size sightings_rights sightings_latest sightings_seenStep sightings_seenFrom sightings_seenTo sightings_seenValue sightings_timesRight sightings_rightStep sightings_rightOf sightings_rightValue sightings_knownValue fitting_size fitting_numbers fitting_tally x_toldRow) H.size) (hZy : zSep mk ad (zLY κ y y_taped y_size y_sort y_at y_end y_number y_faultKind y_faultPlace y_word y_corners y_lines y_linesFor y_listMany y_listCorners y_own y_newCorners y_newCut y_wayLeft y_flipOne y_flipTwo y_passedMany y_rowMany y_mendedBy y_crossMany y_periodMany y_seenMany y_rightMany y_lastTold y_tape y_numberOf y_lesser y_greater y_list y_tA y_tB y_tC y_from y_wayAt y_far y_queue y_passedBy y_told y_crossLine y_crossFar y_period y_sTold y_sOne y_sTwo y_sEntry y_rTold y_rOf y_rEntry y_fits y_heaps) H.size) (hl : lv_has ls 4 [(0, .ref b), (1, .ref (x 0)), (2, .ref (y 0)), (3, .int (zi (i : Int)))])  (o1 : Int) (ho1 : zf_X10_told mk x_polygon x_bits endless_size (zX xs (i + 1)) = some o1) (o2 : Int × Int × Int × Int × Int × Nat × Nat × Nat × Nat) (ho2 : zf_X11_told y_corners y_lines y_linesFor y_listMany y_listCorners y_own y_periodMany y_numberOf y_lesser y_greater y_list (zX xs (i + 1)) = some o2) 
    (kk : ∀ (H : Heap) (locs : List Loc), va_P D vwCl (zLX κ x mk ad x_polygon x_bits x_mendedNumber tape_length tape_next tape_kind tape_place tape_value tape_bytes text_faultKind text_faultPlace text_expected text_first text_polygon text_bits triangles_count triangles_polygon triangles_from triangles_length triangles_waysAhead triangles_cornersOf triangles_chosen crossedLines_size crossedLines_lines flips_wayLength flips_queued flips_steps flips_queue flips_way endless_size endless_numbers sightings_size sightings_rights sightings_latest sightings_seenStep sightings_seenFrom sightings_seenTo sightings_seenValue sightings_timesRight sightings_rightStep sightings_rightOf sightings_rightValue sightings_knownValue fitting_size fitting_numbers fitting_tally x_toldRow) H → va_P D vwCl (zLY κ y y_taped y_size y_sort y_at y_end y_number y_faultKind y_faultPlace y_word y_corners (o2.2.1) (o2.2.2.1) (o2.2.2.2.1) (o2.2.2.2.2.1) y_own y_newCorners y_newCut y_wayLeft y_flipOne y_flipTwo y_passedMany y_rowMany y_mendedBy y_crossMany y_periodMany y_seenMany y_rightMany y_lastTold y_tape (o2.2.2.2.2.2.1) (o2.2.2.2.2.2.2.1) (o2.2.2.2.2.2.2.2.1) (o2.2.2.2.2.2.2.2.2) y_tA y_tB y_tC y_from y_wayAt y_far y_queue y_passedBy y_told y_crossLine y_crossFar y_period y_sTold y_sOne y_sTwo y_sEntry y_rTold y_rOf y_rEntry y_fits y_heaps) H → va_D A (zLX κ x mk ad x_polygon x_bits x_mendedNumber tape_length tape_next tape_kind tape_place tape_value tape_bytes text_faultKind text_faultPlace text_expected text_first text_polygon text_bits triangles_count triangles_polygon triangles_from triangles_length triangles_waysAhead triangles_cornersOf triangles_chosen crossedLines_size crossedLines_lines flips_wayLength flips_queued flips_steps flips_queue flips_way endless_size endless_numbers sightings_size sightings_rights sightings_latest sightings_seenStep sightings_seenFrom sightings_seenTo sightings_seenValue sightings_timesRight sightings_rightStep sightings_rightOf sightings_rightValue sightings_knownValue fitting_size fitting_numbers fitting_tally x_toldRow ++ zLY κ y y_taped y_size y_sort y_at y_end y_number y_faultKind y_faultPlace y_word y_corners (o2.2.1) (o2.2.2.1) (o2.2.2.2.1) (o2.2.2.2.2.1) y_own y_newCorners y_newCut y_wayLeft y_flipOne y_flipTwo y_passedMany y_rowMany y_mendedBy y_crossMany y_periodMany y_seenMany y_rightMany y_lastTold y_tape (o2.2.2.2.2.2.1) (o2.2.2.2.2.2.2.1) (o2.2.2.2.2.2.2.2.1) (o2.2.2.2.2.2.2.2.2) y_tA y_tB y_tC y_from y_wayAt y_far y_queue y_passedBy y_told y_crossLine y_crossFar y_period y_sTold y_sOne y_sTwo y_sEntry y_rTold y_rOf y_rEntry y_fits y_heaps) → va_S A H0 H locs → zAmb D κ mk ad H → zSep mk ad (zLX κ x mk ad x_polygon x_bits x_mendedNumber tape_length tape_next tape_kind tape_place tape_value tape_bytes text_faultKind text_faultPlace text_expected text_first text_polygon text_bits triangles_count triangles_polygon triangles_from triangles_length triangles_waysAhead triangles_cornersOf triangles_chosen crossedLines_size crossedLines_lines flips_wayLength flips_queued flips_steps flips_queue flips_way endless_size endless_numbers sightings_size sightings_rights sightings_latest sightings_seenStep sightings_seenFrom sightings_seenTo sightings_seenValue sightings_timesRight sightings_rightStep sightings_rightOf sightings_rightValue sightings_knownValue fitting_size fitting_numbers fitting_tally x_toldRow) H.size → zSep mk ad (zLY κ y y_taped y_size y_sort y_at y_end y_number y_faultKind y_faultPlace y_word y_corners (o2.2.1) (o2.2.2.1) (o2.2.2.2.1) (o2.2.2.2.2.1) y_own y_newCorners y_newCut y_wayLeft y_flipOne y_flipTwo y_passedMany y_rowMany y_mendedBy y_crossMany y_periodMany y_seenMany y_rightMany y_lastTold y_tape (o2.2.2.2.2.2.1) (o2.2.2.2.2.2.2.1) (o2.2.2.2.2.2.2.2.1) (o2.2.2.2.2.2.2.2.2) y_tA y_tB y_tC y_from y_wayAt y_far y_queue y_passedBy y_told y_crossLine y_crossFar y_period y_sTold y_sOne y_sTwo y_sEntry y_rTold y_rOf y_rEntry y_fits y_heaps) H.size → W p l e room_1 s m args below meth c H locs cells slots Q (F0 m 1306 ls [])) : W p l e room_1 s m args below meth c H locs cells slots Q (F0 m 355 ls []) := by
  refine lv_aload_n hx hb dL_law_355 rfl (lv_at hl 1 rfl) ?_
  refine lv_aload_n hx hb dL_law_356 rfl (lv_at hl 0 rfl) ?_
  refine lv_iload_n hx hb dL_law_357 rfl (lv_at hl 3 rfl) ?_
  refine zv_iconst hx hb dL_law_358 ?_
  refine zv_iadd hx hb dL_law_359 ?_
  refine zv_sld hx hb hX hbl hbA hS (i + 1) (by omega) (by omega) hL dL_law_360 ?_
  refine zc_vi (rest := []) ⟨hx, hb, hml, hown, hts⟩ (zc_X10_told l D κ x mk ad x_polygon x_bits x_mendedNumber endless_size endless_numbers (zX xs (i + 1)) o1 ho1) (cwV 1 hts gL_law_X10_told rfl rfl rfl (by decide +kernel) ⟨Nat.le_of_ble_eq_true rfl, Nat.le_of_ble_eq_true rfl⟩) (zpreVa hK (hPx.sub [0, 15, 16] rfl) hB 10 0 rfl rfl) rfl hl.1 rfl (Nat.le_of_ble_eq_true rfl) dL_law_361 hroom ?_
  refine lv_pop hx hb dL_law_364 rfl ?_
  refine lv_aload_n hx hb dL_law_365 rfl (lv_at hl 2 rfl) ?_
  refine lv_aload_n hx hb dL_law_366 rfl (lv_at hl 0 rfl) ?_
  refine lv_iload_n hx hb dL_law_367 rfl (lv_at hl 3 rfl) ?_
  refine zv_iconst hx hb dL_law_368 ?_
  refine zv_iadd hx hb dL_law_369 ?_
  refine zv_sld hx hb hX hbl hbA hS (i + 1) (by omega) (by omega) hL dL_law_370 ?_
  refine zjx_i (wr := [((y 1), .inl (κ 0, 300, .inl (zc y_tape))), ((y 6), .inl (κ 1, 8, .inl (zc y_tA))), ((y 7), .inl (κ 1, 8, .inl (zc y_tB))), ((y 8), .inl (κ 1, 8, .inl (zc y_tC))), ((y 9), .inl (κ 1, 10, .inl (zc y_from))), ((y 10), .inl (κ 1, 10, .inl (zc y_wayAt))), ((y 11), .inl (κ 1, 429, .inl (zc y_far))), ((y 12), .inl (κ 1, 429, .inl (zc y_queue))), ((y 13), .inl (κ 1, 64, .inl (zc y_passedBy))), ((y 14), .inl (κ 1, 10, .inl (zc y_told))), ((y 15), .inl (κ 1, 7, .inl (zc y_crossLine))), ((y 16), .inl (κ 1, 7, .inl (zc y_crossFar))), ((y 17), .inl (κ 1, 11, .inl (zc y_period))), ((y 18), .inl (κ 1, 20, .inl (zc y_sTold))), ((y 19), .inl (κ 1, 20, .inl (zc y_sOne))), ((y 20), .inl (κ 1, 20, .inl (zc y_sTwo))), ((y 21), .inl (κ 1, 20, .inl (zc y_sEntry))), ((y 22), .inl (κ 1, 20, .inl (zc y_rTold))), ((y 23), .inl (κ 1, 20, .inl (zc y_rOf))), ((y 24), .inl (κ 1, 20, .inl (zc y_rEntry))), ((y 25), .inl (κ 3, 429, .inl (zc y_fits))), ((y 26), .inl (κ 1, 6400, .inl (zc y_heaps)))]) (X1 := zLY κ y y_taped y_size y_sort y_at y_end y_number y_faultKind y_faultPlace y_word y_corners (o2.2.1) (o2.2.2.1) (o2.2.2.2.1) (o2.2.2.2.2.1) y_own y_newCorners y_newCut y_wayLeft y_flipOne y_flipTwo y_passedMany y_rowMany y_mendedBy y_crossMany y_periodMany y_seenMany y_rightMany y_lastTold y_tape (o2.2.2.2.2.2.1) (o2.2.2.2.2.2.2.1) (o2.2.2.2.2.2.2.2.1) (o2.2.2.2.2.2.2.2.2) y_tA y_tB y_tC y_from y_wayAt y_far y_queue y_passedBy y_told y_crossLine y_crossFar y_period y_sTold y_sOne y_sTwo y_sEntry y_rTold y_rOf y_rEntry y_fits y_heaps) (va_runV (rest := []) ⟨hx, hb, hml, hown, hts⟩ (zc_X11_told l D κ y H.size y_taped y_size y_sort y_at y_end y_number y_faultKind y_faultPlace y_word y_corners y_lines y_linesFor y_listMany y_listCorners y_own y_newCorners y_newCut y_wayLeft y_flipOne y_flipTwo y_passedMany y_rowMany y_mendedBy y_crossMany y_periodMany y_seenMany y_rightMany y_lastTold y_numberOf y_lesser y_greater y_list (zX xs (i + 1)) o2 ho2) (cwV 1 hts gL_law_X11_told rfl rfl rfl (by decide +kernel) ⟨Nat.le_of_ble_eq_true rfl, Nat.le_of_ble_eq_true rfl⟩) (zpreWV hK (hPy.sub [0, 2, 3, 4, 5] rfl) ((zD_left (zD_swap hD)).sub [0, 2, 3, 4, 5] (by decide) rfl) 11 0 rfl rfl) rfl rfl hl.1 rfl (lv_room (Nat.le_of_ble_eq_true rfl)) dL_law_371 hroom) hPy hPx (zD_swap hD) hS hB hZy hZx hA [0, 2, 3, 4, 5] [1, 6, 7, 8, 9, 10, 11, 12, 13, 14, 15, 16, 17, 18, 19, 20, 21, 22, 23, 24, 25, 26] [22, 0, 23, 24, 25, 26, 1, 2, 3, 4, 5, 6, 7, 8, 9, 10, 11, 12, 13, 14, 15, 16, 17, 18, 19, 20, 21] rfl rfl (by decide) (by decide) rfl rfl (by decide) (zLY_f.trans zLY_f.symm) (fun H locs hPy hPx hD hS hB hZy hZx => ?_)
  have hD := zD_swap hD
  refine lv_pop hx hb dL_law_374 rfl ?_
  refine lv_goto (tgt := 1306) hx hb dL_law_375 (by decide) ?_
  exact kk H locs hPx hPy hD hS hB hZx hZy
set_option maxHeartbeats 4000000 in
set_option maxRecDepth 100000 in
theorem zo_6 {p : Program} {l : Launch} {e : Env} {s : State} {m : MethodId} {args : Array Value} {below : List Frame} {meth : Method} {c : Code} {Q : State → Prop} {D : va_G} {κ : Nat → ClassId} {A : Nat → Prop} {H0 : Heap} {b L : Nat} {xs : Nat → Int32} {cells slots : Nat} (x y : Nat → Nat) (mk : Nat) (ad : Nat → Nat → Nat) (x_polygon : Nat) (x_bits : Int) (x_mendedNumber : Int) (tape_length : Int) (tape_next : Int) (tape_kind : Int) (tape_place : Int) (tape_value : Int) (tape_bytes : Nat) (text_faultKind : Int) (text_faultPlace : Int) (text_expected : Int) (text_first : Int) (text_polygon : Nat) (text_bits : Int) (triangles_count : Int) (triangles_polygon : Nat) (triangles_from : Int) (triangles_length : Int) (triangles_waysAhead : Int) (triangles_cornersOf : Nat) (triangles_chosen : Nat) (crossedLines_size : Int) (crossedLines_lines : Nat) (flips_wayLength : Int) (flips_queued : Int) (flips_steps : Nat) (flips_queue : Nat) (flips_way : Nat) (endless_size : Int) (endless_numbers : Nat) (sightings_size : Int) (sightings_rights : Int) (sightings_latest : Int) (sightings_seenStep : Nat) (sightings_seenFrom : Nat) (sightings_seenTo : Nat) (sightings_seenValue : Nat) (sightings_timesRight : Nat) (sightings_rightStep : Nat) (sightings_rightOf : Nat) (sightings_rightValue : Nat) (sightings_knownValue : Nat) (fitting_size : Int) (fitting_numbers : Nat) (fitting_tally : Nat) (x_toldRow : Nat) (y_taped : Int) (y_size : Int) (y_sort : Int) (y_at : Int) (y_end : Int) (y_number : Int) (y_faultKind : Int) (y_faultPlace : Int) (y_word : Int) (y_corners : Int) (y_lines : Int) (y_linesFor : Int) (y_listMany : Int) (y_listCorners : Int) (y_own : Int) (y_newCorners : Int) (y_newCut : Int) (y_wayLeft : Int) (y_flipOne : Int) (y_flipTwo : Int) (y_passedMany : Int) (y_rowMany : Int) (y_mendedBy : Int) (y_crossMany : Int) (y_periodMany : Int) (y_seenMany : Int) (y_rightMany : Int) (y_lastTold : Int) (y_tape : Nat) (y_numberOf : Nat) (y_lesser : Nat) (y_greater : Nat) (y_list : Nat) (y_tA : Nat) (y_tB : Nat) (y_tC : Nat) (y_from : Nat) (y_wayAt : Nat) (y_far : Nat) (y_queue : Nat) (y_passedBy : Nat) (y_told : Nat) (y_crossLine : Nat) (y_crossFar : Nat) (y_period : Nat) (y_sTold : Nat) (y_sOne : Nat) (y_sTwo : Nat) (y_sEntry : Nat) (y_rTold : Nat) (y_rOf : Nat) (y_rEntry : Nat) (y_fits : Nat) (y_heaps : Nat) (hx : p.tables.exec = Jvm.exec) (hb : c.code = cL_law) (hml : c.maxLocals = 4) (hown : s.vm.findClass RL = some m.cls) (hts : ∀ w ∈ wsL_law, w.before args s = true) (hK : va_K D vwCl (zTY κ) s) (hA : ∀ q : Nat, H0.size ≤ q → A q) (hX : va_X b L xs s H0) (hbl : b < H0.size) (hbA : ¬ A b) (hL : L ≤ 3072) (hroom : cells ≤ room_1.cells ∧ slots ≤ room_1.slots) (i : Nat) (hi : i + 6 ≤ L) (H : Heap) (locs : List Loc) (ls : Array Slot) (hPx : va_P D vwCl (zLX κ x mk ad x_polygon x_bits x_mendedNumber tape_length tape_next tape_kind tape_place tape_value tape_bytes text_faultKind text_faultPlace text_expected text_first text_polygon text_bits triangles_count triangles_polygon triangles_from triangles_length triangles_waysAhead triangles_cornersOf triangles_chosen crossedLines_size crossedLines_lines flips_wayLength flips_queued flips_steps flips_queue flips_way endless_size endless_numbers sightings_size sightings_rights sightings_latest sightings_seenStep sightings_seenFrom sightings_seenTo sightings_seenValue sightings_timesRight sightings_rightStep sightings_rightOf sightings_rightValue sightings_knownValue fitting_size fitting_numbers fitting_tally x_toldRow) H) (hPy : va_P D vwCl (zLY κ y y_taped y_size y_sort y_at y_end y_number y_faultKind y_faultPlace y_word y_corners y_lines y_linesFor y_listMany y_listCorners y_own y_newCorners y_newCut y_wayLeft y_flipOne y_flipTwo y_passedMany y_rowMany y_mendedBy y_crossMany y_periodMany y_seenMany y_rightMany y_lastTold y_tape y_numberOf y_lesser y_greater y_list y_tA y_tB y_tC y_from y_wayAt y_far y_queue y_passedBy y_told y_crossLine y_crossFar y_period y_sTold y_sOne y_sTwo y_sEntry y_rTold y_rOf y_rEntry y_fits y_heaps) H) (hD : va_D A (zLX κ x mk ad x_polygon x_bits x_mendedNumber tape_length tape_next tape_kind tape_place tape_value tape_bytes text_faultKind text_faultPlace text_expected text_first text_polygon text_bits triangles_count triangles_polygon triangles_from triangles_length triangles_waysAhead triangles_cornersOf triangles_chosen crossedLines_size crossedLines_lines flips_wayLength flips_queued flips_steps flips_queue flips_way endless_size endless_numbers sightings_size sightings_rights sightings_latest sightings_seenStep sightings_seenFrom sightings_seenTo sightings_seenValue sightings_timesRight sightings_rightStep sightings_rightOf sightings_rightValue sightings_knownValue fitting_size fitting_numbers fitting_tally x_toldRow ++ zLY κ y y_taped y_size y_sort y_at y_end y_number y_faultKind y_faultPlace y_word y_corners y_lines y_linesFor y_listMany y_listCorners y_own y_newCorners y_newCut y_wayLeft y_flipOne y_flipTwo y_passedMany y_rowMany y_mendedBy y_crossMany y_periodMany y_seenMany y_rightMany y_lastTold y_tape y_numberOf y_lesser y_greater y_list y_tA y_tB y_tC y_from y_wayAt y_far y_queue y_passedBy y_told y_crossLine y_crossFar y_period y_sTold y_sOne y_sTwo y_sEntry y_rTold y_rOf y_rEntry y_fits y_heaps)) (hS : va_S A H0 H locs) (hB : zAmb D κ mk ad H) (hZx : zSep mk ad (zLX κ x mk ad x_polygon x_bits x_mendedNumber tape_length tape_next tape_kind tape_place tape_value tape_bytes text_faultKind text_faultPlace text_expected text_first text_polygon text_bits triangles_count triangles_polygon triangles_from triangles_length triangles_waysAhead triangles_cornersOf triangles_chosen crossedLines_size crossedLines_lines flips_wayLength flips_queued flips_steps flips_queue flips_way endless_size endless_numbers sightings_size sightings_rights sightings_latest sightings_seenStep sightings_seenFrom sightings_seenTo sightings_seenValue sightings_timesRight sightings_rightStep sightings_rightOf sightings_rightValue sightings_knownValue fitting_size fitting_numbers fitting_tally x_toldRow) H.size) (hZy : zSep mk ad (zLY κ y y_taped y_size y_sort y_at y_end y_number y_faultKind y_faultPlace y_word y_corners y_lines y_linesFor y_listMany y_listCorners y_own y_newCorners y_newCut y_wayLeft y_flipOne y_flipTwo y_passedMany y_rowMany y_mendedBy y_crossMany y_periodMany y_seenMany y_rightMany y_lastTold y_tape y_numberOf y_lesser y_greater y_list y_tA y_tB y_tC y_from y_wayAt y_far y_queue y_passedBy y_told y_crossLine y_crossFar y_period y_sTold y_sOne y_sTwo y_sEntry y_rTold y_rOf y_rEntry y_fits y_heaps) H.size) (hl : lv_has ls 4 [(0, .ref b), (1, .ref (x 0)), (2, .ref (y 0)), (3, .int (zi (i : Int)))])  (o1 : Int × Int × Nat) (ho1 : zf_X10_triangle mk x_polygon x_bits triangles_count triangles_cornersOf (zX xs (i + 1)) (zX xs (i + 2)) = some o1) (o2 : Int × Int × Int × Nat × Nat × Nat × Nat × Nat × Nat) (ho2 : zf_X11_triangle y_corners y_lines y_linesFor y_own y_numberOf y_lesser y_greater y_tA y_tB y_tC (zX xs (i + 1)) (zX xs (i + 2)) = some o2) 
    (kk : ∀ (H : Heap) (locs : List Loc), va_P D vwCl (zLX κ x mk ad x_polygon x_bits x_mendedNumber tape_length tape_next tape_kind tape_place tape_value tape_bytes text_faultKind text_faultPlace text_expected text_first text_polygon text_bits (o1.2.1) triangles_polygon triangles_from triangles_length triangles_waysAhead (o1.2.2) triangles_chosen crossedLines_size crossedLines_lines flips_wayLength flips_queued flips_steps flips_queue flips_way endless_size endless_numbers sightings_size sightings_rights sightings_latest sightings_seenStep sightings_seenFrom sightings_seenTo sightings_seenValue sightings_timesRight sightings_rightStep sightings_rightOf sightings_rightValue sightings_knownValue fitting_size fitting_numbers fitting_tally x_toldRow) H → va_P D vwCl (zLY κ y y_taped y_size y_sort y_at y_end y_number y_faultKind y_faultPlace y_word y_corners (o2.2.1) (o2.2.2.1) y_listMany y_listCorners y_own y_newCorners y_newCut y_wayLeft y_flipOne y_flipTwo y_passedMany y_rowMany y_mendedBy y_crossMany y_periodMany y_seenMany y_rightMany y_lastTold y_tape (o2.2.2.2.1) (o2.2.2.2.2.1) (o2.2.2.2.2.2.1) y_list (o2.2.2.2.2.2.2.1) (o2.2.2.2.2.2.2.2.1) (o2.2.2.2.2.2.2.2.2) y_from y_wayAt y_far y_queue y_passedBy y_told y_crossLine y_crossFar y_period y_sTold y_sOne y_sTwo y_sEntry y_rTold y_rOf y_rEntry y_fits y_heaps) H → va_D A (zLX κ x mk ad x_polygon x_bits x_mendedNumber tape_length tape_next tape_kind tape_place tape_value tape_bytes text_faultKind text_faultPlace text_expected text_first text_polygon text_bits (o1.2.1) triangles_polygon triangles_from triangles_length triangles_waysAhead (o1.2.2) triangles_chosen crossedLines_size crossedLines_lines flips_wayLength flips_queued flips_steps flips_queue flips_way endless_size endless_numbers sightings_size sightings_rights sightings_latest sightings_seenStep sightings_seenFrom sightings_seenTo sightings_seenValue sightings_timesRight sightings_rightStep sightings_rightOf sightings_rightValue sightings_knownValue fitting_size fitting_numbers fitting_tally x_toldRow ++ zLY κ y y_taped y_size y_sort y_at y_end y_number y_faultKind y_faultPlace y_word y_corners (o2.2.1) (o2.2.2.1) y_listMany y_listCorners y_own y_newCorners y_newCut y_wayLeft y_flipOne y_flipTwo y_passedMany y_rowMany y_mendedBy y_crossMany y_periodMany y_seenMany y_rightMany y_lastTold y_tape (o2.2.2.2.1) (o2.2.2.2.2.1) (o2.2.2.2.2.2.1) y_list (o2.2.2.2.2.2.2.1) (o2.2.2.2.2.2.2.2.1) (o2.2.2.2.2.2.2.2.2) y_from y_wayAt y_far y_queue y_passedBy y_told y_crossLine y_crossFar y_period y_sTold y_sOne y_sTwo y_sEntry y_rTold y_rOf y_rEntry y_fits y_heaps) → va_S A H0 H locs → zAmb D κ mk ad H → zSep mk ad (zLX κ x mk ad x_polygon x_bits x_mendedNumber tape_length tape_next tape_kind tape_place tape_value tape_bytes text_faultKind text_faultPlace text_expected text_first text_polygon text_bits (o1.2.1) triangles_polygon triangles_from triangles_length triangles_waysAhead (o1.2.2) triangles_chosen crossedLines_size crossedLines_lines flips_wayLength flips_queued flips_steps flips_queue flips_way endless_size endless_numbers sightings_size sightings_rights sightings_latest sightings_seenStep sightings_seenFrom sightings_seenTo sightings_seenValue sightings_timesRight sightings_rightStep sightings_rightOf sightings_rightValue sightings_knownValue fitting_size fitting_numbers fitting_tally x_toldRow) H.size → zSep mk ad (zLY κ y y_taped y_size y_sort y_at y_end y_number y_faultKind y_faultPlace y_word y_corners (o2.2.1) (o2.2.2.1) y_listMany y_listCorners y_own y_newCorners y_newCut y_wayLeft y_flipOne y_flipTwo y_passedMany y_rowMany y_mendedBy y_crossMany y_periodMany y_seenMany y_rightMany y_lastTold y_tape (o2.2.2.2.1) (o2.2.2.2.2.1) (o2.2.2.2.2.2.1) y_list (o2.2.2.2.2.2.2.1) (o2.2.2.2.2.2.2.2.1) (o2.2.2.2.2.2.2.2.2) y_from y_wayAt y_far y_queue y_passedBy y_told y_crossLine y_crossFar y_period y_sTold y_sOne y_sTwo y_sEntry y_rTold y_rOf y_rEntry y_fits y_heaps) H.size → W p l e room_1 s m args below meth c H locs cells slots Q (F0 m 1306 ls [])) : W p l e room_1 s m args below meth c H locs cells slots Q (F0 m 378 ls []) := by
  refine lv_aload_n hx hb dL_law_378 rfl (lv_at hl 1 rfl) ?_
  refine lv_aload_n hx hb dL_law_379 rfl (lv_at hl 0 rfl) ?_
  refine lv_iload_n hx hb dL_law_380 rfl (lv_at hl 3 rfl) ?_
  refine zv_iconst hx hb dL_law_381 ?_
  refine zv_iadd hx hb dL_law_382 ?_
  refine zv_sld hx hb hX hbl hbA hS (i + 1) (by omega) (by omega) hL dL_law_383 ?_
  refine lv_aload_n hx hb dL_law_384 rfl (lv_at hl 0 rfl) ?_
  refine lv_iload_n hx hb dL_law_385 rfl (lv_at hl 3 rfl) ?_
  refine zv_iconst hx hb dL_law_386 ?_
  refine zv_iadd hx hb dL_law_387 ?_
  refine zv_sld hx hb hX hbl hbA hS (i + 2) (by omega) (by omega) hL dL_law_388 ?_
  refine zjx_i (wr := [((x 1), .inr (8, [.ref (x 2), .int (zi tape_length), .int (zi tape_next), .int (zi tape_kind), .int (zi tape_place), .int (zi tape_value)])), ((x 2), .inl (κ 0, 300, .inl (zc tape_bytes))), ((x 3), .inr (6, [.ref (x 4)])), ((x 4), .inl (κ 4, 6, .inr (.inr (.inr (.inr (zmade mk ad)))))), ((x 5), .inr (1, [.int (zi text_faultKind), .int (zi text_faultPlace), .int (zi text_expected), .int (zi text_first), zpg ad text_polygon, .int (zi text_bits)])), ((x 9), .inr (0, [.ref (x 10), .int (zi crossedLines_size)])), ((x 10), .inl (κ 1, 27, .inl (zc crossedLines_lines))), ((x 11), .inr (4, [.ref (x 12), .ref (x 13), .ref (x 14), .int (zi flips_wayLength), .int (zi flips_queued)])), ((x 12), .inl (κ 1, 429, .inl (zc flips_steps))), ((x 13), .inl (κ 1, 429, .inl (zc flips_queue))), ((x 14), .inl (κ 1, 429, .inl (zc flips_way))), ((x 15), .inr (2, [.ref (x 16), .int (zi endless_size)])), ((x 16), .inl (κ 1, 10, .inl (zc endless_numbers))), ((x 17), .inr (7, [.ref (x 18), .ref (x 19), .ref (x 20), .ref (x 21), .ref (x 22), .ref (x 23), .ref (x 24), .ref (x 25), .ref (x 26), .int (zi sightings_size), .int (zi sightings_rights), .int (zi sightings_latest)])), ((x 18), .inl (κ 1, 20, .inl (zc sightings_seenStep))), ((x 19), .inl (κ 1, 20, .inl (zc sightings_seenFrom))), ((x 20), .inl (κ 1, 20, .inl (zc sightings_seenTo))), ((x 21), .inl (κ 1, 20, .inl (zc sightings_seenValue))), ((x 22), .inl (κ 1, 20, .inl (zc sightings_timesRight))), ((x 23), .inl (κ 1, 20, .inl (zc sightings_rightStep))), ((x 24), .inl (κ 1, 20, .inl (zc sightings_rightOf))), ((x 25), .inl (κ 1, 20, .inl (zc sightings_rightValue))), ((x 26), .inl (κ 1, 20, .inl (zc sightings_knownValue))), ((x 27), .inr (3, [.ref (x 28), .ref (x 29), .int (zi fitting_size)])), ((x 28), .inl (κ 1, 429, .inl (zc fitting_numbers))), ((x 29), .inl (κ 1, 22, .inl (zc fitting_tally))), ((x 30), .inl (κ 1, 10, .inl (zc x_toldRow)))]) (X1 := zLX κ x mk ad x_polygon x_bits x_mendedNumber tape_length tape_next tape_kind tape_place tape_value tape_bytes text_faultKind text_faultPlace text_expected text_first text_polygon text_bits (o1.2.1) triangles_polygon triangles_from triangles_length triangles_waysAhead (o1.2.2) triangles_chosen crossedLines_size crossedLines_lines flips_wayLength flips_queued flips_steps flips_queue flips_way endless_size endless_numbers sightings_size sightings_rights sightings_latest sightings_seenStep sightings_seenFrom sightings_seenTo sightings_seenValue sightings_timesRight sightings_rightStep sightings_rightOf sightings_rightValue sightings_knownValue fitting_size fitting_numbers fitting_tally x_toldRow) (va_runV (rest := []) ⟨hx, hb, hml, hown, hts⟩ (zc_X10_triangle l D κ x mk ad H.size x_polygon x_bits x_mendedNumber triangles_count triangles_polygon triangles_from triangles_length triangles_waysAhead triangles_cornersOf triangles_chosen (zX xs (i + 1)) (zX xs (i + 2)) o1 ho1) (cwV 2 hts gL_law_X10_triangle rfl rfl rfl (by decide +kernel) ⟨Nat.le_of_ble_eq_true rfl, Nat.le_of_ble_eq_true rfl⟩) (zpreWVa hK (hPx.sub [0, 6, 7, 8] rfl) ((zD_left hD).sub [0, 6, 7, 8] (by decide) rfl) hB (hZx.apt [0, 6, 7, 8] rfl) 10 0 rfl rfl) rfl rfl hl.1 rfl (lv_room (Nat.le_of_ble_eq_true rfl)) dL_law_389 hroom) hPx hPy hD hS hB hZx hZy hA [0, 6, 7, 8] [1, 2, 3, 4, 5, 9, 10, 11, 12, 13, 14, 15, 16, 17, 18, 19, 20, 21, 22, 23, 24, 25, 26, 27, 28, 29, 30] [27, 0, 1, 2, 3, 4, 28, 29, 30, 5, 6, 7, 8, 9, 10, 11, 12, 13, 14, 15, 16, 17, 18, 19, 20, 21, 22, 23, 24, 25, 26] rfl rfl (by decide) (by decide) rfl rfl (by decide) (zLX_f.trans zLX_f.symm) (fun H locs hPx hPy hD hS hB hZx hZy => ?_)
  refine lv_pop hx hb dL_law_392 rfl ?_
  refine lv_aload_n hx hb dL_law_393 rfl (lv_at hl 2 rfl) ?_
  refine lv_aload_n hx hb dL_law_394 rfl (lv_at hl 0 rfl) ?_
  refine lv_iload_n hx hb dL_law_395 rfl (lv_at hl 3 rfl) ?_
  refine zv_iconst hx hb dL_law_396 ?_
  refine zv_iadd hx hb dL_law_397 ?_
  refine zv_sld hx hb hX hbl hbA hS (i + 1) (by omega) (by omega) hL dL_law_398 ?_
  refine lv_aload_n hx hb dL_law_399 rfl (lv_at hl 0 rfl) ?_
  refine lv_iload_n hx hb dL_law_400 rfl (lv_at hl 3 rfl) ?_
  refine zv_iconst hx hb dL_law_401 ?_
  refine zv_iadd hx hb dL_law_402 ?_
  refine zv_sld hx hb hX hbl hbA hS (i + 2) (by omega) (by omega) hL dL_law_403 ?_
  refine zjx_i (wr := [((y 1), .inl (κ 0, 300, .inl (zc y_tape))), ((y 5), .inl (κ 2, 429, .inr (.inl (zcL y_list)))), ((y 9), .inl (κ 1, 10, .inl (zc y_from))), ((y 10), .inl (κ 1, 10, .inl (zc y_wayAt))), ((y 11), .inl (κ 1, 429, .inl (zc y_far))), ((y 12), .inl (κ 1, 429, .inl (zc y_queue))), ((y 13), .inl (κ 1, 64, .inl (zc y_passedBy))), ((y 14), .inl (κ 1, 10, .inl (zc y_told))), ((y 15), .inl (κ 1, 7, .inl (zc y_crossLine))), ((y 16), .inl (κ 1, 7, .inl (zc y_crossFar))), ((y 17), .inl (κ 1, 11, .inl (zc y_period))), ((y 18), .inl (κ 1, 20, .inl (zc y_sTold))), ((y 19), .inl (κ 1, 20, .inl (zc y_sOne))), ((y 20), .inl (κ 1, 20, .inl (zc y_sTwo))), ((y 21), .inl (κ 1, 20, .inl (zc y_sEntry))), ((y 22), .inl (κ 1, 20, .inl (zc y_rTold))), ((y 23), .inl (κ 1, 20, .inl (zc y_rOf))), ((y 24), .inl (κ 1, 20, .inl (zc y_rEntry))), ((y 25), .inl (κ 3, 429, .inl (zc y_fits))), ((y 26), .inl (κ 1, 6400, .inl (zc y_heaps)))]) (X1 := zLY κ y y_taped y_size y_sort y_at y_end y_number y_faultKind y_faultPlace y_word y_corners (o2.2.1) (o2.2.2.1) y_listMany y_listCorners y_own y_newCorners y_newCut y_wayLeft y_flipOne y_flipTwo y_passedMany y_rowMany y_mendedBy y_crossMany y_periodMany y_seenMany y_rightMany y_lastTold y_tape (o2.2.2.2.1) (o2.2.2.2.2.1) (o2.2.2.2.2.2.1) y_list (o2.2.2.2.2.2.2.1) (o2.2.2.2.2.2.2.2.1) (o2.2.2.2.2.2.2.2.2) y_from y_wayAt y_far y_queue y_passedBy y_told y_crossLine y_crossFar y_period y_sTold y_sOne y_sTwo y_sEntry y_rTold y_rOf y_rEntry y_fits y_heaps) (va_runV (rest := []) ⟨hx, hb, hml, hown, hts⟩ (zc_X11_triangle l D κ y H.size y_taped y_size y_sort y_at y_end y_number y_faultKind y_faultPlace y_word y_corners y_lines y_linesFor y_listMany y_listCorners y_own y_newCorners y_newCut y_wayLeft y_flipOne y_flipTwo y_passedMany y_rowMany y_mendedBy y_crossMany y_periodMany y_seenMany y_rightMany y_lastTold y_numberOf y_lesser y_greater y_tA y_tB y_tC (zX xs (i + 1)) (zX xs (i + 2)) o2 ho2) (cwV 2 hts gL_law_X11_triangle rfl rfl rfl (by decide +kernel) ⟨Nat.le_of_ble_eq_true rfl, Nat.le_of_ble_eq_true rfl⟩) (zpreWV hK (hPy.sub [0, 2, 3, 4, 6, 7, 8] rfl) ((zD_left (zD_swap hD)).sub [0, 2, 3, 4, 6, 7, 8] (by decide) rfl) 11 0 rfl rfl) rfl rfl hl.1 rfl (lv_room (Nat.le_of_ble_eq_true rfl)) dL_law_404 hroom) hPy hPx (zD_swap hD) hS hB hZy hZx hA [0, 2, 3, 4, 6, 7, 8] [1, 5, 9, 10, 11, 12, 13, 14, 15, 16, 17, 18, 19, 20, 21, 22, 23, 24, 25, 26] [20, 0, 21, 22, 23, 1, 24, 25, 26, 2, 3, 4, 5, 6, 7, 8, 9, 10, 11, 12, 13, 14, 15, 16, 17, 18, 19] rfl rfl (by decide) (by decide) rfl rfl (by decide) (zLY_f.trans zLY_f.symm) (fun H locs hPy hPx hD hS hB hZy hZx => ?_)
  have hD := zD_swap hD
  refine lv_pop hx hb dL_law_407 rfl ?_
  refine lv_goto (tgt := 1306) hx hb dL_law_408 (by decide) ?_
  exact kk H locs hPx hPy hD hS hB hZx hZy
set_option maxHeartbeats 4000000 in
set_option maxRecDepth 100000 in
theorem zo_7 {p : Program} {l : Launch} {e : Env} {s : State} {m : MethodId} {args : Array Value} {below : List Frame} {meth : Method} {c : Code} {Q : State → Prop} {D : va_G} {κ : Nat → ClassId} {A : Nat → Prop} {H0 : Heap} {b L : Nat} {xs : Nat → Int32} {cells slots : Nat} (x y : Nat → Nat) (mk : Nat) (ad : Nat → Nat → Nat) (x_polygon : Nat) (x_bits : Int) (x_mendedNumber : Int) (tape_length : Int) (tape_next : Int) (tape_kind : Int) (tape_place : Int) (tape_value : Int) (tape_bytes : Nat) (text_faultKind : Int) (text_faultPlace : Int) (text_expected : Int) (text_first : Int) (text_polygon : Nat) (text_bits : Int) (triangles_count : Int) (triangles_polygon : Nat) (triangles_from : Int) (triangles_length : Int) (triangles_waysAhead : Int) (triangles_cornersOf : Nat) (triangles_chosen : Nat) (crossedLines_size : Int) (crossedLines_lines : Nat) (flips_wayLength : Int) (flips_queued : Int) (flips_steps : Nat) (flips_queue : Nat) (flips_way : Nat) (endless_size : Int) (endless_numbers : Nat) (sightings_size : Int) (sightings_rights : Int) (sightings_latest : Int) (sightings_seenStep : Nat) (sightings_seenFrom : Nat) (sightings_seenTo : Nat) (sightings_seenValue : Nat) (sightings_timesRight : Nat) (sightings_rightStep : Nat) (sightings_rightOf : Nat) (sightings_rightValue : Nat) (sightings_knownValue : Nat) (fitting_size : Int) (fitting_numbers : Nat) (fitting_tally : Nat) (x_toldRow : Nat) (y_taped : Int) (y_size : Int) (y_sort : Int) (y_at : Int) (y_end : Int) (y_number : Int) (y_faultKind : Int) (y_faultPlace : Int) (y_word : Int) (y_corners : Int) (y_lines : Int) (y_linesFor : Int) (y_listMany : Int) (y_listCorners : Int) (y_own : Int) (y_newCorners : Int) (y_newCut : Int) (y_wayLeft : Int) (y_flipOne : Int) (y_flipTwo : Int) (y_passedMany : Int) (y_rowMany : Int) (y_mendedBy : Int) (y_crossMany : Int) (y_periodMany : Int) (y_seenMany : Int) (y_rightMany : Int) (y_lastTold : Int) (y_tape : Nat) (y_numberOf : Nat) (y_lesser : Nat) (y_greater : Nat) (y_list : Nat) (y_tA : Nat) (y_tB : Nat) (y_tC : Nat) (y_from : Nat) (y_wayAt : Nat) (y_far : Nat) (y_queue : Nat) (y_passedBy : Nat) (y_told : Nat) (y_crossLine : Nat) (y_crossFar : Nat) (y_period : Nat) (y_sTold : Nat) (y_sOne : Nat) (y_sTwo : Nat) (y_sEntry : Nat) (y_rTold : Nat) (y_rOf : Nat) (y_rEntry : Nat) (y_fits : Nat) (y_heaps : Nat) (hx : p.tables.exec = Jvm.exec) (hb : c.code = cL_law) (hml : c.maxLocals = 4) (hown : s.vm.findClass RL = some m.cls) (hts : ∀ w ∈ wsL_law, w.before args s = true) (hK : va_K D vwCl (zTY κ) s) (hA : ∀ q : Nat, H0.size ≤ q → A q) (hX : va_X b L xs s H0) (hbl : b < H0.size) (hbA : ¬ A b) (hL : L ≤ 3072) (hroom : cells ≤ room_1.cells ∧ slots ≤ room_1.slots) (i : Nat) (hi : i + 6 ≤ L) (H : Heap) (locs : List Loc) (ls : Array Slot) (hPx : va_P D vwCl (zLX κ x mk ad x_polygon x_bits x_mendedNumber tape_length tape_next tape_kind tape_place tape_value tape_bytes text_faultKind text_faultPlace text_expected text_first text_polygon text_bits triangles_count triangles_polygon triangles_from triangles_length triangles_waysAhead triangles_cornersOf triangles_chosen crossedLines_size crossedLines_lines flips_wayLength flips_queued flips_steps flips_queue flips_way endless_size endless_numbers sightings_size sightings_rights sightings_latest sightings_seenStep sightings_seenFrom sightings_seenTo sightings_seenValue sightings_timesRight sightings_rightStep sightings_rightOf sightings_rightValue sightings_knownValue fitting_size fitting_numbers fitting_tally x_toldRow) H) (hPy : va_P D vwCl (zLY κ y y_taped y_size y_sort y_at y_end y_number y_faultKind y_faultPlace y_word y_corners y_lines y_linesFor y_listMany y_listCorners y_own y_newCorners y_newCut y_wayLeft y_flipOne y_flipTwo y_passedMany y_rowMany y_mendedBy y_crossMany y_periodMany y_seenMany y_rightMany y_lastTold y_tape y_numberOf y_lesser y_greater y_list y_tA y_tB y_tC y_from y_wayAt y_far y_queue y_passedBy y_told y_crossLine y_crossFar y_period y_sTold y_sOne y_sTwo y_sEntry y_rTold y_rOf y_rEntry y_fits y_heaps) H) (hD : va_D A (zLX κ x mk ad x_polygon x_bits x_mendedNumber tape_length tape_next tape_kind tape_place tape_value tape_bytes text_faultKind text_faultPlace text_expected text_first text_polygon text_bits triangles_count triangles_polygon triangles_from triangles_length triangles_waysAhead triangles_cornersOf triangles_chosen crossedLines_size crossedLines_lines flips_wayLength flips_queued flips_steps flips_queue flips_way endless_size endless_numbers sightings_size sightings_rights sightings_latest sightings_seenStep sightings_seenFrom sightings_seenTo sightings_seenValue sightings_timesRight sightings_rightStep sightings_rightOf sightings_rightValue sightings_knownValue fitting_size fitting_numbers fitting_tally x_toldRow ++ zLY κ y y_taped y_size y_sort y_at y_end y_number y_faultKind y_faultPlace y_word y_corners y_lines y_linesFor y_listMany y_listCorners y_own y_newCorners y_newCut y_wayLeft y_flipOne y_flipTwo y_passedMany y_rowMany y_mendedBy y_crossMany y_periodMany y_seenMany y_rightMany y_lastTold y_tape y_numberOf y_lesser y_greater y_list y_tA y_tB y_tC y_from y_wayAt y_far y_queue y_passedBy y_told y_crossLine y_crossFar y_period y_sTold y_sOne y_sTwo y_sEntry y_rTold y_rOf y_rEntry y_fits y_heaps)) (hS : va_S A H0 H locs) (hB : zAmb D κ mk ad H) (hZx : zSep mk ad (zLX κ x mk ad x_polygon x_bits x_mendedNumber tape_length tape_next tape_kind tape_place tape_value tape_bytes text_faultKind text_faultPlace text_expected text_first text_polygon text_bits triangles_count triangles_polygon triangles_from triangles_length triangles_waysAhead triangles_cornersOf triangles_chosen crossedLines_size crossedLines_lines flips_wayLength flips_queued flips_steps flips_queue flips_way endless_size endless_numbers sightings_size sightings_rights sightings_latest sightings_seenStep sightings_seenFrom sightings_seenTo sightings_seenValue sightings_timesRight sightings_rightStep sightings_rightOf sightings_rightValue sightings_knownValue fitting_size fitting_numbers fitting_tally x_toldRow) H.size) (hZy : zSep mk ad (zLY κ y y_taped y_size y_sort y_at y_end y_number y_faultKind y_faultPlace y_word y_corners y_lines y_linesFor y_listMany y_listCorners y_own y_newCorners y_newCut y_wayLeft y_flipOne y_flipTwo y_passedMany y_rowMany y_mendedBy y_crossMany y_periodMany y_seenMany y_rightMany y_lastTold y_tape y_numberOf y_lesser y_greater y_list y_tA y_tB y_tC y_from y_wayAt y_far y_queue y_passedBy y_told y_crossLine y_crossFar y_period y_sTold y_sOne y_sTwo y_sEntry y_rTold y_rOf y_rEntry y_fits y_heaps) H.size) (hl : lv_has ls 4 [(0, .ref b), (1, .ref (x 0)), (2, .ref (y 0)), (3, .int (zi (i : Int)))])  (o1 : Int) (ho1 : zf_X10_entry mk x_polygon x_bits (zX xs (i + 1)) (zX xs (i + 2)) = some o1) (o2 : Int × Int × Int × Nat × Nat × Nat × Nat × Nat × Nat × Nat) (ho2 : zf_X11_entry y_corners y_lines y_linesFor y_own y_numberOf y_lesser y_greater y_tA y_tB y_tC y_from (zX xs (i + 1)) (zX xs (i + 2)) = some o2) 
    (kk : ∀ (H : Heap) (locs : List Loc), va_P D vwCl (zLX κ x mk ad x_polygon x_bits x_mendedNumber tape_length tape_next tape_kind tape_place tape_value tape_bytes text_faultKind text_faultPlace text_expected text_first text_polygon text_bits triangles_count triangles_polygon triangles_from triangles_length triangles_waysAhead triangles_cornersOf triangles_chosen crossedLines_size crossedLines_lines flips_wayLength flips_queued flips_steps flips_queue flips_way endless_size endless_numbers sightings_size sightings_rights sightings_latest sightings_seenStep sightings_seenFrom sightings_seenTo sightings_seenValue sightings_timesRight sightings_rightStep sightings_rightOf sightings_rightValue sightings_knownValue fitting_size fitting_numbers fitting_tally x_toldRow) H → va_P D vwCl (zLY κ y y_taped y_size y_sort y_at y_end y_number y_faultKind y_faultPlace y_word y_corners (o2.2.1) (o2.2.2.1) y_listMany y_listCorners y_own y_newCorners y_newCut y_wayLeft y_flipOne y_flipTwo y_passedMany y_rowMany y_mendedBy y_crossMany y_periodMany y_seenMany y_rightMany y_lastTold y_tape (o2.2.2.2.1) (o2.2.2.2.2.1) (o2.2.2.2.2.2.1) y_list (o2.2.2.2.2.2.2.1) (o2.2.2.2.2.2.2.2.1) (o2.2.2.2.2.2.2.2.2.1) (o2.2.2.2.2.2.2.2.2.2) y_wayAt y_far y_queue y_passedBy y_told y_crossLine y_crossFar y_period y_sTold y_sOne y_sTwo y_sEntry y_rTold y_rOf y_rEntry y_fits y_heaps) H → va_D A (zLX κ x mk ad x_polygon x_bits x_mendedNumber tape_length tape_next tape_kind tape_place tape_value tape_bytes text_faultKind text_faultPlace text_expected text_first text_polygon text_bits triangles_count triangles_polygon triangles_from triangles_length triangles_waysAhead triangles_cornersOf triangles_chosen crossedLines_size crossedLines_lines flips_wayLength flips_queued flips_steps flips_queue flips_way endless_size endless_numbers sightings_size sightings_rights sightings_latest sightings_seenStep sightings_seenFrom sightings_seenTo sightings_seenValue sightings_timesRight sightings_rightStep sightings_rightOf sightings_rightValue sightings_knownValue fitting_size fitting_numbers fitting_tally x_toldRow ++ zLY κ y y_taped y_size y_sort y_at y_end y_number y_faultKind y_faultPlace y_word y_corners (o2.2.1) (o2.2.2.1) y_listMany y_listCorners y_own y_newCorners y_newCut y_wayLeft y_flipOne y_flipTwo y_passedMany y_rowMany y_mendedBy y_crossMany y_periodMany y_seenMany y_rightMany y_lastTold y_tape (o2.2.2.2.1) (o2.2.2.2.2.1) (o2.2.2.2.2.2.1) y_list (o2.2.2.2.2.2.2.1) (o2.2.2.2.2.2.2.2.1) (o2.2.2.2.2.2.2.2.2.1) (o2.2.2.2.2.2.2.2.2.2) y_wayAt y_far y_queue y_passedBy y_told y_crossLine y_crossFar y_period y_sTold y_sOne y_sTwo y_sEntry y_rTold y_rOf y_rEntry y_fits y_heaps) → va_S A H0 H locs → zAmb D κ mk ad H → zSep mk ad (zLX κ x mk ad x_polygon x_bits x_mendedNumber tape_length tape_next tape_kind tape_place tape_value tape_bytes text_faultKind text_faultPlace text_expected text_first text_polygon text_bits triangles_count triangles_polygon triangles_from triangles_length triangles_waysAhead triangles_cornersOf triangles_chosen crossedLines_size crossedLines_lines flips_wayLength flips_queued flips_steps flips_queue flips_way endless_size endless_numbers sightings_size sightings_rights sightings_latest sightings_seenStep sightings_seenFrom sightings_seenTo sightings_seenValue sightings_timesRight sightings_rightStep sightings_rightOf sightings_rightValue sightings_knownValue fitting_size fitting_numbers fitting_tally x_toldRow) H.size → zSep mk ad (zLY κ y y_taped y_size y_sort y_at y_end y_number y_faultKind y_faultPlace y_word y_corners (o2.2.1) (o2.2.2.1) y_listMany y_listCorners y_own y_newCorners y_newCut y_wayLeft y_flipOne y_flipTwo y_passedMany y_rowMany y_mendedBy y_crossMany y_periodMany y_seenMany y_rightMany y_lastTold y_tape (o2.2.2.2.1) (o2.2.2.2.2.1) (o2.2.2.2.2.2.1) y_list (o2.2.2.2.2.2.2.1) (o2.2.2.2.2.2.2.2.1) (o2.2.2.2.2.2.2.2.2.1) (o2.2.2.2.2.2.2.2.2.2) y_wayAt y_far y_queue y_passedBy y_told y_crossLine y_crossFar y_period y_sTold y_sOne y_sTwo y_sEntry y_rTold y_rOf y_rEntry y_fits y_heaps) H.size → W p l e room_1 s m args below meth c H locs cells slots Q (F0 m 1306 ls [])) : W p l e room_1 s m args below meth c H locs cells slots Q (F0 m 411 ls []) := by
  refine lv_aload_n hx hb dL_law_411 rfl (lv_at hl 1 rfl) ?_
  refine lv_aload_n hx hb dL_law_412 rfl (lv_at hl 0 rfl) ?_
  refine lv_iload_n hx hb dL_law_413 rfl (lv_at hl 3 rfl) ?_
  refine zv_iconst hx hb dL_law_414 ?_
  refine zv_iadd hx hb dL_law_415 ?_
  refine zv_sld hx hb hX hbl hbA hS (i + 1) (by omega) (by omega) hL dL_law_416 ?_
  refine lv_aload_n hx hb dL_law_417 rfl (lv_at hl 0 rfl) ?_
  refine lv_iload_n hx hb dL_law_418 rfl (lv_at hl 3 rfl) ?_
  refine zv_iconst hx hb dL_law_419 ?_
  refine zv_iadd hx hb dL_law_420 ?_
  refine zv_sld hx hb hX hbl hbA hS (i + 2) (by omega) (by omega) hL dL_law_421 ?_
  refine zc_vi (rest := []) ⟨hx, hb, hml, hown, hts⟩ (zc_X10_entry l D κ x mk ad x_polygon x_bits x_mendedNumber (zX xs (i + 1)) (zX xs (i + 2)) o1 ho1) (cwV 2 hts gL_law_X10_entry rfl rfl rfl (by decide +kernel) ⟨Nat.le_of_ble_eq_true rfl, Nat.le_of_ble_eq_true rfl⟩) (zpreVa hK (hPx.sub [0] rfl) hB 10 0 rfl rfl) rfl hl.1 rfl (Nat.le_of_ble_eq_true rfl) dL_law_422 hroom ?_
  refine lv_pop hx hb dL_law_425 rfl ?_
  refine lv_aload_n hx hb dL_law_426 rfl (lv_at hl 2 rfl) ?_
  refine lv_aload_n hx hb dL_law_427 rfl (lv_at hl 0 rfl) ?_
  refine lv_iload_n hx hb dL_law_428 rfl (lv_at hl 3 rfl) ?_
  refine zv_iconst hx hb dL_law_429 ?_
  refine zv_iadd hx hb dL_law_430 ?_
  refine zv_sld hx hb hX hbl hbA hS (i + 1) (by omega) (by omega) hL dL_law_431 ?_
  refine lv_aload_n hx hb dL_law_432 rfl (lv_at hl 0 rfl) ?_
  refine lv_iload_n hx hb dL_law_433 rfl (lv_at hl 3 rfl) ?_
  refine zv_iconst hx hb dL_law_434 ?_
  refine zv_iadd hx hb dL_law_435 ?_
  refine zv_sld hx hb hX hbl hbA hS (i + 2) (by omega) (by omega) hL dL_law_436 ?_
  refine zjx_i (wr := [((y 1), .inl (κ 0, 300, .inl (zc y_tape))), ((y 5), .inl (κ 2, 429, .inr (.inl (zcL y_list)))), ((y 10), .inl (κ 1, 10, .inl (zc y_wayAt))), ((y 11), .inl (κ 1, 429, .inl (zc y_far))), ((y 12), .inl (κ 1, 429, .inl (zc y_queue))), ((y 13), .inl (κ 1, 64, .inl (zc y_passedBy))), ((y 14), .inl (κ 1, 10, .inl (zc y_told))), ((y 15), .inl (κ 1, 7, .inl (zc y_crossLine))), ((y 16), .inl (κ 1, 7, .inl (zc y_crossFar))), ((y 17), .inl (κ 1, 11, .inl (zc y_period))), ((y 18), .inl (κ 1, 20, .inl (zc y_sTold))), ((y 19), .inl (κ 1, 20, .inl (zc y_sOne))), ((y 20), .inl (κ 1, 20, .inl (zc y_sTwo))), ((y 21), .inl (κ 1, 20, .inl (zc y_sEntry))), ((y 22), .inl (κ 1, 20, .inl (zc y_rTold))), ((y 23), .inl (κ 1, 20, .inl (zc y_rOf))), ((y 24), .inl (κ 1, 20, .inl (zc y_rEntry))), ((y 25), .inl (κ 3, 429, .inl (zc y_fits))), ((y 26), .inl (κ 1, 6400, .inl (zc y_heaps)))]) (X1 := zLY κ y y_taped y_size y_sort y_at y_end y_number y_faultKind y_faultPlace y_word y_corners (o2.2.1) (o2.2.2.1) y_listMany y_listCorners y_own y_newCorners y_newCut y_wayLeft y_flipOne y_flipTwo y_passedMany y_rowMany y_mendedBy y_crossMany y_periodMany y_seenMany y_rightMany y_lastTold y_tape (o2.2.2.2.1) (o2.2.2.2.2.1) (o2.2.2.2.2.2.1) y_list (o2.2.2.2.2.2.2.1) (o2.2.2.2.2.2.2.2.1) (o2.2.2.2.2.2.2.2.2.1) (o2.2.2.2.2.2.2.2.2.2) y_wayAt y_far y_queue y_passedBy y_told y_crossLine y_crossFar y_period y_sTold y_sOne y_sTwo y_sEntry y_rTold y_rOf y_rEntry y_fits y_heaps) (va_runV (rest := []) ⟨hx, hb, hml, hown, hts⟩ (zc_X11_entry l D κ y H.size y_taped y_size y_sort y_at y_end y_number y_faultKind y_faultPlace y_word y_corners y_lines y_linesFor y_listMany y_listCorners y_own y_newCorners y_newCut y_wayLeft y_flipOne y_flipTwo y_passedMany y_rowMany y_mendedBy y_crossMany y_periodMany y_seenMany y_rightMany y_lastTold y_numberOf y_lesser y_greater y_tA y_tB y_tC y_from (zX xs (i + 1)) (zX xs (i + 2)) o2 ho2) (cwV 2 hts gL_law_X11_entry rfl rfl rfl (by decide +kernel) ⟨Nat.le_of_ble_eq_true rfl, Nat.le_of_ble_eq_true rfl⟩) (zpreWV hK (hPy.sub [0, 2, 3, 4, 6, 7, 8, 9] rfl) ((zD_left (zD_swap hD)).sub [0, 2, 3, 4, 6, 7, 8, 9] (by decide) rfl) 11 0 rfl rfl) rfl rfl hl.1 rfl (lv_room (Nat.le_of_ble_eq_true rfl)) dL_law_437 hroom) hPy hPx (zD_swap hD) hS hB hZy hZx hA [0, 2, 3, 4, 6, 7, 8, 9] [1, 5, 10, 11, 12, 13, 14, 15, 16, 17, 18, 19, 20, 21, 22, 23, 24, 25, 26] [19, 0, 20, 21, 22, 1, 23, 24, 25, 26, 2, 3, 4, 5, 6, 7, 8, 9, 10, 11, 12, 13, 14, 15, 16, 17, 18] rfl rfl (by decide) (by decide) rfl rfl (by decide) (zLY_f.trans zLY_f.symm) (fun H locs hPy hPx hD hS hB hZy hZx => ?_)
  have hD := zD_swap hD
  refine lv_pop hx hb dL_law_440 rfl ?_
  refine lv_goto (tgt := 1306) hx hb dL_law_441 (by decide) ?_
  exact kk H locs hPx hPy hD hS hB hZx hZy
end

section
set_option maxHeartbeats 4000000 in
set_option maxRecDepth 100000 in
theorem zo_8 {p : Program} {l : Launch} {e : Env} {s : State} {m : MethodId} {args : Array Value} {below : List Frame} {meth : Method} {c : Code} {Q : State → Prop} {D : va_G} {κ : Nat → ClassId} {A : Nat → Prop} {H0 : Heap} {b L : Nat} {xs : Nat → Int32} {cells slots : Nat} (x y : Nat → Nat) (mk : Nat) (ad : Nat → Nat → Nat) (x_polygon : Nat) (x_bits : Int) (x_mendedNumber : Int) (tape_length : Int) (tape_next : Int) (tape_kind : Int) (tape_place : Int) (tape_value : Int) (tape_bytes : Nat) (text_faultKind : Int) (text_faultPlace : Int) (text_expected : Int) (text_first : Int) (text_polygon : Nat) (text_bits : Int) (triangles_count : Int) (triangles_polygon : Nat) (triangles_from : Int) (triangles_length : Int) (triangles_waysAhead : Int) (triangles_cornersOf : Nat) (triangles_chosen : Nat) (crossedLines_size : Int) (crossedLines_lines : Nat) (flips_wayLength : Int) (flips_queued : Int) (flips_steps : Nat) (flips_queue : Nat) (flips_way : Nat) (endless_size : Int) (endless_numbers : Nat) (sightings_size : Int) (sightings_rights : Int) (sightings_latest : Int) (sightings_seenStep : Nat) (sightings_seenFrom : Nat) (sightings_seenTo : Nat) (sightings_seenValue : Nat) (sightings_timesRight : Nat) (sightings_rightStep : Nat) (sightings_rightOf : Nat) (sightings_rightValue : Nat) (sightings_knownValue : Nat) (fitting_size : Int) (fitting_numbers : Nat) (fitting_tally : Nat) (x_toldRow : Nat) (y_taped : Int) (y_size : Int) (y_sort : Int) (y_at : Int) (y_end : Int) (y_number : Int) (y_faultKind : Int) (y_faultPlace : Int) (y_word : Int) (y_corners : Int) (y_lines : Int) (y_linesFor : Int) (y_listMany : Int) (y_listCorners : Int) (y_own : Int) (y_newCorners : Int) (y_newCut : Int) (y_wayLeft : Int) (y_flipOne : Int) (y_flipTwo : Int) (y_passedMany : Int) (y_rowMany : Int) (y_mendedBy : Int) (y_crossMany : Int) (y_periodMany : Int) (y_seenMany : Int) (y_rightMany : Int) (y_lastTold : Int) (y_tape : Nat) (y_numberOf : Nat) (y_lesser : Nat) (y_greater : Nat) (y_list : Nat) (y_tA : Nat) (y_tB : Nat) (y_tC : Nat) (y_from : Nat) (y_wayAt : Nat) (y_far : Nat) (y_queue : Nat) (y_passedBy : Nat) (y_told : Nat) (y_crossLine : Nat) (y_crossFar : Nat) (y_period : Nat) (y_sTold : Nat) (y_sOne : Nat) (y_sTwo : Nat) (y_sEntry : Nat) (y_rTold : Nat) (y_rOf : Nat) (y_rEntry : Nat) (y_fits : Nat) (y_heaps : Nat) (hx : p.tables.exec = Jvm.exec) (hb : c.code = cL_law) (hml : c.maxLocals = 4) (hown : s.vm.findClass RL = some m.cls) (hts : ∀ w ∈ wsL_law, w.before args s = true) (hK : va_K D vwCl (zTY κ) s) (hA : ∀ q : Nat, H0.size ≤ q → A q) (hX : va_X b L xs s H0) (hbl : b < H0.size) (hbA : ¬ A b) (hL : L ≤ 3072) (hroom : cells ≤ room_1.cells ∧ slots ≤ room_1.slots) (i : Nat) (hi : i + 6 ≤ L) (H : Heap) (locs : List Loc) (ls : Array Slot) (hPx : va_P D vwCl (zLX κ x mk ad x_polygon x_bits x_mendedNumber tape_length tape_next tape_kind tape_place tape_value tape_bytes text_faultKind text_faultPlace text_expected text_first text_polygon text_bits triangles_count triangles_polygon triangles_from triangles_length triangles_waysAhead triangles_cornersOf triangles_chosen crossedLines_size crossedLines_lines flips_wayLength flips_queued flips_steps flips_queue flips_way endless_size endless_numbers sightings_size sightings_rights sightings_latest sightings_seenStep sightings_seenFrom sightings_seenTo sightings_seenValue sightings_timesRight sightings_rightStep sightings_rightOf sightings_rightValue sightings_knownValue fitting_size fitting_numbers fitting_tally x_toldRow) H) (hPy : va_P D vwCl (zLY κ y y_taped y_size y_sort y_at y_end y_number y_faultKind y_faultPlace y_word y_corners y_lines y_linesFor y_listMany y_listCorners y_own y_newCorners y_newCut y_wayLeft y_flipOne y_flipTwo y_passedMany y_rowMany y_mendedBy y_crossMany y_periodMany y_seenMany y_rightMany y_lastTold y_tape y_numberOf y_lesser y_greater y_list y_tA y_tB y_tC y_from y_wayAt y_far y_queue y_passedBy y_told y_crossLine y_crossFar y_period y_sTold y_sOne y_sTwo y_sEntry y_rTold y_rOf y_rEntry y_fits y_heaps) H) (hD : va_D A (zLX κ x mk ad x_polygon x_bits x_mendedNumber tape_length tape_next tape_kind tape_place tape_value tape_bytes text_faultKind text_faultPlace text_expected text_first text_polygon text_bits triangles_count triangles_polygon triangles_from triangles_length triangles_waysAhead triangles_cornersOf triangles_chosen crossedLines_size crossedLines_lines flips_wayLength flips_queued flips_steps flips_queue flips_way endless_size endless_numbers sightings_size sightings_rights sightings_latest sightings_seenStep sightings_seenFrom sightings_seenTo sightings_seenValue sightings_timesRight sightings_rightStep sightings_rightOf sightings_rightValue sightings_knownValue fitting_size fitting_numbers fitting_tally x_toldRow ++ zLY κ y y_taped y_size y_sort y_at y_end y_number y_faultKind y_faultPlace y_word y_corners y_lines y_linesFor y_listMany y_listCorners y_own y_newCorners y_newCut y_wayLeft y_flipOne y_flipTwo y_passedMany y_rowMany y_mendedBy y_crossMany y_periodMany y_seenMany y_rightMany y_lastTold y_tape y_numberOf y_lesser y_greater y_list y_tA y_tB y_tC y_from y_wayAt y_far y_queue y_passedBy y_told y_crossLine y_crossFar y_period y_sTold y_sOne y_sTwo y_sEntry y_rTold y_rOf y_rEntry y_fits y_heaps)) (hS : va_S A H0 H locs) (hB : zAmb D κ mk ad H) (hZx : zSep mk ad (zLX κ x mk ad x_polygon x_bits x_mendedNumber tape_length tape_next tape_kind tape_place tape_value tape_bytes text_faultKind text_faultPlace text_expected text_first text_polygon text_bits triangles_count triangles_polygon triangles_from triangles_length triangles_waysAhead triangles_cornersOf triangles_chosen crossedLines_size crossedLines_lines flips_wayLength flips_queued flips_steps flips_queue flips_way endless_size endless_numbers sightings_size sightings_rights sightings_latest sightings_seenStep sightings_seenFrom sightings_seenTo sightings_seenValue sightings_timesRight sightings_rightStep sightings_rightOf sightings_rightValue sightings_knownValue fitting_size fitting_numbers fitting_tally x_toldRow) H.size) (hZy : zSep mk ad (zLY κ y y_taped y_size y_sort y_at y_end y_number y_faultKind y_faultPlace y_word y_corners y_lines y_linesFor y_listMany y_listCorners y_own y_newCorners y_newCut y_wayLeft y_flipOne y_flipTwo y_passedMany y_rowMany y_mendedBy y_crossMany y_periodMany y_seenMany y_rightMany y_lastTold y_tape y_numberOf y_lesser y_greater y_list y_tA y_tB y_tC y_from y_wayAt y_far y_queue y_passedBy y_told y_crossLine y_crossFar y_period y_sTold y_sOne y_sTwo y_sEntry y_rTold y_rOf y_rEntry y_fits y_heaps) H.size) (hl : lv_has ls 4 [(0, .ref b), (1, .ref (x 0)), (2, .ref (y 0)), (3, .int (zi (i : Int)))])  (o1 : Int) (ho1 : zf_X10_row mk x_polygon x_bits (zX xs (i + 1)) = some o1) (o2 : Int × Int × Int × Nat × Nat × Nat) (ho2 : zf_X11_row y_corners y_lines y_linesFor y_own y_numberOf y_lesser y_greater (zX xs (i + 1)) = some o2) 
    (kk : ∀ (H : Heap) (locs : List Loc), va_P D vwCl (zLX κ x mk ad x_polygon x_bits x_mendedNumber tape_length tape_next tape_kind tape_place tape_value tape_bytes text_faultKind text_faultPlace text_expected text_first text_polygon text_bits triangles_count triangles_polygon triangles_from triangles_length triangles_waysAhead triangles_cornersOf triangles_chosen crossedLines_size crossedLines_lines flips_wayLength flips_queued flips_steps flips_queue flips_way endless_size endless_numbers sightings_size sightings_rights sightings_latest sightings_seenStep sightings_seenFrom sightings_seenTo sightings_seenValue sightings_timesRight sightings_rightStep sightings_rightOf sightings_rightValue sightings_knownValue fitting_size fitting_numbers fitting_tally x_toldRow) H → va_P D vwCl (zLY κ y y_taped y_size y_sort y_at y_end y_number y_faultKind y_faultPlace y_word y_corners (o2.2.1) (o2.2.2.1) y_listMany y_listCorners y_own y_newCorners y_newCut y_wayLeft y_flipOne y_flipTwo y_passedMany y_rowMany y_mendedBy y_crossMany y_periodMany y_seenMany y_rightMany y_lastTold y_tape (o2.2.2.2.1) (o2.2.2.2.2.1) (o2.2.2.2.2.2) y_list y_tA y_tB y_tC y_from y_wayAt y_far y_queue y_passedBy y_told y_crossLine y_crossFar y_period y_sTold y_sOne y_sTwo y_sEntry y_rTold y_rOf y_rEntry y_fits y_heaps) H → va_D A (zLX κ x mk ad x_polygon x_bits x_mendedNumber tape_length tape_next tape_kind tape_place tape_value tape_bytes text_faultKind text_faultPlace text_expected text_first text_polygon text_bits triangles_count triangles_polygon triangles_from triangles_length triangles_waysAhead triangles_cornersOf triangles_chosen crossedLines_size crossedLines_lines flips_wayLength flips_queued flips_steps flips_queue flips_way endless_size endless_numbers sightings_size sightings_rights sightings_latest sightings_seenStep sightings_seenFrom sightings_seenTo sightings_seenValue sightings_timesRight sightings_rightStep sightings_rightOf sightings_rightValue sightings_knownValue fitting_size fitting_numbers fitting_tally x_toldRow ++ zLY κ y y_taped y_size y_sort y_at y_end y_number y_faultKind y_faultPlace y_word y_corners (o2.2.1) (o2.2.2.1) y_listMany y_listCorners y_own y_newCorners y_newCut y_wayLeft y_flipOne y_flipTwo y_passedMany y_rowMany y_mendedBy y_crossMany y_periodMany y_seenMany y_rightMany y_lastTold y_tape (o2.2.2.2.1) (o2.2.2.2.2.1) (o2.2.2.2.2.2) y_list y_tA y_tB y_tC y_from y_wayAt y_far y_queue y_passedBy y_told y_crossLine y_crossFar y_period y_sTold y_sOne y_sTwo y_sEntry y_rTold y_rOf y_rEntry y_fits y_heaps) → va_S A H0 H locs → zAmb D κ mk ad H → zSep mk ad (zLX κ x mk ad x_polygon x_bits x_mendedNumber tape_length tape_next tape_kind tape_place tape_value tape_bytes text_faultKind text_faultPlace text_expected text_first text_polygon text_bits triangles_count triangles_polygon triangles_from triangles_length triangles_waysAhead triangles_cornersOf triangles_chosen crossedLines_size crossedLines_lines flips_wayLength flips_queued flips_steps flips_queue flips_way endless_size endless_numbers sightings_size sightings_rights sightings_latest sightings_seenStep sightings_seenFrom sightings_seenTo sightings_seenValue sightings_timesRight sightings_rightStep sightings_rightOf sightings_rightValue sightings_knownValue fitting_size fitting_numbers fitting_tally x_toldRow) H.size → zSep mk ad (zLY κ y y_taped y_size y_sort y_at y_end y_number y_faultKind y_faultPlace y_word y_corners (o2.2.1) (o2.2.2.1) y_listMany y_listCorners y_own y_newCorners y_newCut y_wayLeft y_flipOne y_flipTwo y_passedMany y_rowMany y_mendedBy y_crossMany y_periodMany y_seenMany y_rightMany y_lastTold y_tape (o2.2.2.2.1) (o2.2.2.2.2.1) (o2.2.2.2.2.2) y_list y_tA y_tB y_tC y_from y_wayAt y_far y_queue y_passedBy y_told y_crossLine y_crossFar y_period y_sTold y_sOne y_sTwo y_sEntry y_rTold y_rOf y_rEntry y_fits y_heaps) H.size → W p l e room_1 s m args below meth c H locs cells slots Q (F0 m 1306 ls [])) : W p l e room_1 s m args below meth c H locs cells slots Q (F0 m 444 ls []) := by
  refine lv_aload_n hx hb dL_law_444 rfl (lv_at hl 1 rfl) ?_
  refine lv_aload_n hx hb dL_law_445 rfl (lv_at hl 0 rfl) ?_
  refine lv_iload_n hx hb dL_law_446 rfl (lv_at hl 3 rfl) ?_
  refine zv_iconst hx hb dL_law_447 ?_
  refine zv_iadd hx hb dL_law_448 ?_
  refine zv_sld hx hb hX hbl hbA hS (i + 1) (by omega) (by omega) hL dL_law_449 ?_
  refine zc_vi (rest := []) ⟨hx, hb, hml, hown, hts⟩ (zc_X10_row l D κ x mk ad x_polygon x_bits x_mendedNumber (zX xs (i + 1)) o1 ho1) (cwV 1 hts gL_law_X10_row rfl rfl rfl (by decide +kernel) ⟨Nat.le_of_ble_eq_true rfl, Nat.le_of_ble_eq_true rfl⟩) (zpreVa hK (hPx.sub [0] rfl) hB 10 0 rfl rfl) rfl hl.1 rfl (Nat.le_of_ble_eq_true rfl) dL_law_450 hroom ?_
  refine lv_pop hx hb dL_law_453 rfl ?_
  refine lv_aload_n hx hb dL_law_454 rfl (lv_at hl 2 rfl) ?_
  refine lv_aload_n hx hb dL_law_455 rfl (lv_at hl 0 rfl) ?_
  refine lv_iload_n hx hb dL_law_456 rfl (lv_at hl 3 rfl) ?_
  refine zv_iconst hx hb dL_law_457 ?_
  refine zv_iadd hx hb dL_law_458 ?_
  refine zv_sld hx hb hX hbl hbA hS (i + 1) (by omega) (by omega) hL dL_law_459 ?_
  refine zjx_i (wr := [((y 1), .inl (κ 0, 300, .inl (zc y_tape))), ((y 5), .inl (κ 2, 429, .inr (.inl (zcL y_list)))), ((y 6), .inl (κ 1, 8, .inl (zc y_tA))), ((y 7), .inl (κ 1, 8, .inl (zc y_tB))), ((y 8), .inl (κ 1, 8, .inl (zc y_tC))), ((y 9), .inl (κ 1, 10, .inl (zc y_from))), ((y 10), .inl (κ 1, 10, .inl (zc y_wayAt))), ((y 11), .inl (κ 1, 429, .inl (zc y_far))), ((y 12), .inl (κ 1, 429, .inl (zc y_queue))), ((y 13), .inl (κ 1, 64, .inl (zc y_passedBy))), ((y 14), .inl (κ 1, 10, .inl (zc y_told))), ((y 15), .inl (κ 1, 7, .inl (zc y_crossLine))), ((y 16), .inl (κ 1, 7, .inl (zc y_crossFar))), ((y 17), .inl (κ 1, 11, .inl (zc y_period))), ((y 18), .inl (κ 1, 20, .inl (zc y_sTold))), ((y 19), .inl (κ 1, 20, .inl (zc y_sOne))), ((y 20), .inl (κ 1, 20, .inl (zc y_sTwo))), ((y 21), .inl (κ 1, 20, .inl (zc y_sEntry))), ((y 22), .inl (κ 1, 20, .inl (zc y_rTold))), ((y 23), .inl (κ 1, 20, .inl (zc y_rOf))), ((y 24), .inl (κ 1, 20, .inl (zc y_rEntry))), ((y 25), .inl (κ 3, 429, .inl (zc y_fits))), ((y 26), .inl (κ 1, 6400, .inl (zc y_heaps)))]) (X1 := zLY κ y y_taped y_size y_sort y_at y_end y_number y_faultKind y_faultPlace y_word y_corners (o2.2.1) (o2.2.2.1) y_listMany y_listCorners y_own y_newCorners y_newCut y_wayLeft y_flipOne y_flipTwo y_passedMany y_rowMany y_mendedBy y_crossMany y_periodMany y_seenMany y_rightMany y_lastTold y_tape (o2.2.2.2.1) (o2.2.2.2.2.1) (o2.2.2.2.2.2) y_list y_tA y_tB y_tC y_from y_wayAt y_far y_queue y_passedBy y_told y_crossLine y_crossFar y_period y_sTold y_sOne y_sTwo y_sEntry y_rTold y_rOf y_rEntry y_fits y_heaps) (va_runV (rest := []) ⟨hx, hb, hml, hown, hts⟩ (zc_X11_row l D κ y H.size y_taped y_size y_sort y_at y_end y_number y_faultKind y_faultPlace y_word y_corners y_lines y_linesFor y_listMany y_listCorners y_own y_newCorners y_newCut y_wayLeft y_flipOne y_flipTwo y_passedMany y_rowMany y_mendedBy y_crossMany y_periodMany y_seenMany y_rightMany y_lastTold y_numberOf y_lesser y_greater (zX xs (i + 1)) o2 ho2) (cwV 1 hts gL_law_X11_row rfl rfl rfl (by decide +kernel) ⟨Nat.le_of_ble_eq_true rfl, Nat.le_of_ble_eq_true rfl⟩) (zpreWV hK (hPy.sub [0, 2, 3, 4] rfl) ((zD_left (zD_swap hD)).sub [0, 2, 3, 4] (by decide) rfl) 11 0 rfl rfl) rfl rfl hl.1 rfl (lv_room (Nat.le_of_ble_eq_true rfl)) dL_law_460 hroom) hPy hPx (zD_swap hD) hS hB hZy hZx hA [0, 2, 3, 4] [1, 5, 6, 7, 8, 9, 10, 11, 12, 13, 14, 15, 16, 17, 18, 19, 20, 21, 22, 23, 24, 25, 26] [23, 0, 24, 25, 26, 1, 2, 3, 4, 5, 6, 7, 8, 9, 10, 11, 12, 13, 14, 15, 16, 17, 18, 19, 20, 21, 22] rfl rfl (by decide) (by decide) rfl rfl (by decide) (zLY_f.trans zLY_f.symm) (fun H locs hPy hPx hD hS hB hZy hZx => ?_)
  have hD := zD_swap hD
  refine lv_pop hx hb dL_law_463 rfl ?_
  refine lv_goto (tgt := 1306) hx hb dL_law_464 (by decide) ?_
  exact kk H locs hPx hPy hD hS hB hZx hZy
set_option maxHeartbeats 4000000 in
set_option maxRecDepth 100000 in
theorem zo_9 {p : Program} {l : Launch} {e : Env} {s : State} {m : MethodId} {args : Array Value} {below : List Frame} {meth : Method} {c : Code} {Q : State → Prop} {D : va_G} {κ : Nat → ClassId} {A : Nat → Prop} {H0 : Heap} {b L : Nat} {xs : Nat → Int32} {cells slots : Nat} (x y : Nat → Nat) (mk : Nat) (ad : Nat → Nat → Nat) (x_polygon : Nat) (x_bits : Int) (x_mendedNumber : Int) (tape_length : Int) (tape_next : Int) (tape_kind : Int) (tape_place : Int) (tape_value : Int) (tape_bytes : Nat) (text_faultKind : Int) (text_faultPlace : Int) (text_expected : Int) (text_first : Int) (text_polygon : Nat) (text_bits : Int) (triangles_count : Int) (triangles_polygon : Nat) (triangles_from : Int) (triangles_length : Int) (triangles_waysAhead : Int) (triangles_cornersOf : Nat) (triangles_chosen : Nat) (crossedLines_size : Int) (crossedLines_lines : Nat) (flips_wayLength : Int) (flips_queued : Int) (flips_steps : Nat) (flips_queue : Nat) (flips_way : Nat) (endless_size : Int) (endless_numbers : Nat) (sightings_size : Int) (sightings_rights : Int) (sightings_latest : Int) (sightings_seenStep : Nat) (sightings_seenFrom : Nat) (sightings_seenTo : Nat) (sightings_seenValue : Nat) (sightings_timesRight : Nat) (sightings_rightStep : Nat) (sightings_rightOf : Nat) (sightings_rightValue : Nat) (sightings_knownValue : Nat) (fitting_size : Int) (fitting_numbers : Nat) (fitting_tally : Nat) (x_toldRow : Nat) (y_taped : Int) (y_size : Int) (y_sort : Int) (y_at : Int) (y_end : Int) (y_number : Int) (y_faultKind : Int) (y_faultPlace : Int) (y_word : Int) (y_corners : Int) (y_lines : Int) (y_linesFor : Int) (y_listMany : Int) (y_listCorners : Int) (y_own : Int) (y_newCorners : Int) (y_newCut : Int) (y_wayLeft : Int) (y_flipOne : Int) (y_flipTwo : Int) (y_passedMany : Int) (y_rowMany : Int) (y_mendedBy : Int) (y_crossMany : Int) (y_periodMany : Int) (y_seenMany : Int) (y_rightMany : Int) (y_lastTold : Int) (y_tape : Nat) (y_numberOf : Nat) (y_lesser : Nat) (y_greater : Nat) (y_list : Nat) (y_tA : Nat) (y_tB : Nat) (y_tC : Nat) (y_from : Nat) (y_wayAt : Nat) (y_far : Nat) (y_queue : Nat) (y_passedBy : Nat) (y_told : Nat) (y_crossLine : Nat) (y_crossFar : Nat) (y_period : Nat) (y_sTold : Nat) (y_sOne : Nat) (y_sTwo : Nat) (y_sEntry : Nat) (y_rTold : Nat) (y_rOf : Nat) (y_rEntry : Nat) (y_fits : Nat) (y_heaps : Nat) (hx : p.tables.exec = Jvm.exec) (hb : c.code = cL_law) (hml : c.maxLocals = 4) (hown : s.vm.findClass RL = some m.cls) (hts : ∀ w ∈ wsL_law, w.before args s = true) (hK : va_K D vwCl (zTY κ) s) (hA : ∀ q : Nat, H0.size ≤ q → A q) (hX : va_X b L xs s H0) (hbl : b < H0.size) (hbA : ¬ A b) (hL : L ≤ 3072) (hroom : cells ≤ room_1.cells ∧ slots ≤ room_1.slots) (i : Nat) (hi : i + 6 ≤ L) (H : Heap) (locs : List Loc) (ls : Array Slot) (hPx : va_P D vwCl (zLX κ x mk ad x_polygon x_bits x_mendedNumber tape_length tape_next tape_kind tape_place tape_value tape_bytes text_faultKind text_faultPlace text_expected text_first text_polygon text_bits triangles_count triangles_polygon triangles_from triangles_length triangles_waysAhead triangles_cornersOf triangles_chosen crossedLines_size crossedLines_lines flips_wayLength flips_queued flips_steps flips_queue flips_way endless_size endless_numbers sightings_size sightings_rights sightings_latest sightings_seenStep sightings_seenFrom sightings_seenTo sightings_seenValue sightings_timesRight sightings_rightStep sightings_rightOf sightings_rightValue sightings_knownValue fitting_size fitting_numbers fitting_tally x_toldRow) H) (hPy : va_P D vwCl (zLY κ y y_taped y_size y_sort y_at y_end y_number y_faultKind y_faultPlace y_word y_corners y_lines y_linesFor y_listMany y_listCorners y_own y_newCorners y_newCut y_wayLeft y_flipOne y_flipTwo y_passedMany y_rowMany y_mendedBy y_crossMany y_periodMany y_seenMany y_rightMany y_lastTold y_tape y_numberOf y_lesser y_greater y_list y_tA y_tB y_tC y_from y_wayAt y_far y_queue y_passedBy y_told y_crossLine y_crossFar y_period y_sTold y_sOne y_sTwo y_sEntry y_rTold y_rOf y_rEntry y_fits y_heaps) H) (hD : va_D A (zLX κ x mk ad x_polygon x_bits x_mendedNumber tape_length tape_next tape_kind tape_place tape_value tape_bytes text_faultKind text_faultPlace text_expected text_first text_polygon text_bits triangles_count triangles_polygon triangles_from triangles_length triangles_waysAhead triangles_cornersOf triangles_chosen crossedLines_size crossedLines_lines flips_wayLength flips_queued flips_steps flips_queue flips_way endless_size endless_numbers sightings_size sightings_rights sightings_latest sightings_seenStep sightings_seenFrom sightings_seenTo sightings_seenValue sightings_timesRight sightings_rightStep sightings_rightOf sightings_rightValue sightings_knownValue fitting_size fitting_numbers fitting_tally x_toldRow ++ zLY κ y y_taped y_size y_sort y_at y_end y_number y_faultKind y_faultPlace y_word y_corners y_lines y_linesFor y_listMany y_listCorners y_own y_newCorners y_newCut y_wayLeft y_flipOne y_flipTwo y_passedMany y_rowMany y_mendedBy y_crossMany y_periodMany y_seenMany y_rightMany y_lastTold y_tape y_numberOf y_lesser y_greater y_list y_tA y_tB y_tC y_from y_wayAt y_far y_queue y_passedBy y_told y_crossLine y_crossFar y_period y_sTold y_sOne y_sTwo y_sEntry y_rTold y_rOf y_rEntry y_fits y_heaps)) (hS : va_S A H0 H locs) (hB : zAmb D κ mk ad H) (hZx : zSep mk ad (zLX κ x mk ad x_polygon x_bits x_mendedNumber tape_length tape_next tape_kind tape_place tape_value tape_bytes text_faultKind text_faultPlace text_expected text_first text_polygon text_bits triangles_count triangles_polygon triangles_from triangles_length triangles_waysAhead triangles_cornersOf triangles_chosen crossedLines_size crossedLines_lines flips_wayLength flips_queued flips_steps flips_queue flips_way endless_size endless_numbers sightings_size sightings_rights sightings_latest sightings_seenStep sightings_seenFrom sightings_seenTo sightings_seenValue sightings_timesRight sightings_rightStep sightings_rightOf sightings_rightValue sightings_knownValue fitting_size fitting_numbers fitting_tally x_toldRow) H.size) (hZy : zSep mk ad (zLY κ y y_taped y_size y_sort y_at y_end y_number y_faultKind y_faultPlace y_word y_corners y_lines y_linesFor y_listMany y_listCorners y_own y_newCorners y_newCut y_wayLeft y_flipOne y_flipTwo y_passedMany y_rowMany y_mendedBy y_crossMany y_periodMany y_seenMany y_rightMany y_lastTold y_tape y_numberOf y_lesser y_greater y_list y_tA y_tB y_tC y_from y_wayAt y_far y_queue y_passedBy y_told y_crossLine y_crossFar y_period y_sTold y_sOne y_sTwo y_sEntry y_rTold y_rOf y_rEntry y_fits y_heaps) H.size) (hl : lv_has ls 4 [(0, .ref b), (1, .ref (x 0)), (2, .ref (y 0)), (3, .int (zi (i : Int)))])  (o1 : Int × Int × Nat × Int × Int × Int × Nat × Nat) (ho1 : zf_X10_way mk x_polygon x_bits triangles_count triangles_polygon triangles_from triangles_length triangles_waysAhead triangles_cornersOf triangles_chosen (zX xs (i + 1)) (zX xs (i + 2)) (zX xs (i + 3)) (zX xs (i + 4)) = some o1) (o2 : Int × Int × Int × Int × Nat × Nat × Nat × Nat × Nat × Nat × Nat) (ho2 : zf_X11_way y_corners y_lines y_linesFor y_own y_wayLeft y_numberOf y_lesser y_greater y_tA y_tB y_tC y_wayAt (zX xs (i + 1)) (zX xs (i + 2)) (zX xs (i + 3)) (zX xs (i + 4)) = some o2) 
    (kk : ∀ (H : Heap) (locs : List Loc), va_P D vwCl (zLX κ x mk ad x_polygon x_bits x_mendedNumber tape_length tape_next tape_kind tape_place tape_value tape_bytes text_faultKind text_faultPlace text_expected text_first text_polygon text_bits (o1.2.1) (o1.2.2.1) (o1.2.2.2.1) (o1.2.2.2.2.1) (o1.2.2.2.2.2.1) (o1.2.2.2.2.2.2.1) (o1.2.2.2.2.2.2.2) crossedLines_size crossedLines_lines flips_wayLength flips_queued flips_steps flips_queue flips_way endless_size endless_numbers sightings_size sightings_rights sightings_latest sightings_seenStep sightings_seenFrom sightings_seenTo sightings_seenValue sightings_timesRight sightings_rightStep sightings_rightOf sightings_rightValue sightings_knownValue fitting_size fitting_numbers fitting_tally x_toldRow) H → va_P D vwCl (zLY κ y y_taped y_size y_sort y_at y_end y_number y_faultKind y_faultPlace y_word y_corners (o2.2.1) (o2.2.2.1) y_listMany y_listCorners y_own y_newCorners y_newCut (o2.2.2.2.1) y_flipOne y_flipTwo y_passedMany y_rowMany y_mendedBy y_crossMany y_periodMany y_seenMany y_rightMany y_lastTold y_tape (o2.2.2.2.2.1) (o2.2.2.2.2.2.1) (o2.2.2.2.2.2.2.1) y_list (o2.2.2.2.2.2.2.2.1) (o2.2.2.2.2.2.2.2.2.1) (o2.2.2.2.2.2.2.2.2.2.1) y_from (o2.2.2.2.2.2.2.2.2.2.2) y_far y_queue y_passedBy y_told y_crossLine y_crossFar y_period y_sTold y_sOne y_sTwo y_sEntry y_rTold y_rOf y_rEntry y_fits y_heaps) H → va_D A (zLX κ x mk ad x_polygon x_bits x_mendedNumber tape_length tape_next tape_kind tape_place tape_value tape_bytes text_faultKind text_faultPlace text_expected text_first text_polygon text_bits (o1.2.1) (o1.2.2.1) (o1.2.2.2.1) (o1.2.2.2.2.1) (o1.2.2.2.2.2.1) (o1.2.2.2.2.2.2.1) (o1.2.2.2.2.2.2.2) crossedLines_size crossedLines_lines flips_wayLength flips_queued flips_steps flips_queue flips_way endless_size endless_numbers sightings_size sightings_rights sightings_latest sightings_seenStep sightings_seenFrom sightings_seenTo sightings_seenValue sightings_timesRight sightings_rightStep sightings_rightOf sightings_rightValue sightings_knownValue fitting_size fitting_numbers fitting_tally x_toldRow ++ zLY κ y y_taped y_size y_sort y_at y_end y_number y_faultKind y_faultPlace y_word y_corners (o2.2.1) (o2.2.2.1) y_listMany y_listCorners y_own y_newCorners y_newCut (o2.2.2.2.1) y_flipOne y_flipTwo y_passedMany y_rowMany y_mendedBy y_crossMany y_periodMany y_seenMany y_rightMany y_lastTold y_tape (o2.2.2.2.2.1) (o2.2.2.2.2.2.1) (o2.2.2.2.2.2.2.1) y_list (o2.2.2.2.2.2.2.2.1) (o2.2.2.2.2.2.2.2.2.1) (o2.2.2.2.2.2.2.2.2.2.1) y_from (o2.2.2.2.2.2.2.2.2.2.2) y_far y_queue y_passedBy y_told y_crossLine y_crossFar y_period y_sTold y_sOne y_sTwo y_sEntry y_rTold y_rOf y_rEntry y_fits y_heaps) → va_S A H0 H locs → zAmb D κ mk ad H → zSep mk ad (zLX κ x mk ad x_polygon x_bits x_mendedNumber tape_length tape_next tape_kind tape_place tape_value tape_bytes text_faultKind text_faultPlace text_expected text_first text_polygon text_bits (o1.2.1) (o1.2.2.1) (o1.2.2.2.1) (o1.2.2.2.2.1) (o1.2.2.2.2.2.1) (o1.2.2.2.2.2.2.1) (o1.2.2.2.2.2.2.2) crossedLines_size crossedLines_lines flips_wayLength flips_queued flips_steps flips_queue flips_way endless_size endless_numbers sightings_size sightings_rights sightings_latest sightings_seenStep sightings_seenFrom sightings_seenTo sightings_seenValue sightings_timesRight sightings_rightStep sightings_rightOf sightings_rightValue sightings_knownValue fitting_size fitting_numbers fitting_tally x_toldRow) H.size → zSep mk ad (zLY κ y y_taped y_size y_sort y_at y_end y_number y_faultKind y_faultPlace y_word y_corners (o2.2.1) (o2.2.2.1) y_listMany y_listCorners y_own y_newCorners y_newCut (o2.2.2.2.1) y_flipOne y_flipTwo y_passedMany y_rowMany y_mendedBy y_crossMany y_periodMany y_seenMany y_rightMany y_lastTold y_tape (o2.2.2.2.2.1) (o2.2.2.2.2.2.1) (o2.2.2.2.2.2.2.1) y_list (o2.2.2.2.2.2.2.2.1) (o2.2.2.2.2.2.2.2.2.1) (o2.2.2.2.2.2.2.2.2.2.1) y_from (o2.2.2.2.2.2.2.2.2.2.2) y_far y_queue y_passedBy y_told y_crossLine y_crossFar y_period y_sTold y_sOne y_sTwo y_sEntry y_rTold y_rOf y_rEntry y_fits y_heaps) H.size → W p l e room_1 s m args below meth c H locs cells slots Q (F0 m 1306 ls [])) : W p l e room_1 s m args below meth c H locs cells slots Q (F0 m 467 ls []) := by
  refine lv_aload_n hx hb dL_law_467 rfl (lv_at hl 1 rfl) ?_
  refine lv_aload_n hx hb dL_law_468 rfl (lv_at hl 0 rfl) ?_
  refine lv_iload_n hx hb dL_law_469 rfl (lv_at hl 3 rfl) ?_
  refine zv_iconst hx hb dL_law_470 ?_
  refine zv_iadd hx hb dL_law_471 ?_
  refine zv_sld hx hb hX hbl hbA hS (i + 1) (by omega) (by omega) hL dL_law_472 ?_
  refine lv_aload_n hx hb dL_law_473 rfl (lv_at hl 0 rfl) ?_
  refine lv_iload_n hx hb dL_law_474 rfl (lv_at hl 3 rfl) ?_
  refine zv_iconst hx hb dL_law_475 ?_
  refine zv_iadd hx hb dL_law_476 ?_
  refine zv_sld hx hb hX hbl hbA hS (i + 2) (by omega) (by omega) hL dL_law_477 ?_
  refine lv_aload_n hx hb dL_law_478 rfl (lv_at hl 0 rfl) ?_
  refine lv_iload_n hx hb dL_law_479 rfl (lv_at hl 3 rfl) ?_
  refine zv_iconst hx hb dL_law_480 ?_
  refine zv_iadd hx hb dL_law_481 ?_
  refine zv_sld hx hb hX hbl hbA hS (i + 3) (by omega) (by omega) hL dL_law_482 ?_
  refine lv_aload_n hx hb dL_law_483 rfl (lv_at hl 0 rfl) ?_
  refine lv_iload_n hx hb dL_law_484 rfl (lv_at hl 3 rfl) ?_
  refine zv_iconst hx hb dL_law_485 ?_
  refine zv_iadd hx hb dL_law_486 ?_
  refine zv_sld hx hb hX hbl hbA hS (i + 4) (by omega) (by omega) hL dL_law_487 ?_
  refine zjx_i (wr := [((x 1), .inr (8, [.ref (x 2), .int (zi tape_length), .int (zi tape_next), .int (zi tape_kind), .int (zi tape_place), .int (zi tape_value)])), ((x 2), .inl (κ 0, 300, .inl (zc tape_bytes))), ((x 3), .inr (6, [.ref (x 4)])), ((x 4), .inl (κ 4, 6, .inr (.inr (.inr (.inr (zmade mk ad)))))), ((x 5), .inr (1, [.int (zi text_faultKind), .int (zi text_faultPlace), .int (zi text_expected), .int (zi text_first), zpg ad text_polygon, .int (zi text_bits)])), ((x 9), .inr (0, [.ref (x 10), .int (zi crossedLines_size)])), ((x 10), .inl (κ 1, 27, .inl (zc crossedLines_lines))), ((x 11), .inr (4, [.ref (x 12), .ref (x 13), .ref (x 14), .int (zi flips_wayLength), .int (zi flips_queued)])), ((x 12), .inl (κ 1, 429, .inl (zc flips_steps))), ((x 13), .inl (κ 1, 429, .inl (zc flips_queue))), ((x 14), .inl (κ 1, 429, .inl (zc flips_way))), ((x 15), .inr (2, [.ref (x 16), .int (zi endless_size)])), ((x 16), .inl (κ 1, 10, .inl (zc endless_numbers))), ((x 17), .inr (7, [.ref (x 18), .ref (x 19), .ref (x 20), .ref (x 21), .ref (x 22), .ref (x 23), .ref (x 24), .ref (x 25), .ref (x 26), .int (zi sightings_size), .int (zi sightings_rights), .int (zi sightings_latest)])), ((x 18), .inl (κ 1, 20, .inl (zc sightings_seenStep))), ((x 19), .inl (κ 1, 20, .inl (zc sightings_seenFrom))), ((x 20), .inl (κ 1, 20, .inl (zc sightings_seenTo))), ((x 21), .inl (κ 1, 20, .inl (zc sightings_seenValue))), ((x 22), .inl (κ 1, 20, .inl (zc sightings_timesRight))), ((x 23), .inl (κ 1, 20, .inl (zc sightings_rightStep))), ((x 24), .inl (κ 1, 20, .inl (zc sightings_rightOf))), ((x 25), .inl (κ 1, 20, .inl (zc sightings_rightValue))), ((x 26), .inl (κ 1, 20, .inl (zc sightings_knownValue))), ((x 27), .inr (3, [.ref (x 28), .ref (x 29), .int (zi fitting_size)])), ((x 28), .inl (κ 1, 429, .inl (zc fitting_numbers))), ((x 29), .inl (κ 1, 22, .inl (zc fitting_tally))), ((x 30), .inl (κ 1, 10, .inl (zc x_toldRow)))]) (X1 := zLX κ x mk ad x_polygon x_bits x_mendedNumber tape_length tape_next tape_kind tape_place tape_value tape_bytes text_faultKind text_faultPlace text_expected text_first text_polygon text_bits (o1.2.1) (o1.2.2.1) (o1.2.2.2.1) (o1.2.2.2.2.1) (o1.2.2.2.2.2.1) (o1.2.2.2.2.2.2.1) (o1.2.2.2.2.2.2.2) crossedLines_size crossedLines_lines flips_wayLength flips_queued flips_steps flips_queue flips_way endless_size endless_numbers sightings_size sightings_rights sightings_latest sightings_seenStep sightings_seenFrom sightings_seenTo sightings_seenValue sightings_timesRight sightings_rightStep sightings_rightOf sightings_rightValue sightings_knownValue fitting_size fitting_numbers fitting_tally x_toldRow) (va_runV (rest := []) ⟨hx, hb, hml, hown, hts⟩ (zc_X10_way l D κ x mk ad H.size x_polygon x_bits x_mendedNumber triangles_count triangles_polygon triangles_from triangles_length triangles_waysAhead triangles_cornersOf triangles_chosen (zX xs (i + 1)) (zX xs (i + 2)) (zX xs (i + 3)) (zX xs (i + 4)) o1 ho1) (cwV 4 hts gL_law_X10_way rfl rfl rfl (by decide +kernel) ⟨Nat.le_of_ble_eq_true rfl, Nat.le_of_ble_eq_true rfl⟩) (zpreWVa hK (hPx.sub [0, 6, 7, 8] rfl) ((zD_left hD).sub [0, 6, 7, 8] (by decide) rfl) hB (hZx.apt [0, 6, 7, 8] rfl) 10 0 rfl rfl) rfl rfl hl.1 rfl (lv_room (Nat.le_of_ble_eq_true rfl)) dL_law_488 hroom) hPx hPy hD hS hB hZx hZy hA [0, 6, 7, 8] [1, 2, 3, 4, 5, 9, 10, 11, 12, 13, 14, 15, 16, 17, 18, 19, 20, 21, 22, 23, 24, 25, 26, 27, 28, 29, 30] [27, 0, 1, 2, 3, 4, 28, 29, 30, 5, 6, 7, 8, 9, 10, 11, 12, 13, 14, 15, 16, 17, 18, 19, 20, 21, 22, 23, 24, 25, 26] rfl rfl (by decide) (by decide) rfl rfl (by decide) (zLX_f.trans zLX_f.symm) (fun H locs hPx hPy hD hS hB hZx hZy => ?_)
  refine lv_pop hx hb dL_law_491 rfl ?_
  refine lv_aload_n hx hb dL_law_492 rfl (lv_at hl 2 rfl) ?_
  refine lv_aload_n hx hb dL_law_493 rfl (lv_at hl 0 rfl) ?_
  refine lv_iload_n hx hb dL_law_494 rfl (lv_at hl 3 rfl) ?_
  refine zv_iconst hx hb dL_law_495 ?_
  refine zv_iadd hx hb dL_law_496 ?_
  refine zv_sld hx hb hX hbl hbA hS (i + 1) (by omega) (by omega) hL dL_law_497 ?_
  refine lv_aload_n hx hb dL_law_498 rfl (lv_at hl 0 rfl) ?_
  refine lv_iload_n hx hb dL_law_499 rfl (lv_at hl 3 rfl) ?_
  refine zv_iconst hx hb dL_law_500 ?_
  refine zv_iadd hx hb dL_law_501 ?_
  refine zv_sld hx hb hX hbl hbA hS (i + 2) (by omega) (by omega) hL dL_law_502 ?_
  refine lv_aload_n hx hb dL_law_503 rfl (lv_at hl 0 rfl) ?_
  refine lv_iload_n hx hb dL_law_504 rfl (lv_at hl 3 rfl) ?_
  refine zv_iconst hx hb dL_law_505 ?_
  refine zv_iadd hx hb dL_law_506 ?_
  refine zv_sld hx hb hX hbl hbA hS (i + 3) (by omega) (by omega) hL dL_law_507 ?_
  refine lv_aload_n hx hb dL_law_508 rfl (lv_at hl 0 rfl) ?_
  refine lv_iload_n hx hb dL_law_509 rfl (lv_at hl 3 rfl) ?_
  refine zv_iconst hx hb dL_law_510 ?_
  refine zv_iadd hx hb dL_law_511 ?_
  refine zv_sld hx hb hX hbl hbA hS (i + 4) (by omega) (by omega) hL dL_law_512 ?_
  refine zjx_i (wr := [((y 1), .inl (κ 0, 300, .inl (zc y_tape))), ((y 5), .inl (κ 2, 429, .inr (.inl (zcL y_list)))), ((y 9), .inl (κ 1, 10, .inl (zc y_from))), ((y 11), .inl (κ 1, 429, .inl (zc y_far))), ((y 12), .inl (κ 1, 429, .inl (zc y_queue))), ((y 13), .inl (κ 1, 64, .inl (zc y_passedBy))), ((y 14), .inl (κ 1, 10, .inl (zc y_told))), ((y 15), .inl (κ 1, 7, .inl (zc y_crossLine))), ((y 16), .inl (κ 1, 7, .inl (zc y_crossFar))), ((y 17), .inl (κ 1, 11, .inl (zc y_period))), ((y 18), .inl (κ 1, 20, .inl (zc y_sTold))), ((y 19), .inl (κ 1, 20, .inl (zc y_sOne))), ((y 20), .inl (κ 1, 20, .inl (zc y_sTwo))), ((y 21), .inl (κ 1, 20, .inl (zc y_sEntry))), ((y 22), .inl (κ 1, 20, .inl (zc y_rTold))), ((y 23), .inl (κ 1, 20, .inl (zc y_rOf))), ((y 24), .inl (κ 1, 20, .inl (zc y_rEntry))), ((y 25), .inl (κ 3, 429, .inl (zc y_fits))), ((y 26), .inl (κ 1, 6400, .inl (zc y_heaps)))]) (X1 := zLY κ y y_taped y_size y_sort y_at y_end y_number y_faultKind y_faultPlace y_word y_corners (o2.2.1) (o2.2.2.1) y_listMany y_listCorners y_own y_newCorners y_newCut (o2.2.2.2.1) y_flipOne y_flipTwo y_passedMany y_rowMany y_mendedBy y_crossMany y_periodMany y_seenMany y_rightMany y_lastTold y_tape (o2.2.2.2.2.1) (o2.2.2.2.2.2.1) (o2.2.2.2.2.2.2.1) y_list (o2.2.2.2.2.2.2.2.1) (o2.2.2.2.2.2.2.2.2.1) (o2.2.2.2.2.2.2.2.2.2.1) y_from (o2.2.2.2.2.2.2.2.2.2.2) y_far y_queue y_passedBy y_told y_crossLine y_crossFar y_period y_sTold y_sOne y_sTwo y_sEntry y_rTold y_rOf y_rEntry y_fits y_heaps) (va_runV (rest := []) ⟨hx, hb, hml, hown, hts⟩ (zc_X11_way l D κ y H.size y_taped y_size y_sort y_at y_end y_number y_faultKind y_faultPlace y_word y_corners y_lines y_linesFor y_listMany y_listCorners y_own y_newCorners y_newCut y_wayLeft y_flipOne y_flipTwo y_passedMany y_rowMany y_mendedBy y_crossMany y_periodMany y_seenMany y_rightMany y_lastTold y_numberOf y_lesser y_greater y_tA y_tB y_tC y_wayAt (zX xs (i + 1)) (zX xs (i + 2)) (zX xs (i + 3)) (zX xs (i + 4)) o2 ho2) (cwV 4 hts gL_law_X11_way rfl rfl rfl (by decide +kernel) ⟨Nat.le_of_ble_eq_true rfl, Nat.le_of_ble_eq_true rfl⟩) (zpreWV hK (hPy.sub [0, 2, 3, 4, 6, 7, 8, 10] rfl) ((zD_left (zD_swap hD)).sub [0, 2, 3, 4, 6, 7, 8, 10] (by decide) rfl) 11 0 rfl rfl) rfl rfl hl.1 rfl (lv_room (Nat.le_of_ble_eq_true rfl)) dL_law_513 hroom) hPy hPx (zD_swap hD) hS hB hZy hZx hA [0, 2, 3, 4, 6, 7, 8, 10] [1, 5, 9, 11, 12, 13, 14, 15, 16, 17, 18, 19, 20, 21, 22, 23, 24, 25, 26] [19, 0, 20, 21, 22, 1, 23, 24, 25, 2, 26, 3, 4, 5, 6, 7, 8, 9, 10, 11, 12, 13, 14, 15, 16, 17, 18] rfl rfl (by decide) (by decide) rfl rfl (by decide) (zLY_f.trans zLY_f.symm) (fun H locs hPy hPx hD hS hB hZy hZx => ?_)
  have hD := zD_swap hD
  refine lv_pop hx hb dL_law_516 rfl ?_
  refine lv_goto (tgt := 1306) hx hb dL_law_517 (by decide) ?_
  exact kk H locs hPx hPy hD hS hB hZx hZy
set_option maxHeartbeats 4000000 in
set_option maxRecDepth 100000 in
theorem zo_10 {p : Program} {l : Launch} {e : Env} {s : State} {m : MethodId} {args : Array Value} {below : List Frame} {meth : Method} {c : Code} {Q : State → Prop} {D : va_G} {κ : Nat → ClassId} {A : Nat → Prop} {H0 : Heap} {b L : Nat} {xs : Nat → Int32} {cells slots : Nat} (x y : Nat → Nat) (mk : Nat) (ad : Nat → Nat → Nat) (x_polygon : Nat) (x_bits : Int) (x_mendedNumber : Int) (tape_length : Int) (tape_next : Int) (tape_kind : Int) (tape_place : Int) (tape_value : Int) (tape_bytes : Nat) (text_faultKind : Int) (text_faultPlace : Int) (text_expected : Int) (text_first : Int) (text_polygon : Nat) (text_bits : Int) (triangles_count : Int) (triangles_polygon : Nat) (triangles_from : Int) (triangles_length : Int) (triangles_waysAhead : Int) (triangles_cornersOf : Nat) (triangles_chosen : Nat) (crossedLines_size : Int) (crossedLines_lines : Nat) (flips_wayLength : Int) (flips_queued : Int) (flips_steps : Nat) (flips_queue : Nat) (flips_way : Nat) (endless_size : Int) (endless_numbers : Nat) (sightings_size : Int) (sightings_rights : Int) (sightings_latest : Int) (sightings_seenStep : Nat) (sightings_seenFrom : Nat) (sightings_seenTo : Nat) (sightings_seenValue : Nat) (sightings_timesRight : Nat) (sightings_rightStep : Nat) (sightings_rightOf : Nat) (sightings_rightValue : Nat) (sightings_knownValue : Nat) (fitting_size : Int) (fitting_numbers : Nat) (fitting_tally : Nat) (x_toldRow : Nat) (y_taped : Int) (y_size : Int) (y_sort : Int) (y_at : Int) (y_end : Int) (y_number : Int) (y_faultKind : Int) (y_faultPlace : Int) (y_word : Int) (y_corners : Int) (y_lines : Int) (y_linesFor : Int) (y_listMany : Int) (y_listCorners : Int) (y_own : Int) (y_newCorners : Int) (y_newCut : Int) (y_wayLeft : Int) (y_flipOne : Int) (y_flipTwo : Int) (y_passedMany : Int) (y_rowMany : Int) (y_mendedBy : Int) (y_crossMany : Int) (y_periodMany : Int) (y_seenMany : Int) (y_rightMany : Int) (y_lastTold : Int) (y_tape : Nat) (y_numberOf : Nat) (y_lesser : Nat) (y_greater : Nat) (y_list : Nat) (y_tA : Nat) (y_tB : Nat) (y_tC : Nat) (y_from : Nat) (y_wayAt : Nat) (y_far : Nat) (y_queue : Nat) (y_passedBy : Nat) (y_told : Nat) (y_crossLine : Nat) (y_crossFar : Nat) (y_period : Nat) (y_sTold : Nat) (y_sOne : Nat) (y_sTwo : Nat) (y_sEntry : Nat) (y_rTold : Nat) (y_rOf : Nat) (y_rEntry : Nat) (y_fits : Nat) (y_heaps : Nat) (hx : p.tables.exec = Jvm.exec) (hb : c.code = cL_law) (hml : c.maxLocals = 4) (hown : s.vm.findClass RL = some m.cls) (hts : ∀ w ∈ wsL_law, w.before args s = true) (hK : va_K D vwCl (zTY κ) s) (hA : ∀ q : Nat, H0.size ≤ q → A q) (hX : va_X b L xs s H0) (hbl : b < H0.size) (hbA : ¬ A b) (hL : L ≤ 3072) (hroom : cells ≤ room_1.cells ∧ slots ≤ room_1.slots) (i : Nat) (hi : i + 6 ≤ L) (H : Heap) (locs : List Loc) (ls : Array Slot) (hPx : va_P D vwCl (zLX κ x mk ad x_polygon x_bits x_mendedNumber tape_length tape_next tape_kind tape_place tape_value tape_bytes text_faultKind text_faultPlace text_expected text_first text_polygon text_bits triangles_count triangles_polygon triangles_from triangles_length triangles_waysAhead triangles_cornersOf triangles_chosen crossedLines_size crossedLines_lines flips_wayLength flips_queued flips_steps flips_queue flips_way endless_size endless_numbers sightings_size sightings_rights sightings_latest sightings_seenStep sightings_seenFrom sightings_seenTo sightings_seenValue sightings_timesRight sightings_rightStep sightings_rightOf sightings_rightValue sightings_knownValue fitting_size fitting_numbers fitting_tally x_toldRow) H) (hPy : va_P D vwCl (zLY κ y y_taped y_size y_sort y_at y_end y_number y_faultKind y_faultPlace y_word y_corners y_lines y_linesFor y_listMany y_listCorners y_own y_newCorners y_newCut y_wayLeft y_flipOne y_flipTwo y_passedMany y_rowMany y_mendedBy y_crossMany y_periodMany y_seenMany y_rightMany y_lastTold y_tape y_numberOf y_lesser y_greater y_list y_tA y_tB y_tC y_from y_wayAt y_far y_queue y_passedBy y_told y_crossLine y_crossFar y_period y_sTold y_sOne y_sTwo y_sEntry y_rTold y_rOf y_rEntry y_fits y_heaps) H) (hD : va_D A (zLX κ x mk ad x_polygon x_bits x_mendedNumber tape_length tape_next tape_kind tape_place tape_value tape_bytes text_faultKind text_faultPlace text_expected text_first text_polygon text_bits triangles_count triangles_polygon triangles_from triangles_length triangles_waysAhead triangles_cornersOf triangles_chosen crossedLines_size crossedLines_lines flips_wayLength flips_queued flips_steps flips_queue flips_way endless_size endless_numbers sightings_size sightings_rights sightings_latest sightings_seenStep sightings_seenFrom sightings_seenTo sightings_seenValue sightings_timesRight sightings_rightStep sightings_rightOf sightings_rightValue sightings_knownValue fitting_size fitting_numbers fitting_tally x_toldRow ++ zLY κ y y_taped y_size y_sort y_at y_end y_number y_faultKind y_faultPlace y_word y_corners y_lines y_linesFor y_listMany y_listCorners y_own y_newCorners y_newCut y_wayLeft y_flipOne y_flipTwo y_passedMany y_rowMany y_mendedBy y_crossMany y_periodMany y_seenMany y_rightMany y_lastTold y_tape y_numberOf y_lesser y_greater y_list y_tA y_tB y_tC y_from y_wayAt y_far y_queue y_passedBy y_told y_crossLine y_crossFar y_period y_sTold y_sOne y_sTwo y_sEntry y_rTold y_rOf y_rEntry y_fits y_heaps)) (hS : va_S A H0 H locs) (hB : zAmb D κ mk ad H) (hZx : zSep mk ad (zLX κ x mk ad x_polygon x_bits x_mendedNumber tape_length tape_next tape_kind tape_place tape_value tape_bytes text_faultKind text_faultPlace text_expected text_first text_polygon text_bits triangles_count triangles_polygon triangles_from triangles_length triangles_waysAhead triangles_cornersOf triangles_chosen crossedLines_size crossedLines_lines flips_wayLength flips_queued flips_steps flips_queue flips_way endless_size endless_numbers sightings_size sightings_rights sightings_latest sightings_seenStep sightings_seenFrom sightings_seenTo sightings_seenValue sightings_timesRight sightings_rightStep sightings_rightOf sightings_rightValue sightings_knownValue fitting_size fitting_numbers fitting_tally x_toldRow) H.size) (hZy : zSep mk ad (zLY κ y y_taped y_size y_sort y_at y_end y_number y_faultKind y_faultPlace y_word y_corners y_lines y_linesFor y_listMany y_listCorners y_own y_newCorners y_newCut y_wayLeft y_flipOne y_flipTwo y_passedMany y_rowMany y_mendedBy y_crossMany y_periodMany y_seenMany y_rightMany y_lastTold y_tape y_numberOf y_lesser y_greater y_list y_tA y_tB y_tC y_from y_wayAt y_far y_queue y_passedBy y_told y_crossLine y_crossFar y_period y_sTold y_sOne y_sTwo y_sEntry y_rTold y_rOf y_rEntry y_fits y_heaps) H.size) (hl : lv_has ls 4 [(0, .ref b), (1, .ref (x 0)), (2, .ref (y 0)), (3, .int (zi (i : Int)))])  (o1 : Int × Int) (ho1 : zf_X10_flip mk x_polygon x_bits (zX xs (i + 1)) (zX xs (i + 2)) = some o1) (o2 : Int × Int × Int × Int × Int × Int × Nat × Nat × Nat) (ho2 : zf_X11_flip y_corners y_lines y_linesFor y_own y_flipOne y_flipTwo y_numberOf y_lesser y_greater (zX xs (i + 1)) (zX xs (i + 2)) = some o2) 
    (kk : ∀ (H : Heap) (locs : List Loc), va_P D vwCl (zLX κ x mk ad x_polygon (o1.2) x_mendedNumber tape_length tape_next tape_kind tape_place tape_value tape_bytes text_faultKind text_faultPlace text_expected text_first text_polygon text_bits triangles_count triangles_polygon triangles_from triangles_length triangles_waysAhead triangles_cornersOf triangles_chosen crossedLines_size crossedLines_lines flips_wayLength flips_queued flips_steps flips_queue flips_way endless_size endless_numbers sightings_size sightings_rights sightings_latest sightings_seenStep sightings_seenFrom sightings_seenTo sightings_seenValue sightings_timesRight sightings_rightStep sightings_rightOf sightings_rightValue sightings_knownValue fitting_size fitting_numbers fitting_tally x_toldRow) H → va_P D vwCl (zLY κ y y_taped y_size y_sort y_at y_end y_number y_faultKind y_faultPlace y_word y_corners (o2.2.1) (o2.2.2.1) y_listMany y_listCorners (o2.2.2.2.1) y_newCorners y_newCut y_wayLeft (o2.2.2.2.2.1) (o2.2.2.2.2.2.1) y_passedMany y_rowMany y_mendedBy y_crossMany y_periodMany y_seenMany y_rightMany y_lastTold y_tape (o2.2.2.2.2.2.2.1) (o2.2.2.2.2.2.2.2.1) (o2.2.2.2.2.2.2.2.2) y_list y_tA y_tB y_tC y_from y_wayAt y_far y_queue y_passedBy y_told y_crossLine y_crossFar y_period y_sTold y_sOne y_sTwo y_sEntry y_rTold y_rOf y_rEntry y_fits y_heaps) H → va_D A (zLX κ x mk ad x_polygon (o1.2) x_mendedNumber tape_length tape_next tape_kind tape_place tape_value tape_bytes text_faultKind text_faultPlace text_expected text_first text_polygon text_bits triangles_count triangles_polygon triangles_from triangles_length triangles_waysAhead triangles_cornersOf triangles_chosen crossedLines_size crossedLines_lines flips_wayLength flips_queued flips_steps flips_queue flips_way endless_size endless_numbers sightings_size sightings_rights sightings_latest sightings_seenStep sightings_seenFrom sightings_seenTo sightings_seenValue sightings_timesRight sightings_rightStep sightings_rightOf sightings_rightValue sightings_knownValue fitting_size fitting_numbers fitting_tally x_toldRow ++ zLY κ y y_taped y_size y_sort y_at y_end y_number y_faultKind y_faultPlace y_word y_corners (o2.2.1) (o2.2.2.1) y_listMany y_listCorners (o2.2.2.2.1) y_newCorners y_newCut y_wayLeft (o2.2.2.2.2.1) (o2.2.2.2.2.2.1) y_passedMany y_rowMany y_mendedBy y_crossMany y_periodMany y_seenMany y_rightMany y_lastTold y_tape (o2.2.2.2.2.2.2.1) (o2.2.2.2.2.2.2.2.1) (o2.2.2.2.2.2.2.2.2) y_list y_tA y_tB y_tC y_from y_wayAt y_far y_queue y_passedBy y_told y_crossLine y_crossFar y_period y_sTold y_sOne y_sTwo y_sEntry y_rTold y_rOf y_rEntry y_fits y_heaps) → va_S A H0 H locs → zAmb D κ mk ad H → zSep mk ad (zLX κ x mk ad x_polygon (o1.2) x_mendedNumber tape_length tape_next tape_kind tape_place tape_value tape_bytes text_faultKind text_faultPlace text_expected text_first text_polygon text_bits triangles_count triangles_polygon triangles_from triangles_length triangles_waysAhead triangles_cornersOf triangles_chosen crossedLines_size crossedLines_lines flips_wayLength flips_queued flips_steps flips_queue flips_way endless_size endless_numbers sightings_size sightings_rights sightings_latest sightings_seenStep sightings_seenFrom sightings_seenTo sightings_seenValue sightings_timesRight sightings_rightStep sightings_rightOf sightings_rightValue sightings_knownValue fitting_size fitting_numbers fitting_tally x_toldRow) H.size → zSep mk ad (zLY κ y y_taped y_size y_sort y_at y_end y_number y_faultKind y_faultPlace y_word y_corners (o2.2.1) (o2.2.2.1) y_listMany y_listCorners (o2.2.2.2.1) y_newCorners y_newCut y_wayLeft (o2.2.2.2.2.1) (o2.2.2.2.2.2.1) y_passedMany y_rowMany y_mendedBy y_crossMany y_periodMany y_seenMany y_rightMany y_lastTold y_tape (o2.2.2.2.2.2.2.1) (o2.2.2.2.2.2.2.2.1) (o2.2.2.2.2.2.2.2.2) y_list y_tA y_tB y_tC y_from y_wayAt y_far y_queue y_passedBy y_told y_crossLine y_crossFar y_period y_sTold y_sOne y_sTwo y_sEntry y_rTold y_rOf y_rEntry y_fits y_heaps) H.size → W p l e room_1 s m args below meth c H locs cells slots Q (F0 m 1306 ls [])) : W p l e room_1 s m args below meth c H locs cells slots Q (F0 m 520 ls []) := by
  refine lv_aload_n hx hb dL_law_520 rfl (lv_at hl 1 rfl) ?_
  refine lv_aload_n hx hb dL_law_521 rfl (lv_at hl 0 rfl) ?_
  refine lv_iload_n hx hb dL_law_522 rfl (lv_at hl 3 rfl) ?_
  refine zv_iconst hx hb dL_law_523 ?_
  refine zv_iadd hx hb dL_law_524 ?_
  refine zv_sld hx hb hX hbl hbA hS (i + 1) (by omega) (by omega) hL dL_law_525 ?_
  refine lv_aload_n hx hb dL_law_526 rfl (lv_at hl 0 rfl) ?_
  refine lv_iload_n hx hb dL_law_527 rfl (lv_at hl 3 rfl) ?_
  refine zv_iconst hx hb dL_law_528 ?_
  refine zv_iadd hx hb dL_law_529 ?_
  refine zv_sld hx hb hX hbl hbA hS (i + 2) (by omega) (by omega) hL dL_law_530 ?_
  refine zjx_i (wr := [((x 1), .inr (8, [.ref (x 2), .int (zi tape_length), .int (zi tape_next), .int (zi tape_kind), .int (zi tape_place), .int (zi tape_value)])), ((x 2), .inl (κ 0, 300, .inl (zc tape_bytes))), ((x 3), .inr (6, [.ref (x 4)])), ((x 4), .inl (κ 4, 6, .inr (.inr (.inr (.inr (zmade mk ad)))))), ((x 5), .inr (1, [.int (zi text_faultKind), .int (zi text_faultPlace), .int (zi text_expected), .int (zi text_first), zpg ad text_polygon, .int (zi text_bits)])), ((x 6), .inr (9, [.ref (x 7), .ref (x 8), .int (zi triangles_count), zpg ad triangles_polygon, .int (zi triangles_from), .int (zi triangles_length), .int (zi triangles_waysAhead)])), ((x 7), .inl (κ 1, 21, .inl (zc triangles_cornersOf))), ((x 8), .inl (κ 1, 7, .inl (zc triangles_chosen))), ((x 9), .inr (0, [.ref (x 10), .int (zi crossedLines_size)])), ((x 10), .inl (κ 1, 27, .inl (zc crossedLines_lines))), ((x 11), .inr (4, [.ref (x 12), .ref (x 13), .ref (x 14), .int (zi flips_wayLength), .int (zi flips_queued)])), ((x 12), .inl (κ 1, 429, .inl (zc flips_steps))), ((x 13), .inl (κ 1, 429, .inl (zc flips_queue))), ((x 14), .inl (κ 1, 429, .inl (zc flips_way))), ((x 15), .inr (2, [.ref (x 16), .int (zi endless_size)])), ((x 16), .inl (κ 1, 10, .inl (zc endless_numbers))), ((x 17), .inr (7, [.ref (x 18), .ref (x 19), .ref (x 20), .ref (x 21), .ref (x 22), .ref (x 23), .ref (x 24), .ref (x 25), .ref (x 26), .int (zi sightings_size), .int (zi sightings_rights), .int (zi sightings_latest)])), ((x 18), .inl (κ 1, 20, .inl (zc sightings_seenStep))), ((x 19), .inl (κ 1, 20, .inl (zc sightings_seenFrom))), ((x 20), .inl (κ 1, 20, .inl (zc sightings_seenTo))), ((x 21), .inl (κ 1, 20, .inl (zc sightings_seenValue))), ((x 22), .inl (κ 1, 20, .inl (zc sightings_timesRight))), ((x 23), .inl (κ 1, 20, .inl (zc sightings_rightStep))), ((x 24), .inl (κ 1, 20, .inl (zc sightings_rightOf))), ((x 25), .inl (κ 1, 20, .inl (zc sightings_rightValue))), ((x 26), .inl (κ 1, 20, .inl (zc sightings_knownValue))), ((x 27), .inr (3, [.ref (x 28), .ref (x 29), .int (zi fitting_size)])), ((x 28), .inl (κ 1, 429, .inl (zc fitting_numbers))), ((x 29), .inl (κ 1, 22, .inl (zc fitting_tally))), ((x 30), .inl (κ 1, 10, .inl (zc x_toldRow)))]) (X1 := zLX κ x mk ad x_polygon (o1.2) x_mendedNumber tape_length tape_next tape_kind tape_place tape_value tape_bytes text_faultKind text_faultPlace text_expected text_first text_polygon text_bits triangles_count triangles_polygon triangles_from triangles_length triangles_waysAhead triangles_cornersOf triangles_chosen crossedLines_size crossedLines_lines flips_wayLength flips_queued flips_steps flips_queue flips_way endless_size endless_numbers sightings_size sightings_rights sightings_latest sightings_seenStep sightings_seenFrom sightings_seenTo sightings_seenValue sightings_timesRight sightings_rightStep sightings_rightOf sightings_rightValue sightings_knownValue fitting_size fitting_numbers fitting_tally x_toldRow) (va_runV (rest := []) ⟨hx, hb, hml, hown, hts⟩ (zc_X10_flip l D κ x mk ad H.size x_polygon x_bits x_mendedNumber (zX xs (i + 1)) (zX xs (i + 2)) o1 ho1) (cwV 2 hts gL_law_X10_flip rfl rfl rfl (by decide +kernel) ⟨Nat.le_of_ble_eq_true rfl, Nat.le_of_ble_eq_true rfl⟩) (zpreWVa hK (hPx.sub [0] rfl) ((zD_left hD).sub [0] (by decide) rfl) hB (hZx.apt [0] rfl) 10 0 rfl rfl) rfl rfl hl.1 rfl (lv_room (Nat.le_of_ble_eq_true rfl)) dL_law_531 hroom) hPx hPy hD hS hB hZx hZy hA [0] [1, 2, 3, 4, 5, 6, 7, 8, 9, 10, 11, 12, 13, 14, 15, 16, 17, 18, 19, 20, 21, 22, 23, 24, 25, 26, 27, 28, 29, 30] [30, 0, 1, 2, 3, 4, 5, 6, 7, 8, 9, 10, 11, 12, 13, 14, 15, 16, 17, 18, 19, 20, 21, 22, 23, 24, 25, 26, 27, 28, 29] rfl rfl (by decide) (by decide) rfl rfl (by decide) (zLX_f.trans zLX_f.symm) (fun H locs hPx hPy hD hS hB hZx hZy => ?_)
  refine lv_pop hx hb dL_law_534 rfl ?_
  refine lv_aload_n hx hb dL_law_535 rfl (lv_at hl 2 rfl) ?_
  refine lv_aload_n hx hb dL_law_536 rfl (lv_at hl 0 rfl) ?_
  refine lv_iload_n hx hb dL_law_537 rfl (lv_at hl 3 rfl) ?_
  refine zv_iconst hx hb dL_law_538 ?_
  refine zv_iadd hx hb dL_law_539 ?_
  refine zv_sld hx hb hX hbl hbA hS (i + 1) (by omega) (by omega) hL dL_law_540 ?_
  refine lv_aload_n hx hb dL_law_541 rfl (lv_at hl 0 rfl) ?_
  refine lv_iload_n hx hb dL_law_542 rfl (lv_at hl 3 rfl) ?_
  refine zv_iconst hx hb dL_law_543 ?_
  refine zv_iadd hx hb dL_law_544 ?_
  refine zv_sld hx hb hX hbl hbA hS (i + 2) (by omega) (by omega) hL dL_law_545 ?_
  refine zjx_i (wr := [((y 1), .inl (κ 0, 300, .inl (zc y_tape))), ((y 5), .inl (κ 2, 429, .inr (.inl (zcL y_list)))), ((y 6), .inl (κ 1, 8, .inl (zc y_tA))), ((y 7), .inl (κ 1, 8, .inl (zc y_tB))), ((y 8), .inl (κ 1, 8, .inl (zc y_tC))), ((y 9), .inl (κ 1, 10, .inl (zc y_from))), ((y 10), .inl (κ 1, 10, .inl (zc y_wayAt))), ((y 11), .inl (κ 1, 429, .inl (zc y_far))), ((y 12), .inl (κ 1, 429, .inl (zc y_queue))), ((y 13), .inl (κ 1, 64, .inl (zc y_passedBy))), ((y 14), .inl (κ 1, 10, .inl (zc y_told))), ((y 15), .inl (κ 1, 7, .inl (zc y_crossLine))), ((y 16), .inl (κ 1, 7, .inl (zc y_crossFar))), ((y 17), .inl (κ 1, 11, .inl (zc y_period))), ((y 18), .inl (κ 1, 20, .inl (zc y_sTold))), ((y 19), .inl (κ 1, 20, .inl (zc y_sOne))), ((y 20), .inl (κ 1, 20, .inl (zc y_sTwo))), ((y 21), .inl (κ 1, 20, .inl (zc y_sEntry))), ((y 22), .inl (κ 1, 20, .inl (zc y_rTold))), ((y 23), .inl (κ 1, 20, .inl (zc y_rOf))), ((y 24), .inl (κ 1, 20, .inl (zc y_rEntry))), ((y 25), .inl (κ 3, 429, .inl (zc y_fits))), ((y 26), .inl (κ 1, 6400, .inl (zc y_heaps)))]) (X1 := zLY κ y y_taped y_size y_sort y_at y_end y_number y_faultKind y_faultPlace y_word y_corners (o2.2.1) (o2.2.2.1) y_listMany y_listCorners (o2.2.2.2.1) y_newCorners y_newCut y_wayLeft (o2.2.2.2.2.1) (o2.2.2.2.2.2.1) y_passedMany y_rowMany y_mendedBy y_crossMany y_periodMany y_seenMany y_rightMany y_lastTold y_tape (o2.2.2.2.2.2.2.1) (o2.2.2.2.2.2.2.2.1) (o2.2.2.2.2.2.2.2.2) y_list y_tA y_tB y_tC y_from y_wayAt y_far y_queue y_passedBy y_told y_crossLine y_crossFar y_period y_sTold y_sOne y_sTwo y_sEntry y_rTold y_rOf y_rEntry y_fits y_heaps) (va_runV (rest := []) ⟨hx, hb, hml, hown, hts⟩ (zc_X11_flip l D κ y H.size y_taped y_size y_sort y_at y_end y_number y_faultKind y_faultPlace y_word y_corners y_lines y_linesFor y_listMany y_listCorners y_own y_newCorners y_newCut y_wayLeft y_flipOne y_flipTwo y_passedMany y_rowMany y_mendedBy y_crossMany y_periodMany y_seenMany y_rightMany y_lastTold y_numberOf y_lesser y_greater (zX xs (i + 1)) (zX xs (i + 2)) o2 ho2) (cwV 2 hts gL_law_X11_flip rfl rfl rfl (by decide +kernel) ⟨Nat.le_of_ble_eq_true rfl, Nat.le_of_ble_eq_true rfl⟩) (zpreWV hK (hPy.sub [0, 2, 3, 4] rfl) ((zD_left (zD_swap hD)).sub [0, 2, 3, 4] (by decide) rfl) 11 0 rfl rfl) rfl rfl hl.1 rfl (lv_room (Nat.le_of_ble_eq_true rfl)) dL_law_546 hroom) hPy hPx (zD_swap hD) hS hB hZy hZx hA [0, 2, 3, 4] [1, 5, 6, 7, 8, 9, 10, 11, 12, 13, 14, 15, 16, 17, 18, 19, 20, 21, 22, 23, 24, 25, 26] [23, 0, 24, 25, 26, 1, 2, 3, 4, 5, 6, 7, 8, 9, 10, 11, 12, 13, 14, 15, 16, 17, 18, 19, 20, 21, 22] rfl rfl (by decide) (by decide) rfl rfl (by decide) (zLY_f.trans zLY_f.symm) (fun H locs hPy hPx hD hS hB hZy hZx => ?_)
  have hD := zD_swap hD
  refine lv_pop hx hb dL_law_549 rfl ?_
  refine lv_goto (tgt := 1306) hx hb dL_law_550 (by decide) ?_
  exact kk H locs hPx hPy hD hS hB hZx hZy
set_option maxHeartbeats 4000000 in
set_option maxRecDepth 100000 in
theorem zo_11 {p : Program} {l : Launch} {e : Env} {s : State} {m : MethodId} {args : Array Value} {below : List Frame} {meth : Method} {c : Code} {Q : State → Prop} {D : va_G} {κ : Nat → ClassId} {A : Nat → Prop} {H0 : Heap} {b L : Nat} {xs : Nat → Int32} {cells slots : Nat} (x y : Nat → Nat) (mk : Nat) (ad : Nat → Nat → Nat) (x_polygon : Nat) (x_bits : Int) (x_mendedNumber : Int) (tape_length : Int) (tape_next : Int) (tape_kind : Int) (tape_place : Int) (tape_value : Int) (tape_bytes : Nat) (text_faultKind : Int) (text_faultPlace : Int) (text_expected : Int) (text_first : Int) (text_polygon : Nat) (text_bits : Int) (triangles_count : Int) (triangles_polygon : Nat) (triangles_from : Int) (triangles_length : Int) (triangles_waysAhead : Int) (triangles_cornersOf : Nat) (triangles_chosen : Nat) (crossedLines_size : Int) (crossedLines_lines : Nat) (flips_wayLength : Int) (flips_queued : Int) (flips_steps : Nat) (flips_queue : Nat) (flips_way : Nat) (endless_size : Int) (endless_numbers : Nat) (sightings_size : Int) (sightings_rights : Int) (sightings_latest : Int) (sightings_seenStep : Nat) (sightings_seenFrom : Nat) (sightings_seenTo : Nat) (sightings_seenValue : Nat) (sightings_timesRight : Nat) (sightings_rightStep : Nat) (sightings_rightOf : Nat) (sightings_rightValue : Nat) (sightings_knownValue : Nat) (fitting_size : Int) (fitting_numbers : Nat) (fitting_tally : Nat) (x_toldRow : Nat) (y_taped : Int) (y_size : Int) (y_sort : Int) (y_at : Int) (y_end : Int) (y_number : Int) (y_faultKind : Int) (y_faultPlace : Int) (y_word : Int) (y_corners : Int) (y_lines : Int) (y_linesFor : Int) (y_listMany : Int) (y_listCorners : Int) (y_own : Int) (y_newCorners : Int) (y_newCut : Int) (y_wayLeft : Int) (y_flipOne : Int) (y_flipTwo : Int) (y_passedMany : Int) (y_rowMany : Int) (y_mendedBy : Int) (y_crossMany : Int) (y_periodMany : Int) (y_seenMany : Int) (y_rightMany : Int) (y_lastTold : Int) (y_tape : Nat) (y_numberOf : Nat) (y_lesser : Nat) (y_greater : Nat) (y_list : Nat) (y_tA : Nat) (y_tB : Nat) (y_tC : Nat) (y_from : Nat) (y_wayAt : Nat) (y_far : Nat) (y_queue : Nat) (y_passedBy : Nat) (y_told : Nat) (y_crossLine : Nat) (y_crossFar : Nat) (y_period : Nat) (y_sTold : Nat) (y_sOne : Nat) (y_sTwo : Nat) (y_sEntry : Nat) (y_rTold : Nat) (y_rOf : Nat) (y_rEntry : Nat) (y_fits : Nat) (y_heaps : Nat) (hx : p.tables.exec = Jvm.exec) (hb : c.code = cL_law) (hml : c.maxLocals = 4) (hown : s.vm.findClass RL = some m.cls) (hts : ∀ w ∈ wsL_law, w.before args s = true) (hK : va_K D vwCl (zTY κ) s) (hA : ∀ q : Nat, H0.size ≤ q → A q) (hX : va_X b L xs s H0) (hbl : b < H0.size) (hbA : ¬ A b) (hL : L ≤ 3072) (hroom : cells ≤ room_1.cells ∧ slots ≤ room_1.slots) (i : Nat) (hi : i + 6 ≤ L) (H : Heap) (locs : List Loc) (ls : Array Slot) (hPx : va_P D vwCl (zLX κ x mk ad x_polygon x_bits x_mendedNumber tape_length tape_next tape_kind tape_place tape_value tape_bytes text_faultKind text_faultPlace text_expected text_first text_polygon text_bits triangles_count triangles_polygon triangles_from triangles_length triangles_waysAhead triangles_cornersOf triangles_chosen crossedLines_size crossedLines_lines flips_wayLength flips_queued flips_steps flips_queue flips_way endless_size endless_numbers sightings_size sightings_rights sightings_latest sightings_seenStep sightings_seenFrom sightings_seenTo sightings_seenValue sightings_timesRight sightings_rightStep sightings_rightOf sightings_rightValue sightings_knownValue fitting_size fitting_numbers fitting_tally x_toldRow) H) (hPy : va_P D vwCl (zLY κ y y_taped y_size y_sort y_at y_end y_number y_faultKind y_faultPlace y_word y_corners y_lines y_linesFor y_listMany y_listCorners y_own y_newCorners y_newCut y_wayLeft y_flipOne y_flipTwo y_passedMany y_rowMany y_mendedBy y_crossMany y_periodMany y_seenMany y_rightMany y_lastTold y_tape y_numberOf y_lesser y_greater y_list y_tA y_tB y_tC y_from y_wayAt y_far y_queue y_passedBy y_told y_crossLine y_crossFar y_period y_sTold y_sOne y_sTwo y_sEntry y_rTold y_rOf y_rEntry y_fits y_heaps) H) (hD : va_D A (zLX κ x mk ad x_polygon x_bits x_mendedNumber tape_length tape_next tape_kind tape_place tape_value tape_bytes text_faultKind text_faultPlace text_expected text_first text_polygon text_bits triangles_count triangles_polygon triangles_from triangles_length triangles_waysAhead triangles_cornersOf triangles_chosen crossedLines_size crossedLines_lines flips_wayLength flips_queued flips_steps flips_queue flips_way endless_size endless_numbers sightings_size sightings_rights sightings_latest sightings_seenStep sightings_seenFrom sightings_seenTo sightings_seenValue sightings_timesRight sightings_rightStep sightings_rightOf sightings_rightValue sightings_knownValue fitting_size fitting_numbers fitting_tally x_toldRow ++ zLY κ y y_taped y_size y_sort y_at y_end y_number y_faultKind y_faultPlace y_word y_corners y_lines y_linesFor y_listMany y_listCorners y_own y_newCorners y_newCut y_wayLeft y_flipOne y_flipTwo y_passedMany y_rowMany y_mendedBy y_crossMany y_periodMany y_seenMany y_rightMany y_lastTold y_tape y_numberOf y_lesser y_greater y_list y_tA y_tB y_tC y_from y_wayAt y_far y_queue y_passedBy y_told y_crossLine y_crossFar y_period y_sTold y_sOne y_sTwo y_sEntry y_rTold y_rOf y_rEntry y_fits y_heaps)) (hS : va_S A H0 H locs) (hB : zAmb D κ mk ad H) (hZx : zSep mk ad (zLX κ x mk ad x_polygon x_bits x_mendedNumber tape_length tape_next tape_kind tape_place tape_value tape_bytes text_faultKind text_faultPlace text_expected text_first text_polygon text_bits triangles_count triangles_polygon triangles_from triangles_length triangles_waysAhead triangles_cornersOf triangles_chosen crossedLines_size crossedLines_lines flips_wayLength flips_queued flips_steps flips_queue flips_way endless_size endless_numbers sightings_size sightings_rights sightings_latest sightings_seenStep sightings_seenFrom sightings_seenTo sightings_seenValue sightings_timesRight sightings_rightStep sightings_rightOf sightings_rightValue sightings_knownValue fitting_size fitting_numbers fitting_tally x_toldRow) H.size) (hZy : zSep mk ad (zLY κ y y_taped y_size y_sort y_at y_end y_number y_faultKind y_faultPlace y_word y_corners y_lines y_linesFor y_listMany y_listCorners y_own y_newCorners y_newCut y_wayLeft y_flipOne y_flipTwo y_passedMany y_rowMany y_mendedBy y_crossMany y_periodMany y_seenMany y_rightMany y_lastTold y_tape y_numberOf y_lesser y_greater y_list y_tA y_tB y_tC y_from y_wayAt y_far y_queue y_passedBy y_told y_crossLine y_crossFar y_period y_sTold y_sOne y_sTwo y_sEntry y_rTold y_rOf y_rEntry y_fits y_heaps) H.size) (hl : lv_has ls 4 [(0, .ref b), (1, .ref (x 0)), (2, .ref (y 0)), (3, .int (zi (i : Int)))])  (o1 : Int × Int × Int × Nat × Nat × Nat) (ho1 : zf_X10_fewest mk x_polygon x_bits flips_wayLength flips_queued flips_steps flips_queue flips_way (zX xs (i + 1)) = some o1) (o2 : Int × Int × Int × Int × Int × Int × Int × Int × Nat × Nat × Nat × Nat × Nat × Nat × Nat) (ho2 : zf_X11_fewest y_corners y_lines y_linesFor y_listMany y_listCorners y_own y_flipOne y_flipTwo y_passedMany y_numberOf y_lesser y_greater y_list y_far y_queue y_passedBy (zX xs (i + 1)) = some o2) 
    (kk : ∀ (H : Heap) (locs : List Loc), va_P D vwCl (zLX κ x mk ad x_polygon x_bits x_mendedNumber tape_length tape_next tape_kind tape_place tape_value tape_bytes text_faultKind text_faultPlace text_expected text_first text_polygon text_bits triangles_count triangles_polygon triangles_from triangles_length triangles_waysAhead triangles_cornersOf triangles_chosen crossedLines_size crossedLines_lines (o1.2.1) (o1.2.2.1) (o1.2.2.2.1) (o1.2.2.2.2.1) (o1.2.2.2.2.2) endless_size endless_numbers sightings_size sightings_rights sightings_latest sightings_seenStep sightings_seenFrom sightings_seenTo sightings_seenValue sightings_timesRight sightings_rightStep sightings_rightOf sightings_rightValue sightings_knownValue fitting_size fitting_numbers fitting_tally x_toldRow) H → va_P D vwCl (zLY κ y y_taped y_size y_sort y_at y_end y_number y_faultKind y_faultPlace y_word y_corners (o2.2.1) (o2.2.2.1) (o2.2.2.2.1) (o2.2.2.2.2.1) y_own y_newCorners y_newCut y_wayLeft (o2.2.2.2.2.2.1) (o2.2.2.2.2.2.2.1) (o2.2.2.2.2.2.2.2.1) y_rowMany y_mendedBy y_crossMany y_periodMany y_seenMany y_rightMany y_lastTold y_tape (o2.2.2.2.2.2.2.2.2.1) (o2.2.2.2.2.2.2.2.2.2.1) (o2.2.2.2.2.2.2.2.2.2.2.1) (o2.2.2.2.2.2.2.2.2.2.2.2.1) y_tA y_tB y_tC y_from y_wayAt (o2.2.2.2.2.2.2.2.2.2.2.2.2.1) (o2.2.2.2.2.2.2.2.2.2.2.2.2.2.1) (o2.2.2.2.2.2.2.2.2.2.2.2.2.2.2) y_told y_crossLine y_crossFar y_period y_sTold y_sOne y_sTwo y_sEntry y_rTold y_rOf y_rEntry y_fits y_heaps) H → va_D A (zLX κ x mk ad x_polygon x_bits x_mendedNumber tape_length tape_next tape_kind tape_place tape_value tape_bytes text_faultKind text_faultPlace text_expected text_first text_polygon text_bits triangles_count triangles_polygon triangles_from triangles_length triangles_waysAhead triangles_cornersOf triangles_chosen crossedLines_size crossedLines_lines (o1.2.1) (o1.2.2.1) (o1.2.2.2.1) (o1.2.2.2.2.1) (o1.2.2.2.2.2) endless_size endless_numbers sightings_size sightings_rights sightings_latest sightings_seenStep sightings_seenFrom sightings_seenTo sightings_seenValue sightings_timesRight sightings_rightStep sightings_rightOf sightings_rightValue sightings_knownValue fitting_size fitting_numbers fitting_tally x_toldRow ++ zLY κ y y_taped y_size y_sort y_at y_end y_number y_faultKind y_faultPlace y_word y_corners (o2.2.1) (o2.2.2.1) (o2.2.2.2.1) (o2.2.2.2.2.1) y_own y_newCorners y_newCut y_wayLeft (o2.2.2.2.2.2.1) (o2.2.2.2.2.2.2.1) (o2.2.2.2.2.2.2.2.1) y_rowMany y_mendedBy y_crossMany y_periodMany y_seenMany y_rightMany y_lastTold y_tape (o2.2.2.2.2.2.2.2.2.1) (o2.2.2.2.2.2.2.2.2.2.1) (o2.2.2.2.2.2.2.2.2.2.2.1) (o2.2.2.2.2.2.2.2.2.2.2.2.1) y_tA y_tB y_tC y_from y_wayAt (o2.2.2.2.2.2.2.2.2.2.2.2.2.1) (o2.2.2.2.2.2.2.2.2.2.2.2.2.2.1) (o2.2.2.2.2.2.2.2.2.2.2.2.2.2.2) y_told y_crossLine y_crossFar y_period y_sTold y_sOne y_sTwo y_sEntry y_rTold y_rOf y_rEntry y_fits y_heaps) → va_S A H0 H locs → zAmb D κ mk ad H → zSep mk ad (zLX κ x mk ad x_polygon x_bits x_mendedNumber tape_length tape_next tape_kind tape_place tape_value tape_bytes text_faultKind text_faultPlace text_expected text_first text_polygon text_bits triangles_count triangles_polygon triangles_from triangles_length triangles_waysAhead triangles_cornersOf triangles_chosen crossedLines_size crossedLines_lines (o1.2.1) (o1.2.2.1) (o1.2.2.2.1) (o1.2.2.2.2.1) (o1.2.2.2.2.2) endless_size endless_numbers sightings_size sightings_rights sightings_latest sightings_seenStep sightings_seenFrom sightings_seenTo sightings_seenValue sightings_timesRight sightings_rightStep sightings_rightOf sightings_rightValue sightings_knownValue fitting_size fitting_numbers fitting_tally x_toldRow) H.size → zSep mk ad (zLY κ y y_taped y_size y_sort y_at y_end y_number y_faultKind y_faultPlace y_word y_corners (o2.2.1) (o2.2.2.1) (o2.2.2.2.1) (o2.2.2.2.2.1) y_own y_newCorners y_newCut y_wayLeft (o2.2.2.2.2.2.1) (o2.2.2.2.2.2.2.1) (o2.2.2.2.2.2.2.2.1) y_rowMany y_mendedBy y_crossMany y_periodMany y_seenMany y_rightMany y_lastTold y_tape (o2.2.2.2.2.2.2.2.2.1) (o2.2.2.2.2.2.2.2.2.2.1) (o2.2.2.2.2.2.2.2.2.2.2.1) (o2.2.2.2.2.2.2.2.2.2.2.2.1) y_tA y_tB y_tC y_from y_wayAt (o2.2.2.2.2.2.2.2.2.2.2.2.2.1) (o2.2.2.2.2.2.2.2.2.2.2.2.2.2.1) (o2.2.2.2.2.2.2.2.2.2.2.2.2.2.2) y_told y_crossLine y_crossFar y_period y_sTold y_sOne y_sTwo y_sEntry y_rTold y_rOf y_rEntry y_fits y_heaps) H.size → W p l e room_1 s m args below meth c H locs cells slots Q (F0 m 1306 ls [])) : W p l e room_1 s m args below meth c H locs cells slots Q (F0 m 553 ls []) := by
  refine lv_aload_n hx hb dL_law_553 rfl (lv_at hl 1 rfl) ?_
  refine lv_aload_n hx hb dL_law_554 rfl (lv_at hl 0 rfl) ?_
  refine lv_iload_n hx hb dL_law_555 rfl (lv_at hl 3 rfl) ?_
  refine zv_iconst hx hb dL_law_556 ?_
  refine zv_iadd hx hb dL_law_557 ?_
  refine zv_sld hx hb hX hbl hbA hS (i + 1) (by omega) (by omega) hL dL_law_558 ?_
  refine zjx_i (wr := [((x 1), .inr (8, [.ref (x 2), .int (zi tape_length), .int (zi tape_next), .int (zi tape_kind), .int (zi tape_place), .int (zi tape_value)])), ((x 2), .inl (κ 0, 300, .inl (zc tape_bytes))), ((x 3), .inr (6, [.ref (x 4)])), ((x 4), .inl (κ 4, 6, .inr (.inr (.inr (.inr (zmade mk ad)))))), ((x 5), .inr (1, [.int (zi text_faultKind), .int (zi text_faultPlace), .int (zi text_expected), .int (zi text_first), zpg ad text_polygon, .int (zi text_bits)])), ((x 6), .inr (9, [.ref (x 7), .ref (x 8), .int (zi triangles_count), zpg ad triangles_polygon, .int (zi triangles_from), .int (zi triangles_length), .int (zi triangles_waysAhead)])), ((x 7), .inl (κ 1, 21, .inl (zc triangles_cornersOf))), ((x 8), .inl (κ 1, 7, .inl (zc triangles_chosen))), ((x 9), .inr (0, [.ref (x 10), .int (zi crossedLines_size)])), ((x 10), .inl (κ 1, 27, .inl (zc crossedLines_lines))), ((x 15), .inr (2, [.ref (x 16), .int (zi endless_size)])), ((x 16), .inl (κ 1, 10, .inl (zc endless_numbers))), ((x 17), .inr (7, [.ref (x 18), .ref (x 19), .ref (x 20), .ref (x 21), .ref (x 22), .ref (x 23), .ref (x 24), .ref (x 25), .ref (x 26), .int (zi sightings_size), .int (zi sightings_rights), .int (zi sightings_latest)])), ((x 18), .inl (κ 1, 20, .inl (zc sightings_seenStep))), ((x 19), .inl (κ 1, 20, .inl (zc sightings_seenFrom))), ((x 20), .inl (κ 1, 20, .inl (zc sightings_seenTo))), ((x 21), .inl (κ 1, 20, .inl (zc sightings_seenValue))), ((x 22), .inl (κ 1, 20, .inl (zc sightings_timesRight))), ((x 23), .inl (κ 1, 20, .inl (zc sightings_rightStep))), ((x 24), .inl (κ 1, 20, .inl (zc sightings_rightOf))), ((x 25), .inl (κ 1, 20, .inl (zc sightings_rightValue))), ((x 26), .inl (κ 1, 20, .inl (zc sightings_knownValue))), ((x 27), .inr (3, [.ref (x 28), .ref (x 29), .int (zi fitting_size)])), ((x 28), .inl (κ 1, 429, .inl (zc fitting_numbers))), ((x 29), .inl (κ 1, 22, .inl (zc fitting_tally))), ((x 30), .inl (κ 1, 10, .inl (zc x_toldRow)))]) (X1 := zLX κ x mk ad x_polygon x_bits x_mendedNumber tape_length tape_next tape_kind tape_place tape_value tape_bytes text_faultKind text_faultPlace text_expected text_first text_polygon text_bits triangles_count triangles_polygon triangles_from triangles_length triangles_waysAhead triangles_cornersOf triangles_chosen crossedLines_size crossedLines_lines (o1.2.1) (o1.2.2.1) (o1.2.2.2.1) (o1.2.2.2.2.1) (o1.2.2.2.2.2) endless_size endless_numbers sightings_size sightings_rights sightings_latest sightings_seenStep sightings_seenFrom sightings_seenTo sightings_seenValue sightings_timesRight sightings_rightStep sightings_rightOf sightings_rightValue sightings_knownValue fitting_size fitting_numbers fitting_tally x_toldRow) (va_runV (rest := []) ⟨hx, hb, hml, hown, hts⟩ (zc_X10_fewest l D κ x mk ad H.size x_polygon x_bits x_mendedNumber flips_wayLength flips_queued flips_steps flips_queue flips_way (zX xs (i + 1)) o1 ho1) (cwV 1 hts gL_law_X10_fewest rfl rfl rfl (by decide +kernel) ⟨Nat.le_of_ble_eq_true rfl, Nat.le_of_ble_eq_true rfl⟩) (zpreWVa hK (hPx.sub [0, 11, 12, 13, 14] rfl) ((zD_left hD).sub [0, 11, 12, 13, 14] (by decide) rfl) hB (hZx.apt [0, 11, 12, 13, 14] rfl) 10 0 rfl rfl) rfl rfl hl.1 rfl (lv_room (Nat.le_of_ble_eq_true rfl)) dL_law_559 hroom) hPx hPy hD hS hB hZx hZy hA [0, 11, 12, 13, 14] [1, 2, 3, 4, 5, 6, 7, 8, 9, 10, 15, 16, 17, 18, 19, 20, 21, 22, 23, 24, 25, 26, 27, 28, 29, 30] [26, 0, 1, 2, 3, 4, 5, 6, 7, 8, 9, 27, 28, 29, 30, 10, 11, 12, 13, 14, 15, 16, 17, 18, 19, 20, 21, 22, 23, 24, 25] rfl rfl (by decide) (by decide) rfl rfl (by decide) (zLX_f.trans zLX_f.symm) (fun H locs hPx hPy hD hS hB hZx hZy => ?_)
  refine lv_pop hx hb dL_law_562 rfl ?_
  refine lv_aload_n hx hb dL_law_563 rfl (lv_at hl 2 rfl) ?_
  refine lv_aload_n hx hb dL_law_564 rfl (lv_at hl 0 rfl) ?_
  refine lv_iload_n hx hb dL_law_565 rfl (lv_at hl 3 rfl) ?_
  refine zv_iconst hx hb dL_law_566 ?_
  refine zv_iadd hx hb dL_law_567 ?_
  refine zv_sld hx hb hX hbl hbA hS (i + 1) (by omega) (by omega) hL dL_law_568 ?_
  refine zjx_i (wr := [((y 1), .inl (κ 0, 300, .inl (zc y_tape))), ((y 6), .inl (κ 1, 8, .inl (zc y_tA))), ((y 7), .inl (κ 1, 8, .inl (zc y_tB))), ((y 8), .inl (κ 1, 8, .inl (zc y_tC))), ((y 9), .inl (κ 1, 10, .inl (zc y_from))), ((y 10), .inl (κ 1, 10, .inl (zc y_wayAt))), ((y 14), .inl (κ 1, 10, .inl (zc y_told))), ((y 15), .inl (κ 1, 7, .inl (zc y_crossLine))), ((y 16), .inl (κ 1, 7, .inl (zc y_crossFar))), ((y 17), .inl (κ 1, 11, .inl (zc y_period))), ((y 18), .inl (κ 1, 20, .inl (zc y_sTold))), ((y 19), .inl (κ 1, 20, .inl (zc y_sOne))), ((y 20), .inl (κ 1, 20, .inl (zc y_sTwo))), ((y 21), .inl (κ 1, 20, .inl (zc y_sEntry))), ((y 22), .inl (κ 1, 20, .inl (zc y_rTold))), ((y 23), .inl (κ 1, 20, .inl (zc y_rOf))), ((y 24), .inl (κ 1, 20, .inl (zc y_rEntry))), ((y 25), .inl (κ 3, 429, .inl (zc y_fits))), ((y 26), .inl (κ 1, 6400, .inl (zc y_heaps)))]) (X1 := zLY κ y y_taped y_size y_sort y_at y_end y_number y_faultKind y_faultPlace y_word y_corners (o2.2.1) (o2.2.2.1) (o2.2.2.2.1) (o2.2.2.2.2.1) y_own y_newCorners y_newCut y_wayLeft (o2.2.2.2.2.2.1) (o2.2.2.2.2.2.2.1) (o2.2.2.2.2.2.2.2.1) y_rowMany y_mendedBy y_crossMany y_periodMany y_seenMany y_rightMany y_lastTold y_tape (o2.2.2.2.2.2.2.2.2.1) (o2.2.2.2.2.2.2.2.2.2.1) (o2.2.2.2.2.2.2.2.2.2.2.1) (o2.2.2.2.2.2.2.2.2.2.2.2.1) y_tA y_tB y_tC y_from y_wayAt (o2.2.2.2.2.2.2.2.2.2.2.2.2.1) (o2.2.2.2.2.2.2.2.2.2.2.2.2.2.1) (o2.2.2.2.2.2.2.2.2.2.2.2.2.2.2) y_told y_crossLine y_crossFar y_period y_sTold y_sOne y_sTwo y_sEntry y_rTold y_rOf y_rEntry y_fits y_heaps) (va_runV (rest := []) ⟨hx, hb, hml, hown, hts⟩ (zc_X11_fewest l D κ y H.size y_taped y_size y_sort y_at y_end y_number y_faultKind y_faultPlace y_word y_corners y_lines y_linesFor y_listMany y_listCorners y_own y_newCorners y_newCut y_wayLeft y_flipOne y_flipTwo y_passedMany y_rowMany y_mendedBy y_crossMany y_periodMany y_seenMany y_rightMany y_lastTold y_numberOf y_lesser y_greater y_list y_far y_queue y_passedBy (zX xs (i + 1)) o2 ho2) (cwV 1 hts gL_law_X11_fewest rfl rfl rfl (by decide +kernel) ⟨Nat.le_of_ble_eq_true rfl, Nat.le_of_ble_eq_true rfl⟩) (zpreWV hK (hPy.sub [0, 2, 3, 4, 5, 11, 12, 13] rfl) ((zD_left (zD_swap hD)).sub [0, 2, 3, 4, 5, 11, 12, 13] (by decide) rfl) 11 0 rfl rfl) rfl rfl hl.1 rfl (lv_room (Nat.le_of_ble_eq_true rfl)) dL_law_569 hroom) hPy hPx (zD_swap hD) hS hB hZy hZx hA [0, 2, 3, 4, 5, 11, 12, 13] [1, 6, 7, 8, 9, 10, 14, 15, 16, 17, 18, 19, 20, 21, 22, 23, 24, 25, 26] [19, 0, 20, 21, 22, 23, 1, 2, 3, 4, 5, 24, 25, 26, 6, 7, 8, 9, 10, 11, 12, 13, 14, 15, 16, 17, 18] rfl rfl (by decide) (by decide) rfl rfl (by decide) (zLY_f.trans zLY_f.symm) (fun H locs hPy hPx hD hS hB hZy hZx => ?_)
  have hD := zD_swap hD
  refine lv_pop hx hb dL_law_572 rfl ?_
  refine lv_goto (tgt := 1306) hx hb dL_law_573 (by decide) ?_
  exact kk H locs hPx hPy hD hS hB hZx hZy
set_option maxHeartbeats 4000000 in
set_option maxRecDepth 100000 in
theorem zo_12 {p : Program} {l : Launch} {e : Env} {s : State} {m : MethodId} {args : Array Value} {below : List Frame} {meth : Method} {c : Code} {Q : State → Prop} {D : va_G} {κ : Nat → ClassId} {A : Nat → Prop} {H0 : Heap} {b L : Nat} {xs : Nat → Int32} {cells slots : Nat} (x y : Nat → Nat) (mk : Nat) (ad : Nat → Nat → Nat) (x_polygon : Nat) (x_bits : Int) (x_mendedNumber : Int) (tape_length : Int) (tape_next : Int) (tape_kind : Int) (tape_place : Int) (tape_value : Int) (tape_bytes : Nat) (text_faultKind : Int) (text_faultPlace : Int) (text_expected : Int) (text_first : Int) (text_polygon : Nat) (text_bits : Int) (triangles_count : Int) (triangles_polygon : Nat) (triangles_from : Int) (triangles_length : Int) (triangles_waysAhead : Int) (triangles_cornersOf : Nat) (triangles_chosen : Nat) (crossedLines_size : Int) (crossedLines_lines : Nat) (flips_wayLength : Int) (flips_queued : Int) (flips_steps : Nat) (flips_queue : Nat) (flips_way : Nat) (endless_size : Int) (endless_numbers : Nat) (sightings_size : Int) (sightings_rights : Int) (sightings_latest : Int) (sightings_seenStep : Nat) (sightings_seenFrom : Nat) (sightings_seenTo : Nat) (sightings_seenValue : Nat) (sightings_timesRight : Nat) (sightings_rightStep : Nat) (sightings_rightOf : Nat) (sightings_rightValue : Nat) (sightings_knownValue : Nat) (fitting_size : Int) (fitting_numbers : Nat) (fitting_tally : Nat) (x_toldRow : Nat) (y_taped : Int) (y_size : Int) (y_sort : Int) (y_at : Int) (y_end : Int) (y_number : Int) (y_faultKind : Int) (y_faultPlace : Int) (y_word : Int) (y_corners : Int) (y_lines : Int) (y_linesFor : Int) (y_listMany : Int) (y_listCorners : Int) (y_own : Int) (y_newCorners : Int) (y_newCut : Int) (y_wayLeft : Int) (y_flipOne : Int) (y_flipTwo : Int) (y_passedMany : Int) (y_rowMany : Int) (y_mendedBy : Int) (y_crossMany : Int) (y_periodMany : Int) (y_seenMany : Int) (y_rightMany : Int) (y_lastTold : Int) (y_tape : Nat) (y_numberOf : Nat) (y_lesser : Nat) (y_greater : Nat) (y_list : Nat) (y_tA : Nat) (y_tB : Nat) (y_tC : Nat) (y_from : Nat) (y_wayAt : Nat) (y_far : Nat) (y_queue : Nat) (y_passedBy : Nat) (y_told : Nat) (y_crossLine : Nat) (y_crossFar : Nat) (y_period : Nat) (y_sTold : Nat) (y_sOne : Nat) (y_sTwo : Nat) (y_sEntry : Nat) (y_rTold : Nat) (y_rOf : Nat) (y_rEntry : Nat) (y_fits : Nat) (y_heaps : Nat) (hx : p.tables.exec = Jvm.exec) (hb : c.code = cL_law) (hml : c.maxLocals = 4) (hown : s.vm.findClass RL = some m.cls) (hts : ∀ w ∈ wsL_law, w.before args s = true) (hK : va_K D vwCl (zTY κ) s) (hA : ∀ q : Nat, H0.size ≤ q → A q) (hX : va_X b L xs s H0) (hbl : b < H0.size) (hbA : ¬ A b) (hL : L ≤ 3072) (hroom : cells ≤ room_1.cells ∧ slots ≤ room_1.slots) (i : Nat) (hi : i + 6 ≤ L) (H : Heap) (locs : List Loc) (ls : Array Slot) (hPx : va_P D vwCl (zLX κ x mk ad x_polygon x_bits x_mendedNumber tape_length tape_next tape_kind tape_place tape_value tape_bytes text_faultKind text_faultPlace text_expected text_first text_polygon text_bits triangles_count triangles_polygon triangles_from triangles_length triangles_waysAhead triangles_cornersOf triangles_chosen crossedLines_size crossedLines_lines flips_wayLength flips_queued flips_steps flips_queue flips_way endless_size endless_numbers sightings_size sightings_rights sightings_latest sightings_seenStep sightings_seenFrom sightings_seenTo sightings_seenValue sightings_timesRight sightings_rightStep sightings_rightOf sightings_rightValue sightings_knownValue fitting_size fitting_numbers fitting_tally x_toldRow) H) (hPy : va_P D vwCl (zLY κ y y_taped y_size y_sort y_at y_end y_number y_faultKind y_faultPlace y_word y_corners y_lines y_linesFor y_listMany y_listCorners y_own y_newCorners y_newCut y_wayLeft y_flipOne y_flipTwo y_passedMany y_rowMany y_mendedBy y_crossMany y_periodMany y_seenMany y_rightMany y_lastTold y_tape y_numberOf y_lesser y_greater y_list y_tA y_tB y_tC y_from y_wayAt y_far y_queue y_passedBy y_told y_crossLine y_crossFar y_period y_sTold y_sOne y_sTwo y_sEntry y_rTold y_rOf y_rEntry y_fits y_heaps) H) (hD : va_D A (zLX κ x mk ad x_polygon x_bits x_mendedNumber tape_length tape_next tape_kind tape_place tape_value tape_bytes text_faultKind text_faultPlace text_expected text_first text_polygon text_bits triangles_count triangles_polygon triangles_from triangles_length triangles_waysAhead triangles_cornersOf triangles_chosen crossedLines_size crossedLines_lines flips_wayLength flips_queued flips_steps flips_queue flips_way endless_size endless_numbers sightings_size sightings_rights sightings_latest sightings_seenStep sightings_seenFrom sightings_seenTo sightings_seenValue sightings_timesRight sightings_rightStep sightings_rightOf sightings_rightValue sightings_knownValue fitting_size fitting_numbers fitting_tally x_toldRow ++ zLY κ y y_taped y_size y_sort y_at y_end y_number y_faultKind y_faultPlace y_word y_corners y_lines y_linesFor y_listMany y_listCorners y_own y_newCorners y_newCut y_wayLeft y_flipOne y_flipTwo y_passedMany y_rowMany y_mendedBy y_crossMany y_periodMany y_seenMany y_rightMany y_lastTold y_tape y_numberOf y_lesser y_greater y_list y_tA y_tB y_tC y_from y_wayAt y_far y_queue y_passedBy y_told y_crossLine y_crossFar y_period y_sTold y_sOne y_sTwo y_sEntry y_rTold y_rOf y_rEntry y_fits y_heaps)) (hS : va_S A H0 H locs) (hB : zAmb D κ mk ad H) (hZx : zSep mk ad (zLX κ x mk ad x_polygon x_bits x_mendedNumber tape_length tape_next tape_kind tape_place tape_value tape_bytes text_faultKind text_faultPlace text_expected text_first text_polygon text_bits triangles_count triangles_polygon triangles_from triangles_length triangles_waysAhead triangles_cornersOf triangles_chosen crossedLines_size crossedLines_lines flips_wayLength flips_queued flips_steps flips_queue flips_way endless_size endless_numbers sightings_size sightings_rights sightings_latest sightings_seenStep sightings_seenFrom sightings_seenTo sightings_seenValue sightings_timesRight sightings_rightStep sightings_rightOf sightings_rightValue sightings_knownValue fitting_size fitting_numbers fitting_tally x_toldRow) H.size) (hZy : zSep mk ad (zLY κ y y_taped y_size y_sort y_at y_end y_number y_faultKind y_faultPlace y_word y_corners y_lines y_linesFor y_listMany y_listCorners y_own y_newCorners y_newCut y_wayLeft y_flipOne y_flipTwo y_passedMany y_rowMany y_mendedBy y_crossMany y_periodMany y_seenMany y_rightMany y_lastTold y_tape y_numberOf y_lesser y_greater y_list y_tA y_tB y_tC y_from y_wayAt y_far y_queue y_passedBy y_told y_crossLine y_crossFar y_period y_sTold y_sOne y_sTwo y_sEntry y_rTold y_rOf y_rEntry y_fits y_heaps) H.size) (hl : lv_has ls 4 [(0, .ref b), (1, .ref (x 0)), (2, .ref (y 0)), (3, .int (zi (i : Int)))])  (o1 : Int) (ho1 : zf_X10_passed mk flips_wayLength flips_way (zX xs (i + 1)) = some o1) (o2 : Int) (ho2 : zf_X11_passed y_passedMany y_passedBy (zX xs (i + 1)) = some o2) 
    (kk : ∀ (H : Heap) (locs : List Loc), va_P D vwCl (zLX κ x mk ad x_polygon x_bits x_mendedNumber tape_length tape_next tape_kind tape_place tape_value tape_bytes text_faultKind text_faultPlace text_expected text_first text_polygon text_bits triangles_count triangles_polygon triangles_from triangles_length triangles_waysAhead triangles_cornersOf triangles_chosen crossedLines_size crossedLines_lines flips_wayLength flips_queued flips_steps flips_queue flips_way endless_size endless_numbers sightings_size sightings_rights sightings_latest sightings_seenStep sightings_seenFrom sightings_seenTo sightings_seenValue sightings_timesRight sightings_rightStep sightings_rightOf sightings_rightValue sightings_knownValue fitting_size fitting_numbers fitting_tally x_toldRow) H → va_P D vwCl (zLY κ y y_taped y_size y_sort y_at y_end y_number y_faultKind y_faultPlace y_word y_corners y_lines y_linesFor y_listMany y_listCorners y_own y_newCorners y_newCut y_wayLeft y_flipOne y_flipTwo y_passedMany y_rowMany y_mendedBy y_crossMany y_periodMany y_seenMany y_rightMany y_lastTold y_tape y_numberOf y_lesser y_greater y_list y_tA y_tB y_tC y_from y_wayAt y_far y_queue y_passedBy y_told y_crossLine y_crossFar y_period y_sTold y_sOne y_sTwo y_sEntry y_rTold y_rOf y_rEntry y_fits y_heaps) H → va_D A (zLX κ x mk ad x_polygon x_bits x_mendedNumber tape_length tape_next tape_kind tape_place tape_value tape_bytes text_faultKind text_faultPlace text_expected text_first text_polygon text_bits triangles_count triangles_polygon triangles_from triangles_length triangles_waysAhead triangles_cornersOf triangles_chosen crossedLines_size crossedLines_lines flips_wayLength flips_queued flips_steps flips_queue flips_way endless_size endless_numbers sightings_size sightings_rights sightings_latest sightings_seenStep sightings_seenFrom sightings_seenTo sightings_seenValue sightings_timesRight sightings_rightStep sightings_rightOf sightings_rightValue sightings_knownValue fitting_size fitting_numbers fitting_tally x_toldRow ++ zLY κ y y_taped y_size y_sort y_at y_end y_number y_faultKind y_faultPlace y_word y_corners y_lines y_linesFor y_listMany y_listCorners y_own y_newCorners y_newCut y_wayLeft y_flipOne y_flipTwo y_passedMany y_rowMany y_mendedBy y_crossMany y_periodMany y_seenMany y_rightMany y_lastTold y_tape y_numberOf y_lesser y_greater y_list y_tA y_tB y_tC y_from y_wayAt y_far y_queue y_passedBy y_told y_crossLine y_crossFar y_period y_sTold y_sOne y_sTwo y_sEntry y_rTold y_rOf y_rEntry y_fits y_heaps) → va_S A H0 H locs → zAmb D κ mk ad H → zSep mk ad (zLX κ x mk ad x_polygon x_bits x_mendedNumber tape_length tape_next tape_kind tape_place tape_value tape_bytes text_faultKind text_faultPlace text_expected text_first text_polygon text_bits triangles_count triangles_polygon triangles_from triangles_length triangles_waysAhead triangles_cornersOf triangles_chosen crossedLines_size crossedLines_lines flips_wayLength flips_queued flips_steps flips_queue flips_way endless_size endless_numbers sightings_size sightings_rights sightings_latest sightings_seenStep sightings_seenFrom sightings_seenTo sightings_seenValue sightings_timesRight sightings_rightStep sightings_rightOf sightings_rightValue sightings_knownValue fitting_size fitting_numbers fitting_tally x_toldRow) H.size → zSep mk ad (zLY κ y y_taped y_size y_sort y_at y_end y_number y_faultKind y_faultPlace y_word y_corners y_lines y_linesFor y_listMany y_listCorners y_own y_newCorners y_newCut y_wayLeft y_flipOne y_flipTwo y_passedMany y_rowMany y_mendedBy y_crossMany y_periodMany y_seenMany y_rightMany y_lastTold y_tape y_numberOf y_lesser y_greater y_list y_tA y_tB y_tC y_from y_wayAt y_far y_queue y_passedBy y_told y_crossLine y_crossFar y_period y_sTold y_sOne y_sTwo y_sEntry y_rTold y_rOf y_rEntry y_fits y_heaps) H.size → W p l e room_1 s m args below meth c H locs cells slots Q (F0 m 1306 ls [])) : W p l e room_1 s m args below meth c H locs cells slots Q (F0 m 576 ls []) := by
  refine lv_aload_n hx hb dL_law_576 rfl (lv_at hl 1 rfl) ?_
  refine lv_aload_n hx hb dL_law_577 rfl (lv_at hl 0 rfl) ?_
  refine lv_iload_n hx hb dL_law_578 rfl (lv_at hl 3 rfl) ?_
  refine zv_iconst hx hb dL_law_579 ?_
  refine zv_iadd hx hb dL_law_580 ?_
  refine zv_sld hx hb hX hbl hbA hS (i + 1) (by omega) (by omega) hL dL_law_581 ?_
  refine zc_vi (rest := []) ⟨hx, hb, hml, hown, hts⟩ (zc_X10_passed l D κ x mk ad x_polygon x_bits x_mendedNumber flips_wayLength flips_queued flips_steps flips_queue flips_way (zX xs (i + 1)) o1 ho1) (cwV 1 hts gL_law_X10_passed rfl rfl rfl (by decide +kernel) ⟨Nat.le_of_ble_eq_true rfl, Nat.le_of_ble_eq_true rfl⟩) (zpreVa hK (hPx.sub [0, 11, 12, 13, 14] rfl) hB 10 0 rfl rfl) rfl hl.1 rfl (Nat.le_of_ble_eq_true rfl) dL_law_582 hroom ?_
  refine lv_pop hx hb dL_law_585 rfl ?_
  refine lv_aload_n hx hb dL_law_586 rfl (lv_at hl 2 rfl) ?_
  refine lv_aload_n hx hb dL_law_587 rfl (lv_at hl 0 rfl) ?_
  refine lv_iload_n hx hb dL_law_588 rfl (lv_at hl 3 rfl) ?_
  refine zv_iconst hx hb dL_law_589 ?_
  refine zv_iadd hx hb dL_law_590 ?_
  refine zv_sld hx hb hX hbl hbA hS (i + 1) (by omega) (by omega) hL dL_law_591 ?_
  refine zc_vi (rest := []) ⟨hx, hb, hml, hown, hts⟩ (zc_X11_passed l D κ y y_taped y_size y_sort y_at y_end y_number y_faultKind y_faultPlace y_word y_corners y_lines y_linesFor y_listMany y_listCorners y_own y_newCorners y_newCut y_wayLeft y_flipOne y_flipTwo y_passedMany y_rowMany y_mendedBy y_crossMany y_periodMany y_seenMany y_rightMany y_lastTold y_passedBy (zX xs (i + 1)) o2 ho2) (cwV 1 hts gL_law_X11_passed rfl rfl rfl (by decide +kernel) ⟨Nat.le_of_ble_eq_true rfl, Nat.le_of_ble_eq_true rfl⟩) (zpreV hK (hPy.sub [0, 13] rfl) 11 0 rfl rfl) rfl hl.1 rfl (Nat.le_of_ble_eq_true rfl) dL_law_592 hroom ?_
  refine lv_pop hx hb dL_law_595 rfl ?_
  refine lv_goto (tgt := 1306) hx hb dL_law_596 (by decide) ?_
  exact kk H locs hPx hPy hD hS hB hZx hZy
set_option maxHeartbeats 4000000 in
set_option maxRecDepth 100000 in
theorem zo_13 {p : Program} {l : Launch} {e : Env} {s : State} {m : MethodId} {args : Array Value} {below : List Frame} {meth : Method} {c : Code} {Q : State → Prop} {D : va_G} {κ : Nat → ClassId} {A : Nat → Prop} {H0 : Heap} {b L : Nat} {xs : Nat → Int32} {cells slots : Nat} (x y : Nat → Nat) (mk : Nat) (ad : Nat → Nat → Nat) (x_polygon : Nat) (x_bits : Int) (x_mendedNumber : Int) (tape_length : Int) (tape_next : Int) (tape_kind : Int) (tape_place : Int) (tape_value : Int) (tape_bytes : Nat) (text_faultKind : Int) (text_faultPlace : Int) (text_expected : Int) (text_first : Int) (text_polygon : Nat) (text_bits : Int) (triangles_count : Int) (triangles_polygon : Nat) (triangles_from : Int) (triangles_length : Int) (triangles_waysAhead : Int) (triangles_cornersOf : Nat) (triangles_chosen : Nat) (crossedLines_size : Int) (crossedLines_lines : Nat) (flips_wayLength : Int) (flips_queued : Int) (flips_steps : Nat) (flips_queue : Nat) (flips_way : Nat) (endless_size : Int) (endless_numbers : Nat) (sightings_size : Int) (sightings_rights : Int) (sightings_latest : Int) (sightings_seenStep : Nat) (sightings_seenFrom : Nat) (sightings_seenTo : Nat) (sightings_seenValue : Nat) (sightings_timesRight : Nat) (sightings_rightStep : Nat) (sightings_rightOf : Nat) (sightings_rightValue : Nat) (sightings_knownValue : Nat) (fitting_size : Int) (fitting_numbers : Nat) (fitting_tally : Nat) (x_toldRow : Nat) (y_taped : Int) (y_size : Int) (y_sort : Int) (y_at : Int) (y_end : Int) (y_number : Int) (y_faultKind : Int) (y_faultPlace : Int) (y_word : Int) (y_corners : Int) (y_lines : Int) (y_linesFor : Int) (y_listMany : Int) (y_listCorners : Int) (y_own : Int) (y_newCorners : Int) (y_newCut : Int) (y_wayLeft : Int) (y_flipOne : Int) (y_flipTwo : Int) (y_passedMany : Int) (y_rowMany : Int) (y_mendedBy : Int) (y_crossMany : Int) (y_periodMany : Int) (y_seenMany : Int) (y_rightMany : Int) (y_lastTold : Int) (y_tape : Nat) (y_numberOf : Nat) (y_lesser : Nat) (y_greater : Nat) (y_list : Nat) (y_tA : Nat) (y_tB : Nat) (y_tC : Nat) (y_from : Nat) (y_wayAt : Nat) (y_far : Nat) (y_queue : Nat) (y_passedBy : Nat) (y_told : Nat) (y_crossLine : Nat) (y_crossFar : Nat) (y_period : Nat) (y_sTold : Nat) (y_sOne : Nat) (y_sTwo : Nat) (y_sEntry : Nat) (y_rTold : Nat) (y_rOf : Nat) (y_rEntry : Nat) (y_fits : Nat) (y_heaps : Nat) (hx : p.tables.exec = Jvm.exec) (hb : c.code = cL_law) (hml : c.maxLocals = 4) (hown : s.vm.findClass RL = some m.cls) (hts : ∀ w ∈ wsL_law, w.before args s = true) (hK : va_K D vwCl (zTY κ) s) (hA : ∀ q : Nat, H0.size ≤ q → A q) (hX : va_X b L xs s H0) (hbl : b < H0.size) (hbA : ¬ A b) (hL : L ≤ 3072) (hroom : cells ≤ room_1.cells ∧ slots ≤ room_1.slots) (i : Nat) (hi : i + 6 ≤ L) (H : Heap) (locs : List Loc) (ls : Array Slot) (hPx : va_P D vwCl (zLX κ x mk ad x_polygon x_bits x_mendedNumber tape_length tape_next tape_kind tape_place tape_value tape_bytes text_faultKind text_faultPlace text_expected text_first text_polygon text_bits triangles_count triangles_polygon triangles_from triangles_length triangles_waysAhead triangles_cornersOf triangles_chosen crossedLines_size crossedLines_lines flips_wayLength flips_queued flips_steps flips_queue flips_way endless_size endless_numbers sightings_size sightings_rights sightings_latest sightings_seenStep sightings_seenFrom sightings_seenTo sightings_seenValue sightings_timesRight sightings_rightStep sightings_rightOf sightings_rightValue sightings_knownValue fitting_size fitting_numbers fitting_tally x_toldRow) H) (hPy : va_P D vwCl (zLY κ y y_taped y_size y_sort y_at y_end y_number y_faultKind y_faultPlace y_word y_corners y_lines y_linesFor y_listMany y_listCorners y_own y_newCorners y_newCut y_wayLeft y_flipOne y_flipTwo y_passedMany y_rowMany y_mendedBy y_crossMany y_periodMany y_seenMany y_rightMany y_lastTold y_tape y_numberOf y_lesser y_greater y_list y_tA y_tB y_tC y_from y_wayAt y_far y_queue y_passedBy y_told y_crossLine y_crossFar y_period y_sTold y_sOne y_sTwo y_sEntry y_rTold y_rOf y_rEntry y_fits y_heaps) H) (hD : va_D A (zLX κ x mk ad x_polygon x_bits x_mendedNumber tape_length tape_next tape_kind tape_place tape_value tape_bytes text_faultKind text_faultPlace text_expected text_first text_polygon text_bits triangles_count triangles_polygon triangles_from triangles_length triangles_waysAhead triangles_cornersOf triangles_chosen crossedLines_size crossedLines_lines flips_wayLength flips_queued flips_steps flips_queue flips_way endless_size endless_numbers sightings_size sightings_rights sightings_latest sightings_seenStep sightings_seenFrom sightings_seenTo sightings_seenValue sightings_timesRight sightings_rightStep sightings_rightOf sightings_rightValue sightings_knownValue fitting_size fitting_numbers fitting_tally x_toldRow ++ zLY κ y y_taped y_size y_sort y_at y_end y_number y_faultKind y_faultPlace y_word y_corners y_lines y_linesFor y_listMany y_listCorners y_own y_newCorners y_newCut y_wayLeft y_flipOne y_flipTwo y_passedMany y_rowMany y_mendedBy y_crossMany y_periodMany y_seenMany y_rightMany y_lastTold y_tape y_numberOf y_lesser y_greater y_list y_tA y_tB y_tC y_from y_wayAt y_far y_queue y_passedBy y_told y_crossLine y_crossFar y_period y_sTold y_sOne y_sTwo y_sEntry y_rTold y_rOf y_rEntry y_fits y_heaps)) (hS : va_S A H0 H locs) (hB : zAmb D κ mk ad H) (hZx : zSep mk ad (zLX κ x mk ad x_polygon x_bits x_mendedNumber tape_length tape_next tape_kind tape_place tape_value tape_bytes text_faultKind text_faultPlace text_expected text_first text_polygon text_bits triangles_count triangles_polygon triangles_from triangles_length triangles_waysAhead triangles_cornersOf triangles_chosen crossedLines_size crossedLines_lines flips_wayLength flips_queued flips_steps flips_queue flips_way endless_size endless_numbers sightings_size sightings_rights sightings_latest sightings_seenStep sightings_seenFrom sightings_seenTo sightings_seenValue sightings_timesRight sightings_rightStep sightings_rightOf sightings_rightValue sightings_knownValue fitting_size fitting_numbers fitting_tally x_toldRow) H.size) (hZy : zSep mk ad (zLY κ y y_taped y_size y_sort y_at y_end y_number y_faultKind y_faultPlace y_word y_corners y_lines y_linesFor y_listMany y_listCorners y_own y_newCorners y_newCut y_wayLeft y_flipOne y_flipTwo y_passedMany y_rowMany y_mendedBy y_crossMany y_periodMany y_seenMany y_rightMany y_lastTold y_tape y_numberOf y_lesser y_greater y_list y_tA y_tB y_tC y_from y_wayAt y_far y_queue y_passedBy y_told y_crossLine y_crossFar y_period y_sTold y_sOne y_sTwo y_sEntry y_rTold y_rOf y_rEntry y_fits y_heaps) H.size) (hl : lv_has ls 4 [(0, .ref b), (1, .ref (x 0)), (2, .ref (y 0)), (3, .int (zi (i : Int)))])  (o1 : Int × Int × Nat × Nat) (ho1 : zf_X10_farthest mk x_polygon x_bits flips_queued flips_steps flips_queue (zX xs (i + 1)) = some o1) (o2 : Int × Int × Int × Int × Int × Int × Int × Nat × Nat × Nat × Nat × Nat × Nat) (ho2 : zf_X11_farthest y_corners y_lines y_linesFor y_listMany y_listCorners y_own y_flipOne y_flipTwo y_numberOf y_lesser y_greater y_list y_far y_queue (zX xs (i + 1)) = some o2) 
    (kk : ∀ (H : Heap) (locs : List Loc), va_P D vwCl (zLX κ x mk ad x_polygon x_bits x_mendedNumber tape_length tape_next tape_kind tape_place tape_value tape_bytes text_faultKind text_faultPlace text_expected text_first text_polygon text_bits triangles_count triangles_polygon triangles_from triangles_length triangles_waysAhead triangles_cornersOf triangles_chosen crossedLines_size crossedLines_lines flips_wayLength (o1.2.1) (o1.2.2.1) (o1.2.2.2) flips_way endless_size endless_numbers sightings_size sightings_rights sightings_latest sightings_seenStep sightings_seenFrom sightings_seenTo sightings_seenValue sightings_timesRight sightings_rightStep sightings_rightOf sightings_rightValue sightings_knownValue fitting_size fitting_numbers fitting_tally x_toldRow) H → va_P D vwCl (zLY κ y y_taped y_size y_sort y_at y_end y_number y_faultKind y_faultPlace y_word y_corners (o2.2.1) (o2.2.2.1) (o2.2.2.2.1) (o2.2.2.2.2.1) y_own y_newCorners y_newCut y_wayLeft (o2.2.2.2.2.2.1) (o2.2.2.2.2.2.2.1) y_passedMany y_rowMany y_mendedBy y_crossMany y_periodMany y_seenMany y_rightMany y_lastTold y_tape (o2.2.2.2.2.2.2.2.1) (o2.2.2.2.2.2.2.2.2.1) (o2.2.2.2.2.2.2.2.2.2.1) (o2.2.2.2.2.2.2.2.2.2.2.1) y_tA y_tB y_tC y_from y_wayAt (o2.2.2.2.2.2.2.2.2.2.2.2.1) (o2.2.2.2.2.2.2.2.2.2.2.2.2) y_passedBy y_told y_crossLine y_crossFar y_period y_sTold y_sOne y_sTwo y_sEntry y_rTold y_rOf y_rEntry y_fits y_heaps) H → va_D A (zLX κ x mk ad x_polygon x_bits x_mendedNumber tape_length tape_next tape_kind tape_place tape_value tape_bytes text_faultKind text_faultPlace text_expected text_first text_polygon text_bits triangles_count triangles_polygon triangles_from triangles_length triangles_waysAhead triangles_cornersOf triangles_chosen crossedLines_size crossedLines_lines flips_wayLength (o1.2.1) (o1.2.2.1) (o1.2.2.2) flips_way endless_size endless_numbers sightings_size sightings_rights sightings_latest sightings_seenStep sightings_seenFrom sightings_seenTo sightings_seenValue sightings_timesRight sightings_rightStep sightings_rightOf sightings_rightValue sightings_knownValue fitting_size fitting_numbers fitting_tally x_toldRow ++ zLY κ y y_taped y_size y_sort y_at y_end y_number y_faultKind y_faultPlace y_word y_corners (o2.2.1) (o2.2.2.1) (o2.2.2.2.1) (o2.2.2.2.2.1) y_own y_newCorners y_newCut y_wayLeft (o2.2.2.2.2.2.1) (o2.2.2.2.2.2.2.1) y_passedMany y_rowMany y_mendedBy y_crossMany y_periodMany y_seenMany y_rightMany y_lastTold y_tape (o2.2.2.2.2.2.2.2.1) (o2.2.2.2.2.2.2.2.2.1) (o2.2.2.2.2.2.2.2.2.2.1) (o2.2.2.2.2.2.2.2.2.2.2.1) y_tA y_tB y_tC y_from y_wayAt (o2.2.2.2.2.2.2.2.2.2.2.2.1) (o2.2.2.2.2.2.2.2.2.2.2.2.2) y_passedBy y_told y_crossLine y_crossFar y_period y_sTold y_sOne y_sTwo y_sEntry y_rTold y_rOf y_rEntry y_fits y_heaps) → va_S A H0 H locs → zAmb D κ mk ad H → zSep mk ad (zLX κ x mk ad x_polygon x_bits x_mendedNumber tape_length tape_next tape_kind tape_place tape_value tape_bytes text_faultKind text_faultPlace text_expected text_first text_polygon text_bits triangles_count triangles_polygon triangles_from triangles_length triangles_waysAhead triangles_cornersOf triangles_chosen crossedLines_size crossedLines_lines flips_wayLength (o1.2.1) (o1.2.2.1) (o1.2.2.2) flips_way endless_size endless_numbers sightings_size sightings_rights sightings_latest sightings_seenStep sightings_seenFrom sightings_seenTo sightings_seenValue sightings_timesRight sightings_rightStep sightings_rightOf sightings_rightValue sightings_knownValue fitting_size fitting_numbers fitting_tally x_toldRow) H.size → zSep mk ad (zLY κ y y_taped y_size y_sort y_at y_end y_number y_faultKind y_faultPlace y_word y_corners (o2.2.1) (o2.2.2.1) (o2.2.2.2.1) (o2.2.2.2.2.1) y_own y_newCorners y_newCut y_wayLeft (o2.2.2.2.2.2.1) (o2.2.2.2.2.2.2.1) y_passedMany y_rowMany y_mendedBy y_crossMany y_periodMany y_seenMany y_rightMany y_lastTold y_tape (o2.2.2.2.2.2.2.2.1) (o2.2.2.2.2.2.2.2.2.1) (o2.2.2.2.2.2.2.2.2.2.1) (o2.2.2.2.2.2.2.2.2.2.2.1) y_tA y_tB y_tC y_from y_wayAt (o2.2.2.2.2.2.2.2.2.2.2.2.1) (o2.2.2.2.2.2.2.2.2.2.2.2.2) y_passedBy y_told y_crossLine y_crossFar y_period y_sTold y_sOne y_sTwo y_sEntry y_rTold y_rOf y_rEntry y_fits y_heaps) H.size → W p l e room_1 s m args below meth c H locs cells slots Q (F0 m 1306 ls [])) : W p l e room_1 s m args below meth c H locs cells slots Q (F0 m 599 ls []) := by
  refine lv_aload_n hx hb dL_law_599 rfl (lv_at hl 1 rfl) ?_
  refine lv_aload_n hx hb dL_law_600 rfl (lv_at hl 0 rfl) ?_
  refine lv_iload_n hx hb dL_law_601 rfl (lv_at hl 3 rfl) ?_
  refine zv_iconst hx hb dL_law_602 ?_
  refine zv_iadd hx hb dL_law_603 ?_
  refine zv_sld hx hb hX hbl hbA hS (i + 1) (by omega) (by omega) hL dL_law_604 ?_
  refine zjx_i (wr := [((x 1), .inr (8, [.ref (x 2), .int (zi tape_length), .int (zi tape_next), .int (zi tape_kind), .int (zi tape_place), .int (zi tape_value)])), ((x 2), .inl (κ 0, 300, .inl (zc tape_bytes))), ((x 3), .inr (6, [.ref (x 4)])), ((x 4), .inl (κ 4, 6, .inr (.inr (.inr (.inr (zmade mk ad)))))), ((x 5), .inr (1, [.int (zi text_faultKind), .int (zi text_faultPlace), .int (zi text_expected), .int (zi text_first), zpg ad text_polygon, .int (zi text_bits)])), ((x 6), .inr (9, [.ref (x 7), .ref (x 8), .int (zi triangles_count), zpg ad triangles_polygon, .int (zi triangles_from), .int (zi triangles_length), .int (zi triangles_waysAhead)])), ((x 7), .inl (κ 1, 21, .inl (zc triangles_cornersOf))), ((x 8), .inl (κ 1, 7, .inl (zc triangles_chosen))), ((x 9), .inr (0, [.ref (x 10), .int (zi crossedLines_size)])), ((x 10), .inl (κ 1, 27, .inl (zc crossedLines_lines))), ((x 15), .inr (2, [.ref (x 16), .int (zi endless_size)])), ((x 16), .inl (κ 1, 10, .inl (zc endless_numbers))), ((x 17), .inr (7, [.ref (x 18), .ref (x 19), .ref (x 20), .ref (x 21), .ref (x 22), .ref (x 23), .ref (x 24), .ref (x 25), .ref (x 26), .int (zi sightings_size), .int (zi sightings_rights), .int (zi sightings_latest)])), ((x 18), .inl (κ 1, 20, .inl (zc sightings_seenStep))), ((x 19), .inl (κ 1, 20, .inl (zc sightings_seenFrom))), ((x 20), .inl (κ 1, 20, .inl (zc sightings_seenTo))), ((x 21), .inl (κ 1, 20, .inl (zc sightings_seenValue))), ((x 22), .inl (κ 1, 20, .inl (zc sightings_timesRight))), ((x 23), .inl (κ 1, 20, .inl (zc sightings_rightStep))), ((x 24), .inl (κ 1, 20, .inl (zc sightings_rightOf))), ((x 25), .inl (κ 1, 20, .inl (zc sightings_rightValue))), ((x 26), .inl (κ 1, 20, .inl (zc sightings_knownValue))), ((x 27), .inr (3, [.ref (x 28), .ref (x 29), .int (zi fitting_size)])), ((x 28), .inl (κ 1, 429, .inl (zc fitting_numbers))), ((x 29), .inl (κ 1, 22, .inl (zc fitting_tally))), ((x 30), .inl (κ 1, 10, .inl (zc x_toldRow)))]) (X1 := zLX κ x mk ad x_polygon x_bits x_mendedNumber tape_length tape_next tape_kind tape_place tape_value tape_bytes text_faultKind text_faultPlace text_expected text_first text_polygon text_bits triangles_count triangles_polygon triangles_from triangles_length triangles_waysAhead triangles_cornersOf triangles_chosen crossedLines_size crossedLines_lines flips_wayLength (o1.2.1) (o1.2.2.1) (o1.2.2.2) flips_way endless_size endless_numbers sightings_size sightings_rights sightings_latest sightings_seenStep sightings_seenFrom sightings_seenTo sightings_seenValue sightings_timesRight sightings_rightStep sightings_rightOf sightings_rightValue sightings_knownValue fitting_size fitting_numbers fitting_tally x_toldRow) (va_runV (rest := []) ⟨hx, hb, hml, hown, hts⟩ (zc_X10_farthest l D κ x mk ad H.size x_polygon x_bits x_mendedNumber flips_wayLength flips_queued flips_steps flips_queue flips_way (zX xs (i + 1)) o1 ho1) (cwV 1 hts gL_law_X10_farthest rfl rfl rfl (by decide +kernel) ⟨Nat.le_of_ble_eq_true rfl, Nat.le_of_ble_eq_true rfl⟩) (zpreWVa hK (hPx.sub [0, 11, 12, 13, 14] rfl) ((zD_left hD).sub [0, 11, 12, 13, 14] (by decide) rfl) hB (hZx.apt [0, 11, 12, 13, 14] rfl) 10 0 rfl rfl) rfl rfl hl.1 rfl (lv_room (Nat.le_of_ble_eq_true rfl)) dL_law_605 hroom) hPx hPy hD hS hB hZx hZy hA [0, 11, 12, 13, 14] [1, 2, 3, 4, 5, 6, 7, 8, 9, 10, 15, 16, 17, 18, 19, 20, 21, 22, 23, 24, 25, 26, 27, 28, 29, 30] [26, 0, 1, 2, 3, 4, 5, 6, 7, 8, 9, 27, 28, 29, 30, 10, 11, 12, 13, 14, 15, 16, 17, 18, 19, 20, 21, 22, 23, 24, 25] rfl rfl (by decide) (by decide) rfl rfl (by decide) (zLX_f.trans zLX_f.symm) (fun H locs hPx hPy hD hS hB hZx hZy => ?_)
  refine lv_pop hx hb dL_law_608 rfl ?_
  refine lv_aload_n hx hb dL_law_609 rfl (lv_at hl 2 rfl) ?_
  refine lv_aload_n hx hb dL_law_610 rfl (lv_at hl 0 rfl) ?_
  refine lv_iload_n hx hb dL_law_611 rfl (lv_at hl 3 rfl) ?_
  refine zv_iconst hx hb dL_law_612 ?_
  refine zv_iadd hx hb dL_law_613 ?_
  refine zv_sld hx hb hX hbl hbA hS (i + 1) (by omega) (by omega) hL dL_law_614 ?_
  refine zjx_i (wr := [((y 1), .inl (κ 0, 300, .inl (zc y_tape))), ((y 6), .inl (κ 1, 8, .inl (zc y_tA))), ((y 7), .inl (κ 1, 8, .inl (zc y_tB))), ((y 8), .inl (κ 1, 8, .inl (zc y_tC))), ((y 9), .inl (κ 1, 10, .inl (zc y_from))), ((y 10), .inl (κ 1, 10, .inl (zc y_wayAt))), ((y 13), .inl (κ 1, 64, .inl (zc y_passedBy))), ((y 14), .inl (κ 1, 10, .inl (zc y_told))), ((y 15), .inl (κ 1, 7, .inl (zc y_crossLine))), ((y 16), .inl (κ 1, 7, .inl (zc y_crossFar))), ((y 17), .inl (κ 1, 11, .inl (zc y_period))), ((y 18), .inl (κ 1, 20, .inl (zc y_sTold))), ((y 19), .inl (κ 1, 20, .inl (zc y_sOne))), ((y 20), .inl (κ 1, 20, .inl (zc y_sTwo))), ((y 21), .inl (κ 1, 20, .inl (zc y_sEntry))), ((y 22), .inl (κ 1, 20, .inl (zc y_rTold))), ((y 23), .inl (κ 1, 20, .inl (zc y_rOf))), ((y 24), .inl (κ 1, 20, .inl (zc y_rEntry))), ((y 25), .inl (κ 3, 429, .inl (zc y_fits))), ((y 26), .inl (κ 1, 6400, .inl (zc y_heaps)))]) (X1 := zLY κ y y_taped y_size y_sort y_at y_end y_number y_faultKind y_faultPlace y_word y_corners (o2.2.1) (o2.2.2.1) (o2.2.2.2.1) (o2.2.2.2.2.1) y_own y_newCorners y_newCut y_wayLeft (o2.2.2.2.2.2.1) (o2.2.2.2.2.2.2.1) y_passedMany y_rowMany y_mendedBy y_crossMany y_periodMany y_seenMany y_rightMany y_lastTold y_tape (o2.2.2.2.2.2.2.2.1) (o2.2.2.2.2.2.2.2.2.1) (o2.2.2.2.2.2.2.2.2.2.1) (o2.2.2.2.2.2.2.2.2.2.2.1) y_tA y_tB y_tC y_from y_wayAt (o2.2.2.2.2.2.2.2.2.2.2.2.1) (o2.2.2.2.2.2.2.2.2.2.2.2.2) y_passedBy y_told y_crossLine y_crossFar y_period y_sTold y_sOne y_sTwo y_sEntry y_rTold y_rOf y_rEntry y_fits y_heaps) (va_runV (rest := []) ⟨hx, hb, hml, hown, hts⟩ (zc_X11_farthest l D κ y H.size y_taped y_size y_sort y_at y_end y_number y_faultKind y_faultPlace y_word y_corners y_lines y_linesFor y_listMany y_listCorners y_own y_newCorners y_newCut y_wayLeft y_flipOne y_flipTwo y_passedMany y_rowMany y_mendedBy y_crossMany y_periodMany y_seenMany y_rightMany y_lastTold y_numberOf y_lesser y_greater y_list y_far y_queue (zX xs (i + 1)) o2 ho2) (cwV 1 hts gL_law_X11_farthest rfl rfl rfl (by decide +kernel) ⟨Nat.le_of_ble_eq_true rfl, Nat.le_of_ble_eq_true rfl⟩) (zpreWV hK (hPy.sub [0, 2, 3, 4, 5, 11, 12] rfl) ((zD_left (zD_swap hD)).sub [0, 2, 3, 4, 5, 11, 12] (by decide) rfl) 11 0 rfl rfl) rfl rfl hl.1 rfl (lv_room (Nat.le_of_ble_eq_true rfl)) dL_law_615 hroom) hPy hPx (zD_swap hD) hS hB hZy hZx hA [0, 2, 3, 4, 5, 11, 12] [1, 6, 7, 8, 9, 10, 13, 14, 15, 16, 17, 18, 19, 20, 21, 22, 23, 24, 25, 26] [20, 0, 21, 22, 23, 24, 1, 2, 3, 4, 5, 25, 26, 6, 7, 8, 9, 10, 11, 12, 13, 14, 15, 16, 17, 18, 19] rfl rfl (by decide) (by decide) rfl rfl (by decide) (zLY_f.trans zLY_f.symm) (fun H locs hPy hPx hD hS hB hZy hZx => ?_)
  have hD := zD_swap hD
  refine lv_pop hx hb dL_law_618 rfl ?_
  refine lv_goto (tgt := 1306) hx hb dL_law_619 (by decide) ?_
  exact kk H locs hPx hPy hD hS hB hZx hZy
end
