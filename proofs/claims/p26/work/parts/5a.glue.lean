/-! glue, cutOff, core -/
theorem zset_comm {A i j : Nat} {v w : Int} (h : ¬ i = j) : zset (zset A i v) j w = zset (zset A j w) i v := by
  apply Nat.eq_of_testBit_eq
  intro p
  rw [zset_bit, zset_bit, zset_bit, zset_bit]
  by_cases a : p < 32 * i
  · rw [if_pos a]
    by_cases c : p < 32 * j
    · rw [if_pos c, if_pos a]
    · rw [if_neg c]
      by_cases d : p < 32 * j + 32
      · rw [if_pos d, if_pos a]
      · rw [if_neg d, if_pos a]
  · rw [if_neg a]
    by_cases b : p < 32 * i + 32
    · rw [if_pos b, if_neg a, if_pos b]
      by_cases c : p < 32 * j
      · rw [if_pos c]
      · rw [if_neg c, if_neg (by omega)]
    · rw [if_neg b, if_neg a, if_neg b]
theorem glue_run {i s : Int} (i0 : 0 ≤ i) (i1 : i < s) (s9 : s ≤ 9) : ∀ (d : Nat) (k : Int) (P : Nat) (j : Int) (o : zO_X2_glueBehind) (o2 : zO_X11_glue), k = i + 1 + (d : Int) → k ≤ s → JE zg_X2_glueBehind (52, i, k, s, P) o → JE zg_X11_glue (110, i, j, k, s, P) o2 → o = o2 := by
  intro d
  induction d with
  | zero =>
    intro k P j o o2 hk hs hx hy
    have hk : k = i + 1 := by omega
    subst hk
    have e1 := JE_end (o' := (s + 1, s + 1, zset P (Int.toNat (i + 1)) 1)) (by
      show zg_X2_glueBehind_52 i (i + 1) s P = _
      unfold zg_X2_glueBehind_52
      rw [if_neg (by unfold zout; omega), if_neg (by unfold zout; omega), if_pos (Int.le_refl _), if_neg (by omega)]) hx
    have e2 := JE_end (o' := (s + 1, s + 1, zset P (Int.toNat (i + 1)) 1)) (by
      show zg_X11_glue_110 i j (i + 1) s P = _
      unfold zg_X11_glue_110
      rw [if_neg (by unfold zout; omega), if_neg (by unfold zout; omega), if_pos (Int.le_refl _), if_neg (by omega)]) hy
    rw [e1, e2]
  | succ d ih =>
    intro k P j o o2 hk hs hx hy
    have hx := JE_dn (s' := (52, i, k + -1, s, zset P (Int.toNat k) (zget P (Int.toNat (k - 1))))) (by
      show zg_X2_glueBehind_52 i k s P = _
      unfold zg_X2_glueBehind_52
      rw [if_neg (by unfold zout; omega), if_neg (by unfold zout; omega), if_neg (by omega), if_neg (by omega), if_neg (by omega)]) hx
    have hy := JE_dn (s' := (110, i, 0, k + -1, s, zset P (Int.toNat k) (zget P (Int.toNat (k - 1))))) (by
      show zg_X11_glue_110 i j k s P = _
      unfold zg_X11_glue_110
      rw [if_neg (by unfold zout; omega), if_neg (by unfold zout; omega), if_neg (by omega), if_neg (by omega), if_neg (by omega)]) hy
    exact ih (k + -1) _ 0 o o2 (by omega) (by omega) hx hy
set_option maxHeartbeats 1000000 in
theorem eq_glue (mk : Nat) {s i : Int} {P : Nat} (s1 : 1 ≤ s) (s10 : s ≤ 10) (hP : ∀ k : Nat, k < 10 → 0 ≤ zget P k ∧ zget P k ≤ 20) (hi : ¬ zout i) {o o2 : Int × Int × Nat} (ho : zf_X10_glue mk s P i = some o) (ho2 : zf_X11_glue s P i = some o2) : o = o2 := by
  have hy := JE_of ho2
  have ey : zg_X11_glue (0, i, 0, 0, s, P) = zg_X11_glue_0 i 0 0 s P := rfl
  unfold zf_X10_glue at ho
  rw [place_e (by unfold zout; omega) hi] at ho
  simp only [Option.bind_some] at ho
  unfold zg_X11_glue_0 at ey
  rw [in_e hi (by decide) (by unfold zout; omega)] at ey
  simp only [Option.bind_some] at ey
  by_cases c : 0 ≤ i ∧ i ≤ s - 1
  · rw [decide_eq_true c, if_neg (by decide)] at ho
    rw [decide_eq_true c, if_neg (by decide), if_neg (by unfold zout; omega)] at ey
    have p0 := hP i.toNat (by omega)
    have r := rtmod (show 0 ≤ i + 1 by omega) (show 0 < s by omega)
    have p1 := hP (Int.toNat (Int.tmod (i + 1) s)) (by omega)
    have ei : Int.tmod i s = i := Int.tmod_eq_of_lt (by omega) (by omega)
    unfold zf_X2_canGlue at ho
    rw [if_neg (by unfold zout; omega)] at ho
    by_cases c10 : s = 10
    · rw [if_neg (by omega)] at ho
      simp only [Option.bind_some] at ho
      rw [if_pos trivial] at ho
      rw [if_pos c10] at ey
      have e2 := JE_end ey hy
      cases ho
      exact e2.symm
    · rw [if_pos (by omega), at_e s1 s10 (by omega) (by omega), at_e s1 s10 (by omega) (by omega), ei] at ho
      rw [if_neg c10, if_neg (by unfold zout; omega), if_neg (by omega)] at ey
      -- the step that glues
      have go : ∀ (_ : zf_X2_canGlue s P i = some true), Option.bind (zf_X2_glueBehind s P i) (fun o3 => some ((o3.1), (o3.2.1), (o3.2.2))) = some o → zg_X11_glue (0, i, 0, 0, s, P) = some (.inr (85, i, (Int.tmod (i + (1 : Int)) s), 0, s, P)) → o = o2 := by
        intro hcg ho ey
        have hy1 := JE_dn ey hy
        have hy2 := JE_dn (s' := (110, i, Int.tmod (i + 1) s, s, s, (zset (zset P (Int.toNat i) ((zget P (Int.toNat i)) + (1 : Int))) (Int.toNat (Int.tmod (i + 1) s)) ((zget (zset P (Int.toNat i) ((zget P (Int.toNat i)) + (1 : Int))) (Int.toNat (Int.tmod (i + 1) s))) + (1 : Int))))) (by
          show zg_X11_glue_85 i (Int.tmod (i + 1) s) 0 s P = _
          unfold zg_X11_glue_85
          rw [if_neg (by omega), if_neg (by omega)]) hy1
        cases hg : zf_X2_glueBehind s P i with
        | none => rw [hg] at ho; cases ho
        | some og =>
          rw [hg] at ho
          have hx1 := JE_dn (s' := (52, i, s, s, (zset (zset P (Int.toNat i) ((zget P (Int.toNat i)) + (1 : Int))) (Int.toNat (Int.tmod (i + 1) s)) ((zget (zset P (Int.toNat i) ((zget P (Int.toNat i)) + (1 : Int))) (Int.toNat (Int.tmod (i + 1) s))) + (1 : Int))))) (by
            show zg_X2_glueBehind_0 i 0 s P = _
            unfold zg_X2_glueBehind_0
            rw [place_e (by unfold zout; omega) hi, decide_eq_true c]
            simp only [Option.bind_some]
            rw [if_neg (by decide), hcg]
            simp only [Option.bind_some]
            rw [if_neg (by decide), if_neg (by omega), wrap_e s1 s10 (by omega) (by omega)]
            simp only [Option.bind_some]
            rw [if_neg (by omega)]) (JE_of hg)
          have e := glue_run (by omega) (by omega) (by omega) (s - (i + 1)).toNat s _ _ og o2 (by omega) (Int.le_refl _) hx1 hy2
          cases ho
          rw [← e]
      have hcg : zf_X2_canGlue s P i = (if s = 1 then (if 20 < zget P (Int.toNat i) + 2 then some false else if 20 < zget P (Int.toNat (Int.tmod (i + 1) s)) + 2 then some false else some true) else (if 20 < zget P (Int.toNat i) + 1 then some false else if 20 < zget P (Int.toNat (Int.tmod (i + 1) s)) + 1 then some false else some true)) := by
        unfold zf_X2_canGlue
        rw [if_neg (by unfold zout; omega), if_pos (by omega), at_e s1 s10 (by omega) (by omega), at_e s1 s10 (by omega) (by omega), ei]
        simp only [Option.bind_some]
        by_cases q1 : s = 1
        · rw [if_pos q1, if_pos q1, if_neg (by unfold zout; omega)]
          by_cases q2 : 20 < zget P (Int.toNat i) + 2
          · rw [if_pos q2, if_pos q2]
          · rw [if_neg q2, if_neg q2, if_neg (by unfold zout; omega)]
        · rw [if_neg q1, if_neg q1, if_neg (by unfold zout; omega)]
          by_cases q2 : 20 < zget P (Int.toNat i) + 1
          · rw [if_pos q2, if_pos q2]
          · rw [if_neg q2, if_neg q2, if_neg (by unfold zout; omega)]
      have hx : Option.bind (zf_X2_canGlue s P i) (fun o2 => if o2 = false then some ((-3 : Int), s, P) else Option.bind (zf_X2_glueBehind s P i) (fun o3 => some ((o3.1), (o3.2.1), (o3.2.2)))) = some o := by
        unfold zf_X2_canGlue
        rw [if_neg (by unfold zout; omega), if_pos (by omega), at_e s1 s10 (by omega) (by omega), at_e s1 s10 (by omega) (by omega), ei]
        exact ho
      have full : zg_X11_glue (0, i, 0, 0, s, P) = some (.inl ((-3 : Int), s, P)) → some ((-3 : Int), s, P) = some o → o = o2 := by
        intro ey ho
        have e2 := JE_end ey hy
        cases ho
        exact e2.symm
      have gy : zf_X2_canGlue s P i = some true → zg_X11_glue (0, i, 0, 0, s, P) = some (.inr (85, i, (Int.tmod (i + (1 : Int)) s), 0, s, P)) → o = o2 := by
        intro hb ey
        rw [hb] at hx
        simp only [Option.bind_some] at hx
        rw [if_neg (by decide)] at hx
        exact go hb hx ey
      have fy : zf_X2_canGlue s P i = some false → zg_X11_glue (0, i, 0, 0, s, P) = some (.inl ((-3 : Int), s, P)) → o = o2 := by
        intro hb ey
        rw [hb] at hx
        simp only [Option.bind_some] at hx
        first
          | rw [if_pos trivial] at hx
          | rw [if_pos rfl] at hx
        exact full ey hx
      by_cases s1' : s = 1
      · rw [if_pos s1'] at ey
        have ei0 : i = 0 := by omega
        have et : Int.tmod (i + 1) s = 0 := by rw [s1', ei0]; rfl
        by_cases q : zget P (Int.toNat 0) ≤ 18
        · rw [if_pos q] at ey
          refine gy ?_ ey
          rw [hcg, if_pos s1', et, ei0, if_neg (by omega), if_neg (by omega)]
        · rw [if_neg q] at ey
          refine fy ?_ ey
          rw [hcg, if_pos s1', ei0, if_pos (by omega)]
      · rw [if_neg s1', if_neg (by omega)] at ey
        by_cases q : 19 < zget P (Int.toNat i)
        · rw [if_pos q] at ey
          refine fy ?_ ey
          rw [hcg, if_neg s1', if_pos (by omega)]
        · rw [if_neg q, if_neg (by omega)] at ey
          by_cases q2 : zget P (Int.toNat (Int.tmod (i + 1) s)) ≤ 19
          · rw [if_pos q2] at ey
            refine gy ?_ ey
            rw [hcg, if_neg s1', if_neg (by omega), if_neg (by omega)]
          · rw [if_neg q2] at ey
            refine fy ?_ ey
            rw [hcg, if_neg s1', if_neg (by omega), if_pos (by omega)]
  · rw [decide_eq_false c, if_pos rfl] at ho
    rw [decide_eq_false c, if_pos rfl] at ey
    have e2 := JE_end ey hy
    cases ho
    exact e2.symm
/-- a loss -/
theorem lose_run {s : Int} (s3 : 3 ≤ s) (s10 : s ≤ 10) : ∀ (d : Nat) (k a b : Int) (P : Nat) (o : zO_X2_lose) (o2 : zO_X11_off), s = k + 1 + (d : Int) → 0 ≤ k → JE zg_X2_lose (55, a, k, s, P) o → JE zg_X11_off (37, b, s, k, s, P) o2 → o = (o2.1, o2.1, o2.2) ∧ o2.1 = s - 1 := by
  intro d
  induction d with
  | zero =>
    intro k a b P o o2 hk h0 hx hy
    have e1 := JE_end (o' := (s - 1, s - 1, P)) (by
      show zg_X2_lose_55 a k s P = _
      unfold zg_X2_lose_55
      rw [if_neg (by unfold zout; omega), if_neg (by unfold zout; omega), if_pos (by omega)]) hx
    have e2 := JE_end (o' := (s - 1, P)) (by
      show zg_X11_off_37 b s k s P = _
      unfold zg_X11_off_37
      rw [if_neg (by unfold zout; omega), if_neg (by unfold zout; omega), if_pos (by omega)]) hy
    rw [e1, e2]
    exact ⟨rfl, rfl⟩
  | succ d ih =>
    intro k a b P o o2 hk h0 hx hy
    have hx := JE_dn (s' := (55, 0, k + 1, s, zset P (Int.toNat k) (zget P (Int.toNat (k + 1))))) (by
      show zg_X2_lose_55 a k s P = _
      unfold zg_X2_lose_55
      rw [if_neg (by unfold zout; omega), if_neg (by unfold zout; omega), if_neg (by omega), if_neg (by omega), if_neg (by omega)]) hx
    have hy := JE_dn (s' := (37, 0, s, k + 1, s, zset P (Int.toNat k) (zget P (Int.toNat (k + 1))))) (by
      show zg_X11_off_37 b s k s P = _
      unfold zg_X11_off_37
      rw [if_neg (by unfold zout; omega), if_neg (by unfold zout; omega), if_neg (by omega), if_neg (by omega), if_neg (by omega)]) hy
    exact ih (k + 1) 0 0 _ o o2 (by omega) (by omega) hx hy
theorem prev_e {s i : Int} (s3 : 3 ≤ s) (s10 : s ≤ 10) (i0 : 0 ≤ i) (i1 : i < s) : zf_X2_wrapped s (i - 1) = some (Int.tmod ((i + s) - 1) s) ∧ Int.tmod ((i + s) - 1) s = (if i = 0 then s - 1 else i - 1) := by
  by_cases c : i = 0
  · subst c
    rw [show (0 : Int) - 1 = -1 by decide, wrap_m (by omega) s10, if_pos rfl, show (0 : Int) + s - 1 = s - 1 by omega, Int.tmod_eq_of_lt (by omega) (by omega)]
    exact ⟨rfl, rfl⟩
  · have e : Int.tmod ((i + s) - 1) s = i - 1 := by
      have h := Int.tmod_eq_emod_of_nonneg (a := (i + s) - 1) (b := s) (by omega)
      rw [h, show (i + s) - 1 = (i - 1) + s by omega, Int.add_emod_right, Int.emod_eq_of_lt (by omega) (by omega)]
    rw [wrap_e (by omega) s10 (by omega) (by omega), if_neg c, e, Int.tmod_eq_of_lt (by omega) (by omega)]
    exact ⟨rfl, rfl⟩
theorem next_e {s i : Int} (s3 : 3 ≤ s) (i0 : 0 ≤ i) (i1 : i < s) : Int.tmod (i + 1) s = (if i + 1 = s then 0 else i + 1) := by
  by_cases c : i + 1 = s
  · rw [if_pos c, c, Int.tmod_self]
  · rw [if_neg c, Int.tmod_eq_of_lt (by omega) (by omega)]
theorem lose_e {s i : Int} {P : Nat} (s1 : 1 ≤ s) (s10 : s ≤ 10) (hP : ∀ k : Nat, k < 10 → 0 ≤ zget P k ∧ zget P k ≤ 20) (i0 : 0 ≤ i) (i1 : i < s) : zf_X2_canLose s P i = zf_X11_isOff s P i := by
  unfold zf_X2_canLose zf_X11_isOff
  have zs : ¬ zout s := by unfold zout; omega
  rw [if_neg zs, if_neg zs]
  by_cases c : s < 3
  · rw [if_pos c, if_pos (by omega)]
  · rw [if_neg c, if_neg (by omega), if_neg (by omega)]
    have ei : Int.tmod i s = i := Int.tmod_eq_of_lt i0 i1
    have pe := prev_e (by omega) s10 i0 i1
    have ne := next_e (by omega) i0 i1
    have p0 := hP i.toNat (by omega)
    have r1 := rtmod (show 0 ≤ i + 1 by omega) (show 0 < s by omega)
    have r2 := rtmod (show 0 ≤ (i + s) - 1 by omega) (show 0 < s by omega)
    have p1 := hP (Int.toNat (Int.tmod (i + 1) s)) (by omega)
    have p2 := hP (Int.toNat (Int.tmod ((i + s) - 1) s)) (by omega)
    have ea : zf_X2_at s P (i - 1) = some (zget P (Int.toNat (Int.tmod ((i + s) - 1) s))) := by
      unfold zf_X2_at
      rw [pe.1]
      simp only [Option.bind_some]
      rw [if_neg (by omega)]
    rw [at_e s1 s10 i0 (by omega), ei]
    simp only [Option.bind_some]
    rw [if_neg (by unfold zout; omega)]
    by_cases q : zget P (Int.toNat i) = 1
    · rw [if_pos q, if_pos q, ea, at_e s1 s10 (by omega) (by omega)]
      simp only [Option.bind_some]
      have A1 : ¬ zout (zget P (Int.toNat (Int.tmod ((i + s) - 1) s))) := by unfold zout; omega
      have A2 : ¬ zout (zget P (Int.toNat (Int.tmod (i + 1) s))) := by unfold zout; omega
      have A3 : ¬ zout (i + 1) := by unfold zout; omega
      have A4 : ¬ s = 0 := by omega
      have A5 : ¬ (Int.tmod (i + 1) s < 0 ∨ 11 ≤ Int.tmod (i + 1) s) := by omega
      have A6 : ¬ zout ((i + s) - 1) := by unfold zout; omega
      have A7 : ¬ (Int.tmod ((i + s) - 1) s < 0 ∨ 11 ≤ Int.tmod ((i + s) - 1) s) := by omega
      by_cases q1 : zget P (Int.toNat (Int.tmod (i + 1) s)) ≤ 1
      · by_cases q2 : zget P (Int.toNat (Int.tmod ((i + s) - 1) s)) ≤ 1
        · simp only [if_neg A1, if_neg A2, if_neg A3, if_neg A4, if_neg A5, if_neg A6, if_neg A7, if_pos q1, if_pos q2]
        · simp only [if_neg A1, if_neg A2, if_neg A3, if_neg A4, if_neg A5, if_neg A6, if_neg A7, if_pos q1, if_neg q2]
      · by_cases q2 : zget P (Int.toNat (Int.tmod ((i + s) - 1) s)) ≤ 1
        · simp only [if_neg A1, if_neg A2, if_neg A3, if_neg A4, if_neg A5, if_neg A6, if_neg A7, if_neg q1, if_pos q2]
        · simp only [if_neg A1, if_neg A2, if_neg A3, if_neg A4, if_neg A5, if_neg A6, if_neg A7, if_neg q1, if_neg q2]
    · rw [if_neg q, if_neg q]
theorem off_e {s i : Int} {P : Nat} (s3 : 3 ≤ s) (s10 : s ≤ 10) (i0 : 0 ≤ i) (i1 : i < s) (hc : zf_X2_canLose s P i = some true) {o : zO_X2_lose} {o2 : zO_X11_off} (ho : zf_X2_lose s P i = some o) (ho2 : zf_X11_off s P i = some o2) : o = (o2.1, o2.1, o2.2) ∧ o2.1 = s - 1 := by
  have pe := prev_e s3 s10 i0 i1
  have ne := next_e s3 i0 i1
  have r1 := rtmod (show 0 ≤ i + 1 by omega) (show 0 < s by omega)
  have r2 := rtmod (show 0 ≤ (i + s) - 1 by omega) (show 0 < s by omega)
  have hd : ¬ Int.toNat (Int.tmod ((i + s) - 1) s) = Int.toNat (Int.tmod (i + 1) s) := by
    rw [pe.2, ne]
    split <;> split <;> omega
  have hx := JE_dn (s' := (55, i, i, s, (zset (zset P (Int.toNat (Int.tmod ((i + s) - 1) s)) ((zget P (Int.toNat (Int.tmod ((i + s) - 1) s))) - (1 : Int))) (Int.toNat (Int.tmod (i + 1) s)) ((zget (zset P (Int.toNat (Int.tmod ((i + s) - 1) s)) ((zget P (Int.toNat (Int.tmod ((i + s) - 1) s))) - (1 : Int))) (Int.toNat (Int.tmod (i + 1) s))) - (1 : Int))))) (by
    show zg_X2_lose_0 i 0 s P = _
    unfold zg_X2_lose_0
    rw [place_e (by unfold zout; omega) (by unfold zout; omega), decide_eq_true (by omega)]
    simp only [Option.bind_some]
    rw [if_neg (by decide), hc]
    simp only [Option.bind_some]
    rw [if_neg (by decide), pe.1]
    simp only [Option.bind_some]
    rw [if_neg (by omega), wrap_e (by omega) s10 (by omega) (by omega)]
    simp only [Option.bind_some]
    rw [if_neg (by omega)]) (JE_of ho)
  have hy := JE_dn (s' := (37, i, s, i, s, (zset (zset P (Int.toNat (Int.tmod (i + 1) s)) ((zget P (Int.toNat (Int.tmod (i + 1) s))) - (1 : Int))) (Int.toNat (Int.tmod ((i + s) - 1) s)) ((zget (zset P (Int.toNat (Int.tmod (i + 1) s)) ((zget P (Int.toNat (Int.tmod (i + 1) s))) - (1 : Int))) (Int.toNat (Int.tmod ((i + s) - 1) s))) - (1 : Int))))) (by
    show zg_X11_off_0 i 0 0 s P = _
    unfold zg_X11_off_0
    rw [if_neg (by unfold zout; omega), if_neg (by unfold zout; omega), if_neg (by omega), if_neg (by omega), if_neg (by unfold zout; omega), if_neg (by omega), if_neg (by omega)]) (JE_of ho2)
  rw [zget_set, if_neg (fun q => hd q.symm), zset_comm hd] at hx
  rw [zget_set, if_neg hd] at hy
  exact lose_run s3 s10 (s - (i + 1)).toNat i i i _ o o2 (by omega) i0 hx hy
theorem eq_cutOff (mk : Nat) {s i : Int} {P : Nat} (s1 : 1 ≤ s) (s10 : s ≤ 10) (hP : ∀ k : Nat, k < 10 → 0 ≤ zget P k ∧ zget P k ≤ 20) (hi : ¬ zout i) {o o2 : Int × Int × Nat} (ho : zf_X10_cutOff mk s P i = some o) (ho2 : zf_X11_cutOff s P i = some o2) : o = o2 := by
  unfold zf_X10_cutOff at ho
  unfold zf_X11_cutOff at ho2
  rw [place_e (by unfold zout; omega) hi] at ho
  rw [in_e hi (by decide) (by unfold zout; omega)] at ho2
  simp only [Option.bind_some] at ho ho2
  by_cases c : 0 ≤ i ∧ i ≤ s - 1
  · rw [decide_eq_true c, if_neg (by decide)] at ho ho2
    have e := lose_e s1 s10 hP c.1 (by omega)
    rw [← e] at ho2
    cases hc : zf_X2_canLose s P i with
    | none => rw [hc] at ho; cases ho
    | some b =>
      rw [hc] at ho ho2
      simp only [Option.bind_some] at ho ho2
      cases b with
      | false =>
        rw [if_pos rfl] at ho ho2
        cases ho
        cases ho2
        rfl
      | true =>
        rw [if_neg (by decide)] at ho ho2
        have s3 : 3 ≤ s := by
          by_cases q : s < 3
          · unfold zf_X2_canLose at hc
            rw [if_neg (by unfold zout; omega), if_pos q] at hc
            cases hc
          · omega
        cases h1 : zf_X2_lose s P i with
        | none => rw [h1] at ho; cases ho
        | some u =>
          cases h2 : zf_X11_off s P i with
          | none => rw [h2] at ho2; cases ho2
          | some v =>
            have q := off_e s3 s10 c.1 (by omega) hc h1 h2
            rw [h1] at ho
            rw [h2] at ho2
            cases ho
            cases ho2
            rw [q.1]
  · rw [decide_eq_false c, if_pos rfl] at ho ho2
    cases ho
    cases ho2
    rfl
