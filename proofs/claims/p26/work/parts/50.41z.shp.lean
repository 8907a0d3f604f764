/-! triples of corners, the rising ones alone, and the lines that each wants -/
noncomputable def frN {α : Type} (n : Nat) (f : Nat → α) : α := Nat.rec (motive := fun _ => α) (f 0) (fun n _ => f (n + 1)) n
theorem frN_e {α : Type} (n : Nat) (f : Nat → α) : frN n f = f n := by cases n <;> rfl
noncomputable def bt (m i j : Nat) : Nat := match decide (zget (pg3 m) (9 * i + j) < 0) with
  | true => 0
  | false => 2 ^ (zget (pg3 m) (9 * i + j)).toNat
noncomputable def mq (m q : Nat) : Nat := match decide (q % 9 < m) with
  | true => bt m (q / 81) (q / 9 % 9) ||| (bt m (q / 9 % 9) (q % 9) ||| bt m (q / 81) (q % 9))
  | false => 134217728
def sbs (T M : Nat) : Prop := ∀ b, M.testBit b = true → T.testBit b = true
theorem sbs_and {T M : Nat} : T &&& M = M ↔ sbs T M := by
  constructor
  · intro h b hb
    have t : (T &&& M).testBit b = true := by rw [h]; exact hb
    rw [Nat.testBit_and, Bool.and_eq_true] at t
    exact t.1
  · intro h
    apply Nat.eq_of_testBit_eq
    intro b
    rw [Nat.testBit_and]
    cases e : M.testBit b with
    | true => rw [h b e]; rfl
    | false => rw [Bool.and_false]
theorem sbs_or {T a b : Nat} : sbs T (a ||| b) ↔ sbs T a ∧ sbs T b := by
  constructor
  · intro h
    exact ⟨fun x hx => h x (by rw [Nat.testBit_or, hx, Bool.true_or]), fun x hx => h x (by rw [Nat.testBit_or, hx, Bool.or_true])⟩
  · intro h x hx
    rw [Nat.testBit_or, Bool.or_eq_true] at hx
    rcases hx with hx | hx
    · exact h.1 x hx
    · exact h.2 x hx
theorem sbs_0 (T : Nat) : sbs T 0 := fun b hb => by rw [Nat.zero_testBit] at hb; cases hb
theorem sbs_p {T v : Nat} : sbs T (2 ^ v) ↔ T.testBit v = true := by
  constructor
  · intro h
    exact h v (by rw [Nat.testBit_two_pow]; exact decide_eq_true rfl)
  · intro h b hb
    rw [Nat.testBit_two_pow] at hb
    rw [← of_decide_eq_true hb]
    exact h
theorem beq_sbs {T M : Nat} : Nat.beq (T &&& M) M = true ↔ sbs T M := by
  constructor
  · intro h; exact sbs_and.mp (Nat.eq_of_beq_eq_true h)
  · intro h; rw [sbs_and.mpr h]; exact Nat.beq_refl M
theorem near_b {m T i j : Nat} (h4 : 4 ≤ m) (h9 : m ≤ 9) (hT : T < 134217728) (hi : i < 9) (hj : j < 9) (hij : ¬ i = j) : nearB m (T : Int) i j = Nat.beq (T &&& bt m i j) (bt m i j) := by
  rw [Bool.eq_iff_iff, beq_sbs]
  have r3 := rpg3 h4 h9 (9 * i + j) (by omega)
  unfold nearB bt
  by_cases q : zget (pg3 m) (9 * i + j) < 0
  · rw [decide_eq_true q]
    constructor
    · intro _; exact sbs_0 T
    · intro _; exact decide_eq_true ⟨hij, Or.inl q⟩
  · rw [decide_eq_false q]
    obtain ⟨v, hv⟩ : ∃ v : Nat, zget (pg3 m) (9 * i + j) = (v : Int) := ⟨(zget (pg3 m) (9 * i + j)).toNat, by omega⟩
    have b := bitL hT (show v < 27 by omega)
    rw [hv, Int.toNat_natCast, b]
    show _ ↔ sbs T (2 ^ v)
    rw [sbs_p]
    constructor
    · intro h
      have h := (of_decide_eq_true h).2
      cases e : T.testBit v with
      | true => rfl
      | false =>
        rw [e, if_neg (by decide)] at h
        rcases h with h | h
        · omega
        · exact absurd h (by decide)
    · intro h
      rw [h, if_pos rfl]
      exact decide_eq_true ⟨hij, Or.inr rfl⟩
noncomputable def shp (q : Nat) : Bool := decide (q / 81 < q / 9 % 9 ∧ q / 9 % 9 < q % 9)
noncomputable def shL (p : Nat) : List Nat := Nat.rec (motive := fun _ => List Nat) [] (fun q ih => match shp q with
  | true => ih ++ [q]
  | false => ih) p
theorem shL_t {p : Nat} (e : shp p = true) : shL (p + 1) = shL p ++ [p] := by
  show (match shp p with
    | true => shL p ++ [p]
    | false => shL p) = _
  rw [e]
theorem shL_f {p : Nat} (e : shp p = false) : shL (p + 1) = shL p := by
  show (match shp p with
    | true => shL p ++ [p]
    | false => shL p) = _
  rw [e]
theorem shL_m : ∀ (p q : Nat), q ∈ shL p → shp q = true ∧ q < p := by
  intro p
  induction p with
  | zero => intro q h; cases h
  | succ p ih =>
    intro q h
    cases e : shp p with
    | true =>
      rw [shL_t e, List.mem_append] at h
      rcases h with h | h
      · have := ih q h
        exact ⟨this.1, by omega⟩
      · rw [List.mem_singleton] at h
        rw [h]
        exact ⟨e, by omega⟩
    | false =>
      rw [shL_f e] at h
      have := ih q h
      exact ⟨this.1, by omega⟩
theorem fold_sh {α : Type} (st : α → Nat → α) (a : α) (hn : ∀ x q, shp q = false → st x q = x) (F : Nat → α) (h0 : F 0 = a) (hs : ∀ p, F (p + 1) = st (F p) p) : ∀ p : Nat, F p = (shL p).foldl st a := by
  intro p
  induction p with
  | zero => exact h0
  | succ p ih =>
    rw [hs]
    cases e : shp p with
    | true =>
      rw [shL_t e, List.foldl_append, ← ih]
      rfl
    | false => rw [shL_f e, ← ih, hn _ _ e]
theorem sh_no {m : Nat} {c : Int} {q : Nat} (h : shp q = false) : goodQ m c q = false := goodQ_no (fun z => of_decide_eq_false h ⟨z.1, z.2.1⟩)
theorem goodQ_b {m T q : Nat} (h4 : 4 ≤ m) (h9 : m ≤ 9) (hT : T < 134217728) (hs : shp q = true) (hq : q < 729) : goodQ m (T : Int) q = Nat.beq (T &&& mq m q) (mq m q) := by
  have s := of_decide_eq_true hs
  by_cases hm : q % 9 < m
  · unfold goodQ
    rw [decide_eq_true (show q / 81 < q / 9 % 9 ∧ q / 9 % 9 < q % 9 ∧ q % 9 < m from ⟨s.1, s.2, hm⟩), near_b h4 h9 hT (by omega) (by omega) (by omega), near_b h4 h9 hT (by omega) (by omega) (by omega), near_b h4 h9 hT (by omega) (by omega) (by omega), Bool.true_and, Bool.eq_iff_iff, Bool.and_eq_true, Bool.and_eq_true, beq_sbs, beq_sbs, beq_sbs, beq_sbs]
    unfold mq
    rw [decide_eq_true hm]
    show _ ↔ sbs T (bt m (q / 81) (q / 9 % 9) ||| (bt m (q / 9 % 9) (q % 9) ||| bt m (q / 81) (q % 9)))
    rw [sbs_or, sbs_or]
  · rw [goodQ_no (fun z => hm z.2.2), Bool.eq_iff_iff, beq_sbs]
    unfold mq
    rw [decide_eq_false hm]
    constructor
    · intro h; cases h
    · intro h
      have h : sbs T (2 ^ 27) := h
      rw [sbs_p, Nat.testBit_lt_two_pow hT] at h
      cases h
def prT (m : Nat) : List (Nat × Nat) := match m with
  | 4 => [(11, 1), (12, 2), (13, 134217728), (14, 134217728), (15, 134217728), (16, 134217728), (17, 134217728), (21, 1), (22, 134217728), (23, 134217728), (24, 134217728), (25, 134217728), (26, 134217728), (31, 134217728), (32, 134217728), (33, 134217728), (34, 134217728), (35, 134217728), (41, 134217728), (42, 134217728), (43, 134217728), (44, 134217728), (51, 134217728), (52, 134217728), (53, 134217728), (61, 134217728), (62, 134217728), (71, 134217728), (102, 2), (103, 134217728), (104, 134217728), (105, 134217728), (106, 134217728), (107, 134217728), (112, 134217728), (113, 134217728), (114, 134217728), (115, 134217728), (116, 134217728), (122, 134217728), (123, 134217728), (124, 134217728), (125, 134217728), (132, 134217728), (133, 134217728), (134, 134217728), (142, 134217728), (143, 134217728), (152, 134217728), (193, 134217728), (194, 134217728), (195, 134217728), (196, 134217728), (197, 134217728), (203, 134217728), (204, 134217728), (205, 134217728), (206, 134217728), (213, 134217728), (214, 134217728), (215, 134217728), (223, 134217728), (224, 134217728), (233, 134217728), (284, 134217728), (285, 134217728), (286, 134217728), (287, 134217728), (294, 134217728), (295, 134217728), (296, 134217728), (304, 134217728), (305, 134217728), (314, 134217728), (375, 134217728), (376, 134217728), (377, 134217728), (385, 134217728), (386, 134217728), (395, 134217728), (466, 134217728), (467, 134217728), (476, 134217728), (557, 134217728)]
  | 5 => [(11, 1), (12, 6), (13, 8), (14, 134217728), (15, 134217728), (16, 134217728), (17, 134217728), (21, 3), (22, 17), (23, 134217728), (24, 134217728), (25, 134217728), (26, 134217728), (31, 2), (32, 134217728), (33, 134217728), (34, 134217728), (35, 134217728), (41, 134217728), (42, 134217728), (43, 134217728), (44, 134217728), (51, 134217728), (52, 134217728), (53, 134217728), (61, 134217728), (62, 134217728), (71, 134217728), (102, 4), (103, 24), (104, 134217728), (105, 134217728), (106, 134217728), (107, 134217728), (112, 12), (113, 134217728), (114, 134217728), (115, 134217728), (116, 134217728), (122, 134217728), (123, 134217728), (124, 134217728), (125, 134217728), (132, 134217728), (133, 134217728), (134, 134217728), (142, 134217728), (143, 134217728), (152, 134217728), (193, 16), (194, 134217728), (195, 134217728), (196, 134217728), (197, 134217728), (203, 134217728), (204, 134217728), (205, 134217728), (206, 134217728), (213, 134217728), (214, 134217728), (215, 134217728), (223, 134217728), (224, 134217728), (233, 134217728), (284, 134217728), (285, 134217728), (286, 134217728), (287, 134217728), (294, 134217728), (295, 134217728), (296, 134217728), (304, 134217728), (305, 134217728), (314, 134217728), (375, 134217728), (376, 134217728), (377, 134217728), (385, 134217728), (386, 134217728), (395, 134217728), (466, 134217728), (467, 134217728), (476, 134217728), (557, 134217728)]
  | 6 => [(11, 1), (12, 10), (13, 20), (14, 32), (15, 134217728), (16, 134217728), (17, 134217728), (21, 3), (22, 69), (23, 129), (24, 134217728), (25, 134217728), (26, 134217728), (31, 6), (32, 258), (33, 134217728), (34, 134217728), (35, 134217728), (41, 4), (42, 134217728), (43, 134217728), (44, 134217728), (51, 134217728), (52, 134217728), (53, 134217728), (61, 134217728), (62, 134217728), (71, 134217728), (102, 8), (103, 80), (104, 160), (105, 134217728), (106, 134217728), (107, 134217728), (112, 24), (113, 296), (114, 134217728), (115, 134217728), (116, 134217728), (122, 48), (123, 134217728), (124, 134217728), (125, 134217728), (132, 134217728), (133, 134217728), (134, 134217728), (142, 134217728), (143, 134217728), (152, 134217728), (193, 64), (194, 384), (195, 134217728), (196, 134217728), (197, 134217728), (203, 192), (204, 134217728), (205, 134217728), (206, 134217728), (213, 134217728), (214, 134217728), (215, 134217728), (223, 134217728), (224, 134217728), (233, 134217728), (284, 256), (285, 134217728), (286, 134217728), (287, 134217728), (294, 134217728), (295, 134217728), (296, 134217728), (304, 134217728), (305, 134217728), (314, 134217728), (375, 134217728), (376, 134217728), (377, 134217728), (385, 134217728), (386, 134217728), (395, 134217728), (466, 134217728), (467, 134217728), (476, 134217728), (557, 134217728)]
  | 7 => [(11, 1), (12, 18), (13, 36), (14, 72), (15, 128), (16, 134217728), (17, 134217728), (21, 3), (22, 261), (23, 521), (24, 1025), (25, 134217728), (26, 134217728), (31, 6), (32, 2058), (33, 4098), (34, 134217728), (35, 134217728), (41, 12), (42, 8196), (43, 134217728), (44, 134217728), (51, 8), (52, 134217728), (53, 134217728), (61, 134217728), (62, 134217728), (71, 134217728), (102, 16), (103, 288), (104, 576), (105, 1152), (106, 134217728), (107, 134217728), (112, 48), (113, 2128), (114, 4240), (115, 134217728), (116, 134217728), (122, 96), (123, 8352), (124, 134217728), (125, 134217728), (132, 192), (133, 134217728), (134, 134217728), (142, 134217728), (143, 134217728), (152, 134217728), (193, 256), (194, 2560), (195, 5120), (196, 134217728), (197, 134217728), (203, 768), (204, 9472), (205, 134217728), (206, 134217728), (213, 1536), (214, 134217728), (215, 134217728), (223, 134217728), (224, 134217728), (233, 134217728), (284, 2048), (285, 12288), (286, 134217728), (287, 134217728), (294, 6144), (295, 134217728), (296, 134217728), (304, 134217728), (305, 134217728), (314, 134217728), (375, 8192), (376, 134217728), (377, 134217728), (385, 134217728), (386, 134217728), (395, 134217728), (466, 134217728), (467, 134217728), (476, 134217728), (557, 134217728)]
  | 8 => [(11, 1), (12, 34), (13, 68), (14, 136), (15, 272), (16, 512), (17, 134217728), (21, 3), (22, 1029), (23, 2057), (24, 4113), (25, 8193), (26, 134217728), (31, 6), (32, 16394), (33, 32786), (34, 65538), (35, 134217728), (41, 12), (42, 131092), (43, 262148), (44, 134217728), (51, 24), (52, 524296), (53, 134217728), (61, 16), (62, 134217728), (71, 134217728), (102, 32), (103, 1088), (104, 2176), (105, 4352), (106, 8704), (107, 134217728), (112, 96), (113, 16544), (114, 33056), (115, 66080), (116, 134217728), (122, 192), (123, 131392), (124, 262720), (125, 134217728), (132, 384), (133, 524928), (134, 134217728), (142, 768), (143, 134217728), (152, 134217728), (193, 1024), (194, 18432), (195, 36864), (196, 73728), (197, 134217728), (203, 3072), (204, 136192), (205, 271360), (206, 134217728), (213, 6144), (214, 534528), (215, 134217728), (223, 12288), (224, 134217728), (233, 134217728), (284, 16384), (285, 163840), (286, 327680), (287, 134217728), (294, 49152), (295, 606208), (296, 134217728), (304, 98304), (305, 134217728), (314, 134217728), (375, 131072), (376, 786432), (377, 134217728), (385, 393216), (386, 134217728), (395, 134217728), (466, 524288), (467, 134217728), (476, 134217728), (557, 134217728)]
  | 9 => [(11, 1), (12, 66), (13, 132), (14, 264), (15, 528), (16, 1056), (17, 2048), (21, 3), (22, 4101), (23, 8201), (24, 16401), (25, 32801), (26, 65537), (31, 6), (32, 131082), (33, 262162), (34, 524322), (35, 1048578), (41, 12), (42, 2097172), (43, 4194340), (44, 8388612), (51, 24), (52, 16777256), (53, 33554440), (61, 48), (62, 67108880), (71, 32), (102, 64), (103, 4224), (104, 8448), (105, 16896), (106, 33792), (107, 67584), (112, 192), (113, 131392), (114, 262720), (115, 525376), (116, 1050688), (122, 384), (123, 2097792), (124, 4195456), (125, 8390784), (132, 768), (133, 16778496), (134, 33556736), (142, 1536), (143, 67111424), (152, 3072), (193, 4096), (194, 139264), (195, 278528), (196, 557056), (197, 1114112), (203, 12288), (204, 2117632), (205, 4231168), (206, 8458240), (213, 24576), (214, 16818176), (215, 33628160), (223, 49152), (224, 67190784), (233, 98304), (284, 131072), (285, 2359296), (286, 4718592), (287, 9437184), (294, 393216), (295, 17432576), (296, 34734080), (304, 786432), (305, 68419584), (314, 1572864), (375, 2097152), (376, 20971520), (377, 41943040), (385, 6291456), (386, 77594624), (395, 12582912), (466, 16777216), (467, 100663296), (476, 50331648), (557, 67108864)]
  | _ => []
theorem prT_e : ∀ m : Nat, 4 ≤ m → m ≤ 9 → prT m = (shL 729).map (fun q => (q, mq m q)) := pg_cases (by decide +kernel) (by decide +kernel) (by decide +kernel) (by decide +kernel) (by decide +kernel) (by decide +kernel)
theorem prT_1 {m : Nat} (h4 : 4 ≤ m) (h9 : m ≤ 9) : (prT m).map (fun x => x.1) = shL 729 := by
  rw [prT_e m h4 h9, List.map_map]
  exact List.map_id _
theorem prT_b {m T : Nat} (h4 : 4 ≤ m) (h9 : m ≤ 9) (hT : T < 134217728) : ∀ x, x ∈ prT m → goodQ m (T : Int) x.1 = Nat.beq (T &&& x.2) x.2 := by
  intro x hx
  rw [prT_e m h4 h9, List.mem_map] at hx
  obtain ⟨q, hq, rfl⟩ := hx
  obtain ⟨a, b⟩ := shL_m _ _ hq
  exact goodQ_b h4 h9 hT a b
noncomputable def cntM (T : Nat) (l : List (Nat × Nat)) : Nat → Nat := List.rec (motive := fun _ => Nat → Nat) (fun a => a) (fun x _ ih a => match Nat.beq (T &&& x.2) x.2 with
  | true => ih (a + 1)
  | false => ih a) l
noncomputable def tcS (m : Nat) (c : Int) (a q : Nat) : Nat := match goodQ m c q with
  | true => a + 1
  | false => a
theorem cntM_ok {m T : Nat} {c : Int} : ∀ l : List (Nat × Nat), (∀ x, x ∈ l → goodQ m c x.1 = Nat.beq (T &&& x.2) x.2) → ∀ a : Nat, cntM T l a = (l.map (fun x => x.1)).foldl (tcS m c) a := by
  intro l
  induction l with
  | nil => intro _ a; rfl
  | cons x l ih =>
    intro h a
    have e := h x (List.mem_cons_self ..)
    have r := ih (fun y hy => h y (List.mem_cons_of_mem _ hy))
    show (match Nat.beq (T &&& x.2) x.2 with
      | true => cntM T l (a + 1)
      | false => cntM T l a) = (l.map (fun x => x.1)).foldl (tcS m c) (tcS m c a x.1)
    unfold tcS
    rw [e]
    cases Nat.beq (T &&& x.2) x.2 with
    | true => exact r (a + 1)
    | false => exact r a
theorem tcn_fast {m T : Nat} (h4 : 4 ≤ m) (h9 : m ≤ 9) (hT : T < 134217728) : tcn m (T : Int) 729 = cntM T (prT m) 0 := by
  rw [cntM_ok (prT m) (prT_b h4 h9 hT) 0, prT_1 h4 h9]
  exact fold_sh (tcS m (T : Int)) 0 (fun x q h => by
    unfold tcS
    rw [sh_no h]) (tcn m (T : Int)) rfl (fun p => rfl) 729
