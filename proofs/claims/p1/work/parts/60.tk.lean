theorem tk_yes {cn a b c d ow s r t n k a1 b1 m d1 : Int} {e f g l e1 f1 g1 l1 : Nat} (h1 : zf_X11_in n 4 9 = some true) (hn : ¬ zout n) (hcn : ¬ zout cn) (hz : ¬ zout k) (hk : 0 ≤ k) (hl : zf_X11_listFor a b c d e f g l n = some (a1, b1, m, d1, e1, f1, g1, l1)) (hm : ¬ zout m) (h : k < m) (h9 : m ≤ 429) : ∃ o2, zf_X11_take cn a b c d ow s r t e f g l n k = some o2 ∧ k = o2.1 := by
  have hb : ∃ bb, zf_X11_becomes cn ow s r t n (zgetL l1 (Int.toNat k)) = some bb := by
    unfold zf_X11_becomes
    rw [if_neg hn, if_neg hcn]
    by_cases q : n = cn
    · rw [if_pos q]; exact ⟨_, rfl⟩
    · rw [if_neg q]; exact ⟨_, rfl⟩
  obtain ⟨bb, hb⟩ := hb
  unfold zf_X11_take
  rw [h1]
  simp only [Option.bind_some]
  rw [if_neg (by decide), if_neg hz, if_pos hk, hl]
  simp only [Option.bind_some]
  rw [if_neg hm, if_pos h, if_neg (by omega), hb]
  exact ⟨_, rfl, rfl⟩
theorem tk_no {cn a b c d ow s r t n k a1 b1 m d1 : Int} {e f g l e1 f1 g1 l1 : Nat} (h1 : zf_X11_in n 4 9 = some true) (hz : ¬ zout k) (hl : zf_X11_listFor a b c d e f g l n = some (a1, b1, m, d1, e1, f1, g1, l1)) (hm : ¬ zout m) (h : k < 0 ∨ m ≤ k) : ∃ o2, zf_X11_take cn a b c d ow s r t e f g l n k = some o2 ∧ (-2 : Int) = o2.1 := by
  unfold zf_X11_take
  rw [h1]
  simp only [Option.bind_some]
  rw [if_neg (by decide), if_neg hz]
  by_cases hk : 0 ≤ k
  · rw [if_pos hk, hl]
    simp only [Option.bind_some]
    rw [if_neg hm, if_neg (by omega)]
    exact ⟨_, rfl, rfl⟩
  · rw [if_neg hk]
    exact ⟨_, rfl, rfl⟩
theorem tk_n {cn a b c d ow s r t n k : Int} {e f g l : Nat} (h1 : zf_X11_in n 4 9 = some false) : ∃ o2, zf_X11_take cn a b c d ow s r t e f g l n k = some o2 ∧ (-2 : Int) = o2.1 := by
  unfold zf_X11_take
  rw [h1]
  exact ⟨_, rfl, rfl⟩
theorem kd_n {a b c d n : Int} {e f g l : Nat} {q : Bool} (h1 : zf_X11_in n 4 9 = some false) : ∃ o2, zf_X11_kinds a b c d e f g l n q = some o2 ∧ (-2 : Int) = o2.1 := by
  unfold zf_X11_kinds
  rw [jrun_u]
  have hg : zg_X11_kinds (0, n, q, 0, 0, a, b, c, d, e, f, g, l) = some (.inl ((-2), a, b, c, d, e, f, g, l)) := by
    show zg_X11_kinds_0 n q 0 0 a b c d e f g l = _
    unfold zg_X11_kinds_0
    rw [h1]
    rfl
  rw [hg]
  exact ⟨_, rfl, rfl⟩
theorem gt_n {a b c d n w : Int} {e f g l A B C fr : Nat} (h1 : zf_X11_in n 4 9 = some false) : ∃ o2, zf_X11_greatest a b c d e f g l A B C fr n w = some o2 ∧ (-2 : Int) = o2.1 := by
  unfold zf_X11_greatest
  rw [jrun_u]
  have hg : zg_X11_greatest (0, n, w, 0, 0, 0, 0, 0, a, b, c, d, e, f, g, l, A, B, C, fr) = some (.inl ((-2), a, b, c, d, e, f, g, l, A, B, C, fr)) := by
    show zg_X11_greatest_0 n w 0 0 0 0 0 a b c d e f g l A B C fr = _
    unfold zg_X11_greatest_0
    rw [h1]
    rfl
  rw [hg]
  exact ⟨_, rfl, rfl⟩
theorem hc_yes {n : Nat} {k : Int} (hz : ¬ zout k) (h8 : ¬ zout (pg8 n)) (h0 : ¬ k < 0) (h1 : ¬ (pg8 n) ≤ k) (h9 : (pg8 n) ≤ 429) : zf_X5_hasCut n k = some true ∧ ∃ oc, zf_X5_cutAt n k = some oc := by
  have h : zf_X5_hasCut n k = some true := by
    unfold zf_X5_hasCut
    rw [if_neg hz, if_neg h0, if_neg h8, if_neg h1]
  refine ⟨h, ?_⟩
  unfold zf_X5_cutAt
  rw [h]
  simp only [Option.bind_some]
  rw [if_neg (by decide), if_neg (by omega)]
  exact ⟨_, rfl⟩
theorem hc_no {n : Nat} {k : Int} (hz : ¬ zout k) (h8 : ¬ zout (pg8 n)) (h : k < 0 ∨ (pg8 n) ≤ k) : zf_X5_hasCut n k = some false ∧ zf_X5_cutAt n k = some (-1) := by
  have h : zf_X5_hasCut n k = some false := by
    unfold zf_X5_hasCut
    rw [if_neg hz]
    by_cases h0 : k < 0
    · rw [if_pos h0]
    · rw [if_neg h0, if_neg h8, if_pos (by omega)]
  refine ⟨h, ?_⟩
  unfold zf_X5_cutAt
  rw [h]
  rfl
theorem be_4 (oc : Int) : ∃ ob, zf_X10_become (zmk 16 4) 4 1 0 0 0 4 oc = some ob := by
  unfold zf_X10_become zf_X5_corners
  rw [if_neg (by decide)]
  simp only [Option.bind_some]
  rw [if_neg (by decide), if_neg (by decide), if_neg (by decide)]
  exact ⟨_, rfl⟩
theorem ev_4_4 (k : Int) (hz : ¬ zout k) : ∃ oh oc ob o2, zf_X5_hasCut 4 k = some oh ∧ zf_X5_cutAt 4 k = some oc ∧ (¬ oh = false → zf_X10_become (zmk 16 4) 4 1 0 0 0 4 oc = some ob) ∧ zf_X11_take 4 2 4 2 4 1 0 0 0 0xffffffff00000001ffffffff000000000000000000000000000000000000000000000000ffffffff00000000ffffffff0000000000000000000000000000000000000000000000000000000000000001ffffffff00000000ffffffff000000000000000000000000000000000000000000000000ffffffff00000000ffffffff00000000 0x100000000 0x300000002 0x20000000000000001 4 k = some o2 ∧ (if oh = false then (-2 : Int) else k) = o2.1 := by
  have e8 : pg8 4 = 2 := by decide +kernel
  by_cases q : 0 ≤ k ∧ k < 2
  · obtain ⟨x1, oc, x2⟩ := hc_yes (n := 4) hz (by rw [e8]; decide) (by omega) (by rw [e8]; omega) (by rw [e8]; decide)
    obtain ⟨ob, x3⟩ := be_4 oc
    obtain ⟨o2, y1, y2⟩ := tk_yes (cn := 4) (ow := 1) (s := 0) (r := 0) (t := 0) (n := 4) (by decide +kernel) (by decide) (by decide) hz q.1 ylf4 (by decide) q.2 (by decide)
    exact ⟨true, oc, ob, o2, x1, x2, fun _ => x3, y1, y2⟩
  · obtain ⟨x1, x2⟩ := hc_no (n := 4) hz (by rw [e8]; decide) (by rw [e8]; omega)
    obtain ⟨o2, y1, y2⟩ := tk_no (cn := 4) (ow := 1) (s := 0) (r := 0) (t := 0) (n := 4) (k := k) (by decide +kernel) hz ylf4 (by decide) (by omega)
    exact ⟨false, _, (0, 0, 0, 0, 0), o2, x1, x2, fun h => absurd rfl h, y1, y2⟩
theorem be_5 (oc : Int) : ∃ ob, zf_X10_become (zmk 16 5) 4 1 0 0 0 5 oc = some ob := by
  unfold zf_X10_become zf_X5_corners
  rw [if_neg (by decide)]
  simp only [Option.bind_some]
  rw [if_neg (by decide), if_neg (by decide), if_neg (by decide)]
  exact ⟨_, rfl⟩
theorem ev_4_5 (k : Int) (hz : ¬ zout k) : ∃ oh oc ob o2, zf_X5_hasCut 5 k = some oh ∧ zf_X5_cutAt 5 k = some oc ∧ (¬ oh = false → zf_X10_become (zmk 16 5) 4 1 0 0 0 5 oc = some ob) ∧ zf_X11_take 4 2 4 2 4 1 0 0 0 0xffffffff00000001ffffffff000000000000000000000000000000000000000000000000ffffffff00000000ffffffff0000000000000000000000000000000000000000000000000000000000000001ffffffff00000000ffffffff000000000000000000000000000000000000000000000000ffffffff00000000ffffffff00000000 0x100000000 0x300000002 0x20000000000000001 5 k = some o2 ∧ (if oh = false then (-2 : Int) else k) = o2.1 := by
  have e8 : pg8 5 = 5 := by decide +kernel
  by_cases q : 0 ≤ k ∧ k < 5
  · obtain ⟨x1, oc, x2⟩ := hc_yes (n := 5) hz (by rw [e8]; decide) (by omega) (by rw [e8]; omega) (by rw [e8]; decide)
    obtain ⟨ob, x3⟩ := be_5 oc
    obtain ⟨o2, y1, y2⟩ := tk_yes (cn := 4) (ow := 1) (s := 0) (r := 0) (t := 0) (n := 5) (by decide +kernel) (by decide) (by decide) hz q.1 ev_lf5 (by decide) q.2 (by decide)
    exact ⟨true, oc, ob, o2, x1, x2, fun _ => x3, y1, y2⟩
  · obtain ⟨x1, x2⟩ := hc_no (n := 5) hz (by rw [e8]; decide) (by rw [e8]; omega)
    obtain ⟨o2, y1, y2⟩ := tk_no (cn := 4) (ow := 1) (s := 0) (r := 0) (t := 0) (n := 5) (k := k) (by decide +kernel) hz ev_lf5 (by decide) (by omega)
    exact ⟨false, _, (0, 0, 0, 0, 0), o2, x1, x2, fun h => absurd rfl h, y1, y2⟩
theorem be_6 (oc : Int) : ∃ ob, zf_X10_become (zmk 16 6) 4 1 0 0 0 6 oc = some ob := by
  unfold zf_X10_become zf_X5_corners
  rw [if_neg (by decide)]
  simp only [Option.bind_some]
  rw [if_neg (by decide), if_neg (by decide), if_neg (by decide)]
  exact ⟨_, rfl⟩
theorem ev_4_6 (k : Int) (hz : ¬ zout k) : ∃ oh oc ob o2, zf_X5_hasCut 6 k = some oh ∧ zf_X5_cutAt 6 k = some oc ∧ (¬ oh = false → zf_X10_become (zmk 16 6) 4 1 0 0 0 6 oc = some ob) ∧ zf_X11_take 4 2 4 2 4 1 0 0 0 0xffffffff00000001ffffffff000000000000000000000000000000000000000000000000ffffffff00000000ffffffff0000000000000000000000000000000000000000000000000000000000000001ffffffff00000000ffffffff000000000000000000000000000000000000000000000000ffffffff00000000ffffffff00000000 0x100000000 0x300000002 0x20000000000000001 6 k = some o2 ∧ (if oh = false then (-2 : Int) else k) = o2.1 := by
  have e8 : pg8 6 = 14 := by decide +kernel
  by_cases q : 0 ≤ k ∧ k < 14
  · obtain ⟨x1, oc, x2⟩ := hc_yes (n := 6) hz (by rw [e8]; decide) (by omega) (by rw [e8]; omega) (by rw [e8]; decide)
    obtain ⟨ob, x3⟩ := be_6 oc
    obtain ⟨o2, y1, y2⟩ := tk_yes (cn := 4) (ow := 1) (s := 0) (r := 0) (t := 0) (n := 6) (by decide +kernel) (by decide) (by decide) hz q.1 ev_lf6 (by decide) q.2 (by decide)
    exact ⟨true, oc, ob, o2, x1, x2, fun _ => x3, y1, y2⟩
  · obtain ⟨x1, x2⟩ := hc_no (n := 6) hz (by rw [e8]; decide) (by rw [e8]; omega)
    obtain ⟨o2, y1, y2⟩ := tk_no (cn := 4) (ow := 1) (s := 0) (r := 0) (t := 0) (n := 6) (k := k) (by decide +kernel) hz ev_lf6 (by decide) (by omega)
    exact ⟨false, _, (0, 0, 0, 0, 0), o2, x1, x2, fun h => absurd rfl h, y1, y2⟩
theorem be_7 (oc : Int) : ∃ ob, zf_X10_become (zmk 16 7) 4 1 0 0 0 7 oc = some ob := by
  unfold zf_X10_become zf_X5_corners
  rw [if_neg (by decide)]
  simp only [Option.bind_some]
  rw [if_neg (by decide), if_neg (by decide), if_neg (by decide)]
  exact ⟨_, rfl⟩
theorem ev_4_7 (k : Int) (hz : ¬ zout k) : ∃ oh oc ob o2, zf_X5_hasCut 7 k = some oh ∧ zf_X5_cutAt 7 k = some oc ∧ (¬ oh = false → zf_X10_become (zmk 16 7) 4 1 0 0 0 7 oc = some ob) ∧ zf_X11_take 4 2 4 2 4 1 0 0 0 0xffffffff00000001ffffffff000000000000000000000000000000000000000000000000ffffffff00000000ffffffff0000000000000000000000000000000000000000000000000000000000000001ffffffff00000000ffffffff000000000000000000000000000000000000000000000000ffffffff00000000ffffffff00000000 0x100000000 0x300000002 0x20000000000000001 7 k = some o2 ∧ (if oh = false then (-2 : Int) else k) = o2.1 := by
  have e8 : pg8 7 = 42 := by decide +kernel
  by_cases q : 0 ≤ k ∧ k < 42
  · obtain ⟨x1, oc, x2⟩ := hc_yes (n := 7) hz (by rw [e8]; decide) (by omega) (by rw [e8]; omega) (by rw [e8]; decide)
    obtain ⟨ob, x3⟩ := be_7 oc
    obtain ⟨o2, y1, y2⟩ := tk_yes (cn := 4) (ow := 1) (s := 0) (r := 0) (t := 0) (n := 7) (by decide +kernel) (by decide) (by decide) hz q.1 ev_lf7 (by decide) q.2 (by decide)
    exact ⟨true, oc, ob, o2, x1, x2, fun _ => x3, y1, y2⟩
  · obtain ⟨x1, x2⟩ := hc_no (n := 7) hz (by rw [e8]; decide) (by rw [e8]; omega)
    obtain ⟨o2, y1, y2⟩ := tk_no (cn := 4) (ow := 1) (s := 0) (r := 0) (t := 0) (n := 7) (k := k) (by decide +kernel) hz ev_lf7 (by decide) (by omega)
    exact ⟨false, _, (0, 0, 0, 0, 0), o2, x1, x2, fun h => absurd rfl h, y1, y2⟩
theorem be_8 (oc : Int) : ∃ ob, zf_X10_become (zmk 16 8) 4 1 0 0 0 8 oc = some ob := by
  unfold zf_X10_become zf_X5_corners
  rw [if_neg (by decide)]
  simp only [Option.bind_some]
  rw [if_neg (by decide), if_neg (by decide), if_neg (by decide)]
  exact ⟨_, rfl⟩
theorem ev_4_8 (k : Int) (hz : ¬ zout k) : ∃ oh oc ob o2, zf_X5_hasCut 8 k = some oh ∧ zf_X5_cutAt 8 k = some oc ∧ (¬ oh = false → zf_X10_become (zmk 16 8) 4 1 0 0 0 8 oc = some ob) ∧ zf_X11_take 4 2 4 2 4 1 0 0 0 0xffffffff00000001ffffffff000000000000000000000000000000000000000000000000ffffffff00000000ffffffff0000000000000000000000000000000000000000000000000000000000000001ffffffff00000000ffffffff000000000000000000000000000000000000000000000000ffffffff00000000ffffffff00000000 0x100000000 0x300000002 0x20000000000000001 8 k = some o2 ∧ (if oh = false then (-2 : Int) else k) = o2.1 := by
  have e8 : pg8 8 = 132 := by decide +kernel
  by_cases q : 0 ≤ k ∧ k < 132
  · obtain ⟨x1, oc, x2⟩ := hc_yes (n := 8) hz (by rw [e8]; decide) (by omega) (by rw [e8]; omega) (by rw [e8]; decide)
    obtain ⟨ob, x3⟩ := be_8 oc
    obtain ⟨o2, y1, y2⟩ := tk_yes (cn := 4) (ow := 1) (s := 0) (r := 0) (t := 0) (n := 8) (by decide +kernel) (by decide) (by decide) hz q.1 ev_lf8 (by decide) q.2 (by decide)
    exact ⟨true, oc, ob, o2, x1, x2, fun _ => x3, y1, y2⟩
  · obtain ⟨x1, x2⟩ := hc_no (n := 8) hz (by rw [e8]; decide) (by rw [e8]; omega)
    obtain ⟨o2, y1, y2⟩ := tk_no (cn := 4) (ow := 1) (s := 0) (r := 0) (t := 0) (n := 8) (k := k) (by decide +kernel) hz ev_lf8 (by decide) (by omega)
    exact ⟨false, _, (0, 0, 0, 0, 0), o2, x1, x2, fun h => absurd rfl h, y1, y2⟩
theorem be_9 (oc : Int) : ∃ ob, zf_X10_become (zmk 16 9) 4 1 0 0 0 9 oc = some ob := by
  unfold zf_X10_become zf_X5_corners
  rw [if_neg (by decide)]
  simp only [Option.bind_some]
  rw [if_neg (by decide), if_neg (by decide), if_neg (by decide)]
  exact ⟨_, rfl⟩
theorem ev_4_9 (k : Int) (hz : ¬ zout k) : ∃ oh oc ob o2, zf_X5_hasCut 9 k = some oh ∧ zf_X5_cutAt 9 k = some oc ∧ (¬ oh = false → zf_X10_become (zmk 16 9) 4 1 0 0 0 9 oc = some ob) ∧ zf_X11_take 4 2 4 2 4 1 0 0 0 0xffffffff00000001ffffffff000000000000000000000000000000000000000000000000ffffffff00000000ffffffff0000000000000000000000000000000000000000000000000000000000000001ffffffff00000000ffffffff000000000000000000000000000000000000000000000000ffffffff00000000ffffffff00000000 0x100000000 0x300000002 0x20000000000000001 9 k = some o2 ∧ (if oh = false then (-2 : Int) else k) = o2.1 := by
  have e8 : pg8 9 = 429 := by decide +kernel
  by_cases q : 0 ≤ k ∧ k < 429
  · obtain ⟨x1, oc, x2⟩ := hc_yes (n := 9) hz (by rw [e8]; decide) (by omega) (by rw [e8]; omega) (by rw [e8]; decide)
    obtain ⟨ob, x3⟩ := be_9 oc
    obtain ⟨o2, y1, y2⟩ := tk_yes (cn := 4) (ow := 1) (s := 0) (r := 0) (t := 0) (n := 9) (by decide +kernel) (by decide) (by decide) hz q.1 ev_lf9 (by decide) q.2 (by decide)
    exact ⟨true, oc, ob, o2, x1, x2, fun _ => x3, y1, y2⟩
  · obtain ⟨x1, x2⟩ := hc_no (n := 9) hz (by rw [e8]; decide) (by rw [e8]; omega)
    obtain ⟨o2, y1, y2⟩ := tk_no (cn := 4) (ow := 1) (s := 0) (r := 0) (t := 0) (n := 9) (k := k) (by decide +kernel) hz ev_lf9 (by decide) (by omega)
    exact ⟨false, _, (0, 0, 0, 0, 0), o2, x1, x2, fun h => absurd rfl h, y1, y2⟩
