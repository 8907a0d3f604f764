def BR (B : Nat) : Prop := ∀ k : Nat, -128 ≤ zget B k ∧ zget B k ≤ 127
theorem BR_set {B : Nat} (h : BR B) (k : Nat) (v : Int) : BR (zset B k (zb v)) := by
  intro j
  rw [zget_set]
  by_cases e : j = k
  · rw [if_pos e]
    rw [zw_id (zb_in v)]
    unfold zb
    split <;> omega
  · rw [if_neg e]
    exact h j
def ap4 (B : Nat) (len v : Int) : Nat := (zset (zset (zset (zset B (Int.toNat len) (zb (zb (zshr v 24)))) (Int.toNat (len + 1)) (zb (zb (zshr v (24 + -8))))) (Int.toNat ((len + 1) + 1)) (zb (zb (zshr v ((24 + -8) + -8))))) (Int.toNat (((len + 1) + 1) + 1)) (zb (zb (zshr v (((24 + -8) + -8) + -8)))))
theorem ap_e (len v : Int) (B : Nat) (h0 : 0 ≤ len) (h1 : len + 4 ≤ 300) : zf_X8_append len B v = some (len + 1 + 1 + 1 + 1, ap4 B len v) := by
  have h : JE zg_X8_append (0, v, 0, len, B) (len + 1 + 1 + 1 + 1, ap4 B len v) := by
    refine JE_up (s' := (3, v, 24, len, B)) rfl ?_
    refine JE_up (s' := (3, v, (24 + -8), (len + 1), (zset B (Int.toNat len) (zb (zb (zshr v 24)))))) (by
      show zg_X8_append_3 v 24 len B = _
      unfold zg_X8_append_3
      rw [if_neg (by decide), if_neg (by decide), if_neg (by unfold zout; omega), if_neg (by omega), if_neg (by omega)]) ?_
    refine JE_up (s' := (3, v, ((24 + -8) + -8), ((len + 1) + 1), (zset (zset B (Int.toNat len) (zb (zb (zshr v 24)))) (Int.toNat (len + 1)) (zb (zb (zshr v (24 + -8))))))) (by
      show zg_X8_append_3 v (24 + -8) (len + 1) (zset B (Int.toNat len) (zb (zb (zshr v 24)))) = _
      unfold zg_X8_append_3
      rw [if_neg (by decide), if_neg (by decide), if_neg (by unfold zout; omega), if_neg (by omega), if_neg (by omega)]) ?_
    refine JE_up (s' := (3, v, (((24 + -8) + -8) + -8), (((len + 1) + 1) + 1), (zset (zset (zset B (Int.toNat len) (zb (zb (zshr v 24)))) (Int.toNat (len + 1)) (zb (zb (zshr v (24 + -8))))) (Int.toNat ((len + 1) + 1)) (zb (zb (zshr v ((24 + -8) + -8))))))) (by
      show zg_X8_append_3 v ((24 + -8) + -8) ((len + 1) + 1) (zset (zset B (Int.toNat len) (zb (zb (zshr v 24)))) (Int.toNat (len + 1)) (zb (zb (zshr v (24 + -8))))) = _
      unfold zg_X8_append_3
      rw [if_neg (by decide), if_neg (by decide), if_neg (by unfold zout; omega), if_neg (by omega), if_neg (by omega)]) ?_
    refine JE_up (s' := (3, v, ((((24 + -8) + -8) + -8) + -8), ((((len + 1) + 1) + 1) + 1), (zset (zset (zset (zset B (Int.toNat len) (zb (zb (zshr v 24)))) (Int.toNat (len + 1)) (zb (zb (zshr v (24 + -8))))) (Int.toNat ((len + 1) + 1)) (zb (zb (zshr v ((24 + -8) + -8))))) (Int.toNat (((len + 1) + 1) + 1)) (zb (zb (zshr v (((24 + -8) + -8) + -8))))))) (by
      show zg_X8_append_3 v (((24 + -8) + -8) + -8) (((len + 1) + 1) + 1) (zset (zset (zset B (Int.toNat len) (zb (zb (zshr v 24)))) (Int.toNat (len + 1)) (zb (zb (zshr v (24 + -8))))) (Int.toNat ((len + 1) + 1)) (zb (zb (zshr v ((24 + -8) + -8))))) = _
      unfold zg_X8_append_3
      rw [if_neg (by decide), if_neg (by decide), if_neg (by unfold zout; omega), if_neg (by omega), if_neg (by omega)]) ?_
    exact JE_in (by
      show zg_X8_append_3 v ((((24 + -8) + -8) + -8) + -8) ((((len + 1) + 1) + 1) + 1) (zset (zset (zset (zset B (Int.toNat len) (zb (zb (zshr v 24)))) (Int.toNat (len + 1)) (zb (zb (zshr v (24 + -8))))) (Int.toNat ((len + 1) + 1)) (zb (zb (zshr v ((24 + -8) + -8))))) (Int.toNat (((len + 1) + 1) + 1)) (zb (zb (zshr v (((24 + -8) + -8) + -8))))) = _
      unfold zg_X8_append_3
      rw [if_neg (by decide), if_pos (by decide)]
      rfl)
  obtain ⟨o, ho, -⟩ := ok_X8_append len B v h0 (by omega)
  have e := JE_det (JE_of ho) h
  rw [ho, e]
theorem ap_l (len : Int) : len + 1 + 1 + 1 + 1 = len + 4 := by omega
def ap20 (B : Nat) (len a b c d e : Int) : Nat := ap4 (ap4 (ap4 (ap4 (ap4 B len a) (len + 4) b) (len + 8) c) (len + 12) d) (len + 16) e
theorem feed_x (mk : Nat) (len : Int) (B : Nat) (a b c d e : Int) (h0 : 0 ≤ len) (h1 : len + 20 ≤ 300) : zf_X10_feed mk len B a b c d e = some (len + 20, len + 20, ap20 B len a b c d e) := by
  unfold zf_X10_feed
  have hr : zf_X8_hasRoomForTwenty len = some true := by
    unfold zf_X8_hasRoomForTwenty
    rw [if_neg (by unfold zout; omega)]
    first | rw [if_neg (by omega)] | rw [if_pos (by omega)]
  rw [hr]
  simp only [Option.bind_some]
  rw [if_neg (by decide), ap_e len a B h0 (by omega), ap_l]
  simp only [Option.bind_some]
  rw [ap_e (len + 4) b _ (by omega) (by omega), ap_l]
  simp only [Option.bind_some]
  rw [ap_e (len + 4 + 4) c _ (by omega) (by omega), ap_l]
  simp only [Option.bind_some]
  rw [ap_e (len + 4 + 4 + 4) d _ (by omega) (by omega), ap_l]
  simp only [Option.bind_some]
  rw [ap_e (len + 4 + 4 + 4 + 4) e _ (by omega) (by omega), ap_l]
  simp only [Option.bind_some]
  unfold zf_X8_size
  simp only [Option.bind_some]
  unfold ap20
  rw [show len + 4 + 4 = len + 8 by omega, show len + 8 + 4 = len + 12 by omega, show len + 12 + 4 = len + 16 by omega, show len + 16 + 4 = len + 20 by omega]
theorem feed_x0 (mk : Nat) (len : Int) (B : Nat) (a b c d e : Int) (h0 : 0 ≤ len) (h9 : len ≤ 300) (h1 : ¬ len + 20 ≤ 300) : zf_X10_feed mk len B a b c d e = some (-3, len, B) := by
  unfold zf_X10_feed
  have hr : zf_X8_hasRoomForTwenty len = some false := by
    unfold zf_X8_hasRoomForTwenty
    rw [if_neg (by unfold zout; omega)]
    first | rw [if_pos (by omega)] | rw [if_neg (by omega)]
  rw [hr]
  simp only [Option.bind_some]
  rw [if_pos trivial]
theorem fd_e (a b c d e i6 i7 i8 v len : Int) (B : Nat) (k : Int) (h0 : 0 ≤ len) (h1 : len + 4 ≤ 300) (o : zO_X11_feed) (h : JE zg_X11_feed (73, a, b, c, d, e, i6, v, 24, len, B) o) : JE zg_X11_feed (19, a, b, c, d, e, i6 + 1, v, 24 + -8 + -8 + -8 + -8, len + 4, ap4 B len v) o := by
  replace h := JE_dn (s' := (73, a, b, c, d, e, i6, v, (24 + -8), (len + 1), (zset B (Int.toNat len) (zb (zb (zshr v 24)))))) (by
    show zg_X11_feed_73 a b c d e i6 v 24 len B = _
    unfold zg_X11_feed_73
    rw [if_neg (by decide), if_neg (by decide), if_neg (by omega)]) h
  replace h := JE_dn (s' := (73, a, b, c, d, e, i6, v, ((24 + -8) + -8), ((len + 1) + 1), (zset (zset B (Int.toNat len) (zb (zb (zshr v 24)))) (Int.toNat (len + 1)) (zb (zb (zshr v (24 + -8))))))) (by
    show zg_X11_feed_73 a b c d e i6 v (24 + -8) (len + 1) (zset B (Int.toNat len) (zb (zb (zshr v 24)))) = _
    unfold zg_X11_feed_73
    rw [if_neg (by decide), if_neg (by decide), if_neg (by omega)]) h
  replace h := JE_dn (s' := (73, a, b, c, d, e, i6, v, (((24 + -8) + -8) + -8), (((len + 1) + 1) + 1), (zset (zset (zset B (Int.toNat len) (zb (zb (zshr v 24)))) (Int.toNat (len + 1)) (zb (zb (zshr v (24 + -8))))) (Int.toNat ((len + 1) + 1)) (zb (zb (zshr v ((24 + -8) + -8))))))) (by
    show zg_X11_feed_73 a b c d e i6 v ((24 + -8) + -8) ((len + 1) + 1) (zset (zset B (Int.toNat len) (zb (zb (zshr v 24)))) (Int.toNat (len + 1)) (zb (zb (zshr v (24 + -8))))) = _
    unfold zg_X11_feed_73
    rw [if_neg (by decide), if_neg (by decide), if_neg (by omega)]) h
  replace h := JE_dn (s' := (73, a, b, c, d, e, i6, v, ((((24 + -8) + -8) + -8) + -8), ((((len + 1) + 1) + 1) + 1), (zset (zset (zset (zset B (Int.toNat len) (zb (zb (zshr v 24)))) (Int.toNat (len + 1)) (zb (zb (zshr v (24 + -8))))) (Int.toNat ((len + 1) + 1)) (zb (zb (zshr v ((24 + -8) + -8))))) (Int.toNat (((len + 1) + 1) + 1)) (zb (zb (zshr v (((24 + -8) + -8) + -8))))))) (by
    show zg_X11_feed_73 a b c d e i6 v (((24 + -8) + -8) + -8) (((len + 1) + 1) + 1) (zset (zset (zset B (Int.toNat len) (zb (zb (zshr v 24)))) (Int.toNat (len + 1)) (zb (zb (zshr v (24 + -8))))) (Int.toNat ((len + 1) + 1)) (zb (zb (zshr v ((24 + -8) + -8))))) = _
    unfold zg_X11_feed_73
    rw [if_neg (by decide), if_neg (by decide), if_neg (by omega)]) h
  replace h := JE_dn (s' := (19, a, b, c, d, e, i6 + 1, v, ((((24 + -8) + -8) + -8) + -8), ((((len + 1) + 1) + 1) + 1), (zset (zset (zset (zset B (Int.toNat len) (zb (zb (zshr v 24)))) (Int.toNat (len + 1)) (zb (zb (zshr v (24 + -8))))) (Int.toNat ((len + 1) + 1)) (zb (zb (zshr v ((24 + -8) + -8))))) (Int.toNat (((len + 1) + 1) + 1)) (zb (zb (zshr v (((24 + -8) + -8) + -8))))))) (by
    show zg_X11_feed_73 a b c d e i6 v ((((24 + -8) + -8) + -8) + -8) ((((len + 1) + 1) + 1) + 1) (zset (zset (zset (zset B (Int.toNat len) (zb (zb (zshr v 24)))) (Int.toNat (len + 1)) (zb (zb (zshr v (24 + -8))))) (Int.toNat ((len + 1) + 1)) (zb (zb (zshr v ((24 + -8) + -8))))) (Int.toNat (((len + 1) + 1) + 1)) (zb (zb (zshr v (((24 + -8) + -8) + -8))))) = _
    unfold zg_X11_feed_73
    rw [if_neg (by decide), if_pos (by decide)]) h
  rw [show ((((len + 1) + 1) + 1) + 1 : Int) = len + 4 by omega] at h
  exact h
theorem feed_y (len : Int) (B : Nat) (a b c d e : Int) (h0 : 0 ≤ len) (h1 : len + 20 ≤ 300) (o : zO_X11_feed) (ho : zf_X11_feed len B a b c d e = some o) : o = (len + 20, len + 20, ap20 B len a b c d e) := by
  have h := JE_of ho
  replace h := JE_dn (s' := (19, a, b, c, d, e, 0, 0, 0, len, B)) (by
    show zg_X11_feed_0 a b c d e 0 0 0 len B = _
    unfold zg_X11_feed_0
    rw [if_neg (by unfold zout; omega), if_pos (by omega)]) h
  replace h := JE_dn (s' := (73, a, b, c, d, e, 0, a, 24, len, B)) (by
    show zg_X11_feed_19 a b c d e 0 0 0 len B = _
    unfold zg_X11_feed_19
    rw [if_neg (by decide), if_neg (by decide), if_pos (by decide)]) h
  replace h := fd_e a b c d e 0 0 0 a len B 0 (by omega) (by omega) o h
  replace h := JE_dn (s' := (73, a, b, c, d, e, (0 + 1), b, 24, (len + 4), (ap4 B len a))) (by
    show zg_X11_feed_19 a b c d e (0 + 1) a (24 + -8 + -8 + -8 + -8) (len + 4) (ap4 B len a) = _
    unfold zg_X11_feed_19
    rw [if_neg (by decide), if_neg (by decide), if_neg (by decide), if_pos (by decide)]) h
  replace h := fd_e a b c d e (0 + 1) a (24 + -8 + -8 + -8 + -8) b (len + 4) (ap4 B len a) 0 (by omega) (by omega) o h
  rw [show (len + 4 + 4 : Int) = len + 8 by omega] at h
  replace h := JE_dn (s' := (73, a, b, c, d, e, ((0 + 1) + 1), c, 24, (len + 8), (ap4 (ap4 B len a) (len + 4) b))) (by
    show zg_X11_feed_19 a b c d e ((0 + 1) + 1) b (24 + -8 + -8 + -8 + -8) (len + 8) (ap4 (ap4 B len a) (len + 4) b) = _
    unfold zg_X11_feed_19
    rw [if_neg (by decide), if_neg (by decide), if_neg (by decide), if_neg (by decide), if_pos (by decide)]) h
  replace h := fd_e a b c d e ((0 + 1) + 1) b (24 + -8 + -8 + -8 + -8) c (len + 8) (ap4 (ap4 B len a) (len + 4) b) 0 (by omega) (by omega) o h
  rw [show (len + 8 + 4 : Int) = len + 12 by omega] at h
  replace h := JE_dn (s' := (73, a, b, c, d, e, (((0 + 1) + 1) + 1), d, 24, (len + 12), (ap4 (ap4 (ap4 B len a) (len + 4) b) (len + 8) c))) (by
    show zg_X11_feed_19 a b c d e (((0 + 1) + 1) + 1) c (24 + -8 + -8 + -8 + -8) (len + 12) (ap4 (ap4 (ap4 B len a) (len + 4) b) (len + 8) c) = _
    unfold zg_X11_feed_19
    rw [if_neg (by decide), if_neg (by decide), if_neg (by decide), if_neg (by decide), if_neg (by decide), if_pos (by decide)]) h
  replace h := fd_e a b c d e (((0 + 1) + 1) + 1) c (24 + -8 + -8 + -8 + -8) d (len + 12) (ap4 (ap4 (ap4 B len a) (len + 4) b) (len + 8) c) 0 (by omega) (by omega) o h
  rw [show (len + 12 + 4 : Int) = len + 16 by omega] at h
  replace h := JE_dn (s' := (73, a, b, c, d, e, ((((0 + 1) + 1) + 1) + 1), e, 24, (len + 16), (ap4 (ap4 (ap4 (ap4 B len a) (len + 4) b) (len + 8) c) (len + 12) d))) (by
    show zg_X11_feed_19 a b c d e ((((0 + 1) + 1) + 1) + 1) d (24 + -8 + -8 + -8 + -8) (len + 16) (ap4 (ap4 (ap4 (ap4 B len a) (len + 4) b) (len + 8) c) (len + 12) d) = _
    unfold zg_X11_feed_19
    rw [if_neg (by decide), if_neg (by decide), if_neg (by decide), if_neg (by decide), if_neg (by decide), if_neg (by decide)]) h
  replace h := fd_e a b c d e ((((0 + 1) + 1) + 1) + 1) d (24 + -8 + -8 + -8 + -8) e (len + 16) (ap4 (ap4 (ap4 (ap4 B len a) (len + 4) b) (len + 8) c) (len + 12) d) 0 (by omega) (by omega) o h
  rw [show (len + 16 + 4 : Int) = len + 20 by omega] at h
  exact JE_end (by
    show zg_X11_feed_19 a b c d e (((((0 + 1) + 1) + 1) + 1) + 1) e (24 + -8 + -8 + -8 + -8) (len + 20) (ap4 (ap4 (ap4 (ap4 (ap4 B len a) (len + 4) b) (len + 8) c) (len + 12) d) (len + 16) e) = _
    unfold zg_X11_feed_19
    rw [if_neg (by decide), if_pos (by decide)]
    rfl) h
theorem feed_y0 (len : Int) (B : Nat) (a b c d e : Int) (h0 : 0 ≤ len) (h9 : len ≤ 300) (h1 : ¬ len + 20 ≤ 300) (o : zO_X11_feed) (ho : zf_X11_feed len B a b c d e = some o) : o = (-3, len, B) := by
  have h := JE_of ho
  exact JE_end (by
    show zg_X11_feed_0 a b c d e 0 0 0 len B = _
    unfold zg_X11_feed_0
    rw [if_neg (by unfold zout; omega), if_neg (by omega)]) h
theorem BR_ap4 {B : Nat} (h : BR B) (len v : Int) : BR (ap4 B len v) := BR_set (BR_set (BR_set (BR_set h _ _) _ _) _ _) _ _
/-- feed: the same answer, the same tape -/
theorem eq_feed (mk : Nat) (len : Int) (B : Nat) (a b c d e : Int) (h0 : 0 ≤ len) (h9 : len ≤ 300) (hB : BR B) {o o2 : Int × Int × Nat} (ho : zf_X10_feed mk len B a b c d e = some o) (ho2 : zf_X11_feed len B a b c d e = some o2) : o = o2 ∧ BR o.2.2 := by
  by_cases h1 : len + 20 ≤ 300
  · rw [feed_x mk len B a b c d e h0 h1] at ho
    have := feed_y len B a b c d e h0 h1 o2 ho2
    subst this
    cases ho
    exact ⟨rfl, BR_ap4 (BR_ap4 (BR_ap4 (BR_ap4 (BR_ap4 hB _ _) _ _) _ _) _ _) _ _⟩
  · rw [feed_x0 mk len B a b c d e h0 h9 h1] at ho
    have := feed_y0 len B a b c d e h0 h9 h1 o2 ho2
    subst this
    cases ho
    exact ⟨rfl, hB⟩
