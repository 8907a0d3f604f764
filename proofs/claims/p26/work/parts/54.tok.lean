/-! tokens: both sides read the same ones -/
abbrev isLe (c : Int) : Prop := 97 ≤ c ∧ c ≤ 122
abbrev isDi (c : Int) : Prop := 48 ≤ c ∧ c ≤ 57
abbrev isBl (c : Int) : Prop := c = 32 ∨ c = 10
def RE (P : Int → Prop) (B : Nat) (len a e : Int) : Prop := a ≤ e ∧ e ≤ len ∧ (∀ k : Int, a ≤ k → k < e → P (zget B k.toNat)) ∧ (e < len → ¬ P (zget B e.toNat))
theorem RE_u {P : Int → Prop} {B : Nat} {len a e e' : Int} (h : RE P B len a e) (h' : RE P B len a e') : e = e' := by
  obtain ⟨h1, h2, h3, h4⟩ := h
  obtain ⟨g1, g2, g3, g4⟩ := h'
  by_cases c : e = e'
  · exact c
  · by_cases d : e < e'
    · exact absurd (g3 e h1 d) (h4 (by omega))
    · exact absurd (h3 e' g1 (by omega)) (g4 (by omega))
noncomputable def hor (B : Nat) (a : Int) (m : Nat) : Int := Nat.rec 0 (fun m ih => 32 * ih + zget B (Int.toNat (a + (m : Int))) - 97 + 1) m
noncomputable def dec10 (B : Nat) (a : Int) (m : Nat) : Int := Nat.rec 0 (fun m ih => 10 * ih + zget B (Int.toNat (a + (m : Int))) - 48) m
theorem hor_s (B : Nat) (a : Int) (m : Nat) : hor B a (m + 1) = 32 * hor B a m + zget B (Int.toNat (a + (m : Int))) - 97 + 1 := rfl
theorem dec_s (B : Nat) (a : Int) (m : Nat) : dec10 B a (m + 1) = 10 * dec10 B a m + zget B (Int.toNat (a + (m : Int))) - 48 := rfl
theorem e_isLetter {c : Int} (h : ¬ zout c) : zf_X8_isLetter c = some (decide (isLe c)) := by
  unfold zf_X8_isLetter
  rw [if_neg h]
  by_cases a : c < 97
  · rw [if_pos a, decide_eq_false (by omega)]
  · rw [if_neg a]
    by_cases b : 122 < c
    · rw [if_pos b, decide_eq_false (by omega)]
    · rw [if_neg b, decide_eq_true (by omega)]
theorem e_isDigit {c : Int} (h : ¬ zout c) : zf_X8_isDigit c = some (decide (isDi c)) := by
  unfold zf_X8_isDigit
  rw [if_neg h]
  by_cases a : c < 48
  · rw [if_pos a, decide_eq_false (by omega)]
  · rw [if_neg a]
    by_cases b : 57 < c
    · rw [if_pos b, decide_eq_false (by omega)]
    · rw [if_neg b, decide_eq_true (by omega)]
theorem e_isBlank {c : Int} (h : ¬ zout c) : zf_X8_isBlank c = some (decide (isBl c)) := by
  unfold zf_X8_isBlank
  rw [if_neg h]
  by_cases a : c = 32
  · rw [if_pos a, decide_eq_true (Or.inl a)]
  · rw [if_neg a]
    by_cases b : c = 10
    · rw [if_pos b, decide_eq_true (Or.inr b)]
    · rw [if_neg b, decide_eq_false (by omega)]
theorem e_small {c : Int} (h : ¬ zout c) : zf_X11_isSmall c = some (decide (isLe c)) := e_isLetter h
theorem e_digit {c : Int} (h : ¬ zout c) : zf_X11_isDigit c = some (decide (isDi c)) := e_isDigit h
theorem b255 {c : Int} (h1 : -128 ≤ c) (h2 : c ≤ 127) : zand c 255 = if 0 ≤ c then c else c + 256 := by
  have e : zu c &&& zu 255 = zu c % 256 := by
    rw [show zu 255 = 2 ^ 8 - 1 by decide]
    exact Nat.and_two_pow_sub_one_eq_mod (zu c) 8
  unfold zand
  rw [e]
  unfold zs zu
  split <;> split <;> omega
theorem e_byteAt {len k : Int} {B : Nat} (h0 : 0 ≤ k) (hk : k < len) (l3 : len ≤ 300) : zf_X11_byteAt len B k = some (zand (zget B k.toNat) 255) := by
  unfold zf_X11_byteAt
  rw [if_neg (by unfold zout; omega), if_neg (by unfold zout; omega), if_neg (by omega), if_neg (by omega)]
theorem e_byteAt' {len k : Int} {B : Nat} (h0 : 0 ≤ k) (h1 : k ≤ 300) (l0 : 0 ≤ len) (hk : ¬ k < len) (l3 : len ≤ 300) : zf_X11_byteAt len B k = some (-1) := by
  unfold zf_X11_byteAt
  rw [if_neg (by unfold zout; omega), if_neg (by unfold zout; omega), if_pos (by omega)]
/-- a word's end -/
theorem e_readWord (len nx kd pl : Int) (B : Nat) (l3 : len ≤ 300) (h0 : 0 ≤ pl) (h1 : pl ≤ nx) (h2 : nx ≤ len) (h3 : ∀ k : Int, pl ≤ k → k < nx → isLe (zget B k.toNat)) : Go (fun (o : Int × Int) => RE isLe B len pl o.1 ∧ ((8 < o.1 - pl ∧ o.2 = 4) ∨ (o.1 - pl ≤ 8 ∧ o.2 = 1))) (zf_X8_readWord len nx kd pl B) := by
  refine jok (fun (s : zS_X8_readWord) => match s with | (lab, nx, kd) => lab = 0 ∧ pl ≤ nx ∧ nx ≤ len ∧ ∀ k : Int, pl ≤ k → k < nx → isLe (zget B k.toNat)) (fun (s : zS_X8_readWord) => match s with | (lab, nx, kd) => (len - nx).toNat) _ ?_ _ ?_ ?_
  · intro s hI
    obtain ⟨lab, nx, kd⟩ := s
    replace hI : lab = 0 ∧ pl ≤ nx ∧ nx ≤ len ∧ ∀ k : Int, pl ≤ k → k < nx → isLe (zget B k.toNat) := hI
    obtain ⟨rfl, v1, v2, v3⟩ := hI
    show Go _ (zg_X8_readWord_0 len pl B nx kd)
    unfold zg_X8_readWord_0
    refine Go_chk (by unfold zout; omega) ?_
    refine Go_chk (by unfold zout; omega) ?_
    refine Go_ite (fun c => ?_) (fun c => ?_)
    · refine Go_chk (by unfold zout; omega) ?_
      refine Go_ite (fun c1 => ?_) (fun c1 => ?_)
      · exact Go_i ⟨⟨v1, v2, v3, fun z => absurd z (by show ¬ nx < len; omega)⟩, Or.inl ⟨c1, rfl⟩⟩
      · exact Go_i ⟨⟨v1, v2, v3, fun z => absurd z (by show ¬ nx < len; omega)⟩, Or.inr ⟨by show nx - pl ≤ 8; omega, rfl⟩⟩
    · refine Go_chk (by omega) ?_
      rw [e_isLetter (zget_in _ _)]
      simp only [Option.bind_some]
      refine Go_ite (fun c2 => ?_) (fun c2 => ?_)
      · have c2 := of_decide_eq_false c2
        refine Go_chk (by unfold zout; omega) ?_
        refine Go_ite (fun c1 => ?_) (fun c1 => ?_)
        · exact Go_i ⟨⟨v1, v2, v3, fun _ => c2⟩, Or.inl ⟨c1, rfl⟩⟩
        · exact Go_i ⟨⟨v1, v2, v3, fun _ => c2⟩, Or.inr ⟨by show nx - pl ≤ 8; omega, rfl⟩⟩
      · have c2 := of_decide_eq_true (bnf c2)
        refine Go_i ⟨⟨rfl, ?_, ?_, ?_⟩, ?_⟩
        · show pl ≤ nx + 1; omega
        · show nx + 1 ≤ len; omega
        · intro k k1 k2
          replace k2 : k < nx + 1 := k2
          by_cases e : k = nx
          · rw [e]; exact c2
          · exact v3 k k1 (by omega)
        · show (len - (nx + 1)).toNat < (len - nx).toNat; omega
  · exact ⟨rfl, h1, h2, h3⟩
  · show (len - nx).toNat < jfuel
    unfold jfuel
    omega
/-- a number's end and value -/
theorem e_readNumber (len nx kd pl va : Int) (B : Nat) (l3 : len ≤ 300) (h0 : 0 ≤ pl) (h1 : pl ≤ nx) (h2 : nx ≤ len) (h3 : ∀ k : Int, pl ≤ k → k < nx → isDi (zget B k.toNat)) (h4 : va = dec10 B pl (nx - pl).toNat) : Go (fun (o : Int × Int × Int) => RE isDi B len pl o.1 ∧ o.2.2 = dec10 B pl (o.1 - pl).toNat ∧ ((3 < o.1 - pl ∧ o.2.1 = 4) ∨ (o.1 - pl ≤ 3 ∧ o.2.1 = 2))) (zf_X8_readNumber len nx kd pl va B) := by
  refine jok (fun (s : zS_X8_readNumber) => match s with | (lab, nx, kd, va) => lab = 0 ∧ pl ≤ nx ∧ nx ≤ len ∧ (∀ k : Int, pl ≤ k → k < nx → isDi (zget B k.toNat)) ∧ va = dec10 B pl (nx - pl).toNat) (fun (s : zS_X8_readNumber) => match s with | (lab, nx, kd, va) => (len - nx).toNat) _ ?_ _ ?_ ?_
  · intro s hI
    obtain ⟨lab, nx, kd, va⟩ := s
    replace hI : lab = 0 ∧ pl ≤ nx ∧ nx ≤ len ∧ (∀ k : Int, pl ≤ k → k < nx → isDi (zget B k.toNat)) ∧ va = dec10 B pl (nx - pl).toNat := hI
    obtain ⟨rfl, v1, v2, v3, v4⟩ := hI
    show Go _ (zg_X8_readNumber_0 len pl B nx kd va)
    unfold zg_X8_readNumber_0
    refine Go_chk (by unfold zout; omega) ?_
    refine Go_chk (by unfold zout; omega) ?_
    refine Go_ite (fun c => ?_) (fun c => ?_)
    · refine Go_chk (by unfold zout; omega) ?_
      refine Go_ite (fun c1 => ?_) (fun c1 => ?_)
      · exact Go_i ⟨⟨v1, v2, v3, fun z => absurd z (by show ¬ nx < len; omega)⟩, v4, Or.inl ⟨c1, rfl⟩⟩
      · exact Go_i ⟨⟨v1, v2, v3, fun z => absurd z (by show ¬ nx < len; omega)⟩, v4, Or.inr ⟨by show nx - pl ≤ 3; omega, rfl⟩⟩
    · refine Go_chk (by omega) ?_
      rw [e_isDigit (zget_in _ _)]
      simp only [Option.bind_some]
      refine Go_ite (fun c2 => ?_) (fun c2 => ?_)
      · have c2 := of_decide_eq_false c2
        refine Go_chk (by unfold zout; omega) ?_
        refine Go_ite (fun c1 => ?_) (fun c1 => ?_)
        · exact Go_i ⟨⟨v1, v2, v3, fun _ => c2⟩, v4, Or.inl ⟨c1, rfl⟩⟩
        · exact Go_i ⟨⟨v1, v2, v3, fun _ => c2⟩, v4, Or.inr ⟨by show nx - pl ≤ 3; omega, rfl⟩⟩
      · have c2 := of_decide_eq_true (bnf c2)
        refine Go_i ⟨⟨rfl, ?_, ?_, ?_, ?_⟩, ?_⟩
        · show pl ≤ nx + 1; omega
        · show nx + 1 ≤ len; omega
        · intro k k1 k2
          replace k2 : k < nx + 1 := k2
          by_cases e : k = nx
          · rw [e]; exact c2
          · exact v3 k k1 (by omega)
        · show va * 10 + zget B nx.toNat - 48 = dec10 B pl (nx + 1 - pl).toNat
          rw [show (nx + 1 - pl).toNat = (nx - pl).toNat + 1 by omega, dec_s, ← v4, show pl + (((nx - pl).toNat : Nat) : Int) = nx by omega]
          omega
        · show (len - (nx + 1)).toNat < (len - nx).toNat; omega
  · exact ⟨rfl, h1, h2, h3, h4⟩
  · show (len - nx).toNat < jfuel
    unfold jfuel
    omega
/-- what a token is: from p, in the tape B up to len; kinds of the tape's own numbering -/
def TK (B : Nat) (len p nx kd pl va : Int) : Prop := RE isBl B len p pl ∧ ((pl = len ∧ kd = 0 ∧ nx = pl) ∨ (pl < len ∧ isLe (zget B pl.toNat) ∧ RE isLe B len pl nx ∧ ((8 < nx - pl ∧ kd = 4) ∨ (nx - pl ≤ 8 ∧ kd = 1))) ∨ (pl < len ∧ isDi (zget B pl.toNat) ∧ RE isDi B len pl nx ∧ ((3 < nx - pl ∧ kd = 4) ∨ (nx - pl ≤ 3 ∧ kd = 2 ∧ va = dec10 B pl (nx - pl).toNat))) ∨ (pl < len ∧ ¬ isLe (zget B pl.toNat) ∧ ¬ isDi (zget B pl.toNat) ∧ nx = pl + 1 ∧ ((zget B pl.toNat = 59 ∧ kd = 3) ∨ (¬ zget B pl.toNat = 59 ∧ kd = 4))))
theorem e_readToken (len nx kd pl va : Int) (B : Nat) (l3 : len ≤ 300) (h0 : 0 ≤ nx) (h2 : nx ≤ len) : Go (fun (o : Int × Int × Int × Int) => TK B len nx o.1 o.2.1 o.2.2.1 o.2.2.2) (zf_X8_readToken len nx kd pl va B) := by
  refine jok (fun (s : zS_X8_readToken) => match s with | (lab, n, kd, pl, va) => nx ≤ n ∧ n ≤ len ∧ (∀ k : Int, nx ≤ k → k < n → isBl (zget B k.toNat)) ∧ (lab = 0 ∨ (lab = 39 ∧ (n < len → ¬ isBl (zget B n.toNat))))) (fun (s : zS_X8_readToken) => match s with | (lab, n, kd, pl, va) => if lab = 0 then 1 + (len - n).toNat else 0) _ ?_ _ ?_ ?_
  · intro s hI
    obtain ⟨lab, n, kd, pl, va⟩ := s
    replace hI : nx ≤ n ∧ n ≤ len ∧ (∀ k : Int, nx ≤ k → k < n → isBl (zget B k.toNat)) ∧ (lab = 0 ∨ (lab = 39 ∧ (n < len → ¬ isBl (zget B n.toNat)))) := hI
    obtain ⟨v1, v2, v3, v4⟩ := hI
    rcases v4 with rfl | ⟨rfl, v4⟩
    · show Go _ (zg_X8_readToken_0 len B n kd pl va)
      unfold zg_X8_readToken_0
      refine Go_chk (by unfold zout; omega) ?_
      refine Go_chk (by unfold zout; omega) ?_
      refine Go_ite (fun c => ?_) (fun c => ?_)
      · refine Go_i ⟨⟨v1, v2, v3, Or.inr ⟨rfl, fun z => absurd z (by show ¬ n < len; omega)⟩⟩, ?_⟩
        show (if (39 : Nat) = 0 then 1 + (len - n).toNat else 0) < (if (0 : Nat) = 0 then 1 + (len - n).toNat else 0)
        rw [if_neg (by decide), if_pos rfl]; omega
      · refine Go_chk (by omega) ?_
        rw [e_isBlank (zget_in _ _)]
        simp only [Option.bind_some]
        refine Go_ite (fun c2 => ?_) (fun c2 => ?_)
        · have c2 := of_decide_eq_false c2
          refine Go_i ⟨⟨v1, v2, v3, Or.inr ⟨rfl, fun _ => c2⟩⟩, ?_⟩
          show (if (39 : Nat) = 0 then 1 + (len - n).toNat else 0) < (if (0 : Nat) = 0 then 1 + (len - n).toNat else 0)
          rw [if_neg (by decide), if_pos rfl]; omega
        · have c2 := of_decide_eq_true (bnf c2)
          refine Go_i ⟨⟨?_, ?_, ?_, Or.inl rfl⟩, ?_⟩
          · show nx ≤ n + 1; omega
          · show n + 1 ≤ len; omega
          · intro k k1 k2
            replace k2 : k < n + 1 := k2
            by_cases e : k = n
            · rw [e]; exact c2
            · exact v3 k k1 (by omega)
          · show (if (0 : Nat) = 0 then 1 + (len - (n + 1)).toNat else 0) < (if (0 : Nat) = 0 then 1 + (len - n).toNat else 0)
            rw [if_pos rfl, if_pos rfl]; omega
    · show Go _ (zg_X8_readToken_39 len B n kd pl va)
      unfold zg_X8_readToken_39
      have hre : RE isBl B len nx n := ⟨v1, v2, v3, v4⟩
      refine Go_chk (by unfold zout; omega) ?_
      refine Go_chk (by unfold zout; omega) ?_
      refine Go_ite (fun c => ?_) (fun c => ?_)
      · refine Go_chk (by omega) ?_
        rw [e_isLetter (zget_in _ _)]
        simp only [Option.bind_some]
        refine Go_ite (fun c2 => ?_) (fun c2 => ?_)
        · have c2 := of_decide_eq_false c2
          rw [e_isDigit (zget_in _ _)]
          simp only [Option.bind_some]
          refine Go_ite (fun c3 => ?_) (fun c3 => ?_)
          · have c3 := of_decide_eq_false c3
            refine Go_ite (fun c4 => ?_) (fun c4 => ?_)
            · exact Go_i ⟨hre, Or.inr (Or.inr (Or.inr ⟨c, c2, c3, rfl, Or.inl ⟨c4, rfl⟩⟩))⟩
            · exact Go_i ⟨hre, Or.inr (Or.inr (Or.inr ⟨c, c2, c3, rfl, Or.inr ⟨c4, rfl⟩⟩))⟩
          · have c3 := of_decide_eq_true (bnf c3)
            refine Go_bindP (e_readNumber len n kd n 0 B l3 (by omega) (Int.le_refl _) v2 (fun k k1 k2 => absurd k1 (by omega)) (by rw [Int.sub_self]; rfl)) (fun o q => ?_)
            obtain ⟨q1, q2, q3⟩ := q
            refine Go_i ⟨hre, Or.inr (Or.inr (Or.inl ⟨c, c3, q1, ?_⟩))⟩
            rcases q3 with q3 | q3
            · exact Or.inl q3
            · exact Or.inr ⟨q3.1, q3.2, q2⟩
        · have c2 := of_decide_eq_true (bnf c2)
          refine Go_bindP (e_readWord len n kd n B l3 (by omega) (Int.le_refl _) v2 (fun k k1 k2 => absurd k1 (by omega))) (fun o q => ?_)
          exact Go_i ⟨hre, Or.inr (Or.inl ⟨c, c2, q.1, q.2⟩)⟩
      · exact Go_i ⟨hre, Or.inl ⟨by show n = len; omega, rfl, rfl⟩⟩
  · exact ⟨Int.le_refl _, h2, fun k k1 k2 => absurd k1 (by omega), Or.inl rfl⟩
  · show (if (0 : Nat) = 0 then 1 + (len - nx).toNat else 0) < jfuel
    rw [if_pos rfl]
    unfold jfuel
    omega
/-- the reference's token; its sorts: 4 the end, 1 a word, 2 a number, 3 a semicolon, 0 none -/
def TS (B : Nat) (len p so at_ en nu wo : Int) : Prop := RE isBl B len p at_ ∧ ((at_ = len ∧ so = 4 ∧ en = at_) ∨ (at_ < len ∧ isLe (zget B at_.toNat) ∧ RE isLe B len at_ en ∧ ((8 < en - at_ ∧ so = 0) ∨ (en - at_ ≤ 8 ∧ so = 1 ∧ wo = hor B at_ (en - at_).toNat))) ∨ (at_ < len ∧ isDi (zget B at_.toNat) ∧ RE isDi B len at_ en ∧ ((3 < en - at_ ∧ so = 0) ∨ (en - at_ ≤ 3 ∧ so = 2 ∧ nu = dec10 B at_ (en - at_).toNat))) ∨ (at_ < len ∧ ¬ isLe (zget B at_.toNat) ∧ ¬ isDi (zget B at_.toNat) ∧ en = at_ + 1 ∧ ((zget B at_.toNat = 59 ∧ so = 3) ∨ (¬ zget B at_.toNat = 59 ∧ so = 0))))
def scI (B : Nat) (len p : Int) (s : zS_X11_scan) : Prop := match s with
  | (lab, i1, i3, so, at_, en, nu, wo) => (lab = 0 ∧ en = p) ∨ (lab = 5 ∧ p ≤ i1 ∧ i1 ≤ len ∧ ∀ k : Int, p ≤ k → k < i1 → isBl (zget B k.toNat)) ∨ (lab = 75 ∧ at_ = i1 ∧ RE isBl B len p i1 ∧ i1 < len ∧ isLe (zget B i1.toNat) ∧ i1 ≤ i3 ∧ i3 ≤ len ∧ (∀ k : Int, i1 ≤ k → k < i3 → isLe (zget B k.toNat)) ∧ (i3 - i1 ≤ 8 → wo = hor B i1 (i3 - i1).toNat)) ∨ (lab = 160 ∧ at_ = i1 ∧ RE isBl B len p i1 ∧ i1 < len ∧ isDi (zget B i1.toNat) ∧ i1 + 1 ≤ i3 ∧ i3 ≤ len ∧ (∀ k : Int, i1 ≤ k → k < i3 → isDi (zget B k.toNat)) ∧ (i3 - i1 ≤ 3 → nu = dec10 B i1 (i3 - i1).toNat))
def scM (len : Int) (s : zS_X11_scan) : Nat := match s with
  | (lab, i1, i3, so, at_, en, nu, wo) => if lab = 0 then 2000 else if lab = 5 then 1000 + (len - i1).toNat else (len - i3).toNat
set_option maxHeartbeats 1000000 in
theorem e_scan (len so at_ p nu wo : Int) (B : Nat) (l3 : len ≤ 300) (h0 : 0 ≤ p) (h2 : p ≤ len) (hB : BR B) : Go (fun (o : Int × Int × Int × Int × Int) => TS B len p o.1 o.2.1 o.2.2.1 o.2.2.2.1 o.2.2.2.2) (zf_X11_scan len so at_ p nu wo B) := by
  refine jok (scI B len p) (scM len) _ ?_ _ ?_ ?_
  · intro s hI
    obtain ⟨lab, i1, i3, so, at_, en, nu, wo⟩ := s
    rcases hI with ⟨rfl, rfl⟩ | ⟨rfl, v1, v2, v3⟩ | ⟨rfl, rfl, w1, w2, w3, w4, w5, w6, w7⟩ | ⟨rfl, rfl, w1, w2, w3, w4, w5, w6, w7⟩
    · show Go _ (zg_X11_scan_0 len B i1 i3 so at_ en nu wo)
      unfold zg_X11_scan_0
      refine Go_i ⟨Or.inr (Or.inl ⟨rfl, Int.le_refl _, h2, fun k k1 k2 => absurd k1 (by omega)⟩), ?_⟩
      show 1000 + (len - en).toNat < 2000
      omega
    · show Go _ (zg_X11_scan_5 len B i1 i3 so at_ en nu wo)
      unfold zg_X11_scan_5
      by_cases hl : i1 < len
      · have hb := hB i1.toNat
        have hz := b255 hb.1 hb.2
        rw [e_byteAt (by omega) hl l3]
        generalize hd : zand (zget B i1.toNat) 255 = d at hz ⊢
        generalize hc : zget B i1.toNat = c at hz hb
        have hr : ¬ zout d := by unfold zout; split at hz <;> omega
        simp only [Option.bind_some]
        refine Go_chk hr ?_
        have stp : isBl c → Go (GoE (fun s' => scI B len p s' ∧ scM len s' < scM len (5, i1, i3, so, at_, en, nu, wo)) (fun (o : Int × Int × Int × Int × Int) => TS B len p o.1 o.2.1 o.2.2.1 o.2.2.2.1 o.2.2.2.2)) (some (.inr (5, (i1 + (1 : Int)), 0, so, at_, en, nu, wo))) := by
          intro cb
          refine Go_i ⟨Or.inr (Or.inl ⟨rfl, by omega, by omega, ?_⟩), ?_⟩
          · intro k k1 k2
            by_cases e : k = i1
            · rw [e, hc]; exact cb
            · exact v3 k k1 (by omega)
          · show 1000 + (len - (i1 + 1)).toNat < 1000 + (len - i1).toNat
            omega
        refine Go_ite (fun c1 => ?_) (fun c1 => ?_)
        · exact stp (Or.inl (by split at hz <;> omega))
        refine Go_chk hr ?_
        refine Go_ite (fun c2 => ?_) (fun c2 => ?_)
        · exact stp (Or.inr (by split at hz <;> omega))
        have nb : ¬ isBl c := by intro z; rcases z with z | z <;> (rw [if_pos (by omega)] at hz; omega)
        have hre : RE isBl B len p i1 := ⟨v1, v2, v3, fun _ => by rw [hc]; exact nb⟩
        refine Go_chk hr ?_
        rw [if_neg (show ¬ d = -1 by split at hz <;> omega), e_small hr]
        simp only [Option.bind_some]
        refine Go_ite (fun c3 => ?_) (fun c3 => ?_)
        · have c3 := of_decide_eq_false c3
          rw [e_digit hr]
          simp only [Option.bind_some]
          have nl : ¬ isLe c := by intro z; apply c3; rw [if_pos (by omega)] at hz; omega
          refine Go_ite (fun c4 => ?_) (fun c4 => ?_)
          · have c4 := of_decide_eq_false c4
            have nd : ¬ isDi c := by intro z; apply c4; rw [if_pos (by omega)] at hz; omega
            refine Go_ite (fun c5 => ?_) (fun c5 => ?_)
            · refine Go_i ⟨hre, Or.inr (Or.inr (Or.inr ⟨hl, ?_, ?_, rfl, Or.inl ⟨?_, rfl⟩⟩))⟩
              · show ¬ isLe (zget B i1.toNat); rw [hc]; exact nl
              · show ¬ isDi (zget B i1.toNat); rw [hc]; exact nd
              · show zget B i1.toNat = 59; rw [hc]; split at hz <;> omega
            · refine Go_i ⟨hre, Or.inr (Or.inr (Or.inr ⟨hl, ?_, ?_, rfl, Or.inr ⟨?_, rfl⟩⟩))⟩
              · show ¬ isLe (zget B i1.toNat); rw [hc]; exact nl
              · show ¬ isDi (zget B i1.toNat); rw [hc]; exact nd
              · show ¬ zget B i1.toNat = 59; rw [hc]; intro z; rw [if_pos (by omega)] at hz; omega
          · have c4 := of_decide_eq_true (bnf c4)
            have ec : c = d := by split at hz <;> omega
            refine Go_i ⟨Or.inr (Or.inr (Or.inr ⟨rfl, rfl, hre, hl, ?_, Int.le_refl _, by omega, ?_, ?_⟩)), ?_⟩
            · rw [hc, ec]; exact c4
            · intro k k1 k2
              rw [show k = i1 by omega, hc, ec]; exact c4
            · intro _
              rw [show (i1 + 1 - i1).toNat = 0 + 1 by omega, dec_s]
              show d - 48 = 10 * 0 + zget B (Int.toNat (i1 + ((0 : Nat) : Int))) - 48
              rw [show i1 + ((0 : Nat) : Int) = i1 by omega, hc, ec]
              omega
            · show (len - (i1 + 1)).toNat < 1000 + (len - i1).toNat
              omega
        · have c3 := of_decide_eq_true (bnf c3)
          have ec : c = d := by split at hz <;> omega
          refine Go_i ⟨Or.inr (Or.inr (Or.inl ⟨rfl, rfl, hre, hl, ?_, Int.le_refl _, v2, fun k k1 k2 => absurd k1 (by omega), ?_⟩)), ?_⟩
          · rw [hc, ec]; exact c3
          · intro _
            rw [show (i1 - i1).toNat = 0 by omega]
            rfl
          · show (len - i1).toNat < 1000 + (len - i1).toNat
            omega
      · rw [e_byteAt' (by omega) (by omega) (by omega) hl l3]
        simp only [Option.bind_some]
        rw [if_neg (by decide), if_neg (by decide), if_neg (by decide), if_neg (by decide), if_neg (by decide), if_pos trivial]
        exact Go_i ⟨⟨v1, v2, v3, fun z => absurd z hl⟩, Or.inl ⟨by show i1 = len; omega, rfl, rfl⟩⟩
    · show Go _ (zg_X11_scan_75 len B at_ i3 so at_ en nu wo)
      unfold zg_X11_scan_75
      have fin : (i3 < len → ¬ isLe (zget B i3.toNat)) → Go (GoE (fun s' => scI B len p s' ∧ scM len s' < scM len (75, at_, i3, so, at_, en, nu, wo)) (fun (o : Int × Int × Int × Int × Int) => TS B len p o.1 o.2.1 o.2.2.1 o.2.2.2.1 o.2.2.2.2)) (if zout (i3 - at_) then none else if (i3 - at_) ≤ (8 : Int) then some (.inl ((1 : Int), at_, i3, nu, wo)) else some (.inl ((0 : Int), at_, i3, nu, wo))) := by
        intro hn
        have hre : RE isLe B len at_ i3 := ⟨w4, w5, w6, hn⟩
        refine Go_chk (by have := w1.1; unfold zout; omega) ?_
        refine Go_ite (fun c1 => ?_) (fun c1 => ?_)
        · exact Go_i ⟨w1, Or.inr (Or.inl ⟨w2, w3, hre, Or.inr ⟨c1, rfl, w7 c1⟩⟩)⟩
        · exact Go_i ⟨w1, Or.inr (Or.inl ⟨w2, w3, hre, Or.inl ⟨by show 8 < i3 - at_; omega, rfl⟩⟩)⟩
      have hp := w1.1
      by_cases hl : i3 < len
      · have hb := hB i3.toNat
        have hz := b255 hb.1 hb.2
        rw [e_byteAt (by omega) hl l3]
        generalize hd : zand (zget B i3.toNat) 255 = d at hz ⊢
        have hr : ¬ zout d := by unfold zout; split at hz <;> omega
        simp only [Option.bind_some]
        rw [e_small hr]
        simp only [Option.bind_some]
        refine Go_ite (fun c3 => ?_) (fun c3 => ?_)
        · have c3 := of_decide_eq_false c3
          exact fin (fun _ z => c3 (by rw [if_pos (by omega)] at hz; omega))
        · have c3 := of_decide_eq_true (bnf c3)
          have ec : zget B i3.toNat = d := by split at hz <;> omega
          have nxt : ∀ w' : Int, (i3 + 1 - at_ ≤ 8 → w' = hor B at_ (i3 + 1 - at_).toNat) → Go (GoE (fun s' => scI B len p s' ∧ scM len s' < scM len (75, at_, i3, so, at_, en, nu, wo)) (fun (o : Int × Int × Int × Int × Int) => TS B len p o.1 o.2.1 o.2.2.1 o.2.2.2.1 o.2.2.2.2)) (some (.inr (75, at_, (i3 + (1 : Int)), so, at_, en, nu, w'))) := by
            intro w' hw
            refine Go_i ⟨Or.inr (Or.inr (Or.inl ⟨rfl, rfl, w1, w2, w3, by omega, by omega, ?_, hw⟩)), ?_⟩
            · intro k k1 k2
              by_cases e : k = i3
              · rw [e, ec]; exact c3
              · exact w6 k k1 (by omega)
            · show (len - (i3 + 1)).toNat < (len - i3).toNat
              omega
          refine Go_chk (by unfold zout; omega) ?_
          refine Go_ite (fun c4 => ?_) (fun c4 => ?_)
          · exact nxt wo (fun z => absurd z (by omega))
          · refine Go_chk hr ?_
            refine nxt _ (fun _ => ?_)
            rw [show (i3 + 1 - at_).toNat = (i3 - at_).toNat + 1 by omega, hor_s, ← w7 (by omega), show at_ + (((i3 - at_).toNat : Nat) : Int) = i3 by omega, ec]
      · rw [e_byteAt' (by omega) (by omega) (by omega) hl l3]
        simp only [Option.bind_some]
        rw [e_small (by decide)]
        simp only [Option.bind_some]
        rw [if_pos (by decide)]
        exact fin (fun z => absurd z hl)
    · show Go _ (zg_X11_scan_160 len B at_ i3 so at_ en nu wo)
      unfold zg_X11_scan_160
      have fin : (i3 < len → ¬ isDi (zget B i3.toNat)) → Go (GoE (fun s' => scI B len p s' ∧ scM len s' < scM len (160, at_, i3, so, at_, en, nu, wo)) (fun (o : Int × Int × Int × Int × Int) => TS B len p o.1 o.2.1 o.2.2.1 o.2.2.2.1 o.2.2.2.2)) (if zout (i3 - at_) then none else if (i3 - at_) ≤ (3 : Int) then some (.inl ((2 : Int), at_, i3, nu, wo)) else some (.inl ((0 : Int), at_, i3, nu, wo))) := by
        intro hn
        have hre : RE isDi B len at_ i3 := ⟨by omega, w5, w6, hn⟩
        refine Go_chk (by have := w1.1; unfold zout; omega) ?_
        refine Go_ite (fun c1 => ?_) (fun c1 => ?_)
        · exact Go_i ⟨w1, Or.inr (Or.inr (Or.inl ⟨w2, w3, hre, Or.inr ⟨c1, rfl, w7 c1⟩⟩))⟩
        · exact Go_i ⟨w1, Or.inr (Or.inr (Or.inl ⟨w2, w3, hre, Or.inl ⟨by show 3 < i3 - at_; omega, rfl⟩⟩))⟩
      have hp := w1.1
      by_cases hl : i3 < len
      · have hb := hB i3.toNat
        have hz := b255 hb.1 hb.2
        rw [e_byteAt (by omega) hl l3]
        generalize hd : zand (zget B i3.toNat) 255 = d at hz ⊢
        have hr : ¬ zout d := by unfold zout; split at hz <;> omega
        simp only [Option.bind_some]
        rw [e_digit hr]
        simp only [Option.bind_some]
        refine Go_ite (fun c3 => ?_) (fun c3 => ?_)
        · have c3 := of_decide_eq_false c3
          exact fin (fun _ z => c3 (by rw [if_pos (by omega)] at hz; omega))
        · have c3 := of_decide_eq_true (bnf c3)
          have ec : zget B i3.toNat = d := by split at hz <;> omega
          have nxt : ∀ w' : Int, (i3 + 1 - at_ ≤ 3 → w' = dec10 B at_ (i3 + 1 - at_).toNat) → Go (GoE (fun s' => scI B len p s' ∧ scM len s' < scM len (160, at_, i3, so, at_, en, nu, wo)) (fun (o : Int × Int × Int × Int × Int) => TS B len p o.1 o.2.1 o.2.2.1 o.2.2.2.1 o.2.2.2.2)) (some (.inr (160, at_, (i3 + (1 : Int)), so, at_, en, w', wo))) := by
            intro w' hw
            refine Go_i ⟨Or.inr (Or.inr (Or.inr ⟨rfl, rfl, w1, w2, w3, by omega, by omega, ?_, hw⟩)), ?_⟩
            · intro k k1 k2
              by_cases e : k = i3
              · rw [e, ec]; exact c3
              · exact w6 k k1 (by omega)
            · show (len - (i3 + 1)).toNat < (len - i3).toNat
              omega
          refine Go_chk (by unfold zout; omega) ?_
          refine Go_ite (fun c4 => ?_) (fun c4 => ?_)
          · exact nxt nu (fun z => absurd z (by omega))
          · refine nxt _ (fun _ => ?_)
            rw [show (i3 + 1 - at_).toNat = (i3 - at_).toNat + 1 by omega, dec_s, ← w7 (by omega), show at_ + (((i3 - at_).toNat : Nat) : Int) = i3 by omega, ec]
      · rw [e_byteAt' (by omega) (by omega) (by omega) hl l3]
        simp only [Option.bind_some]
        rw [e_digit (by decide)]
        simp only [Option.bind_some]
        rw [if_pos (by decide)]
        exact fin (fun z => absurd z hl)
  · exact Or.inl ⟨rfl, rfl⟩
  · show (2000 : Nat) < jfuel
    unfold jfuel
    decide
/-- one token, both sides -/
def KM (k s : Int) : Prop := (k = 0 ∧ s = 4) ∨ (k = 1 ∧ s = 1) ∨ (k = 2 ∧ s = 2) ∨ (k = 3 ∧ s = 3) ∨ (k = 4 ∧ s = 0)
theorem TK_TS {B : Nat} {len p nx kd pl va so at_ en nu wo : Int} (h : TK B len p nx kd pl va) (g : TS B len p so at_ en nu wo) : KM kd so ∧ pl = at_ ∧ nx = en ∧ (kd = 2 → va = nu) ∧ (kd = 1 → wo = hor B pl (nx - pl).toNat ∧ nx - pl ≤ 8 ∧ pl < nx ∧ ∀ k : Int, pl ≤ k → k < nx → isLe (zget B k.toNat)) := by
  obtain ⟨h1, h⟩ := h
  obtain ⟨g1, g⟩ := g
  have e := RE_u h1 g1
  subst e
  unfold KM
  rcases h with ⟨a1, a2, a3⟩ | ⟨a1, a2, a3, a4⟩ | ⟨a1, a2, a3, a4⟩ | ⟨a1, a2, a3, a4, a5⟩
  · rcases g with ⟨c1, c2, c3⟩ | ⟨c1, c2, c3, c4⟩ | ⟨c1, c2, c3, c4⟩ | ⟨c1, c2, c3, c4, c5⟩
    · exact ⟨Or.inl ⟨a2, c2⟩, rfl, by omega, fun z => by omega, fun z => by omega⟩
    · omega
    · omega
    · omega
  · rcases g with ⟨c1, c2, c3⟩ | ⟨c1, c2, c3, c4⟩ | ⟨c1, c2, c3, c4⟩ | ⟨c1, c2, c3, c4, c5⟩
    · omega
    · have e := RE_u a3 c3
      subst e
      refine ⟨by omega, rfl, rfl, fun z => by omega, fun z => ?_⟩
      rcases c4 with c4 | c4
      · omega
      · have z1 : pl < nx := by
          by_cases q : nx = pl
          · exact absurd a2 (by have := a3.2.2.2; rw [q] at this; exact this a1)
          · have := a3.1; omega
        exact ⟨c4.2.2, c4.1, z1, a3.2.2.1⟩
    · omega
    · exact absurd a2 c2
  · rcases g with ⟨c1, c2, c3⟩ | ⟨c1, c2, c3, c4⟩ | ⟨c1, c2, c3, c4⟩ | ⟨c1, c2, c3, c4, c5⟩
    · omega
    · omega
    · have e := RE_u a3 c3
      subst e
      refine ⟨by omega, rfl, rfl, fun z => ?_, fun z => by omega⟩
      rcases c4 with c4 | c4
      · omega
      · rcases a4 with a4 | a4
        · omega
        · rw [a4.2.2, c4.2.2]
    · exact absurd a2 c3
  · rcases g with ⟨c1, c2, c3⟩ | ⟨c1, c2, c3, c4⟩ | ⟨c1, c2, c3, c4⟩ | ⟨c1, c2, c3, c4, c5⟩
    · omega
    · exact absurd c2 a2
    · exact absurd c2 a3
    · exact ⟨by omega, rfl, by omega, fun z => by omega, fun z => by omega⟩
/-- both sides read one token -/
theorem tok_eq {B : Nat} {len p : Int} (l0 : 0 ≤ len) (l3 : len ≤ 300) (h0 : 0 ≤ p) (h1 : p ≤ len) (hB : BR B) (kd pl va so at_ nu wo : Int) : ∃ k a n v s u w : Int, zf_X8_readToken len p kd pl va B = some (n, k, a, v) ∧ zf_X11_scan len so at_ p nu wo B = some (s, a, n, u, w) ∧ KM k s ∧ (k = 2 → v = u ∧ 0 ≤ v ∧ v ≤ 999) ∧ p ≤ n ∧ n ≤ len ∧ 0 ≤ a ∧ a ≤ n ∧ (¬ k = 0 → p < n) ∧ (k = 1 → w = hor B a (n - a).toNat ∧ n - a ≤ 8 ∧ a < n ∧ ∀ q : Int, a ≤ q → q < n → isLe (zget B q.toNat)) := by
  obtain ⟨⟨n, k, a, v⟩, e1, q1⟩ := e_readToken len p kd pl va B l3 h0 h1
  obtain ⟨⟨s, a', n', u, w⟩, e2, q2⟩ := e_scan len so at_ p nu wo B l3 h0 h1 hB
  obtain ⟨⟨n2, k2, a2, v2⟩, e3, r⟩ := ok2_X8_readToken len p kd pl va B l0 l3 h0 h1
  rw [e1] at e3
  cases e3
  obtain ⟨r0, r1, r2, r3, r4, r5, r6, r7⟩ := r
  obtain ⟨x1, x2, x3, x4, x5⟩ := TK_TS q1 q2
  replace x2 : a = a' := x2
  replace x3 : n = n' := x3
  subst x2
  subst x3
  exact ⟨k, a, n, v, s, u, w, e1, e2, x1, fun z => ⟨x4 z, r6 z⟩, r0, r1, r2, r3, r7, x5⟩
