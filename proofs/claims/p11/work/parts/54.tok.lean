section
/-! tokens: both sides read the same ones -/
abbrev isLe (c : Int) : Prop := 97 ≤ c ∧ c ≤ 122
abbrev isDi (c : Int) : Prop := 48 ≤ c ∧ c ≤ 57
abbrev isBl (c : Int) : Prop := c = 32 ∨ c = 10
def RE (P : Int → Prop) (B : Nat) (len a e : Int) : Prop := a ≤ e ∧ e ≤ len ∧ (∀ k : Int, a ≤ k → k < e → P (zget B k.toNat)) ∧ (e < len → ¬ P (zget B e.toNat))
theorem RE_u {P : Int → Prop} {B : Nat} {len a e e' : Int} (h : RE P B len a e) (h' : RE P B len a e') : e = e' := by
  obtain ⟨h1, h2, h3, h4⟩ := h
  obtain ⟨g1, g2, g3, g4⟩ := h'
  by_cases c : e = e'
  · exact c
  · by_cases d : e < e'
    · exact absurd (g3 e h1 d) (h4 (by omega))
    · exact absurd (h3 e' g1 (by omega)) (g4 (by omega))
noncomputable def hor (B : Nat) (a : Int) (m : Nat) : Int := Nat.rec 0 (fun m ih => 32 * ih + zget B (Int.toNat (a + (m : Int))) - 97 + 1) m
noncomputable def dec10 (B : Nat) (a : Int) (m : Nat) : Int := Nat.rec 0 (fun m ih => 10 * ih + zget B (Int.toNat (a + (m : Int))) - 48) m
theorem hor_s (B : Nat) (a : Int) (m : Nat) : hor B a (m + 1) = 32 * hor B a m + zget B (Int.toNat (a + (m : Int))) - 97 + 1 := rfl
theorem dec_s (B : Nat) (a : Int) (m : Nat) : dec10 B a (m + 1) = 10 * dec10 B a m + zget B (Int.toNat (a + (m : Int))) - 48 := rfl
theorem e_isLetter {c : Int} (h : ¬ zout c) : zf_X8_isLetter c = some (decide (isLe c)) := by
  unfold zf_X8_isLetter
  rw [if_neg h]
  by_cases a : c < 97
  · rw [if_pos a, decide_eq_false (by omega)]
  · rw [if_neg a]
    by_cases b : 122 < c
    · rw [if_pos b, decide_eq_false (by omega)]
    · rw [if_neg b, decide_eq_true (by omega)]
theorem e_isDigit {c : Int} (h : ¬ zout c) : zf_X8_isDigit c = some (decide (isDi c)) := by
  unfold zf_X8_isDigit
  rw [if_neg h]
  by_cases a : c < 48
  · rw [if_pos a, decide_eq_false (by omega)]
  · rw [if_neg a]
    by_cases b : 57 < c
    · rw [if_pos b, decide_eq_false (by omega)]
    · rw [if_neg b, decide_eq_true (by omega)]
theorem e_isBlank {c : Int} (h : ¬ zout c) : zf_X8_isBlank c = some (decide (isBl c)) := by
  unfold zf_X8_isBlank
  rw [if_neg h]
  by_cases a : c = 32
  · rw [if_pos a, decide_eq_true (Or.inl a)]
  · rw [if_neg a]
    by_cases b : c = 10
    · rw [if_pos b, decide_eq_true (Or.inr b)]
    · rw [if_neg b, decide_eq_false (by omega)]
theorem e_small {c : Int} (h : ¬ zout c) : zf_X11_isSmall c = some (decide (isLe c)) := e_isLetter h
theorem e_digit {c : Int} (h : ¬ zout c) : zf_X11_isDigit c = some (decide (isDi c)) := e_isDigit h
theorem b255 {c : Int} (h1 : -128 ≤ c) (h2 : c ≤ 127) : zand c 255 = if 0 ≤ c then c else c + 256 := by
  have e : zu c &&& zu 255 = zu c % 256 := by
    rw [show zu 255 = 2 ^ 8 - 1 by decide]
    exact Nat.and_two_pow_sub_one_eq_mod (zu c) 8
  unfold zand
  rw [e]
  unfold zs zu
  split <;> split <;> omega
theorem e_byteAt {len k : Int} {B : Nat} (h0 : 0 ≤ k) (hk : k < len) (l3 : len ≤ 300) : zf_X11_byteAt len B k = some (zand (zget B k.toNat) 255) := by
  unfold zf_X11_byteAt
  rw [if_neg (by unfold zout; omega), if_neg (by unfold zout; omega), if_neg (by omega), if_neg (by omega)]
theorem e_byteAt' {len k : Int} {B : Nat} (h0 : 0 ≤ k) (h1 : k ≤ 300) (l0 : 0 ≤ len) (hk : ¬ k < len) (l3 : len ≤ 300) : zf_X11_byteAt len B k = some (-1) := by
  unfold zf_X11_byteAt
  rw [if_neg (by unfold zout; omega), if_neg (by unfold zout; omega), if_pos (by omega)]
/-- a word's end -/
theorem e_readWord (len nx kd pl : Int) (B : Nat) (l3 : len ≤ 300) (h0 : 0 ≤ pl) (h1 : pl ≤ nx) (h2 : nx ≤ len) (h3 : ∀ k : Int, pl ≤ k → k < nx → isLe (zget B k.toNat)) : Go (fun (o : Int × Int) => RE isLe B len pl o.1 ∧ ((8 < o.1 - pl ∧ o.2 = 4) ∨ (o.1 - pl ≤ 8 ∧ o.2 = 1))) (zf_X8_readWord len nx kd pl B) := by
  refine jok (fun (s : zS_X8_readWord) => match s with | (lab, nx, kd) => lab = 0 ∧ pl ≤ nx ∧ nx ≤ len ∧ ∀ k : Int, pl ≤ k → k < nx → isLe (zget B k.toNat)) (fun (s : zS_X8_readWord) => match s with | (lab, nx, kd) => (len - nx).toNat) _ ?_ _ ?_ ?_
  · intro s hI
    obtain ⟨lab, nx, kd⟩ := s
    replace hI : lab = 0 ∧ pl ≤ nx ∧ nx ≤ len ∧ ∀ k : Int, pl ≤ k → k < nx → isLe (zget B k.toNat) := hI
    obtain ⟨rfl, v1, v2, v3⟩ := hI
    show Go _ (zg_X8_readWord_0 len pl B nx kd)
    unfold zg_X8_readWord_0
    refine Go_chk (by unfold zout; omega) ?_
    refine Go_chk (by unfold zout; omega) ?_
    refine Go_ite (fun c => ?_) (fun c => ?_)
    · refine Go_chk (by unfold zout; omega) ?_
      refine Go_ite (fun c1 => ?_) (fun c1 => ?_)
      · exact Go_i ⟨⟨v1, v2, v3, fun z => absurd z (by show ¬ nx < len; omega)⟩, Or.inl ⟨c1, rfl⟩⟩
      · exact Go_i ⟨⟨v1, v2, v3, fun z => absurd z (by show ¬ nx < len; omega)⟩, Or.inr ⟨by show nx - pl ≤ 8; omega, rfl⟩⟩
    · refine Go_chk (by omega) ?_
      rw [e_isLetter (zget_in _ _)]
      simp only [Option.bind_some]
      refine Go_ite (fun c2 => ?_) (fun c2 => ?_)
      · have c2 := of_decide_eq_false c2
        refine Go_chk (by unfold zout; omega) ?_
        refine Go_ite (fun c1 => ?_) (fun c1 => ?_)
        · exact Go_i ⟨⟨v1, v2, v3, fun _ => c2⟩, Or.inl ⟨c1, rfl⟩⟩
        · exact Go_i ⟨⟨v1, v2, v3, fun _ => c2⟩, Or.inr ⟨by show nx - pl ≤ 8; omega, rfl⟩⟩
      · have c2 := of_decide_eq_true (bnf c2)
        refine Go_i ⟨⟨rfl, ?_, ?_, ?_⟩, ?_⟩
        · show pl ≤ nx + 1; omega
        · show nx + 1 ≤ len; omega
        · intro k k1 k2
          replace k2 : k < nx + 1 := k2
          by_cases e : k = nx
          · rw [e]; exact c2
          · exact v3 k k1 (by omega)
        · show (len - (nx + 1)).toNat < (len - nx).toNat; omega
  · exact ⟨rfl, h1, h2, h3⟩
  · show (len - nx).toNat < jfuel
    unfold jfuel
    omega
/-- a number's end and value -/
theorem e_readNumber (len nx kd pl va : Int) (B : Nat) (l3 : len ≤ 300) (h0 : 0 ≤ pl) (h1 : pl ≤ nx) (h2 : nx ≤ len) (h3 : ∀ k : Int, pl ≤ k → k < nx → isDi (zget B k.toNat)) (h4 : va = dec10 B pl (nx - pl).toNat) : Go (fun (o : Int × Int × Int) => RE isDi B len pl o.1 ∧ o.2.2 = dec10 B pl (o.1 - pl).toNat ∧ ((3 < o.1 - pl ∧ o.2.1 = 4) ∨ (o.1 - pl ≤ 3 ∧ o.2.1 = 2))) (zf_X8_readNumber len nx kd pl va B) := by
  refine jok (fun (s : zS_X8_readNumber) => match s with | (lab, nx, kd, va) => lab = 0 ∧ pl ≤ nx ∧ nx ≤ len ∧ (∀ k : Int, pl ≤ k → k < nx → isDi (zget B k.toNat)) ∧ va = dec10 B pl (nx - pl).toNat) (fun (s : zS_X8_readNumber) => match s with | (lab, nx, kd, va) => (len - nx).toNat) _ ?_ _ ?_ ?_
  · intro s hI
    obtain ⟨lab, nx, kd, va⟩ := s
    replace hI : lab = 0 ∧ pl ≤ nx ∧ nx ≤ len ∧ (∀ k : Int, pl ≤ k → k < nx → isDi (zget B k.toNat)) ∧ va = dec10 B pl (nx - pl).toNat := hI
    obtain ⟨rfl, v1, v2, v3, v4⟩ := hI
    show Go _ (zg_X8_readNumber_0 len pl B nx kd va)
    unfold zg_X8_readNumber_0
    refine Go_chk (by unfold zout; omega) ?_
    refine Go_chk (by unfold zout; omega) ?_
    refine Go_ite (fun c => ?_) (fun c => ?_)
    · refine Go_chk (by unfold zout; omega) ?_
      refine Go_ite (fun c1 => ?_) (fun c1 => ?_)
      · exact Go_i ⟨⟨v1, v2, v3, fun z => absurd z (by show ¬ nx < len; omega)⟩, v4, Or.inl ⟨c1, rfl⟩⟩
      · exact Go_i ⟨⟨v1, v2, v3, fun z => absurd z (by show ¬ nx < len; omega)⟩, v4, Or.inr ⟨by show nx - pl ≤ 3; omega, rfl⟩⟩
    · refine Go_chk (by omega) ?_
      rw [e_isDigit (zget_in _ _)]
      simp only [Option.bind_some]
      refine Go_ite (fun c2 => ?_) (fun c2 => ?_)
      · have c2 := of_decide_eq_false c2
        refine Go_chk (by unfold zout; omega) ?_
        refine Go_ite (fun c1 => ?_) (fun c1 => ?_)
        · exact Go_i ⟨⟨v1, v2, v3, fun _ => c2⟩, v4, Or.inl ⟨c1, rfl⟩⟩
        · exact Go_i ⟨⟨v1, v2, v3, fun _ => c2⟩, v4, Or.inr ⟨by show nx - pl ≤ 3; omega, rfl⟩⟩
      · have c2 := of_decide_eq_true (bnf c2)
        refine Go_i ⟨⟨rfl, ?_, ?_, ?_, ?_⟩, ?_⟩
        · show pl ≤ nx + 1; omega
        · show nx + 1 ≤ len; omega
        · intro k k1 k2
          replace k2 : k < nx + 1 := k2
          by_cases e : k = nx
          · rw [e]; exact c2
          · exact v3 k k1 (by omega)
        · show va * 10 + zget B nx.toNat - 48 = dec10 B pl (nx + 1 - pl).toNat
          rw [show (nx + 1 - pl).toNat = (nx - pl).toNat + 1 by omega, dec_s, ← v4, show pl + (((nx - pl).toNat : Nat) : Int) = nx by omega]
          omega
        · show (len - (nx + 1)).toNat < (len - nx).toNat; omega
  · exact ⟨rfl, h1, h2, h3, h4⟩
  · show (len - nx).toNat < jfuel
    unfold jfuel
    omega
/-- what a token is: from p, in the tape B up to len; kinds of the tape's own numbering -/
def TK (B : Nat) (len p nx kd pl va : Int) : Prop := RE isBl B len p pl ∧ ((pl = len ∧ kd = 0 ∧ nx = pl) ∨ (pl < len ∧ isLe (zget B pl.toNat) ∧ RE isLe B len pl nx ∧ ((8 < nx - pl ∧ kd = 4) ∨ (nx - pl ≤ 8 ∧ kd = 1))) ∨ (pl < len ∧ isDi (zget B pl.toNat) ∧ RE isDi B len pl nx ∧ ((3 < nx - pl ∧ kd = 4) ∨ (nx - pl ≤ 3 ∧ kd = 2 ∧ va = dec10 B pl (nx - pl).toNat))) ∨ (pl < len ∧ ¬ isLe (zget B pl.toNat) ∧ ¬ isDi (zget B pl.toNat) ∧ nx = pl + 1 ∧ ((zget B pl.toNat = 59 ∧ kd = 3) ∨ (¬ zget B pl.toNat = 59 ∧ kd = 4))))
theorem e_readToken (len nx kd pl va : Int) (B : Nat) (l3 : len ≤ 300) (h0 : 0 ≤ nx) (h2 : nx ≤ len) : Go (fun (o : Int × Int × Int × Int) => TK B len nx o.1 o.2.1 o.2.2.1 o.2.2.2) (zf_X8_readToken len nx kd pl va B) := by
  refine jok (fun (s : zS_X8_readToken) => match s with | (lab, n, kd, pl, va) => nx ≤ n ∧ n ≤ len ∧ (∀ k : Int, nx ≤ k → k < n → isBl (zget B k.toNat)) ∧ (lab = 0 ∨ (lab = 39 ∧ (n < len → ¬ isBl (zget B n.toNat))))) (fun (s : zS_X8_readToken) => match s with | (lab, n, kd, pl, va) => if lab = 0 then 1 + (len - n).toNat else 0) _ ?_ _ ?_ ?_
  · intro s hI
    obtain ⟨lab, n, kd, pl, va⟩ := s
    replace hI : nx ≤ n ∧ n ≤ len ∧ (∀ k : Int, nx ≤ k → k < n → isBl (zget B k.toNat)) ∧ (lab = 0 ∨ (lab = 39 ∧ (n < len → ¬ isBl (zget B n.toNat)))) := hI
    obtain ⟨v1, v2, v3, v4⟩ := hI
    rcases v4 with rfl | ⟨rfl, v4⟩
    · show Go _ (zg_X8_readToken_0 len B n kd pl va)
      unfold zg_X8_readToken_0
      refine Go_chk (by unfold zout; omega) ?_
      refine Go_chk (by unfold zout; omega) ?_
      refine Go_ite (fun c => ?_) (fun c => ?_)
      · refine Go_i ⟨⟨v1, v2, v3, Or.inr ⟨rfl, fun z => absurd z (by show ¬ n < len; omega)⟩⟩, ?_⟩
        show (if (39 : Nat) = 0 then 1 + (len - n).toNat else 0) < (if (0 : Nat) = 0 then 1 + (len - n).toNat else 0)
        rw [if_neg (by decide), if_pos rfl]; omega
      · refine Go_chk (by omega) ?_
        rw [e_isBlank (zget_in _ _)]
        simp only [Option.bind_some]
        refine Go_ite (fun c2 => ?_) (fun c2 => ?_)
        · have c2 := of_decide_eq_false c2
          refine Go_i ⟨⟨v1, v2, v3, Or.inr ⟨rfl, fun _ => c2⟩⟩, ?_⟩
          show (if (39 : Nat) = 0 then 1 + (len - n).toNat else 0) < (if (0 : Nat) = 0 then 1 + (len - n).toNat else 0)
          rw [if_neg (by decide), if_pos rfl]; omega
        · have c2 := of_decide_eq_true (bnf c2)
          refine Go_i ⟨⟨?_, ?_, ?_, Or.inl rfl⟩, ?_⟩
          · show nx ≤ n + 1; omega
          · show n + 1 ≤ len; omega
          · intro k k1 k2
            replace k2 : k < n + 1 := k2
            by_cases e : k = n
            · rw [e]; exact c2
            · exact v3 k k1 (by omega)
          · show (if (0 : Nat) = 0 then 1 + (len - (n + 1)).toNat else 0) < (if (0 : Nat) = 0 then 1 + (len - n).toNat else 0)
            rw [if_pos rfl, if_pos rfl]; omega
    · show Go _ (zg_X8_readToken_39 len B n kd pl va)
      unfold zg_X8_readToken_39
      have hre : RE isBl B len nx n := ⟨v1, v2, v3, v4⟩
      refine Go_chk (by unfold zout; omega) ?_
      refine Go_chk (by unfold zout; omega) ?_
      refine Go_ite (fun c => ?_) (fun c => ?_)
      · refine Go_chk (by omega) ?_
        rw [e_isLetter (zget_in _ _)]
        simp only [Option.bind_some]
        refine Go_ite (fun c2 => ?_) (fun c2 => ?_)
        · have c2 := of_decide_eq_false c2
          rw [e_isDigit (zget_in _ _)]
          simp only [Option.bind_some]
          refine Go_ite (fun c3 => ?_) (fun c3 => ?_)
          · have c3 := of_decide_eq_false c3
            refine Go_ite (fun c4 => ?_) (fun c4 => ?_)
            · exact Go_i ⟨hre, Or.inr (Or.inr (Or.inr ⟨c, c2, c3, rfl, Or.inl ⟨c4, rfl⟩⟩))⟩
            · exact Go_i ⟨hre, Or.inr (Or.inr (Or.inr ⟨c, c2, c3, rfl, Or.inr ⟨c4, rfl⟩⟩))⟩
          · have c3 := of_decide_eq_true (bnf c3)
            refine Go_bindP (e_readNumber len n kd n 0 B l3 (by omega) (Int.le_refl _) v2 (fun k k1 k2 => absurd k1 (by omega)) (by rw [Int.sub_self]; rfl)) (fun o q => ?_)
            obtain ⟨q1, q2, q3⟩ := q
            refine Go_i ⟨hre, Or.inr (Or.inr (Or.inl ⟨c, c3, q1, ?_⟩))⟩
            rcases q3 with q3 | q3
            · exact Or.inl q3
            · exact Or.inr ⟨q3.1, q3.2, q2⟩
        · have c2 := of_decide_eq_true (bnf c2)
          refine Go_bindP (e_readWord len n kd n B l3 (by omega) (Int.le_refl _) v2 (fun k k1 k2 => absurd k1 (by omega))) (fun o q => ?_)
          exact Go_i ⟨hre, Or.inr (Or.inl ⟨c, c2, q.1, q.2⟩)⟩
      · exact Go_i ⟨hre, Or.inl ⟨by show n = len; omega, rfl, rfl⟩⟩
  · exact ⟨Int.le_refl _, h2, fun k k1 k2 => absurd k1 (by omega), Or.inl rfl⟩
  · show (if (0 : Nat) = 0 then 1 + (len - nx).toNat else 0) < jfuel
    rw [if_pos rfl]
    unfold jfuel
    omega
/-- the reference's token; its sorts: 4 the end, 1 a word, 2 a number, 3 a semicolon, 0 none -/
def TS (B : Nat) (len p so at_ en nu wo : Int) : Prop := RE isBl B len p at_ ∧ ((at_ = len ∧ so = 4 ∧ en = at_) ∨ (at_ < len ∧ isLe (zget B at_.toNat) ∧ RE isLe B len at_ en ∧ ((8 < en - at_ ∧ so = 0) ∨ (en - at_ ≤ 8 ∧ so = 1 ∧ wo = hor B at_ (en - at_).toNat))) ∨ (at_ < len ∧ isDi (zget B at_.toNat) ∧ RE isDi B len at_ en ∧ ((3 < en - at_ ∧ so = 0) ∨ (en - at_ ≤ 3 ∧ so = 2 ∧ nu = dec10 B at_ (en - at_).toNat))) ∨ (at_ < len ∧ ¬ isLe (zget B at_.toNat) ∧ ¬ isDi (zget B at_.toNat) ∧ en = at_ + 1 ∧ ((zget B at_.toNat = 59 ∧ so = 3) ∨ (¬ zget B at_.toNat = 59 ∧ so = 0))))
def scI (B : Nat) (len p : Int) (s : zS_X11_scan) : Prop := match s with
  | (lab, i1, i3, so, at_, en, nu, wo) => (lab = 0 ∧ en = p) ∨ (lab = 5 ∧ p ≤ i1 ∧ i1 ≤ len ∧ ∀ k : Int, p ≤ k → k < i1 → isBl (zget B k.toNat)) ∨ (lab = 75 ∧ at_ = i1 ∧ RE isBl B len p i1 ∧ i1 < len ∧ isLe (zget B i1.toNat) ∧ i1 ≤ i3 ∧ i3 ≤ len ∧ (∀ k : Int, i1 ≤ k → k < i3 → isLe (zget B k.toNat)) ∧ (i3 - i1 ≤ 8 → wo = hor B i1 (i3 - i1).toNat)) ∨ (lab = 160 ∧ at_ = i1 ∧ RE isBl B len p i1 ∧ i1 < len ∧ isDi (zget B i1.toNat) ∧ i1 + 1 ≤ i3 ∧ i3 ≤ len ∧ (∀ k : Int, i1 ≤ k → k < i3 → isDi (zget B k.toNat)) ∧ (i3 - i1 ≤ 3 → nu = dec10 B i1 (i3 - i1).toNat))
def scM (len : Int) (s : zS_X11_scan) : Nat := match s with
  | (lab, i1, i3, so, at_, en, nu, wo) => if lab = 0 then 2000 else if lab = 5 then 1000 + (len - i1).toNat else (len - i3).toNat
set_option maxHeartbeats 1000000 in
theorem e_scan (len so at_ p nu wo : Int) (B : Nat) (l3 : len ≤ 300) (h0 : 0 ≤ p) (h2 : p ≤ len) (hB : BR B) : Go (fun (o : Int × Int × Int × Int × Int) => TS B len p o.1 o.2.1 o.2.2.1 o.2.2.2.1 o.2.2.2.2) (zf_X11_scan len so at_ p nu wo B) := by
  refine jok (scI B len p) (scM len) _ ?_ _ ?_ ?_
  · intro s hI
    obtain ⟨lab, i1, i3, so, at_, en, nu, wo⟩ := s
    rcases hI with ⟨rfl, rfl⟩ | ⟨rfl, v1, v2, v3⟩ | ⟨rfl, rfl, w1, w2, w3, w4, w5, w6, w7⟩ | ⟨rfl, rfl, w1, w2, w3, w4, w5, w6, w7⟩
    · show Go _ (zg_X11_scan_0 len B i1 i3 so at_ en nu wo)
      unfold zg_X11_scan_0
      refine Go_i ⟨Or.inr (Or.inl ⟨rfl, Int.le_refl _, h2, fun k k1 k2 => absurd k1 (by omega)⟩), ?_⟩
      show 1000 + (len - en).toNat < 2000
      omega
    · show Go _ (zg_X11_scan_5 len B i1 i3 so at_ en nu wo)
      unfold zg_X11_scan_5
      by_cases hl : i1 < len
      · have hb := hB i1.toNat
        have hz := b255 hb.1 hb.2
        rw [e_byteAt (by omega) hl l3]
        generalize hd : zand (zget B i1.toNat) 255 = d at hz ⊢
        generalize hc : zget B i1.toNat = c at hz hb
        have hr : ¬ zout d := by unfold zout; split at hz <;> omega
        simp only [Option.bind_some]
        refine Go_chk hr ?_
        have stp : isBl c → Go (GoE (fun s' => scI B len p s' ∧ scM len s' < scM len (5, i1, i3, so, at_, en, nu, wo)) (fun (o : Int × Int × Int × Int × Int) => TS B len p o.1 o.2.1 o.2.2.1 o.2.2.2.1 o.2.2.2.2)) (some (.inr (5, (i1 + (1 : Int)), 0, so, at_, en, nu, wo))) := by
          intro cb
          refine Go_i ⟨Or.inr (Or.inl ⟨rfl, by omega, by omega, ?_⟩), ?_⟩
          · intro k k1 k2
            by_cases e : k = i1
            · rw [e, hc]; exact cb
            · exact v3 k k1 (by omega)
          · show 1000 + (len - (i1 + 1)).toNat < 1000 + (len - i1).toNat
            omega
        refine Go_ite (fun c1 => ?_) (fun c1 => ?_)
        · exact stp (Or.inl (by split at hz <;> omega))
        refine Go_chk hr ?_
        refine Go_ite (fun c2 => ?_) (fun c2 => ?_)
        · exact stp (Or.inr (by split at hz <;> omega))
        have nb : ¬ isBl c := by intro z; rcases z with z | z <;> (rw [if_pos (by omega)] at hz; omega)
        have hre : RE isBl B len p i1 := ⟨v1, v2, v3, fun _ => by rw [hc]; exact nb⟩
        refine Go_chk hr ?_
        rw [if_neg (show ¬ d = -1 by split at hz <;> omega), e_small hr]
        simp only [Option.bind_some]
        refine Go_ite (fun c3 => ?_) (fun c3 => ?_)
        · have c3 := of_decide_eq_false c3
          rw [e_digit hr]
          simp only [Option.bind_some]
          have nl : ¬ isLe c := by intro z; apply c3; rw [if_pos (by omega)] at hz; omega
          refine Go_ite (fun c4 => ?_) (fun c4 => ?_)
          · have c4 := of_decide_eq_false c4
            have nd : ¬ isDi c := by intro z; apply c4; rw [if_pos (by omega)] at hz; omega
            refine Go_ite (fun c5 => ?_) (fun c5 => ?_)
            · refine Go_i ⟨hre, Or.inr (Or.inr (Or.inr ⟨hl, ?_, ?_, rfl, Or.inl ⟨?_, rfl⟩⟩))⟩
              · show ¬ isLe (zget B i1.toNat); rw [hc]; exact nl
              · show ¬ isDi (zget B i1.toNat); rw [hc]; exact nd
              · show zget B i1.toNat = 59; rw [hc]; split at hz <;> omega
            · refine Go_i ⟨hre, Or.inr (Or.inr (Or.inr ⟨hl, ?_, ?_, rfl, Or.inr ⟨?_, rfl⟩⟩))⟩
              · show ¬ isLe (zget B i1.toNat); rw [hc]; exact nl
              · show ¬ isDi (zget B i1.toNat); rw [hc]; exact nd
              · show ¬ zget B i1.toNat = 59; rw [hc]; intro z; rw [if_pos (by omega)] at hz; omega
          · have c4 := of_decide_eq_true (bnf c4)
            have ec : c = d := by split at hz <;> omega
            refine Go_i ⟨Or.inr (Or.inr (Or.inr ⟨rfl, rfl, hre, hl, ?_, Int.le_refl _, by omega, ?_, ?_⟩)), ?_⟩
            · rw [hc, ec]; exact c4
            · intro k k1 k2
              rw [show k = i1 by omega, hc, ec]; exact c4
            · intro _
              rw [show (i1 + 1 - i1).toNat = 0 + 1 by omega, dec_s]
              show d - 48 = 10 * 0 + zget B (Int.toNat (i1 + ((0 : Nat) : Int))) - 48
              rw [show i1 + ((0 : Nat) : Int) = i1 by omega, hc, ec]
              omega
            · show (len - (i1 + 1)).toNat < 1000 + (len - i1).toNat
              omega
        · have c3 := of_decide_eq_true (bnf c3)
          have ec : c = d := by split at hz <;> omega
          refine Go_i ⟨Or.inr (Or.inr (Or.inl ⟨rfl, rfl, hre, hl, ?_, Int.le_refl _, v2, fun k k1 k2 => absurd k1 (by omega), ?_⟩)), ?_⟩
          · rw [hc, ec]; exact c3
          · intro _
            rw [show (i1 - i1).toNat = 0 by omega]
            rfl
          · show (len - i1).toNat < 1000 + (len - i1).toNat
            omega
      · rw [e_byteAt' (by omega) (by omega) (by omega) hl l3]
        simp only [Option.bind_some]
        rw [if_neg (by decide), if_neg (by decide), if_neg (by decide), if_neg (by decide), if_neg (by decide), if_pos trivial]
        exact Go_i ⟨⟨v1, v2, v3, fun z => absurd z hl⟩, Or.inl ⟨by show i1 = len; omega, rfl, rfl⟩⟩
    · show Go _ (zg_X11_scan_75 len B at_ i3 so at_ en nu wo)
      unfold zg_X11_scan_75
      have fin : (i3 < len → ¬ isLe (zget B i3.toNat)) → Go (GoE (fun s' => scI B len p s' ∧ scM len s' < scM len (75, at_, i3, so, at_, en, nu, wo)) (fun (o : Int × Int × Int × Int × Int) => TS B len p o.1 o.2.1 o.2.2.1 o.2.2.2.1 o.2.2.2.2)) (if zout (i3 - at_) then none else if (i3 - at_) ≤ (8 : Int) then some (.inl ((1 : Int), at_, i3, nu, wo)) else some (.inl ((0 : Int), at_, i3, nu, wo))) := by
        intro hn
        have hre : RE isLe B len at_ i3 := ⟨w4, w5, w6, hn⟩
        refine Go_chk (by have := w1.1; unfold zout; omega) ?_
        refine Go_ite (fun c1 => ?_) (fun c1 => ?_)
        · exact Go_i ⟨w1, Or.inr (Or.inl ⟨w2, w3, hre, Or.inr ⟨c1, rfl, w7 c1⟩⟩)⟩
        · exact Go_i ⟨w1, Or.inr (Or.inl ⟨w2, w3, hre, Or.inl ⟨by show 8 < i3 - at_; omega, rfl⟩⟩)⟩
      have hp := w1.1
      by_cases hl : i3 < len
      · have hb := hB i3.toNat
        have hz := b255 hb.1 hb.2
        rw [e_byteAt (by omega) hl l3]
        generalize hd : zand (zget B i3.toNat) 255 = d at hz ⊢
        have hr : ¬ zout d := by unfold zout; split at hz <;> omega
        simp only [Option.bind_some]
        rw [e_small hr]
        simp only [Option.bind_some]
        refine Go_ite (fun c3 => ?_) (fun c3 => ?_)
        · have c3 := of_decide_eq_false c3
          exact fin (fun _ z => c3 (by rw [if_pos (by omega)] at hz; omega))
        · have c3 := of_decide_eq_true (bnf c3)
          have ec : zget B i3.toNat = d := by split at hz <;> omega
          have nxt : ∀ w' : Int, (i3 + 1 - at_ ≤ 8 → w' = hor B at_ (i3 + 1 - at_).toNat) → Go (GoE (fun s' => scI B len p s' ∧ scM len s' < scM len (75, at_, i3, so, at_, en, nu, wo)) (fun (o : Int × Int × Int × Int × Int) => TS B len p o.1 o.2.1 o.2.2.1 o.2.2.2.1 o.2.2.2.2)) (some (.inr (75, at_, (i3 + (1 : Int)), so, at_, en, nu, w'))) := by
            intro w' hw
            refine Go_i ⟨Or.inr (Or.inr (Or.inl ⟨rfl, rfl, w1, w2, w3, by omega, by omega, ?_, hw⟩)), ?_⟩
            · intro k k1 k2
              by_cases e : k = i3
              · rw [e, ec]; exact c3
              · exact w6 k k1 (by omega)
            · show (len - (i3 + 1)).toNat < (len - i3).toNat
              omega
          refine Go_chk (by unfold zout; omega) ?_
          refine Go_ite (fun c4 => ?_) (fun c4 => ?_)
          · exact nxt wo (fun z => absurd z (by omega))
          · refine Go_chk hr ?_
            refine nxt _ (fun _ => ?_)
            rw [show (i3 + 1 - at_).toNat = (i3 - at_).toNat + 1 by omega, hor_s, ← w7 (by omega), show at_ + (((i3 - at_).toNat : Nat) : Int) = i3 by omega, ec]
      · rw [e_byteAt' (by omega) (by omega) (by omega) hl l3]
        simp only [Option.bind_some]
        rw [e_small (by decide)]
        simp only [Option.bind_some]
        rw [if_pos (by decide)]
        exact fin (fun z => absurd z hl)
    · show Go _ (zg_X11_scan_160 len B at_ i3 so at_ en nu wo)
      unfold zg_X11_scan_160
      have fin : (i3 < len → ¬ isDi (zget B i3.toNat)) → Go (GoE (fun s' => scI B len p s' ∧ scM len s' < scM len (160, at_, i3, so, at_, en, nu, wo)) (fun (o : Int × Int × Int × Int × Int) => TS B len p o.1 o.2.1 o.2.2.1 o.2.2.2.1 o.2.2.2.2)) (if zout (i3 - at_) then none else if (i3 - at_) ≤ (3 : Int) then some (.inl ((2 : Int), at_, i3, nu, wo)) else some (.inl ((0 : Int), at_, i3, nu, wo))) := by
        intro hn
        have hre : RE isDi B len at_ i3 := ⟨by omega, w5, w6, hn⟩
        refine Go_chk (by have := w1.1; unfold zout; omega) ?_
        refine Go_ite (fun c1 => ?_) (fun c1 => ?_)
        · exact Go_i ⟨w1, Or.inr (Or.inr (Or.inl ⟨w2, w3, hre, Or.inr ⟨c1, rfl, w7 c1⟩⟩))⟩
        · exact Go_i ⟨w1, Or.inr (Or.inr (Or.inl ⟨w2, w3, hre, Or.inl ⟨by show 3 < i3 - at_; omega, rfl⟩⟩))⟩
      have hp := w1.1
      by_cases hl : i3 < len
      · have hb := hB i3.toNat
        have hz := b255 hb.1 hb.2
        rw [e_byteAt (by omega) hl l3]
        generalize hd : zand (zget B i3.toNat) 255 = d at hz ⊢
        have hr : ¬ zout d := by unfold zout; split at hz <;> omega
        simp only [Option.bind_some]
        rw [e_digit hr]
        simp only [Option.bind_some]
        refine Go_ite (fun c3 => ?_) (fun c3 => ?_)
        · have c3 := of_decide_eq_false c3
          exact fin (fun _ z => c3 (by rw [if_pos (by omega)] at hz; omega))
        · have c3 := of_decide_eq_true (bnf c3)
          have ec : zget B i3.toNat = d := by split at hz <;> omega
          have nxt : ∀ w' : Int, (i3 + 1 - at_ ≤ 3 → w' = dec10 B at_ (i3 + 1 - at_).toNat) → Go (GoE (fun s' => scI B len p s' ∧ scM len s' < scM len (160, at_, i3, so, at_, en, nu, wo)) (fun (o : Int × Int × Int × Int × Int) => TS B len p o.1 o.2.1 o.2.2.1 o.2.2.2.1 o.2.2.2.2)) (some (.inr (160, at_, (i3 + (1 : Int)), so, at_, en, w', wo))) := by
            intro w' hw
            refine Go_i ⟨Or.inr (Or.inr (Or.inr ⟨rfl, rfl, w1, w2, w3, by omega, by omega, ?_, hw⟩)), ?_⟩
            · intro k k1 k2
              by_cases e : k = i3
              · rw [e, ec]; exact c3
              · exact w6 k k1 (by omega)
            · show (len - (i3 + 1)).toNat < (len - i3).toNat
              omega
          refine Go_chk (by unfold zout; omega) ?_
          refine Go_ite (fun c4 => ?_) (fun c4 => ?_)
          · exact nxt nu (fun z => absurd z (by omega))
          · refine nxt _ (fun _ => ?_)
            rw [show (i3 + 1 - at_).toNat = (i3 - at_).toNat + 1 by omega, dec_s, ← w7 (by omega), show at_ + (((i3 - at_).toNat : Nat) : Int) = i3 by omega, ec]
      · rw [e_byteAt' (by omega) (by omega) (by omega) hl l3]
        simp only [Option.bind_some]
        rw [e_digit (by decide)]
        simp only [Option.bind_some]
        rw [if_pos (by decide)]
        exact fin (fun z => absurd z hl)
  · exact Or.inl ⟨rfl, rfl⟩
  · show (2000 : Nat) < jfuel
    unfold jfuel
    decide
/-- one token, both sides -/
def KM (k s : Int) : Prop := (k = 0 ∧ s = 4) ∨ (k = 1 ∧ s = 1) ∨ (k = 2 ∧ s = 2) ∨ (k = 3 ∧ s = 3) ∨ (k = 4 ∧ s = 0)
theorem TK_TS {B : Nat} {len p nx kd pl va so at_ en nu wo : Int} (h : TK B len p nx kd pl va) (g : TS B len p so at_ en nu wo) : KM kd so ∧ pl = at_ ∧ nx = en ∧ (kd = 2 → va = nu) ∧ (kd = 1 → wo = hor B pl (nx - pl).toNat ∧ nx - pl ≤ 8 ∧ pl < nx ∧ ∀ k : Int, pl ≤ k → k < nx → isLe (zget B k.toNat)) := by
  obtain ⟨h1, h⟩ := h
  obtain ⟨g1, g⟩ := g
  have e := RE_u h1 g1
  subst e
  unfold KM
  rcases h with ⟨a1, a2, a3⟩ | ⟨a1, a2, a3, a4⟩ | ⟨a1, a2, a3, a4⟩ | ⟨a1, a2, a3, a4, a5⟩
  · rcases g with ⟨c1, c2, c3⟩ | ⟨c1, c2, c3, c4⟩ | ⟨c1, c2, c3, c4⟩ | ⟨c1, c2, c3, c4, c5⟩
    · exact ⟨Or.inl ⟨a2, c2⟩, rfl, by omega, fun z => by omega, fun z => by omega⟩
    · omega
    · omega
    · omega
  · rcases g with ⟨c1, c2, c3⟩ | ⟨c1, c2, c3, c4⟩ | ⟨c1, c2, c3, c4⟩ | ⟨c1, c2, c3, c4, c5⟩
    · omega
    · have e := RE_u a3 c3
      subst e
      refine ⟨by omega, rfl, rfl, fun z => by omega, fun z => ?_⟩
      rcases c4 with c4 | c4
      · omega
      · have z1 : pl < nx := by
          by_cases q : nx = pl
          · exact absurd a2 (by have := a3.2.2.2; rw [q] at this; exact this a1)
          · have := a3.1; omega
        exact ⟨c4.2.2, c4.1, z1, a3.2.2.1⟩
    · omega
    · exact absurd a2 c2
  · rcases g with ⟨c1, c2, c3⟩ | ⟨c1, c2, c3, c4⟩ | ⟨c1, c2, c3, c4⟩ | ⟨c1, c2, c3, c4, c5⟩
    · omega
    · omega
    · have e := RE_u a3 c3
      subst e
      refine ⟨by omega, rfl, rfl, fun z => ?_, fun z => by omega⟩
      rcases c4 with c4 | c4
      · omega
      · rcases a4 with a4 | a4
        · omega
        · rw [a4.2.2, c4.2.2]
    · exact absurd a2 c3
  · rcases g with ⟨c1, c2, c3⟩ | ⟨c1, c2, c3, c4⟩ | ⟨c1, c2, c3, c4⟩ | ⟨c1, c2, c3, c4, c5⟩
    · omega
    · exact absurd c2 a2
    · exact absurd c2 a3
    · exact ⟨by omega, rfl, by omega, fun z => by omega, fun z => by omega⟩
/-- both sides read one token -/
theorem tok_eq {B : Nat} {len p : Int} (l0 : 0 ≤ len) (l3 : len ≤ 300) (h0 : 0 ≤ p) (h1 : p ≤ len) (hB : BR B) (kd pl va so at_ nu wo : Int) : ∃ k a n v s u w : Int, zf_X8_readToken len p kd pl va B = some (n, k, a, v) ∧ zf_X11_scan len so at_ p nu wo B = some (s, a, n, u, w) ∧ KM k s ∧ (k = 2 → v = u ∧ 0 ≤ v ∧ v ≤ 999) ∧ p ≤ n ∧ n ≤ len ∧ 0 ≤ a ∧ a ≤ n ∧ (¬ k = 0 → p < n) ∧ (k = 1 → w = hor B a (n - a).toNat ∧ n - a ≤ 8 ∧ a < n ∧ ∀ q : Int, a ≤ q → q < n → isLe (zget B q.toNat)) := by
  obtain ⟨⟨n, k, a, v⟩, e1, q1⟩ := e_readToken len p kd pl va B l3 h0 h1
  obtain ⟨⟨s, a', n', u, w⟩, e2, q2⟩ := e_scan len so at_ p nu wo B l3 h0 h1 hB
  obtain ⟨⟨n2, k2, a2, v2⟩, e3, r⟩ := ok2_X8_readToken len p kd pl va B l0 l3 h0 h1
  rw [e1] at e3
  cases e3
  obtain ⟨r0, r1, r2, r3, r4, r5, r6, r7⟩ := r
  obtain ⟨x1, x2, x3, x4, x5⟩ := TK_TS q1 q2
  replace x2 : a = a' := x2
  replace x3 : n = n' := x3
  subst x2
  subst x3
  exact ⟨k, a, n, v, s, u, w, e1, e2, x1, fun z => ⟨x4 z, r6 z⟩, r0, r1, r2, r3, r7, x5⟩
end

section
/-! rows of numbers: both sides read the same -/
set_option maxHeartbeats 1000000 in
theorem rn_eq {B : Nat} {len : Int} (l0 : 0 ≤ len) (l3 : len ≤ 300) (hB : BR B) : ∀ (m : Nat) (i nx kd pl va : Int) (q : Nat) (n k a v s u w tp : Int) (t : Nat) (o : zO_X8_readNumbers) (o2 : zO_X11_readRow), i + (m : Int) = 10 → 0 ≤ i → zf_X8_readToken len nx kd pl va B = some (n, k, a, v) → KM k s → (k = 2 → v = u ∧ 0 ≤ v ∧ v ≤ 999) → 0 ≤ n → n ≤ len → (∀ j : Nat, (j : Int) < i → zget q j = zget t j ∧ 0 ≤ zget t j ∧ zget t j ≤ 999) → JE (zg_X8_readNumbers len B) (6, i, nx, kd, pl, va, q) o → JE (zg_X11_readRow B) (9, tp, len, s, a, n, u, w, i, t) o2 → o.1 = o2.1 ∧ -1 ≤ o.1 ∧ o.1 ≤ 10 ∧ o2.2.1 = tp ∧ ∀ j : Nat, (j : Int) < o.1 → zget o.2.2.2.2.2 j = zget o2.2.2.2.2.2.2.2.2.2 j ∧ 0 ≤ zget o2.2.2.2.2.2.2.2.2.2 j ∧ zget o2.2.2.2.2.2.2.2.2.2 j ≤ 999 := by
  intro m
  induction m with
  | zero =>
    intro i nx kd pl va q n k a v s u w tp t o o2 hi h0 ht hk hv hn0 hn1 hq hx hy
    have hi : i = 10 := by omega
    subst hi
    rcases hk with ⟨rfl, rfl⟩ | ⟨rfl, rfl⟩ | ⟨rfl, rfl⟩ | ⟨rfl, rfl⟩ | ⟨rfl, rfl⟩
    · have e1 := JE_end (o' := (10, n, 0, a, v, q)) (by
        show zg_X8_readNumbers_6 len B 10 nx kd pl va q = _
        unfold zg_X8_readNumbers_6
        rw [if_neg (by decide), if_neg (by decide), ht]
        simp only [Option.bind_some]
        rw [if_neg (by decide), if_pos trivial]) hx
      have e2 := JE_end (o' := (10, tp, len, 4, a, n, u, w, 10, t)) (by
        show zg_X11_readRow_9 B tp len 4 a n u w 10 t = _
        unfold zg_X11_readRow_9
        rw [if_neg (by decide), if_neg (by decide), if_pos rfl]) hy
      subst e1 e2
      exact ⟨rfl, by show (-1 : Int) ≤ 10; decide, by show (10 : Int) ≤ 10; decide, rfl, hq⟩
    · have e1 := JE_end (o' := (-1, n, 1, a, v, q)) (by
        show zg_X8_readNumbers_6 len B 10 nx kd pl va q = _
        unfold zg_X8_readNumbers_6
        rw [if_neg (by decide), if_neg (by decide), ht]
        simp only [Option.bind_some]
        rw [if_neg (by decide), if_neg (by decide), if_neg (by decide)]) hx
      have e2 := JE_end (o' := (-1, tp, len, 1, a, n, u, w, 10, t)) (by
        show zg_X11_readRow_9 B tp len 1 a n u w 10 t = _
        unfold zg_X11_readRow_9
        rw [if_neg (by decide), if_neg (by decide), if_neg (by decide)]) hy
      subst e1 e2
      exact ⟨rfl, by show (-1 : Int) ≤ -1; decide, by show (-1 : Int) ≤ 10; decide, rfl, fun j hj => absurd hj (by show ¬ (j : Int) < -1; omega)⟩
    · have e1 := JE_end (o' := (-1, n, 2, a, v, q)) (by
        show zg_X8_readNumbers_6 len B 10 nx kd pl va q = _
        unfold zg_X8_readNumbers_6
        rw [if_neg (by decide), if_neg (by decide), ht]
        simp only [Option.bind_some]
        rw [if_neg (by decide), if_neg (by decide), if_pos trivial, if_pos trivial]) hx
      have e2 := JE_end (o' := (-1, tp, len, 2, a, n, u, w, 10, t)) (by
        show zg_X11_readRow_9 B tp len 2 a n u w 10 t = _
        unfold zg_X11_readRow_9
        rw [if_neg (by decide), if_pos rfl, if_neg (by decide), if_pos rfl]) hy
      subst e1 e2
      exact ⟨rfl, by show (-1 : Int) ≤ -1; decide, by show (-1 : Int) ≤ 10; decide, rfl, fun j hj => absurd hj (by show ¬ (j : Int) < -1; omega)⟩
    · have e1 := JE_end (o' := (-1, n, 3, a, v, q)) (by
        show zg_X8_readNumbers_6 len B 10 nx kd pl va q = _
        unfold zg_X8_readNumbers_6
        rw [if_neg (by decide), if_neg (by decide), ht]
        simp only [Option.bind_some]
        rw [if_neg (by decide), if_neg (by decide), if_neg (by decide)]) hx
      have e2 := JE_end (o' := (-1, tp, len, 3, a, n, u, w, 10, t)) (by
        show zg_X11_readRow_9 B tp len 3 a n u w 10 t = _
        unfold zg_X11_readRow_9
        rw [if_neg (by decide), if_neg (by decide), if_neg (by decide)]) hy
      subst e1 e2
      exact ⟨rfl, by show (-1 : Int) ≤ -1; decide, by show (-1 : Int) ≤ 10; decide, rfl, fun j hj => absurd hj (by show ¬ (j : Int) < -1; omega)⟩
    · have e1 := JE_end (o' := (-1, n, 4, a, v, q)) (by
        show zg_X8_readNumbers_6 len B 10 nx kd pl va q = _
        unfold zg_X8_readNumbers_6
        rw [if_neg (by decide), if_neg (by decide), ht]
        simp only [Option.bind_some]
        rw [if_neg (by decide), if_neg (by decide), if_neg (by decide)]) hx
      have e2 := JE_end (o' := (-1, tp, len, 0, a, n, u, w, 10, t)) (by
        show zg_X11_readRow_9 B tp len 0 a n u w 10 t = _
        unfold zg_X11_readRow_9
        rw [if_neg (by decide), if_neg (by decide), if_neg (by decide)]) hy
      subst e1 e2
      exact ⟨rfl, by show (-1 : Int) ≤ -1; decide, by show (-1 : Int) ≤ 10; decide, rfl, fun j hj => absurd hj (by show ¬ (j : Int) < -1; omega)⟩
  | succ m ih =>
    intro i nx kd pl va q n k a v s u w tp t o o2 hi h0 ht hk hv hn0 hn1 hq hx hy
    have hi9 : i < 10 := by omega
    have bad : ∀ k s : Int, ¬ k = 0 → ¬ k = 2 → ¬ zout k → ¬ s = 2 → ¬ s = 4 → ¬ zout s → zf_X8_readToken len nx kd pl va B = some (n, k, a, v) → JE (zg_X11_readRow B) (9, tp, len, s, a, n, u, w, i, t) o2 → o.1 = o2.1 ∧ -1 ≤ o.1 ∧ o.1 ≤ 10 ∧ o2.2.1 = tp ∧ ∀ j : Nat, (j : Int) < o.1 → zget o.2.2.2.2.2 j = zget o2.2.2.2.2.2.2.2.2.2 j ∧ 0 ≤ zget o2.2.2.2.2.2.2.2.2.2 j ∧ zget o2.2.2.2.2.2.2.2.2.2 j ≤ 999 := by
      intro k s k0 k2 kz s2 s4 sz ht hy
      have e1 := JE_end (o' := (-1, n, k, a, v, q)) (by
        show zg_X8_readNumbers_6 len B i nx kd pl va q = _
        unfold zg_X8_readNumbers_6
        rw [if_neg (by unfold zout; omega), if_neg (by omega), ht]
        simp only [Option.bind_some]
        rw [if_neg kz, if_neg k0, if_neg k2]) hx
      have e2 := JE_end (o' := (-1, tp, len, s, a, n, u, w, i, t)) (by
        show zg_X11_readRow_9 B tp len s a n u w i t = _
        unfold zg_X11_readRow_9
        rw [if_neg sz, if_neg s2, if_neg s4]) hy
      subst e1 e2
      exact ⟨rfl, by show (-1 : Int) ≤ -1; decide, by show (-1 : Int) ≤ 10; decide, rfl, fun j hj => absurd hj (by show ¬ (j : Int) < -1; omega)⟩
    rcases hk with ⟨rfl, rfl⟩ | ⟨rfl, rfl⟩ | ⟨rfl, rfl⟩ | ⟨rfl, rfl⟩ | ⟨rfl, rfl⟩
    · have e1 := JE_end (o' := (i, n, 0, a, v, q)) (by
        show zg_X8_readNumbers_6 len B i nx kd pl va q = _
        unfold zg_X8_readNumbers_6
        rw [if_neg (by unfold zout; omega), if_neg (by omega), ht]
        simp only [Option.bind_some]
        rw [if_neg (by decide), if_pos trivial]) hx
      have e2 := JE_end (o' := (i, tp, len, 4, a, n, u, w, i, t)) (by
        show zg_X11_readRow_9 B tp len 4 a n u w i t = _
        unfold zg_X11_readRow_9
        rw [if_neg (by decide), if_neg (by decide), if_pos rfl]) hy
      subst e1 e2
      exact ⟨rfl, by show (-1 : Int) ≤ i; omega, by show i ≤ 10; omega, rfl, hq⟩
    · exact bad 1 1 (by decide) (by decide) (by decide) (by decide) (by decide) (by decide) ht hy
    · obtain ⟨rfl, v0, v9⟩ := hv rfl
      obtain ⟨k', a', n', v', s', u', w', t1, t2, t3, t4, t5, t6, t7, t8, -, -⟩ := tok_eq l0 l3 hn0 hn1 hB 2 a v 2 a v w
      have hx' := JE_dn (s' := (6, i + 1, n, 2, a, v, zset q (Int.toNat i) v)) (by
        show zg_X8_readNumbers_6 len B i nx kd pl va q = _
        unfold zg_X8_readNumbers_6
        rw [if_neg (by unfold zout; omega), if_neg (by omega), ht]
        simp only [Option.bind_some]
        rw [if_neg (by decide), if_neg (by decide), if_pos trivial, if_neg (by omega), if_neg (by omega)]) hx
      have hy' := JE_dn (s' := (9, tp, len, s', a', n', u', w', i + 1, zset t (Int.toNat i) v)) (by
        show zg_X11_readRow_9 B tp len 2 a n v w i t = _
        unfold zg_X11_readRow_9
        rw [if_neg (by decide), if_pos rfl, if_neg (by unfold zout; omega), if_neg (by omega), if_neg (by omega), t2]
        rfl) hy
      refine ih (i + 1) n 2 a v (zset q (Int.toNat i) v) n' k' a' v' s' u' w' tp (zset t (Int.toNat i) v) o o2 (by omega) (by omega) t1 t3 t4 (by omega) t6 ?_ hx' hy'
      intro j hj
      rw [zget_set, zget_set]
      by_cases e : j = Int.toNat i
      · rw [if_pos e, if_pos e, zw_id (by unfold zout; omega)]
        exact ⟨rfl, v0, v9⟩
      · rw [if_neg e, if_neg e]
        exact hq j (by omega)
    · exact bad 3 3 (by decide) (by decide) (by decide) (by decide) (by decide) (by decide) ht hy
    · exact bad 4 0 (by decide) (by decide) (by decide) (by decide) (by decide) (by decide) ht hy
theorem row_eq {B : Nat} {len : Int} (l0 : 0 ≤ len) (l3 : len ≤ 300) (hB : BR B) {nx kd pl va : Int} {q : Nat} {sz so at_ en nu wo rm : Int} {t : Nat} {o : zO_X8_readNumbers} {o2 : zO_X11_readRow} (ho : zf_X8_readNumbers len nx kd pl va B q = some o) (ho2 : zf_X11_readRow len sz so at_ en nu wo rm B t = some o2) : o.1 = o2.1 ∧ -1 ≤ o.1 ∧ o.1 ≤ 10 ∧ o2.2.1 = 0 ∧ ∀ j : Nat, (j : Int) < o.1 → zget o.2.2.2.2.2 j = zget o2.2.2.2.2.2.2.2.2.2 j ∧ 0 ≤ zget o2.2.2.2.2.2.2.2.2.2 j ∧ zget o2.2.2.2.2.2.2.2.2.2 j ≤ 999 := by
  have hx := JE_dn (s' := (6, 0, 0, kd, pl, va, q)) (by
    show zg_X8_readNumbers_0 len B 0 nx kd pl va q = _
    unfold zg_X8_readNumbers_0 zf_X8_rewind
    rfl) (JE_of ho)
  obtain ⟨k', a', n', v', s', u', w', t1, t2, t3, t4, t5, t6, t7, t8, -, -⟩ := tok_eq l0 l3 (Int.le_refl 0) l0 hB kd pl va so at_ nu wo
  have hy := JE_dn (s' := (9, 0, len, s', a', n', u', w', 0, t)) (by
    show zg_X11_readRow_0 B len sz so at_ en nu wo rm t = _
    unfold zg_X11_readRow_0 zf_X11_begin
    rw [t2]
    rfl) (JE_of ho2)
  exact rn_eq l0 l3 hB 10 0 0 kd pl va q n' k' a' v' s' u' w' 0 t o o2 (by decide) (by decide) t1 t3 t4 (by omega) t6 (fun j hj => absurd hj (by omega)) hx hy
/-! the word -/
theorem zww_iff {len a : Int} {B : Nat} (h0 : 0 ≤ a) (h7 : a + 7 ≤ len) (l3 : len ≤ 300) : ∀ n : Nat, n ≤ 7 → ∃ b : Bool, zww len a B n = some b ∧ (b = true ↔ ∀ j : Nat, j < n → zget B (Int.toNat (a + (6 - (j : Int)))) = zSI (6 - j)) := by
  intro n
  induction n with
  | zero => intro _; exact ⟨true, rfl, ⟨fun _ j hj => absurd hj (by omega), fun _ => rfl⟩⟩
  | succ n ih =>
    intro hn
    obtain ⟨b, hb, hi⟩ := ih (by omega)
    have e : zww len a B (n + 1) = (match decide (a + (6 - (n : Int)) < len) with
      | false => some true
      | true => match decide (a + (6 - (n : Int)) < 0 ∨ 300 ≤ a + (6 - (n : Int))) with
        | true => none
        | false => match decide (zget B (Int.toNat (a + (6 - (n : Int)))) = zSI (6 - n)) with
          | true => zww len a B n
          | false => some false) := rfl
    rw [e, decide_eq_true (show a + (6 - (n : Int)) < len by omega), decide_eq_false (show ¬ (a + (6 - (n : Int)) < 0 ∨ 300 ≤ a + (6 - (n : Int))) by omega)]
    by_cases c : zget B (Int.toNat (a + (6 - (n : Int)))) = zSI (6 - n)
    · rw [decide_eq_true c]
      refine ⟨b, hb, ?_⟩
      rw [hi]
      constructor
      · intro h j hj
        by_cases z : j = n
        · rw [z]; exact c
        · exact h j (by omega)
      · intro h j hj
        exact h j (by omega)
    · rw [decide_eq_false c]
      refine ⟨false, rfl, ⟨(fun h => by cases h), fun h => absurd (h n (by omega)) c⟩⟩
set_option maxHeartbeats 1000000 in
theorem word_eq {B : Nat} {len n a w : Int} (l3 : len ≤ 300) (h0 : 0 ≤ a) (hn : n ≤ len) (hw : w = hor B a (n - a).toNat) (h8 : n - a ≤ 8) (h1 : a < n) (hl : ∀ q : Int, a ≤ q → q < n → isLe (zget B q.toNat)) : zf_X8_isWordF len n 1 a B = some (decide (w = 3743880787)) := by
  have s0 : hor B a 0 = 0 := rfl
  have s1 : hor B a 1 = 32 * hor B a 0 + zget B (Int.toNat (a + ((0 : Nat) : Int))) - 97 + 1 := rfl
  have s2 : hor B a 2 = 32 * hor B a 1 + zget B (Int.toNat (a + ((1 : Nat) : Int))) - 97 + 1 := rfl
  have s3 : hor B a 3 = 32 * hor B a 2 + zget B (Int.toNat (a + ((2 : Nat) : Int))) - 97 + 1 := rfl
  have s4 : hor B a 4 = 32 * hor B a 3 + zget B (Int.toNat (a + ((3 : Nat) : Int))) - 97 + 1 := rfl
  have s5 : hor B a 5 = 32 * hor B a 4 + zget B (Int.toNat (a + ((4 : Nat) : Int))) - 97 + 1 := rfl
  have s6 : hor B a 6 = 32 * hor B a 5 + zget B (Int.toNat (a + ((5 : Nat) : Int))) - 97 + 1 := rfl
  have s7 : hor B a 7 = 32 * hor B a 6 + zget B (Int.toNat (a + ((6 : Nat) : Int))) - 97 + 1 := rfl
  have s8 : hor B a 8 = 32 * hor B a 7 + zget B (Int.toNat (a + ((7 : Nat) : Int))) - 97 + 1 := rfl
  have g : ∀ j : Nat, a + (j : Int) < n → 97 ≤ zget B (Int.toNat (a + (j : Int))) ∧ zget B (Int.toNat (a + (j : Int))) ≤ 122 := fun j hj => hl (a + (j : Int)) (by omega) hj
  unfold zf_X8_isWordF
  rw [if_neg (by decide), if_pos rfl, if_neg (by unfold zout; omega)]
  by_cases e7 : n - a = 7
  · rw [if_pos e7, if_neg (by unfold zout; omega)]
    obtain ⟨b, hb, hi⟩ := zww_iff (B := B) h0 (show a + 7 ≤ len by omega) l3 7 (Nat.le_refl _)
    rw [hb]
    have w7 : w = hor B a 7 := by rw [hw, show (n - a).toNat = 7 by omega]
    have g0 := g 0 (by omega)
    have g1 := g 1 (by omega)
    have g2 := g 2 (by omega)
    have g3 := g 3 (by omega)
    have g4 := g 4 (by omega)
    have g5 := g 5 (by omega)
    have g6 := g 6 (by omega)
    have x0 : a + (6 - ((6 : Nat) : Int)) = a + ((0 : Nat) : Int) := by omega
    have x1 : a + (6 - ((5 : Nat) : Int)) = a + ((1 : Nat) : Int) := by omega
    have x2 : a + (6 - ((4 : Nat) : Int)) = a + ((2 : Nat) : Int) := by omega
    have x3 : a + (6 - ((3 : Nat) : Int)) = a + ((3 : Nat) : Int) := by omega
    have x4 : a + (6 - ((2 : Nat) : Int)) = a + ((4 : Nat) : Int) := by omega
    have x5 : a + (6 - ((1 : Nat) : Int)) = a + ((5 : Nat) : Int) := by omega
    have x6 : a + (6 - ((0 : Nat) : Int)) = a + ((6 : Nat) : Int) := by omega
    have z0 : zSI (6 - 6) = 99 := rfl
    have z1 : zSI (6 - 5) = 111 := rfl
    have z2 : zSI (6 - 4) = 114 := rfl
    have z3 : zSI (6 - 3) = 110 := rfl
    have z4 : zSI (6 - 2) = 101 := rfl
    have z5 : zSI (6 - 1) = 114 := rfl
    have z6 : zSI (6 - 0) = 115 := rfl
    by_cases ew : w = 3743880787
    · rw [decide_eq_true ew]
      have : b = true := by
        rw [hi]
        intro j hj
        have hj7 : j = 0 ∨ j = 1 ∨ j = 2 ∨ j = 3 ∨ j = 4 ∨ j = 5 ∨ j = 6 := by omega
        rcases hj7 with rfl | rfl | rfl | rfl | rfl | rfl | rfl
        · rw [x6, z6]; omega
        · rw [x5, z5]; omega
        · rw [x4, z4]; omega
        · rw [x3, z3]; omega
        · rw [x2, z2]; omega
        · rw [x1, z1]; omega
        · rw [x0, z0]; omega
      rw [this]
    · rw [decide_eq_false ew]
      cases b with
      | false => rfl
      | true =>
        exfalso
        apply ew
        have f := hi.mp rfl
        have f0 := f 0 (by decide)
        have f1 := f 1 (by decide)
        have f2 := f 2 (by decide)
        have f3 := f 3 (by decide)
        have f4 := f 4 (by decide)
        have f5 := f 5 (by decide)
        have f6 := f 6 (by decide)
        rw [x6, z6] at f0
        rw [x5, z5] at f1
        rw [x4, z4] at f2
        rw [x3, z3] at f3
        rw [x2, z2] at f4
        rw [x1, z1] at f5
        rw [x0, z0] at f6
        omega
  · rw [if_neg e7]
    have ew : ¬ w = 3743880787 := by
      have hm : (n - a).toNat = 1 ∨ (n - a).toNat = 2 ∨ (n - a).toNat = 3 ∨ (n - a).toNat = 4 ∨ (n - a).toNat = 5 ∨ (n - a).toNat = 6 ∨ (n - a).toNat = 8 := by omega
      have g0 := g 0 (by omega)
      rcases hm with e | e | e | e | e | e | e
      · rw [e] at hw; omega
      · have g1 := g 1 (by omega)
        rw [e] at hw; omega
      · have g1 := g 1 (by omega)
        have g2 := g 2 (by omega)
        rw [e] at hw; omega
      · have g1 := g 1 (by omega)
        have g2 := g 2 (by omega)
        have g3 := g 3 (by omega)
        rw [e] at hw; omega
      · have g1 := g 1 (by omega)
        have g2 := g 2 (by omega)
        have g3 := g 3 (by omega)
        have g4 := g 4 (by omega)
        rw [e] at hw; omega
      · have g1 := g 1 (by omega)
        have g2 := g 2 (by omega)
        have g3 := g 3 (by omega)
        have g4 := g 4 (by omega)
        have g5 := g 5 (by omega)
        rw [e] at hw; omega
      · have g1 := g 1 (by omega)
        have g2 := g 2 (by omega)
        have g3 := g 3 (by omega)
        have g4 := g 4 (by omega)
        have g5 := g 5 (by omega)
        have g6 := g 6 (by omega)
        have g7 := g 7 (by omega)
        rw [e] at hw; omega
    rw [decide_eq_false ew]
end

section
/-! the text of a cut: both sides understand the same -/
noncomputable def lnO (c : Nat) (i j : Int) : Int := zget (pg3 c) (9 * i.toNat + j.toNat)
theorem diag_tab : ∀ m : Nat, 4 ≤ m → m ≤ 9 → allF (fun i => decide (i < m → zget (pg3 m) (9 * i + i) < 0)) 0 9 = true := pg_cases (by decide +kernel) (by decide +kernel) (by decide +kernel) (by decide +kernel) (by decide +kernel) (by decide +kernel)
theorem lnO_self {c : Nat} (h4 : 4 ≤ c) (h9 : c ≤ 9) {i : Int} (i0 : 0 ≤ i) (i1 : i < (c : Int)) : lnO c i i < 0 := of_decide_eq_true (allF_at (diag_tab c h4 h9) (m := i.toNat) (by omega)) (by omega)
theorem isLine_c {c : Nat} (h4 : 4 ≤ c) (h9 : c ≤ 9) {i j : Int} (i0 : 0 ≤ i) (i1 : i < (c : Int)) (j0 : 0 ≤ j) (j1 : j < (c : Int)) : zf_X11_isLine (c : Int) i j = some (decide (0 ≤ lnO c i j)) := by
  unfold zf_X11_isLine
  rw [if_neg (by unfold zout; omega), if_neg (by unfold zout; omega)]
  by_cases e : i = j
  · subst e
    have := lnO_self h4 h9 i0 i1
    rw [if_pos rfl, decide_eq_false (by omega)]
  · rw [if_neg e]
    have h := next_c (m := c) (i := i.toNat) (j := j.toNat) h4 h9 (by omega) (by omega) (by omega)
    rw [show ((i.toNat : Nat) : Int) = i by omega, show ((j.toNat : Nat) : Int) = j by omega] at h
    rw [h]
    simp only [Option.bind_some]
    show (if decide (lnO c i j < 0) = false then some true else some false) = _
    by_cases q : lnO c i j < 0
    · rw [decide_eq_true q, if_neg (by decide), decide_eq_false (by omega)]
    · rw [decide_eq_false q, if_pos rfl, decide_eq_true (by omega)]
theorem tt2 (mk : Nat) (fi : Int) (c : Nat) (bi n k a v : Int) : zf_X1_takeToken mk 2 fi c bi n k a v = Option.bind (zf_X1_takeFirst mk fi c bi k v) (fun o11 => some ((o11.1), (3 : Int), (o11.2), bi)) := by
  unfold zf_X1_takeToken
  rw [if_neg (by decide), if_neg (by decide), if_neg (by decide), if_pos rfl]
theorem tt3y (mk : Nat) (fi : Int) (c : Nat) (bi n a v : Int) : zf_X1_takeToken mk 3 fi c bi n 2 a v = Option.bind (zf_X1_takeSecond mk fi c bi v) (fun o16 => some ((o16.1), (4 : Int), fi, (o16.2))) := by
  unfold zf_X1_takeToken
  rw [if_neg (by decide), if_neg (by decide), if_neg (by decide), if_neg (by decide), if_pos rfl]
  rfl
theorem tt3n (mk : Nat) (fi : Int) (c : Nat) (bi n k a v : Int) (hk : ¬ k = 2) (hz : ¬ zout k) : zf_X1_takeToken mk 3 fi c bi n k a v = some (1, 4, fi, bi) := by
  unfold zf_X1_takeToken
  rw [if_neg (by decide), if_neg (by decide), if_neg (by decide), if_neg (by decide), if_pos rfl]
  unfold zf_X8_kind
  simp only [Option.bind_some]
  rw [if_neg hz, if_neg hk]
theorem tt4y (mk : Nat) (fi : Int) (c : Nat) (bi n a v : Int) : zf_X1_takeToken mk 4 fi c bi n 3 a v = some (0, 2, fi, bi) := by
  unfold zf_X1_takeToken
  rw [if_neg (by decide), if_neg (by decide), if_neg (by decide), if_neg (by decide), if_neg (by decide)]
  rfl
theorem tt4n (mk : Nat) (fi : Int) (c : Nat) (bi n k a v : Int) (hk : ¬ k = 3) (hz : ¬ zout k) : zf_X1_takeToken mk 4 fi c bi n k a v = some (1, 2, fi, bi) := by
  unfold zf_X1_takeToken
  rw [if_neg (by decide), if_neg (by decide), if_neg (by decide), if_neg (by decide), if_neg (by decide)]
  unfold zf_X8_kind
  simp only [Option.bind_some]
  rw [if_neg hz, if_neg hk]
theorem tf0 {mk c : Nat} (p0 : ¬ zno mk c) (fi bi v : Int) : zf_X1_takeFirst mk fi c bi 0 v = some (if (c : Int) - 3 ≤ bitc bi then (0, fi) else (6, fi)) := by
  obtain ⟨h4, h9⟩ := zno_rng p0
  have hb : 0 ≤ bitc bi ∧ bitc bi ≤ 63 := rand63 _
  unfold zf_X1_takeFirst
  rw [if_neg (show ¬ c = 0 by omega)]
  unfold zf_X8_kind
  simp only [Option.bind_some]
  rw [if_neg (by decide), if_pos trivial, bitc_eq]
  simp only [Option.bind_some]
  rw [if_neg p0]
  unfold zf_X5_corners
  simp only [Option.bind_some]
  rw [if_neg (by unfold zout; omega), if_neg (by unfold zout; omega)]
  by_cases e : (c : Int) - 3 ≤ bitc bi
  · rw [if_pos e, if_pos e]
  · rw [if_neg e, if_neg e]
theorem tf2 {mk c : Nat} (p0 : ¬ zno mk c) (fi bi v : Int) (v0 : 0 ≤ v) (v9 : v ≤ 999) : zf_X1_takeFirst mk fi c bi 2 v = some (if v < (c : Int) then (0, v) else (2, v)) := by
  obtain ⟨h4, h9⟩ := zno_rng p0
  unfold zf_X1_takeFirst
  rw [if_neg (show ¬ c = 0 by omega)]
  unfold zf_X8_kind zf_X8_value
  simp only [Option.bind_some]
  rw [if_neg (by decide), if_neg (by decide), if_neg (by decide), if_pos trivial, if_neg p0, ok_hasC c v h4 h9 (by omega) (by omega)]
  simp only [Option.bind_some]
  by_cases e : v < (c : Int)
  · rw [if_pos e, decide_eq_true ⟨v0, e⟩, if_neg (by decide)]
  · rw [if_neg e, decide_eq_false (by omega), if_pos rfl]
theorem tfn {mk c : Nat} (p0 : ¬ zno mk c) (fi bi k v : Int) (k0 : ¬ k = 0) (k2 : ¬ k = 2) (kz : ¬ zout k) : zf_X1_takeFirst mk fi c bi k v = some (1, v) := by
  obtain ⟨h4, h9⟩ := zno_rng p0
  unfold zf_X1_takeFirst
  rw [if_neg (show ¬ c = 0 by omega)]
  unfold zf_X8_kind zf_X8_value
  simp only [Option.bind_some]
  rw [if_neg kz, if_neg k0, if_neg kz, if_neg k2]
/-- what the second corner of a line comes to -/
def secP (c T : Nat) (fi v : Int) (o : Int × Int) : Prop := (¬ v < (c : Int) ∧ o = (2, (T : Int))) ∨ (v < (c : Int) ∧ ((lnO c fi v = -1 ∧ o = (4, (T : Int))) ∨ (0 ≤ lnO c fi v ∧ lnO c fi v < pg7 c ∧ ((T.testBit (lnO c fi v).toNat = true ∧ o = (3, (T : Int))) ∨ (T.testBit (lnO c fi v).toNat = false ∧ (((∃ b : Nat, b < lnN c ∧ T.testBit b = true ∧ (crM c (lnO c fi v).toNat).testBit b = true) ∧ o = (5, (T : Int))) ∨ ((∀ b : Nat, b < lnN c → T.testBit b = true → (crM c (lnO c fi v).toNat).testBit b = false) ∧ o = (0, ((T ||| 2 ^ (lnO c fi v).toNat : Nat) : Int)))))))))
set_option maxHeartbeats 1000000 in
theorem ts_e {mk c : Nat} (p0 : ¬ zno mk c) {T : Nat} (hT : T < 2 ^ lnN c) (fi v : Int) (f0 : 0 ≤ fi) (f1 : fi < (c : Int)) (v0 : 0 ≤ v) (v9 : v ≤ 999) : ∃ o, zf_X1_takeSecond mk fi c (T : Int) v = some o ∧ secP c T fi v o := by
  obtain ⟨h4, h9⟩ := zno_rng p0
  unfold zf_X1_takeSecond secP
  rw [if_neg (show ¬ c = 0 by omega), if_neg p0, ok_hasC c v h4 h9 (by omega) (by omega)]
  simp only [Option.bind_some]
  by_cases hv : v < (c : Int)
  · rw [decide_eq_true ⟨v0, hv⟩, if_neg (by decide), lineOf_e h4 h9 f0 f1 v0 hv]
    simp only [Option.bind_some]
    have r3 := rpg3 h4 h9 (9 * fi.toNat + v.toNat) (by omega)
    have r7 := of_decide_eq_true (allF_at (pg3_lt_tab c h4 h9) (m := 9 * fi.toNat + v.toNat) (by omega))
    have g7 := rpg7 h4 h9
    have l2 := lnN_2 h4 h9
    unfold lnO
    generalize hl : zget (pg3 c) (9 * fi.toNat + v.toNat) = l at r3 r7 ⊢
    rw [if_neg (show ¬ zout l by unfold zout; omega)]
    by_cases e1 : l = -1
    · rw [if_pos e1]
      exact ⟨_, rfl, Or.inr ⟨hv, Or.inl ⟨e1, rfl⟩⟩⟩
    · rw [if_neg e1]
      have hl0 : 0 ≤ l := by omega
      obtain ⟨k, rfl⟩ : ∃ k : Nat, l = (k : Int) := ⟨l.toNat, by omega⟩
      have hk27 : k < 27 := by omega
      have hkn : k < lnN c := by unfold lnN; omega
      have eh : zf_X5_has c (T : Int) (k : Int) = some (T.testBit k) := by
        unfold zf_X5_has
        rw [hasLine_e h4 h9 hl0 r7]
        simp only [Option.bind_some]
        rw [if_neg (by decide), bitI (by omega) hk27]
        cases T.testBit k with
        | true => rw [if_pos rfl, if_neg (by decide)]
        | false => first | rfl | decide | simp
      have ec : zf_X5_crossersOf c (k : Int) = some (zget (pg4 c) k) := by
        unfold zf_X5_crossersOf
        rw [hasLine_e h4 h9 hl0 r7]
        simp only [Option.bind_some]
        rw [if_neg (by decide), if_neg (by omega)]
        rfl
      rw [eh]
      simp only [Option.bind_some]
      rw [Int.toNat_natCast]
      cases tb : T.testBit k with
      | true =>
        rw [if_neg (by decide)]
        exact ⟨_, rfl, Or.inr ⟨hv, Or.inr ⟨hl0, r7, Or.inl ⟨rfl, rfl⟩⟩⟩⟩
      | false =>
        rw [if_pos rfl, ec]
        simp only [Option.bind_some]
        have r4 := rpg4 h4 h9 k hk27
        have e1 : zget (pg4 c) k = ((crM c k : Nat) : Int) := by unfold crM; omega
        have hlt : crM c k &&& T < 134217728 := Nat.lt_of_le_of_lt Nat.and_le_right (by omega)
        have ez : zand (zget (pg4 c) k) (T : Int) = ((crM c k &&& T : Nat) : Int) := by
          rw [e1]
          unfold zand
          rw [zu_n (by omega), zu_n (by omega), zs_n hlt]
        rw [ez]
        by_cases z : crM c k &&& T = 0
        · rw [if_pos (by rw [z]; rfl), orI (by omega) hk27]
          refine ⟨_, rfl, Or.inr ⟨hv, Or.inr ⟨hl0, r7, Or.inr ⟨trivial, Or.inr ⟨?_, rfl⟩⟩⟩⟩⟩
          intro b _ hb
          have := congrArg (fun q => Nat.testBit q b) z
          simp only [Nat.testBit_and, Nat.zero_testBit, hb, Bool.and_true] at this
          exact this
        · rw [if_neg (by omega)]
          refine ⟨_, rfl, Or.inr ⟨hv, Or.inr ⟨hl0, r7, Or.inr ⟨trivial, Or.inl ⟨?_, rfl⟩⟩⟩⟩⟩
          obtain ⟨b, hb⟩ := Nat.exists_testBit_of_ne_zero z
          rw [Nat.testBit_and, Bool.and_eq_true] at hb
          refine ⟨b, ?_, hb.2, hb.1⟩
          by_cases q : b < lnN c
          · exact q
          · have := Nat.testBit_lt_two_pow (Nat.lt_of_lt_of_le hT (Nat.pow_le_pow_right (by decide) (by omega : lnN c ≤ b)))
            rw [this] at hb
            exact absurd hb.2 (by decide)
  · rw [decide_eq_false (by omega), if_pos rfl]
    exact ⟨_, rfl, Or.inl ⟨hv, rfl⟩⟩
/-! the reference's look for crossings -/
set_option maxHeartbeats 1000000 in
theorem l191 {B : Nat} {len : Int} {c : Nat} (h4 : 4 ≤ c) (h9 : c ≤ 9) {T : Nat} (hT : T < 2 ^ lnN c) {ln lf : Int} {nf ls gr : Nat} (hL : LT c ln nf ls gr) {i j : Int} (i0 : 0 ≤ i) (i1 : i < (c : Int)) (j0 : 0 ≤ j) (j1 : j < (c : Int)) (hp : 0 ≤ lnO c i j) {many so at_ en nu fk fp wo : Int} {o : zO_X11_readCut} : ∀ d k : Nat, k + d = lnN c → JE (zg_X11_readCut len B) (191, many, i, j, (k : Int), so, at_, en, nu, fk, fp, wo, ln, lf, (c : Int), (T : Int), nf, ls, gr) o → (o = (false, so, at_, en, nu, 5, at_, wo, ln, lf, (c : Int), (T : Int), nf, ls, gr) ∧ ∃ b : Nat, b < lnN c ∧ T.testBit b = true ∧ (crM c (lnO c i j).toNat).testBit b = true) ∨ (JE (zg_X11_readCut len B) (191, many, i, j, (lnN c : Int), so, at_, en, nu, fk, fp, wo, ln, lf, (c : Int), (T : Int), nf, ls, gr) o ∧ ∀ b : Nat, k ≤ b → b < lnN c → T.testBit b = true → (crM c (lnO c i j).toNat).testBit b = false) := by
  have l2 := lnN_2 h4 h9
  have r7 := rpg7 h4 h9
  have e7 : (lnN c : Int) = pg7 c := by unfold lnN; omega
  have eln : ln = (lnN c : Int) := hL.1.trans e7.symm
  intro d
  induction d with
  | zero =>
    intro k hk h
    have : k = lnN c := by omega
    subst this
    exact Or.inr ⟨h, fun b b0 b1 => absurd b1 (by omega)⟩
  | succ d ih =>
    intro k hk h
    have hk27 : k < 27 := by omega
    have bt := bitL (T := T) (l := k) (by omega) hk27
    cases tb : T.testBit k with
    | false =>
      rw [tb, if_neg (by decide)] at bt
      have h' := JE_dn (s' := (191, many, i, j, ((k : Int) + 1), so, at_, en, nu, fk, fp, wo, ln, lf, (c : Int), (T : Int), nf, ls, gr)) (by
        show zg_X11_readCut_191 len B many i j (k : Int) so at_ en nu fk fp wo ln lf (c : Int) (T : Int) nf ls gr = _
        unfold zg_X11_readCut_191
        rw [if_neg (by unfold zout; omega), if_neg (by unfold zout; omega), if_neg (by omega), bt, if_neg (by decide)]) h
      rcases ih (k + 1) (by omega) (by rw [show (((k + 1 : Nat) : Nat) : Int) = (k : Int) + 1 by omega]; exact h') with q | ⟨q1, q2⟩
      · exact Or.inl q
      · refine Or.inr ⟨q1, fun b b0 b1 b2 => ?_⟩
        by_cases e : b = k
        · rw [e, tb] at b2; cases b2
        · exact q2 b (by omega) b1 b2
    | true =>
      rw [tb, if_pos rfl] at bt
      have hll := hL.2.2 k (by omega)
      have hi : zget ls (Int.toNat (k : Int)) = zget (pg1 c) k := by rw [Int.toNat_natCast]; exact hll.1
      have hj : zget gr (Int.toNat (k : Int)) = zget (pg2 c) k := by rw [Int.toNat_natCast]; exact hll.2
      have hcr := cr_ok (m := c) (i := i.toNat) (j := j.toNat) (k := k) h4 h9 (by omega) (by omega) hp (by omega)
      rw [show ((i.toNat : Nat) : Int) = i by omega, show ((j.toNat : Nat) : Int) = j by omega] at hcr
      replace hcr : zf_X11_isCross (c : Int) i j (zget (pg1 c) k) (zget (pg2 c) k) = some ((crM c (lnO c i j).toNat).testBit k) := hcr
      cases cb : (crM c (lnO c i j).toNat).testBit k with
      | false =>
        rw [cb] at hcr
        have h' := JE_dn (s' := (191, many, i, j, ((k : Int) + 1), so, at_, en, nu, fk, fp, wo, ln, lf, (c : Int), (T : Int), nf, ls, gr)) (by
          show zg_X11_readCut_191 len B many i j (k : Int) so at_ en nu fk fp wo ln lf (c : Int) (T : Int) nf ls gr = _
          unfold zg_X11_readCut_191
          rw [if_neg (by unfold zout; omega), if_neg (by unfold zout; omega), if_neg (by omega), bt, if_pos rfl, if_neg (by omega), hi, hj, hcr]
          rfl) h
        rcases ih (k + 1) (by omega) (by rw [show (((k + 1 : Nat) : Nat) : Int) = (k : Int) + 1 by omega]; exact h') with q | ⟨q1, q2⟩
        · exact Or.inl q
        · refine Or.inr ⟨q1, fun b b0 b1 b2 => ?_⟩
          by_cases e : b = k
          · rw [e]; exact cb
          · exact q2 b (by omega) b1 b2
      | true =>
        rw [cb] at hcr
        have e := JE_end (o' := (false, so, at_, en, nu, 5, at_, wo, ln, lf, (c : Int), (T : Int), nf, ls, gr)) (by
          show zg_X11_readCut_191 len B many i j (k : Int) so at_ en nu fk fp wo ln lf (c : Int) (T : Int) nf ls gr = _
          unfold zg_X11_readCut_191
          rw [if_neg (by unfold zout; omega), if_neg (by unfold zout; omega), if_neg (by omega), bt, if_pos rfl, if_neg (by omega), hi, hj, hcr]
          rfl) h
        exact Or.inl ⟨e, k, by omega, tb, cb⟩
/-- class's side: one token at the place ex -/
theorem un31 {mk : Nat} {len : Int} {B : Nat} {i3 fk fp ex fi bi nx kd pl va n k a v : Int} {c : Nat} {r : Int × Int × Int × Int} (hi : 0 ≤ i3) (hi' : i3 ≤ 300) (ht : zf_X8_readToken len nx kd pl va B = some (n, k, a, v)) (hr : zf_X1_takeToken mk ex fi c bi n k a v = some r) (kz : ¬ zout k) (rz : ¬ zout r.1) (hc : ¬ c = 0) : zg_X1_understand_31 mk len B i3 fk fp ex fi c bi nx kd pl va = some (if r.1 = 0 then (if k = 0 then .inl (true, r.1, fp, r.2.1, r.2.2.1, c, r.2.2.2, n, k, a, v) else .inr (31, i3 + 1, r.1, fp, r.2.1, r.2.2.1, c, r.2.2.2, n, k, a, v)) else .inl (false, r.1, a, r.2.1, r.2.2.1, c, r.2.2.2, n, k, a, v)) := by
  unfold zg_X1_understand_31
  rw [if_neg (by unfold zout; omega), if_neg (by omega), ht]
  simp only [Option.bind_some]
  rw [hr]
  simp only [Option.bind_some]
  rw [if_neg rz]
  unfold zf_X8_kind zf_X8_place
  simp only [Option.bind_some]
  by_cases e : r.1 = 0
  · rw [if_pos e, if_pos e, if_neg kz]
    by_cases e2 : k = 0
    · rw [if_pos e2, if_pos e2, if_neg hc]
    · rw [if_neg e2, if_neg e2]
  · rw [if_neg e, if_neg e]
def undQ (c : Nat) (o : zO_X1_understand) (o2 : zO_X11_readCut) : Prop := o.1 = o2.1 ∧ o.2.1 = o2.2.2.2.2.2.1 ∧ o.2.2.1 = o2.2.2.2.2.2.2.1 ∧ o.2.2.2.2.2.1 = c ∧ o2.2.2.2.2.2.2.2.2.2.2.1 = (c : Int) ∧ (o.1 = true → o.2.2.2.2.2.2.1 = o2.2.2.2.2.2.2.2.2.2.2.2.1 ∧ o.2.1 = 0 ∧ o.2.2.1 = -1)
set_option maxHeartbeats 4000000 in
theorem und_eq {B : Nat} {len : Int} (l0 : 0 ≤ len) (l3 : len ≤ 300) (hB : BR B) {mk c : Nat} (p0 : ¬ zno mk c) {ln lf : Int} {nf ls gr : Nat} (hL : LT c ln nf ls gr) : ∀ (m : Nat) (i3 fi nx kd pl va : Int) (T : Nat) (many j2 j3 j4 n k a v s u w : Int) (o : zO_X1_understand) (o2 : zO_X11_readCut), (len - nx).toNat < m → 2 ≤ i3 → i3 ≤ nx → nx ≤ len → T < 2 ^ lnN c → good c T → many = (pop T (lnN c) : Int) → zf_X8_readToken len nx kd pl va B = some (n, k, a, v) → KM k s → (k = 2 → v = u ∧ 0 ≤ v ∧ v ≤ 999) → nx ≤ n → n ≤ len → (¬ k = 0 → nx < n) → JE (zg_X1_understand mk len B) (31, i3, 0, -1, 2, fi, c, (T : Int), nx, kd, pl, va) o → JE (zg_X11_readCut len B) (107, many, j2, j3, j4, s, a, n, u, 0, -1, w, ln, lf, (c : Int), (T : Int), nf, ls, gr) o2 → undQ c o o2 := by
  obtain ⟨h4, h9⟩ := zno_rng p0
  have hc0 : ¬ c = 0 := by omega
  have l2 := lnN_2 h4 h9
  intro m
  induction m with
  | zero => intro i3 fi nx kd pl va T many j2 j3 j4 n k a v s u w o o2 h; exact absurd h (by omega)
  | succ m ih =>
    intro i3 fi nx kd pl va T many j2 j3 j4 n k a v s u w o o2 hm hi2 hin hnl hT hg hmany ht hk hv hn0 hn1 hnp hx hy
    have gp := good_pop h4 h9 hT hg
    rcases hk with ⟨rfl, rfl⟩ | hk
    · -- the end
      have hr : zf_X1_takeToken mk 2 fi c (T : Int) n 0 a v = some (if (c : Int) - 3 ≤ bitc (T : Int) then (0, 3, fi, (T : Int)) else (6, 3, fi, (T : Int))) := by
        rw [tt2, tf0 p0]
        by_cases e : (c : Int) - 3 ≤ bitc (T : Int)
        · rw [if_pos e, if_pos e]; rfl
        · rw [if_neg e, if_neg e]; rfl
      by_cases e : (c : Int) - 3 ≤ bitc (T : Int)
      · rw [if_pos e] at hr
        have e1 := JE_end (o' := (true, 0, -1, 3, fi, c, (T : Int), n, 0, a, v)) (by
          show zg_X1_understand_31 mk len B i3 0 (-1) 2 fi c (T : Int) nx kd pl va = _
          rw [un31 (by omega) (by omega) ht hr (by decide) (by dsimp only; decide) hc0]
          rfl) hx
        have e2 := JE_end (o' := (true, 4, a, n, u, 0, -1, w, ln, lf, (c : Int), (T : Int), nf, ls, gr)) (by
          show zg_X11_readCut_107 len B many j2 j3 j4 4 a n u 0 (-1) w ln lf (c : Int) (T : Int) nf ls gr = _
          unfold zg_X11_readCut_107
          rw [if_neg (by decide), if_pos rfl, if_neg (by unfold zout; omega), if_neg (by unfold zout; omega), if_pos (by omega)]) hy
        subst e1 e2
        exact ⟨rfl, rfl, rfl, rfl, rfl, fun _ => ⟨rfl, rfl, rfl⟩⟩
      · rw [if_neg e] at hr
        have e1 := JE_end (o' := (false, 6, a, 3, fi, c, (T : Int), n, 0, a, v)) (by
          show zg_X1_understand_31 mk len B i3 0 (-1) 2 fi c (T : Int) nx kd pl va = _
          rw [un31 (by omega) (by omega) ht hr (by decide) (by dsimp only; decide) hc0]
          rfl) hx
        have e2 := JE_end (o' := (false, 4, a, n, u, 6, a, w, ln, lf, (c : Int), (T : Int), nf, ls, gr)) (by
          show zg_X11_readCut_107 len B many j2 j3 j4 4 a n u 0 (-1) w ln lf (c : Int) (T : Int) nf ls gr = _
          unfold zg_X11_readCut_107
          rw [if_neg (by decide), if_pos rfl, if_neg (by unfold zout; omega), if_neg (by unfold zout; omega), if_neg (by omega)]
          rfl) hy
        subst e1 e2
        exact ⟨rfl, rfl, rfl, rfl, rfl, fun z => by cases z⟩
    · -- a token
      have bad1 : ¬ k = 0 → ¬ k = 2 → ¬ zout k → ¬ s = 2 → ¬ s = 4 → ¬ zout s → undQ c o o2 := by
        intro k0 k2 kz s2 s4 sz
        have hr : zf_X1_takeToken mk 2 fi c (T : Int) n k a v = some (1, 3, v, (T : Int)) := by
          rw [tt2, tfn p0 fi (T : Int) k v k0 k2 kz]; rfl
        have e1 := JE_end (o' := (false, 1, a, 3, v, c, (T : Int), n, k, a, v)) (by
          show zg_X1_understand_31 mk len B i3 0 (-1) 2 fi c (T : Int) nx kd pl va = _
          rw [un31 (by omega) (by omega) ht hr kz (by dsimp only; decide) hc0]
          rfl) hx
        have e2 := JE_end (o' := (false, s, a, n, u, 1, a, w, ln, lf, (c : Int), (T : Int), nf, ls, gr)) (by
          show zg_X11_readCut_107 len B many j2 j3 j4 s a n u 0 (-1) w ln lf (c : Int) (T : Int) nf ls gr = _
          unfold zg_X11_readCut_107 zf_X11_readCorner
          rw [if_neg sz, if_neg s4, if_neg sz, if_neg s2]
          rfl) hy
        subst e1 e2
        exact ⟨rfl, rfl, rfl, rfl, rfl, fun z => by cases z⟩
      rcases hk with ⟨rfl, rfl⟩ | ⟨rfl, rfl⟩ | ⟨rfl, rfl⟩ | ⟨rfl, rfl⟩
      · exact bad1 (by decide) (by decide) (by decide) (by decide) (by decide) (by decide)
      · -- the first corner
        clear bad1
        obtain ⟨rfl, v0, v9⟩ := hv rfl
        have hnp := hnp (by decide)
        by_cases hvc : v < (c : Int)
        · have hr : zf_X1_takeToken mk 2 fi c (T : Int) n 2 a v = some (0, 3, v, (T : Int)) := by
            rw [tt2, tf2 p0 fi (T : Int) v v0 v9, if_pos hvc]; rfl
          have hx1 := JE_dn (s' := (31, i3 + 1, 0, -1, 3, v, c, (T : Int), n, 2, a, v)) (by
            show zg_X1_understand_31 mk len B i3 0 (-1) 2 fi c (T : Int) nx kd pl va = _
            rw [un31 (by omega) (by omega) ht hr (by decide) (by dsimp only; decide) hc0]
            rfl) hx
          obtain ⟨k2, a2, n2, v2, s2, u2, w2, t1, t2, t3, t4, t5, t6, t7, t8, t9, -⟩ := tok_eq l0 l3 (show 0 ≤ n by omega) hn1 hB 2 a v 2 a v w
          have rc1 : zf_X11_readCorner 2 a v 0 (-1) (c : Int) = some (true, 0, -1) := by
            unfold zf_X11_readCorner zf_X11_in
            rw [if_neg (by decide), if_pos rfl, if_neg (by unfold zout; omega), if_neg (by decide), if_neg (by omega), if_neg (by unfold zout; omega), if_neg (by omega)]
            rfl
          -- the second token is no number of a corner
          have bad2 : ∀ f : Int, zf_X1_takeToken mk 3 v c (T : Int) n2 k2 a2 v2 = some (f, 4, v, (T : Int)) → ¬ f = 0 → ¬ zout f → ¬ zout k2 → zf_X11_readCorner s2 a2 u2 0 (-1) (c : Int) = some (false, f, a2) → undQ c o o2 := by
            intro f hr f0 fz kz hrc
            have e1 := JE_end (o' := (false, f, a2, 4, v, c, (T : Int), n2, k2, a2, v2)) (by
              show zg_X1_understand_31 mk len B (i3 + 1) 0 (-1) 3 v c (T : Int) n 2 a v = _
              rw [un31 (by omega) (by omega) t1 hr kz fz hc0, if_neg f0]) hx1
            have e2 := JE_end (o' := (false, s2, a2, n2, u2, f, a2, w2, ln, lf, (c : Int), (T : Int), nf, ls, gr)) (by
              show zg_X11_readCut_107 len B many j2 j3 j4 2 a n v 0 (-1) w ln lf (c : Int) (T : Int) nf ls gr = _
              unfold zg_X11_readCut_107
              rw [if_neg (by decide), if_neg (by decide), rc1]
              simp only [Option.bind_some]
              rw [if_neg (by decide), t2]
              simp only [Option.bind_some]
              rw [hrc]
              rfl) hy
            subst e1 e2
            exact ⟨rfl, rfl, rfl, rfl, rfl, fun z => by cases z⟩
          have bad2s : ¬ k2 = 2 → ¬ zout k2 → ¬ s2 = 2 → ¬ zout s2 → undQ c o o2 := by
            intro q1 q2 q3 q4
            refine bad2 1 (tt3n mk v c (T : Int) n2 k2 a2 v2 q1 q2) (by decide) (by decide) q2 ?_
            unfold zf_X11_readCorner
            rw [if_neg q4, if_neg q3]
            rfl
          rcases t3 with ⟨rfl, rfl⟩ | ⟨rfl, rfl⟩ | ⟨rfl, rfl⟩ | ⟨rfl, rfl⟩ | ⟨rfl, rfl⟩
          · exact bad2s (by decide) (by decide) (by decide) (by decide)
          · exact bad2s (by decide) (by decide) (by decide) (by decide)
          · obtain ⟨rfl, x0, x9⟩ := t4 rfl
            have t9 := t9 (by decide)
            clear bad2s
            obtain ⟨r, hr, hs⟩ := ts_e p0 hT v v2 v0 hvc x0 x9
            have hr3 : zf_X1_takeToken mk 3 v c (T : Int) n2 2 a2 v2 = some (r.1, 4, v, r.2) := by
              rw [tt3y, hr]; rfl
            rcases hs with ⟨y1, rfl⟩ | ⟨y1, hs⟩
            · refine bad2 2 hr3 (by decide) (by decide) (by decide) ?_
              unfold zf_X11_readCorner zf_X11_in
              rw [if_neg (by decide), if_pos rfl, if_neg (by unfold zout; omega), if_neg (by decide), if_neg (by omega), if_neg (by unfold zout; omega), if_pos (by omega)]
              rfl
            · clear bad2
              have rc2 : zf_X11_readCorner 2 a2 v2 0 (-1) (c : Int) = some (true, 0, -1) := by
                unfold zf_X11_readCorner zf_X11_in
                rw [if_neg (by decide), if_pos rfl, if_neg (by unfold zout; omega), if_neg (by decide), if_neg (by omega), if_neg (by unfold zout; omega), if_neg (by omega)]
                rfl
              have fail3 : ∀ f : Int, r = (f, (T : Int)) → ¬ f = 0 → ¬ zout f → o2 = (false, 2, a2, n2, v2, f, a2, w2, ln, lf, (c : Int), (T : Int), nf, ls, gr) → undQ c o o2 := by
                intro f hf f0 fz e2
                rw [hf] at hr3
                have e1 := JE_end (o' := (false, f, a2, 4, v, c, (T : Int), n2, 2, a2, v2)) (by
                  show zg_X1_understand_31 mk len B (i3 + 1) 0 (-1) 3 v c (T : Int) n 2 a v = _
                  rw [un31 (by omega) (by omega) t1 hr3 (by decide) fz hc0, if_neg f0]) hx1
                subst e1 e2
                exact ⟨rfl, rfl, rfl, rfl, rfl, fun z => by cases z⟩
              rcases hs with ⟨z1, hrr⟩ | ⟨z1, z2, hs⟩
              · -- no line
                refine fail3 4 hrr (by decide) (by decide) ?_
                refine JE_end (by
                  show zg_X11_readCut_107 len B many j2 j3 j4 2 a n v 0 (-1) w ln lf (c : Int) (T : Int) nf ls gr = _
                  unfold zg_X11_readCut_107
                  rw [if_neg (by decide), if_neg (by decide), rc1]
                  simp only [Option.bind_some]
                  rw [if_neg (by decide), t2]
                  simp only [Option.bind_some]
                  rw [rc2]
                  simp only [Option.bind_some]
                  rw [if_neg (by decide), isLine_c h4 h9 v0 hvc x0 y1, decide_eq_false (by omega)]
                  rfl) hy
              · have hij : ¬ v = v2 := by
                  intro q
                  have := lnO_self h4 h9 v0 hvc
                  rw [← q] at z1
                  omega
                have enf : zget nf (Int.toNat (((10 : Int) * v) + v2)) = lnO c v v2 := by
                  have := LN_get hL.2.1 (i := v.toNat) (j := v2.toNat) (by omega) (by omega) (by omega)
                  rw [show Int.toNat (((10 : Int) * v) + v2) = 10 * v.toNat + v2.toNat by omega]
                  exact this
                have hl27 : (lnO c v v2).toNat < 27 := by have := rpg7 h4 h9; omega
                have hbt := bitL (T := T) (l := (lnO c v v2).toNat) (by omega) hl27
                rw [show (((lnO c v v2).toNat : Nat) : Int) = lnO c v v2 by omega] at hbt
                rcases hs with ⟨tb, hrr⟩ | ⟨tb, hs⟩
                · -- twice
                  refine fail3 3 hrr (by decide) (by decide) ?_
                  rw [tb, if_pos rfl] at hbt
                  refine JE_end (by
                    show zg_X11_readCut_107 len B many j2 j3 j4 2 a n v 0 (-1) w ln lf (c : Int) (T : Int) nf ls gr = _
                    unfold zg_X11_readCut_107
                    rw [if_neg (by decide), if_neg (by decide), rc1]
                    simp only [Option.bind_some]
                    rw [if_neg (by decide), t2]
                    simp only [Option.bind_some]
                    rw [rc2]
                    simp only [Option.bind_some]
                    rw [if_neg (by decide), isLine_c h4 h9 v0 hvc x0 y1, decide_eq_true z1]
                    simp only [Option.bind_some]
                    rw [if_neg (by decide), if_neg (by omega), enf, hbt, if_pos rfl]
                    rfl) hy
                · rw [tb, if_neg (by decide)] at hbt
                  have hy1 := JE_dn (s' := (191, many, v, v2, ((0 : Nat) : Int), 2, a2, n2, v2, 0, -1, w2, ln, lf, (c : Int), (T : Int), nf, ls, gr)) (by
                    show zg_X11_readCut_107 len B many j2 j3 j4 2 a n v 0 (-1) w ln lf (c : Int) (T : Int) nf ls gr = _
                    unfold zg_X11_readCut_107
                    rw [if_neg (by decide), if_neg (by decide), rc1]
                    simp only [Option.bind_some]
                    rw [if_neg (by decide), t2]
                    simp only [Option.bind_some]
                    rw [rc2]
                    simp only [Option.bind_some]
                    rw [if_neg (by decide), isLine_c h4 h9 v0 hvc x0 y1, decide_eq_true z1]
                    simp only [Option.bind_some]
                    rw [if_neg (by decide), if_neg (by omega), enf, hbt, if_neg (by decide)]
                    rfl) hy
                  have l1 := l191 (B := B) (len := len) h4 h9 hT hL v0 hvc x0 y1 z1 (lnN c) 0 (by omega) hy1
                  rcases hs with ⟨⟨b, b1, b2, b3⟩, hrr⟩ | ⟨hcr, hrr⟩
                  · rcases l1 with ⟨e2, -⟩ | ⟨-, no⟩
                    · exact fail3 5 hrr (by decide) (by decide) e2
                    · have := no b (by omega) b1 b2
                      rw [b3] at this
                      cases this
                  · rcases l1 with ⟨-, b, b1, b2, b3⟩ | ⟨hy2, -⟩
                    · have := hcr b b1 b2
                      rw [b3] at this
                      cases this
                    · -- the line is taken
                      clear fail3
                      rw [hrr] at hr3
                      have hx2 := JE_dn (s' := (31, i3 + 1 + 1, 0, -1, 4, v, c, ((T ||| 2 ^ (lnO c v v2).toNat : Nat) : Int), n2, 2, a2, v2)) (by
                        show zg_X1_understand_31 mk len B (i3 + 1) 0 (-1) 3 v c (T : Int) n 2 a v = _
                        rw [un31 (by omega) (by omega) t1 hr3 (by decide) (by dsimp only; decide) hc0]
                        rfl) hx1
                      obtain ⟨k3, a3, n3, v3, s3, u3, w3, d1, d2, d3, d4, d5, d6, d7, d8, d9, -⟩ := tok_eq l0 l3 (show 0 ≤ n2 by omega) t6 hB 2 a2 v2 2 a2 v2 w2
                      have e7 : ln ≤ (lnN c : Int) := by have := hL.1; unfold lnN; have := rpg7 h4 h9; omega
                      have hlnz : ¬ zout ln := by have := hL.1; have := rpg7 h4 h9; unfold zout; omega
                      have hln27 : (lnN c : Int) ≤ 27 := by unfold lnN; have := rpg7 h4 h9; omega
                      have hor_ := orL (T := T) (l := (lnO c v v2).toNat) (by omega) hl27
                      rw [show (((lnO c v v2).toNat : Nat) : Int) = lnO c v v2 by omega] at hor_
                      have bad4 : ¬ k3 = 3 → ¬ zout k3 → ¬ s3 = 3 → ¬ zout s3 → undQ c o o2 := by
                        intro q1 q2 q3 q4
                        have e1 := JE_end (o' := (false, 1, a3, 2, v, c, ((T ||| 2 ^ (lnO c v v2).toNat : Nat) : Int), n3, k3, a3, v3)) (by
                          show zg_X1_understand_31 mk len B (i3 + 1 + 1) 0 (-1) 4 v c ((T ||| 2 ^ (lnO c v v2).toNat : Nat) : Int) n2 2 a2 v2 = _
                          rw [un31 (by omega) (by omega) d1 (tt4n mk v c _ n3 k3 a3 v3 q1 q2) q2 (by dsimp only; decide) hc0]
                          rfl) hx2
                        have e2 := JE_end (o' := (false, s3, a3, n3, u3, 1, a3, w3, ln, lf, (c : Int), ((T ||| 2 ^ (lnO c v v2).toNat : Nat) : Int), nf, ls, gr)) (by
                          show zg_X11_readCut_191 len B many v v2 (lnN c : Int) 2 a2 n2 v2 0 (-1) w2 ln lf (c : Int) (T : Int) nf ls gr = _
                          unfold zg_X11_readCut_191
                          rw [if_neg (by unfold zout; omega), if_neg hlnz, if_pos e7, if_neg (by omega), d2]
                          simp only [Option.bind_some]
                          rw [if_neg q4, if_neg q3, enf, hor_]
                          rfl) hy2
                        subst e1 e2
                        exact ⟨rfl, rfl, rfl, rfl, rfl, fun z => by cases z⟩
                      rcases d3 with ⟨rfl, rfl⟩ | ⟨rfl, rfl⟩ | ⟨rfl, rfl⟩ | ⟨rfl, rfl⟩ | ⟨rfl, rfl⟩
                      · exact bad4 (by decide) (by decide) (by decide) (by decide)
                      · exact bad4 (by decide) (by decide) (by decide) (by decide)
                      · exact bad4 (by decide) (by decide) (by decide) (by decide)
                      · have d9 := d9 (by decide)
                        have hx3 := JE_dn (s' := (31, i3 + 1 + 1 + 1, 0, -1, 2, v, c, ((T ||| 2 ^ (lnO c v v2).toNat : Nat) : Int), n3, 3, a3, v3)) (by
                          show zg_X1_understand_31 mk len B (i3 + 1 + 1) 0 (-1) 4 v c ((T ||| 2 ^ (lnO c v v2).toNat : Nat) : Int) n2 2 a2 v2 = _
                          rw [un31 (by omega) (by omega) d1 (tt4y mk v c _ n3 a3 v3) (by decide) (by dsimp only; decide) hc0]
                          rfl) hx2
                        obtain ⟨k4, a4, n4, v4, s4, u4, w4, g1, g2, g3, g4, g5, g6, g7, g8, g9, -⟩ := tok_eq l0 l3 (show 0 ≤ n3 by omega) d6 hB 3 a3 v3 3 a3 u3 w3
                        have hy3 := JE_dn (s' := (107, many + 1, v, v2, (lnN c : Int), s4, a4, n4, u4, 0, -1, w4, ln, lf, (c : Int), ((T ||| 2 ^ (lnO c v v2).toNat : Nat) : Int), nf, ls, gr)) (by
                          show zg_X11_readCut_191 len B many v v2 (lnN c : Int) 2 a2 n2 v2 0 (-1) w2 ln lf (c : Int) (T : Int) nf ls gr = _
                          unfold zg_X11_readCut_191
                          rw [if_neg (by unfold zout; omega), if_neg hlnz, if_pos e7, if_neg (by omega), d2]
                          simp only [Option.bind_some]
                          rw [if_neg (by decide), if_pos trivial, g2, enf, hor_]
                          rfl) hy2
                        have hln : (lnO c v v2).toNat < lnN c := by unfold lnN; omega
                        refine ih (i3 + 1 + 1 + 1) v n3 3 a3 v3 (T ||| 2 ^ (lnO c v v2).toNat) (many + 1) v v2 (lnN c : Int) n4 k4 a4 v4 s4 u4 w4 o o2 (by omega) (by omega) (by omega) d6 (Nat.or_lt_two_pow hT (Nat.pow_lt_pow_right (by decide) hln)) (good_add h4 h9 hg hln hcr) ?_ g1 g3 g4 g5 g6 g9 hx3 hy3
                        rw [pop_add tb (lnN c) hln, hmany]
                        omega
                      · exact bad4 (by decide) (by decide) (by decide) (by decide)
          · exact bad2s (by decide) (by decide) (by decide) (by decide)
          · exact bad2s (by decide) (by decide) (by decide) (by decide)
        · have hr : zf_X1_takeToken mk 2 fi c (T : Int) n 2 a v = some (2, 3, v, (T : Int)) := by
            rw [tt2, tf2 p0 fi (T : Int) v v0 v9, if_neg hvc]; rfl
          have e1 := JE_end (o' := (false, 2, a, 3, v, c, (T : Int), n, 2, a, v)) (by
            show zg_X1_understand_31 mk len B i3 0 (-1) 2 fi c (T : Int) nx kd pl va = _
            rw [un31 (by omega) (by omega) ht hr (by decide) (by dsimp only; decide) hc0]
            rfl) hx
          have e2 := JE_end (o' := (false, 2, a, n, v, 2, a, w, ln, lf, (c : Int), (T : Int), nf, ls, gr)) (by
            show zg_X11_readCut_107 len B many j2 j3 j4 2 a n v 0 (-1) w ln lf (c : Int) (T : Int) nf ls gr = _
            unfold zg_X11_readCut_107 zf_X11_readCorner zf_X11_in
            rw [if_neg (by decide), if_neg (by decide), if_neg (by decide), if_pos rfl, if_neg (by unfold zout; omega), if_neg (by decide), if_neg (by omega), if_neg (by unfold zout; omega), if_pos (by omega)]
            rfl) hy
          subst e1 e2
          exact ⟨rfl, rfl, rfl, rfl, rfl, fun z => by cases z⟩
      · exact bad1 (by decide) (by decide) (by decide) (by decide) (by decide) (by decide)
      · exact bad1 (by decide) (by decide) (by decide) (by decide) (by decide) (by decide)
end

section
/-! rows without an end: both sides hold the same array -/
theorem jrun_congr {S O : Type} {g g' : S → Option (O ⊕ S)} (Inv : S → Prop) (h : ∀ s, Inv s → g s = g' s) (hk : ∀ s s', Inv s → g s = some (.inr s') → Inv s') : ∀ (n : Nat) (s : S), Inv s → jrun g n s = jrun g' n s := by
  intro n
  induction n with
  | zero => intro s _; rfl
  | succ n ih =>
    intro s hs
    rw [jrun_s, jrun_s, ← h s hs]
    cases e : g s with
    | none => rfl
    | some r =>
      cases r with
      | inl o => rfl
      | inr s' => exact ih s' (hk s s' hs e)
theorem xor_pos {i s : Int} (hi : 0 ≤ i) (hi' : i ≤ 1000) (hs : 0 ≤ s) (hs' : s ≤ 1000) : 0 ≤ zxor i s := by
  unfold zxor
  have h1 : zu i < 2 ^ 10 := by unfold zu; omega
  have h2 : zu s < 2 ^ 10 := by unfold zu; omega
  have h := Nat.xor_lt_two_pow h1 h2
  unfold zs
  rw [if_pos (by omega)]
  omega
theorem wrap_e {s i : Int} (s1 : 1 ≤ s) (s10 : s ≤ 10) (i0 : 0 ≤ i) (i9 : i ≤ 1000) : zf_X2_wrapped s i = some (Int.tmod i s) := by
  unfold zf_X2_wrapped
  rw [if_neg (by unfold zout; omega), if_neg (by omega)]
  unfold zf_J9_floorMod_7cf53
  rw [if_neg (by unfold zout; omega), if_neg (by unfold zout; omega), if_neg (by omega), if_pos (xor_pos i0 i9 (by omega) (by omega))]
  rfl
theorem wrap_m {s : Int} (s1 : 2 ≤ s) (s10 : s ≤ 10) : zf_X2_wrapped s (-1) = some (s - 1) := by
  obtain ⟨o, ho, -, -, -, -, h⟩ := ok_X2_wrapped s (-1) (by omega) s10 (by decide) (by decide)
  rw [ho, h rfl]
theorem at_e {s i : Int} {P : Nat} (s1 : 1 ≤ s) (s10 : s ≤ 10) (i0 : 0 ≤ i) (i9 : i ≤ 1000) : zf_X2_at s P i = some (zget P (Int.toNat (Int.tmod i s))) := by
  have r := rtmod i0 (show 0 < s by omega)
  unfold zf_X2_at
  rw [wrap_e s1 s10 i0 i9]
  simp only [Option.bind_some]
  rw [if_neg (by omega)]
theorem in_e {v a b : Int} (hv : ¬ zout v) (ha : ¬ zout a) (hb : ¬ zout b) : zf_X11_in v a b = some (decide (a ≤ v ∧ v ≤ b)) := by
  unfold zf_X11_in
  rw [if_neg hv, if_neg ha]
  by_cases c : v < a
  · rw [if_pos c, decide_eq_false (by omega)]
  · rw [if_neg c, if_neg hb]
    by_cases d : b < v
    · rw [if_pos d, decide_eq_false (by omega)]
    · rw [if_neg d, decide_eq_true (by omega)]
theorem place_e {s i : Int} (hs : ¬ zout s) (hi : ¬ zout i) : zf_X2_hasPlace s i = some (decide (0 ≤ i ∧ i ≤ s - 1)) := by
  unfold zf_X2_hasPlace
  rw [if_neg hi]
  by_cases c : i < 0
  · rw [if_pos c, decide_eq_false (by omega)]
  · rw [if_neg c, if_neg hs]
    by_cases d : s ≤ i
    · rw [if_pos d, decide_eq_false (by omega)]
    · rw [if_neg d, decide_eq_true (by omega)]
/-- of -/
theorem eq_of (mk : Nat) {s i : Int} {P : Nat} (s1 : 1 ≤ s) (s10 : s ≤ 10) (hi : ¬ zout i) : zf_X10_of mk s P i = zf_X11_of s P i := by
  unfold zf_X10_of zf_X11_of
  rw [place_e (by unfold zout; omega) hi, in_e hi (by decide) (by unfold zout; omega)]
  simp only [Option.bind_some]
  by_cases c : 0 ≤ i ∧ i ≤ s - 1
  · rw [decide_eq_true c, if_neg (by decide), if_neg (by decide), at_e s1 s10 (by omega) (by omega), if_neg (by omega), Int.tmod_eq_of_lt (by omega) (by omega)]
    rfl
  · rw [decide_eq_false c, if_pos rfl, if_pos rfl]
/-- entries along a row -/
theorem eq_ent {s : Int} {P : Nat} (s1 : 1 ≤ s) (s10 : s ≤ 10) (hP : ∀ k : Nat, k < 10 → 0 ≤ zget P k ∧ zget P k ≤ 20) {i len : Int} (i0 : 0 ≤ i) (i9 : i ≤ 100) (l0 : 0 ≤ len) (l9 : len ≤ 12) : zf_X2_entryAt s P i len = zf_X11_alongOf s P i len := by
  unfold zf_X2_entryAt zf_X11_alongOf
  refine jrun_congr (fun (st : zS_X2_entryAt) => match st with | (lab, a, l, i3, i5, i7) => a = i ∧ l = len ∧ (lab = 0 ∨ (lab = 14 ∧ 1 ≤ i7 ∧ i7 ≤ 100 ∧ 0 < l))) ?_ ?_ jfuel _ ⟨rfl, rfl, Or.inl rfl⟩
  · intro st h
    obtain ⟨lab, a, l, i3, i5, i7⟩ := st
    obtain ⟨rfl, rfl, h⟩ := h
    rcases h with rfl | ⟨rfl, h1, h2, h3⟩
    · show zg_X2_entryAt_0 s P a l i3 i5 i7 = zg_X11_alongOf_0 s P a l i3 i5 i7
      unfold zg_X2_entryAt_0 zg_X11_alongOf_0
      have zl : ¬ zout l := by unfold zout; omega
      rw [if_neg zl, if_neg zl]
      by_cases c : l = 0
      · rw [if_neg (by omega), if_pos c]
      · rw [if_pos (by omega), if_neg c]
    · show zg_X2_entryAt_14 s P a l i3 i5 i7 = zg_X11_alongOf_14 s P a l i3 i5 i7
      unfold zg_X2_entryAt_14 zg_X11_alongOf_14
      have r := rtmod (show 0 ≤ a + i7 by omega) (show 0 < s by omega)
      have hp := hP (Int.toNat (Int.tmod (a + i7) s)) (by omega)
      rw [if_neg (by unfold zout; omega), if_neg (by unfold zout; omega), if_neg (show ¬ zout i7 by unfold zout; omega), if_neg (show ¬ zout l by unfold zout; omega)]
      by_cases c : l ≤ i7
      · rw [if_pos c, if_pos c]
      · rw [if_neg c, if_neg (by omega), if_neg c, at_e s1 s10 (by omega) (by omega), if_neg (by unfold zout; omega), if_neg (by unfold zout; omega), if_neg (by omega), if_neg (by omega)]
        simp only [Option.bind_some]
        rw [if_neg (by unfold zout; omega)]
  · intro st st' h e
    obtain ⟨lab, a, l, i3, i5, i7⟩ := st
    obtain ⟨rfl, rfl, h⟩ := h
    rcases h with rfl | ⟨rfl, h1, h2, h3⟩
    · replace e : zg_X2_entryAt_0 s P a l i3 i5 i7 = some (.inr st') := e
      unfold zg_X2_entryAt_0 at e
      rw [if_neg (by unfold zout; omega)] at e
      by_cases c : 0 < l
      · rw [if_pos c] at e
        cases e
        exact ⟨rfl, rfl, Or.inr ⟨rfl, by show (1 : Int) ≤ 1; decide, by show (1 : Int) ≤ 100; decide, c⟩⟩
      · rw [if_neg c] at e
        cases e
    · replace e : zg_X2_entryAt_14 s P a l i3 i5 i7 = some (.inr st') := e
      unfold zg_X2_entryAt_14 at e
      have r := rtmod (show 0 ≤ a + i7 by omega) (show 0 < s by omega)
      have hp := hP (Int.toNat (Int.tmod (a + i7) s)) (by omega)
      rw [if_neg (show ¬ zout i7 by unfold zout; omega), if_neg (show ¬ zout l by unfold zout; omega)] at e
      by_cases c : l ≤ i7
      · rw [if_pos c] at e
        cases e
      · rw [if_neg c, if_neg (by omega), at_e s1 s10 (by omega) (by omega)] at e
        simp only [Option.bind_some] at e
        rw [if_neg (by unfold zout; omega)] at e
        cases e
        exact ⟨rfl, rfl, Or.inr ⟨rfl, by show 1 ≤ i7 + 1; omega, by show i7 + 1 ≤ 100; omega, h3⟩⟩
/-- along -/
theorem eq_along (mk : Nat) {s i len : Int} {P : Nat} (s1 : 1 ≤ s) (s10 : s ≤ 10) (hP : ∀ k : Nat, k < 10 → 0 ≤ zget P k ∧ zget P k ≤ 20) (hi : ¬ zout i) (hl : ¬ zout len) : zf_X10_along mk s P i len = zf_X11_along s P i len := by
  unfold zf_X10_along zf_X11_along
  rw [place_e (by unfold zout; omega) hi, in_e hi (by decide) (by unfold zout; omega), in_e hl (by decide) (by decide)]
  simp only [Option.bind_some]
  by_cases c : 0 ≤ i ∧ i ≤ s - 1
  · rw [decide_eq_true c, if_neg (show ¬ true = false by decide), if_neg (show ¬ true = false by decide), if_neg hl]
    by_cases d : 0 ≤ len ∧ len ≤ 12
    · rw [decide_eq_true d, if_neg (by omega), if_pos (by omega), if_neg (by decide), eq_ent s1 s10 hP (by omega) (by omega) (by omega) (by omega)]
    · rw [decide_eq_false d, if_pos rfl]
      by_cases e : len < 0
      · rw [if_pos e]
      · rw [if_neg e, if_neg (by omega)]
  · rw [decide_eq_false c, if_pos rfl, if_pos rfl]
theorem ent0 (s : Int) (P : Nat) (i : Int) : zf_X2_entryAt s P i 0 = some 0 := jrun_le (n := 1) rfl (by decide)
theorem aln0 (s : Int) (P : Nat) (i : Int) : zf_X11_alongOf s P i 0 = some 0 := jrun_le (n := 1) rfl (by decide)
/-- growth -/
theorem eq_growth (mk : Nat) {s : Int} {P : Nat} (s1 : 1 ≤ s) (s10 : s ≤ 10) (hP : ∀ k : Nat, k < 10 → 0 ≤ zget P k ∧ zget P k ≤ 20) (hP' : ∀ k : Nat, k < 11 → 0 ≤ zget P k ∧ zget P k ≤ 20) : zf_X10_growth mk s P = zf_X11_growth s P := by
  unfold zf_X10_growth zf_X11_growth zf_X2_growthOfRound
  rw [eq_ent s1 s10 hP (Int.le_refl 0) (by decide) (by omega) (by omega)]
  obtain ⟨o, ho, -⟩ := ok_X11_alongOf s P 0 (s + 1) s1 s10 hP' (Int.le_refl 0) (by decide) (by omega) (by omega)
  rw [ho]
  simp only [Option.bind_some]
  rw [if_neg (by unfold zout; omega), if_neg (by omega)]
  by_cases c : s = 1
  · subst c
    rw [show (1 : Int) - 1 = 0 by decide, show Int.tmod 1 1 = 0 by decide, ent0, aln0]
    rfl
  · rw [Int.tmod_eq_of_lt (by decide) (by omega), eq_ent s1 s10 hP (by decide) (by decide) (by omega) (by omega)]
    cases zf_X11_alongOf s P 1 (s - 1) <;> rfl
end

section
/-! rows of a cut: how many triangles meet at each corner, both sides -/
noncomputable def rowN (m : Nat) (b : Int) (i : Nat) (k : Nat) : Int := Nat.rec 1 (fun k ih => match decide (0 ≤ zget (pg3 m) (9 * i + k)) && nearB m b i k with
  | true => ih + 1
  | false => ih) k
theorem rowN_t {m : Nat} {b : Int} {i k : Nat} (h1 : 0 ≤ zget (pg3 m) (9 * i + k)) (h2 : nearB m b i k = true) : rowN m b i (k + 1) = rowN m b i k + 1 := by
  show (match decide (0 ≤ zget (pg3 m) (9 * i + k)) && nearB m b i k with
    | true => rowN m b i k + 1
    | false => rowN m b i k) = _
  rw [decide_eq_true h1, h2]
  rfl
theorem rowN_f {m : Nat} {b : Int} {i k : Nat} (h : ¬ (0 ≤ zget (pg3 m) (9 * i + k) ∧ nearB m b i k = true)) : rowN m b i (k + 1) = rowN m b i k := by
  show (match decide (0 ≤ zget (pg3 m) (9 * i + k)) && nearB m b i k with
    | true => rowN m b i k + 1
    | false => rowN m b i k) = _
  by_cases h1 : 0 ≤ zget (pg3 m) (9 * i + k)
  · cases e : nearB m b i k with
    | true => exact absurd ⟨h1, e⟩ h
    | false => rw [Bool.and_false]
  · rw [decide_eq_false h1]
    rfl
theorem e_rowAt {m nf : Nat} (h4 : 4 ≤ m) (h9 : m ≤ 9) (h : LN m nf m 0) (b : Int) {i : Int} (i0 : 0 ≤ i) (i1 : i < (m : Int)) : zf_X11_rowAt nf (m : Int) b i = some (rowN m b i.toNat m) := by
  have run : ∀ d k : Nat, k + d = m → JE (zg_X11_rowAt nf) (6, (m : Int), b, i, rowN m b i.toNat k, (k : Int)) (rowN m b i.toNat m) := by
    intro d
    induction d with
    | zero =>
      intro k hk
      have hk : k = m := by omega
      subst hk
      refine JE_in ?_
      show zg_X11_rowAt_6 nf (k : Int) b i (rowN k b i.toNat k) (k : Int) = _
      unfold zg_X11_rowAt_6
      rw [if_neg (by unfold zout; omega), if_neg (by unfold zout; omega), if_pos (Int.le_refl _)]
    | succ d ih =>
      intro k hk
      have hl : zf_X11_isLine (m : Int) i (k : Int) = some (decide (0 ≤ zget (pg3 m) (9 * i.toNat + k))) := by
        have := isLine_c (c := m) h4 h9 i0 i1 (show 0 ≤ (k : Int) by omega) (by omega)
        unfold lnO at this
        rw [Int.toNat_natCast] at this
        exact this
      have hn : zf_X11_near nf (m : Int) b i (k : Int) = some (nearB m b i.toNat k) := by
        have := near_eq h4 h9 h b i0 i1 (show 0 ≤ (k : Int) by omega) (by omega)
        rw [Int.toNat_natCast] at this
        exact this
      have ih := ih (k + 1) (by omega)
      rw [show (((k + 1 : Nat) : Nat) : Int) = (k : Int) + 1 by omega] at ih
      by_cases c1 : 0 ≤ zget (pg3 m) (9 * i.toNat + k)
      · cases c2 : nearB m b i.toNat k with
        | true =>
          rw [rowN_t c1 c2] at ih
          refine JE_up ?_ ih
          show zg_X11_rowAt_6 nf (m : Int) b i (rowN m b i.toNat k) (k : Int) = _
          unfold zg_X11_rowAt_6
          rw [if_neg (by unfold zout; omega), if_neg (by unfold zout; omega), if_neg (by omega), hl, hn, c2, decide_eq_true c1]
          rfl
        | false =>
          rw [rowN_f (by rw [c2]; exact fun q => by cases q.2)] at ih
          refine JE_up ?_ ih
          show zg_X11_rowAt_6 nf (m : Int) b i (rowN m b i.toNat k) (k : Int) = _
          unfold zg_X11_rowAt_6
          rw [if_neg (by unfold zout; omega), if_neg (by unfold zout; omega), if_neg (by omega), hl, hn, c2, decide_eq_true c1]
          show some (Sum.inr (6, (m : Int), b, i, rowN m b i.toNat k + 0, (k : Int) + 1)) = _
          rw [Int.add_zero]
      · rw [rowN_f (fun q => c1 q.1)] at ih
        refine JE_up ?_ ih
        show zg_X11_rowAt_6 nf (m : Int) b i (rowN m b i.toNat k) (k : Int) = _
        unfold zg_X11_rowAt_6
        rw [if_neg (by unfold zout; omega), if_neg (by unfold zout; omega), if_neg (by omega), hl, decide_eq_false c1]
        show some (Sum.inr (6, (m : Int), b, i, rowN m b i.toNat k + 0, (k : Int) + 1)) = _
        rw [Int.add_zero]
  obtain ⟨o, ho, -⟩ := ok_X11_rowAt nf (m : Int) b i (by omega) (by omega) i0 i1
  have e := JE_det (JE_of ho) (JE_up (s' := (6, (m : Int), b, i, 1, 0)) rfl (run m 0 (by omega)))
  rw [ho, e]
noncomputable def rowF (m T i : Nat) (k : Nat) : Nat := Nat.rec (motive := fun _ => Nat) 1 (fun k ih => frN (bt m i k) (fun B => match Nat.beq B 0 with
  | true => ih
  | false => match Nat.beq (T &&& B) B with
    | true => ih + 1
    | false => ih)) k
theorem rowF_e {m T i : Nat} (h4 : 4 ≤ m) (h9 : m ≤ 9) (hT : T < 134217728) (hi : i < m) : ∀ k : Nat, k ≤ m → rowN m (T : Int) i k = ((rowF m T i k : Nat) : Int) := by
  intro k
  induction k with
  | zero => intro _; rfl
  | succ k ih =>
    intro hk
    have ih := ih (by omega)
    have e : rowF m T i (k + 1) = (match Nat.beq (bt m i k) 0 with
      | true => rowF m T i k
      | false => match Nat.beq (T &&& bt m i k) (bt m i k) with
        | true => rowF m T i k + 1
        | false => rowF m T i k) := by
      show frN (bt m i k) (fun B => match Nat.beq B 0 with
        | true => rowF m T i k
        | false => match Nat.beq (T &&& B) B with
          | true => rowF m T i k + 1
          | false => rowF m T i k) = _
      rw [frN_e]
    rw [e]
    by_cases q : zget (pg3 m) (9 * i + k) < 0
    · have b0 : bt m i k = 0 := by
        unfold bt
        rw [decide_eq_true q]
      rw [b0, rowN_f (fun h => absurd h.1 (by omega))]
      exact ih
    · have hik : ¬ i = k := by
        intro z
        subst z
        exact q (of_decide_eq_true (allF_at (diag_tab m h4 h9) (m := i) (by omega)) (by omega))
      have b1 : bt m i k = 2 ^ (zget (pg3 m) (9 * i + k)).toNat := by
        unfold bt
        rw [decide_eq_false q]
      have nz : Nat.beq (bt m i k) 0 = false := beqF (by
        rw [b1]
        have := Nat.two_pow_pos (zget (pg3 m) (9 * i + k)).toNat
        omega)
      have nb := near_b h4 h9 hT (show i < 9 by omega) (show k < 9 by omega) hik
      rw [nz]
      cases c : Nat.beq (T &&& bt m i k) (bt m i k) with
      | true =>
        rw [c] at nb
        rw [rowN_t (by omega) nb, ih]
        show ((rowF m T i k : Nat) : Int) + 1 = ((rowF m T i k + 1 : Nat) : Int)
        omega
      | false =>
        rw [c] at nb
        rw [rowN_f (fun h => by rw [nb] at h; exact absurd h.2 (by decide))]
        exact ih
noncomputable def rowK (m k : Nat) : Bool := frN (zslot (pg6 m) k) (fun T => frN (sE m k) (fun E => allF (fun i => Nat.ble m i || Nat.beq (rowF m T i m) (tE m E i)) 0 9))
theorem row_tab : ∀ m : Nat, 4 ≤ m → m ≤ 9 → allF (fun k => rowK m k) 0 (pg8 m).toNat = true := pg_cases (by decide +kernel) (by decide +kernel) (by decide +kernel) (by decide +kernel) (by decide +kernel) (by decide +kernel)
theorem e_tri {m : Nat} (h4 : 4 ≤ m) (h9 : m ≤ 9) {b : Int} (hb : isCut m b) {i : Int} (i0 : 0 ≤ i) (i1 : i < (m : Int)) : zf_X5_trianglesAt m b i = some (rowN m b i.toNat m) := by
  obtain ⟨k, hk, rfl⟩ := hb
  obtain ⟨ec, hT⟩ := cut_n h4 h9 hk
  have t := allF_at (row_tab m h4 h9) (m := k) (by omega)
  replace t : rowK m k = true := t
  unfold rowK at t
  rw [frN_e, frN_e] at t
  have q := allF_at t (m := i.toNat) (by omega)
  replace q : (Nat.ble m i.toNat || Nat.beq (rowF m (zslot (pg6 m) k) i.toNat m) (tE m (sE m k) i.toNat)) = true := q
  have q := beqE (orF q (bleF (by omega)))
  have c := (ck_at h4 h9 hk (show i.toNat < m by omega)).2
  rw [show ((i.toNat : Nat) : Int) = i by omega] at c
  have r := rowF_e h4 h9 hT (show i.toNat < m by omega) m (Nat.le_refl m)
  rw [← ec] at r
  rw [c, r, q]
/-- how far a row is from a cut -/
noncomputable def difN (m : Nat) (b : Int) (q : Nat) (k : Nat) : Int := Nat.rec 0 (fun k ih => ih + zabs (zget q k - rowN m b k m)) k
theorem difN_s (m : Nat) (b : Int) (q k : Nat) : difN m b q (k + 1) = difN m b q k + zabs (zget q k - rowN m b k m) := rfl
theorem difN_c {m : Nat} {b : Int} {q t : Nat} : ∀ k : Nat, (∀ j : Nat, j < k → zget q j = zget t j) → difN m b q k = difN m b t k := by
  intro k
  induction k with
  | zero => intro _; rfl
  | succ k ih => intro h; rw [difN_s, difN_s, ih (fun j hj => h j (by omega)), h k (by omega)]
theorem e_dif {m : Nat} (h4 : 4 ≤ m) (h9 : m ≤ 9) {b : Int} (hb : isCut m b) {q : Nat} (hq : ∀ k : Nat, k < 10 → 0 ≤ zget q k ∧ zget q k ≤ 999) : zf_X5_differenceFrom m q b = some (difN m b q m) := by
  have run : ∀ d k : Nat, k + d = m → JE (zg_X5_differenceFrom m q) (5, b, difN m b q k, (k : Int)) (difN m b q m) := by
    intro d
    induction d with
    | zero =>
      intro k hk
      have hk : k = m := by omega
      subst hk
      refine JE_in ?_
      show zg_X5_differenceFrom_5 k q b (difN k b q k) (k : Int) = _
      unfold zg_X5_differenceFrom_5
      rw [if_neg (by unfold zout; omega), if_neg (by unfold zout; omega), if_pos (Int.le_refl _)]
    | succ d ih =>
      intro k hk
      have ih := ih (k + 1) (by omega)
      rw [show (((k + 1 : Nat) : Nat) : Int) = (k : Int) + 1 by omega, difN_s] at ih
      have ht := e_tri h4 h9 hb (i := (k : Int)) (by omega) (by omega)
      rw [Int.toNat_natCast] at ht
      obtain ⟨o, ho, h0, h64, -⟩ := ok_X5_trianglesAt m b (k : Int) h4 h9 (by omega) (by omega)
      rw [ht] at ho
      cases ho
      have hqk := hq k (by omega)
      refine JE_up ?_ ih
      show zg_X5_differenceFrom_5 m q b (difN m b q k) (k : Int) = _
      unfold zg_X5_differenceFrom_5
      rw [if_neg (by unfold zout; omega), if_neg (by unfold zout; omega), if_neg (by omega), if_neg (by omega), if_neg (by omega), ht]
      simp only [Option.bind_some]
      rw [Int.toNat_natCast, if_neg (by unfold zout; omega)]
  obtain ⟨o, ho, -⟩ := ok_X5_differenceFrom m q b h4 h9 hq
  have e := JE_det (JE_of ho) (JE_up (s' := (5, b, 0, 0)) rfl (run m 0 (by omega)))
  rw [ho, e]
theorem e_apart {m : Nat} (h4 : 4 ≤ m) (h9 : m ≤ 9) {nf : Nat} (h : LN m nf m 0) {b : Int} {q : Nat} (hq : ∀ k : Nat, k < 10 → 0 ≤ zget q k ∧ zget q k ≤ 999) : zf_X11_apart (m : Int) nf q b = some (difN m b q m) := by
  have run : ∀ d k : Nat, k + d = m → JE (zg_X11_apart (m : Int) nf q) (5, b, difN m b q k, (k : Int)) (difN m b q m) := by
    intro d
    induction d with
    | zero =>
      intro k hk
      have hk : k = m := by omega
      subst hk
      refine JE_in ?_
      show zg_X11_apart_5 (k : Int) nf q b (difN k b q k) (k : Int) = _
      unfold zg_X11_apart_5
      rw [if_neg (by unfold zout; omega), if_neg (by unfold zout; omega), if_pos (Int.le_refl _)]
    | succ d ih =>
      intro k hk
      have ih := ih (k + 1) (by omega)
      rw [show (((k + 1 : Nat) : Nat) : Int) = (k : Int) + 1 by omega, difN_s] at ih
      have ht := e_rowAt h4 h9 h b (i := (k : Int)) (by omega) (by omega)
      rw [Int.toNat_natCast] at ht
      obtain ⟨o, ho, h1, h10⟩ := ok_X11_rowAt nf (m : Int) b (k : Int) (by omega) (by omega) (by omega) (by omega)
      rw [ht] at ho
      cases ho
      have hqk := hq k (by omega)
      refine JE_up ?_ ih
      show zg_X11_apart_5 (m : Int) nf q b (difN m b q k) (k : Int) = _
      unfold zg_X11_apart_5
      rw [if_neg (by unfold zout; omega), if_neg (by unfold zout; omega), if_neg (by omega), ht]
      simp only [Option.bind_some]
      rw [if_neg (by omega), Int.toNat_natCast, if_neg (by unfold zout; omega)]
      unfold zabs
      by_cases c : 0 ≤ rowN m b k m - zget q k
      · rw [if_pos c]
        by_cases c2 : 0 ≤ zget q k - rowN m b k m
        · rw [if_pos c2, show rowN m b k m - zget q k = zget q k - rowN m b k m by omega]
        · rw [if_neg c2, show rowN m b k m - zget q k = 0 - (zget q k - rowN m b k m) by omega]
      · rw [if_neg c, if_pos (by omega), show -(rowN m b k m - zget q k) = zget q k - rowN m b k m by omega]
  obtain ⟨o, ho, -⟩ := ok_X11_apart (m : Int) nf q b (by omega) (by omega) hq
  have e := JE_det (JE_of ho) (JE_up (s' := (5, b, 0, 0)) rfl (run m 0 (by omega)))
  rw [ho, e]
end

section
/-! the nearest cut, both sides: the first of those that differ least -/
theorem zabs_0 (x : Int) : 0 ≤ zabs x := by unfold zabs; split <;> omega
theorem difN_0 (m : Nat) (b : Int) (q : Nat) : ∀ k : Nat, 0 ≤ difN m b q k := by
  intro k
  induction k with
  | zero => exact Int.le_refl 0
  | succ k ih => rw [difN_s]; have := zabs_0 (zget q k - rowN m b k m); omega
noncomputable def dfc (m q k : Nat) : Int := difN m (zget (pg6 m) k) q m
def FM (m q : Nat) (o : Int) : Prop := 0 ≤ o ∧ o < pg8 m ∧ (∀ j : Nat, (j : Int) < pg8 m → dfc m q o.toNat ≤ dfc m q j) ∧ (∀ j : Nat, (j : Int) < o → dfc m q o.toNat < dfc m q j)
theorem FM_u {m q : Nat} {a b : Int} (ha : FM m q a) (hb : FM m q b) : a = b := by
  obtain ⟨a0, a1, a2, a3⟩ := ha
  obtain ⟨b0, b1, b2, b3⟩ := hb
  by_cases c : a < b
  · have x := b3 a.toNat (by omega)
    have y := a2 b.toNat (by omega)
    omega
  · by_cases d : b < a
    · have x := a3 b.toNat (by omega)
      have y := b2 a.toNat (by omega)
      omega
    · omega
theorem FM_c {m q t : Nat} {a : Int} (h : FM m q a) (hqt : ∀ j : Nat, j < m → zget q j = zget t j) : FM m t a := by
  have e : ∀ k, dfc m q k = dfc m t k := fun k => difN_c m hqt
  obtain ⟨a0, a1, a2, a3⟩ := h
  refine ⟨a0, a1, fun j hj => ?_, fun j hj => ?_⟩
  · rw [← e, ← e]; exact a2 j hj
  · rw [← e, ← e]; exact a3 j hj
def nrI (m q : Nat) (best least k : Int) : Prop := 0 ≤ best ∧ best < k ∧ 1 ≤ k ∧ k ≤ pg8 m ∧ least = dfc m q best.toNat ∧ (∀ j : Nat, (j : Int) < k → least ≤ dfc m q j) ∧ (∀ j : Nat, (j : Int) < best → least < dfc m q j)
theorem nrI_end {m q : Nat} {best least k : Int} (h : nrI m q best least k) (hk : pg8 m ≤ k) : FM m q best := by
  obtain ⟨h0, h1, h2, h3, rfl, h5, h6⟩ := h
  exact ⟨h0, by omega, fun j hj => h5 j (by omega), h6⟩
theorem nrI_zero {m q : Nat} {best least k : Int} (h : nrI m q best least k) (hk : least ≤ 0) : FM m q best := by
  obtain ⟨h0, h1, h2, h3, rfl, h5, h6⟩ := h
  refine ⟨h0, by omega, fun j hj => ?_, h6⟩
  have := difN_0 m (zget (pg6 m) j) q m
  unfold dfc
  unfold dfc at hk
  omega
theorem nrI_keep {m q : Nat} {best least k : Int} (h : nrI m q best least k) (hk : k < pg8 m) (hd : least ≤ dfc m q k.toNat) : nrI m q best least (k + 1) := by
  obtain ⟨h0, h1, h2, h3, h4, h5, h6⟩ := h
  refine ⟨h0, by omega, by omega, by omega, h4, fun j hj => ?_, h6⟩
  by_cases e : (j : Int) = k
  · rw [show j = k.toNat by omega]; exact hd
  · exact h5 j (by omega)
theorem nrI_new {m q : Nat} {best least k : Int} (h : nrI m q best least k) (hk : k < pg8 m) (hd : dfc m q k.toNat < least) : nrI m q k (dfc m q k.toNat) (k + 1) := by
  obtain ⟨h0, h1, h2, h3, h4, h5, h6⟩ := h
  refine ⟨by omega, by omega, by omega, by omega, rfl, fun j hj => ?_, fun j hj => ?_⟩
  · by_cases e : (j : Int) = k
    · rw [show j = k.toNat by omega]; exact Int.le_refl _
    · have := h5 j (by omega); omega
  · have := h5 j hj; omega
theorem nrI_0 {m q : Nat} (h4 : 4 ≤ m) (h9 : m ≤ 9) : nrI m q 0 (dfc m q 0) 1 := by
  have r8 := rpg8 h4 h9
  refine ⟨Int.le_refl 0, by decide, by decide, by omega, rfl, fun j hj => ?_, fun j hj => absurd hj (by omega)⟩
  rw [show j = 0 by omega]
  exact Int.le_refl _
theorem cutAt_e {m : Nat} (h4 : 4 ≤ m) (h9 : m ≤ 9) {k : Int} (k0 : 0 ≤ k) (k1 : k < pg8 m) : zf_X5_cutAt m k = some (zget (pg6 m) k.toNat) := by
  have r8 := rpg8 h4 h9
  unfold zf_X5_cutAt zf_X5_hasCut
  rw [if_neg (by unfold zout; omega), if_neg (by omega), if_neg (by unfold zout; omega), if_neg (by omega)]
  simp only [Option.bind_some]
  rw [if_neg (by decide), if_neg (by omega)]
theorem pg6_cut {m k : Nat} (hk : (k : Int) < pg8 m) : isCut m (zget (pg6 m) k) := ⟨k, hk, rfl⟩
theorem e_nearX {m : Nat} (h4 : 4 ≤ m) (h9 : m ≤ 9) {q : Nat} (hq : ∀ k : Nat, k < 10 → 0 ≤ zget q k ∧ zget q k ≤ 999) : Go (fun o => FM m q o) (zf_X5_nearestTo m q) := by
  have r8 := rpg8 h4 h9
  have dr : ∀ k : Nat, (k : Int) < pg8 m → zf_X5_differenceFrom m q (zget (pg6 m) k) = some (dfc m q k) ∧ 0 ≤ dfc m q k ∧ dfc m q k ≤ 20000 := by
    intro k hk
    have e := e_dif h4 h9 (pg6_cut hk) hq
    obtain ⟨o, ho, h1, h2⟩ := ok_X5_differenceFrom m q (zget (pg6 m) k) h4 h9 hq
    rw [e] at ho
    cases ho
    exact ⟨e, h1, h2⟩
  refine jok (fun (s : zS_X5_nearestTo) => match s with | (lab, best, least, k) => lab = 0 ∨ (lab = 16 ∧ nrI m q best least k)) (fun (s : zS_X5_nearestTo) => match s with | (lab, best, least, k) => if lab = 0 then 1000 else (pg8 m - k).toNat) _ ?_ _ ?_ ?_
  · intro s hI
    obtain ⟨lab, best, least, k⟩ := s
    rcases hI with rfl | ⟨rfl, hI⟩
    · show Go _ (zg_X5_nearestTo_0 m q best least k)
      unfold zg_X5_nearestTo_0
      rw [cutAt_e h4 h9 (Int.le_refl 0) (by omega)]
      simp only [Option.bind_some]
      rw [show Int.toNat 0 = 0 from rfl, (dr 0 (by omega)).1]
      simp only [Option.bind_some]
      refine Go_i ⟨Or.inr ⟨rfl, nrI_0 h4 h9⟩, ?_⟩
      show (if (16 : Nat) = 0 then 1000 else (pg8 m - 1).toNat) < (if (0 : Nat) = 0 then 1000 else (pg8 m - k).toNat)
      rw [if_neg (by decide), if_pos rfl]
      omega
    · show Go _ (zg_X5_nearestTo_16 m q best least k)
      unfold zg_X5_nearestTo_16
      have hI' := hI
      obtain ⟨h0, h1, h2, h3, h4', h5, h6⟩ := hI'
      have dk := dr best.toNat (by omega)
      refine Go_chk (by unfold zout; omega) ?_
      refine Go_chk (by unfold zout; omega) ?_
      refine Go_ite (fun c => ?_) (fun c => ?_)
      · exact Go_i (nrI_end hI c)
      refine Go_chk (by rw [h4']; unfold zout; omega) ?_
      refine Go_ite (fun c1 => ?_) (fun c1 => ?_)
      · exact Go_i (nrI_zero hI c1)
      refine Go_chk (by omega) ?_
      have d := dr k.toNat (by omega)
      rw [d.1]
      simp only [Option.bind_some]
      refine Go_chk (by unfold zout; omega) ?_
      refine Go_ite (fun c2 => ?_) (fun c2 => ?_)
      · refine Go_i ⟨Or.inr ⟨rfl, nrI_keep hI (by omega) c2⟩, ?_⟩
        show (if (16 : Nat) = 0 then 1000 else (pg8 m - (k + 1)).toNat) < (if (16 : Nat) = 0 then 1000 else (pg8 m - k).toNat)
        rw [if_neg (by decide), if_neg (by decide)]
        omega
      · refine Go_i ⟨Or.inr ⟨rfl, nrI_new (best := best) (least := least) (k := k) hI (by omega) (by omega)⟩, ?_⟩
        show (if (16 : Nat) = 0 then 1000 else (pg8 m - (k + 1)).toNat) < (if (16 : Nat) = 0 then 1000 else (pg8 m - k).toNat)
        rw [if_neg (by decide), if_neg (by decide)]
        omega
  · exact Or.inl rfl
  · show (if (0 : Nat) = 0 then 1000 else (pg8 m - 0).toNat) < jfuel
    rw [if_pos rfl]
    unfold jfuel
    decide
theorem e_nearY {m : Nat} (h4 : 4 ≤ m) (h9 : m ≤ 9) {ln lf lm lc : Int} {nf ls gr li q : Nat} (hT : TL lf ln nf ls gr) (hK : LK lc lm li) (hq : ∀ k : Nat, k < 10 → 0 ≤ zget q k ∧ zget q k ≤ 999) : Go (fun (o : zO_X11_nearest) => FM m q o.1) (zf_X11_nearest (m : Int) ln lf lm lc nf ls gr li q) := by
  have r8 := rpg8 h4 h9
  have dr : ∀ (nf : Nat), LN m nf m 0 → ∀ k : Nat, (k : Int) < pg8 m → zf_X11_apart (m : Int) nf q (zget (pg6 m) k) = some (dfc m q k) ∧ 0 ≤ dfc m q k ∧ dfc m q k ≤ 20000 := by
    intro nf hn k hk
    have e := e_apart (b := zget (pg6 m) k) h4 h9 hn hq
    obtain ⟨o, ho, h1, h2⟩ := ok_X11_apart (m : Int) nf q (zget (pg6 m) k) (by omega) (by omega) hq
    rw [e] at ho
    cases ho
    exact ⟨e, h1, h2⟩
  refine jok (fun (s : zS_X11_nearest) => match s with | (lab, best, least, k, ln, lf, lm, lc, nf, ls, gr, li) => (lab = 0 ∧ TL lf ln nf ls gr ∧ LK lc lm li) ∨ (lab = 23 ∧ nrI m q best least k ∧ LN m nf m 0 ∧ LI m lm li)) (fun (s : zS_X11_nearest) => match s with | (lab, best, least, k, ln, lf, lm, lc, nf, ls, gr, li) => if lab = 0 then 1000 else (pg8 m - k).toNat) _ ?_ _ ?_ ?_
  · intro s hI
    obtain ⟨lab, best, least, k, ln, lf, lm, lc, nf, ls, gr, li⟩ := s
    rcases hI with ⟨rfl, hT, hK⟩ | ⟨rfl, hI, hN, hL⟩
    · show Go _ (zg_X11_nearest_0 (m : Int) q best least k ln lf lm lc nf ls gr li)
      unfold zg_X11_nearest_0
      refine Go_bindP (oy_listFor ln lf lm lc nf ls gr li (m : Int) hT hK (by omega) (by omega)) (fun o1 z => ?_)
      obtain ⟨z0, z1, z2, z3, z4, z5, z6, z7, z8, z9⟩ := z
      have hN : LN m o1.2.2.2.2.1 m 0 := by have := z1.2.2.2.1; rw [Int.toNat_natCast] at this; exact this
      have hL : LI m o1.2.2.1 o1.2.2.2.2.2.2.2 := by have := z6.2.2; rw [Int.toNat_natCast] at this; exact this
      have d0 := dr _ hN 0 (by omega)
      rw [show Int.toNat (0 : Int) = 0 from rfl, hL.2 0 (by omega), d0.1]
      simp only [Option.bind_some]
      refine Go_i ⟨Or.inr ⟨rfl, nrI_0 h4 h9, hN, hL⟩, ?_⟩
      show (if (23 : Nat) = 0 then 1000 else (pg8 m - 1).toNat) < (if (0 : Nat) = 0 then 1000 else (pg8 m - k).toNat)
      rw [if_neg (by decide), if_pos rfl]
      omega
    · show Go _ (zg_X11_nearest_23 (m : Int) q best least k ln lf lm lc nf ls gr li)
      unfold zg_X11_nearest_23
      have hI' := hI
      obtain ⟨h0, h1, h2, h3, h4', h5, h6⟩ := hI'
      have dk := dr nf hN best.toNat (by omega)
      have hlm := hL.1
      refine Go_chk (by unfold zout; omega) ?_
      refine Go_chk (by unfold zout; omega) ?_
      refine Go_ite (fun c => ?_) (fun c => ?_)
      · exact Go_i (nrI_end hI (by omega))
      refine Go_chk (by omega) ?_
      have d := dr nf hN k.toNat (by omega)
      rw [hL.2 k.toNat (by omega), d.1]
      simp only [Option.bind_some]
      refine Go_chk (by unfold zout; omega) ?_
      refine Go_chk (by rw [h4']; unfold zout; omega) ?_
      refine Go_ite (fun c2 => ?_) (fun c2 => ?_)
      · refine Go_i ⟨Or.inr ⟨rfl, nrI_new (best := best) (least := least) (k := k) hI (by omega) c2, hN, hL⟩, ?_⟩
        show (if (23 : Nat) = 0 then 1000 else (pg8 m - (k + 1)).toNat) < (if (23 : Nat) = 0 then 1000 else (pg8 m - k).toNat)
        rw [if_neg (by decide), if_neg (by decide)]
        omega
      · refine Go_i ⟨Or.inr ⟨rfl, nrI_keep (best := best) (least := least) (k := k) hI (by omega) (by omega), hN, hL⟩, ?_⟩
        show (if (23 : Nat) = 0 then 1000 else (pg8 m - (k + 1)).toNat) < (if (23 : Nat) = 0 then 1000 else (pg8 m - k).toNat)
        rw [if_neg (by decide), if_neg (by decide)]
        omega
  · exact Or.inl ⟨rfl, hT, hK⟩
  · show (if (0 : Nat) = 0 then 1000 else (pg8 m - 0).toNat) < jfuel
    rw [if_pos rfl]
    unfold jfuel
    decide
end
