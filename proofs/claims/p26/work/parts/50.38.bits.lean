/-! bits -/
theorem zuL_n {T : Nat} (h : T < 134217728) : zuL (T : Int) = T := by unfold zuL; omega
theorem zu_n {T : Nat} (h : T < 134217728) : zu (T : Int) = T := by unfold zu; omega
theorem zsL_n {T : Nat} (h : T < 134217728) : zsL T = (T : Int) := by unfold zsL; rw [if_pos (by omega)]
theorem zs_n {T : Nat} (h : T < 134217728) : zs T = (T : Int) := by unfold zs; rw [if_pos (by omega)]
theorem tb_mod (T l : Nat) : T / 2 ^ l % 2 = (if T.testBit l = true then 1 else 0) := by
  rw [Nat.testBit_eq_decide_div_mod_eq]
  by_cases h : T / 2 ^ l % 2 = 1
  · rw [decide_eq_true h, if_pos rfl, h]
  · rw [decide_eq_false h, if_neg (by decide)]
    omega
theorem bitL {T l : Nat} (h : T < 134217728) (hl : l < 27) : zandL (zshrL (T : Int) (l : Int)) 1 = (if T.testBit l = true then 1 else 0) := by
  have e1 : zshrL (T : Int) (l : Int) = ((T / 2 ^ l : Nat) : Int) := by
    unfold zshrL
    rw [zwL_id (by unfold zoutL; omega), show zu (l : Int) % 64 = l by unfold zu; omega]
    exact (Int.natCast_ediv T (2 ^ l)).symm
  have h2 : T / 2 ^ l < 134217728 := Nat.lt_of_le_of_lt (Nat.div_le_self _ _) h
  have h3 : T / 2 ^ l % 2 < 2 := Nat.mod_lt _ (by decide)
  rw [e1]
  unfold zandL
  rw [zuL_n h2, show zuL 1 = 1 by decide, Nat.and_one_is_mod, zsL_n (by omega), tb_mod]
  split <;> rfl
theorem bitI {T l : Nat} (h : T < 134217728) (hl : l < 27) : zand (zshr (T : Int) (l : Int)) 1 = (if T.testBit l = true then 1 else 0) := by
  have e1 : zshr (T : Int) (l : Int) = ((T / 2 ^ l : Nat) : Int) := by
    unfold zshr
    rw [zw_id (by unfold zout; omega), show zu (l : Int) % 32 = l by unfold zu; omega]
    exact (Int.natCast_ediv T (2 ^ l)).symm
  have h2 : T / 2 ^ l < 134217728 := Nat.lt_of_le_of_lt (Nat.div_le_self _ _) h
  have h3 : T / 2 ^ l % 2 < 2 := Nat.mod_lt _ (by decide)
  rw [e1]
  unfold zand
  rw [zu_n h2, show zu 1 = 1 by decide, Nat.and_one_is_mod, zs_n (by omega), tb_mod]
  split <;> rfl
theorem p27 {l : Nat} (hl : l < 27) : 2 ^ l < 134217728 := by
  have : 2 ^ l ≤ 2 ^ 26 := Nat.pow_le_pow_right (by decide) (by omega)
  omega
theorem or27 {T l : Nat} (h : T < 134217728) (hl : l < 27) : T ||| 2 ^ l < 134217728 := Nat.or_lt_two_pow (n := 27) h (p27 hl)
theorem orL {T l : Nat} (h : T < 134217728) (hl : l < 27) : zorL (T : Int) (zshlL 1 (l : Int)) = ((T ||| 2 ^ l : Nat) : Int) := by
  have e1 : zshlL 1 (l : Int) = ((2 ^ l : Nat) : Int) := by
    have := p27 hl
    unfold zshlL
    rw [show zu (l : Int) % 64 = l by unfold zu; omega, show zuL 1 = 1 by decide, Nat.one_mul, Nat.mod_eq_of_lt (by omega), zsL_n this]
  rw [e1]
  unfold zorL
  rw [zuL_n h, zuL_n (p27 hl), zsL_n (or27 h hl)]
theorem orI {T l : Nat} (h : T < 134217728) (hl : l < 27) : zor (T : Int) (zshl 1 (l : Int)) = ((T ||| 2 ^ l : Nat) : Int) := by
  have e1 : zshl 1 (l : Int) = ((2 ^ l : Nat) : Int) := by
    have := p27 hl
    unfold zshl
    rw [show zu (l : Int) % 32 = l by unfold zu; omega, show zu 1 = 1 by decide, Nat.one_mul, Nat.mod_eq_of_lt (by omega), zs_n this]
  rw [e1]
  unfold zor
  rw [zu_n h, zu_n (p27 hl), zs_n (or27 h hl)]
noncomputable def lnN (m : Nat) : Nat := (pg7 m).toNat
noncomputable def crM (m a : Nat) : Nat := (zget (pg4 m) a).toNat
