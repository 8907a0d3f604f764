/-! whole numbers in the place of ints and longs -/
def zi (x : Int) : Int32 := Int32.ofInt x
abbrev zout (x : Int) : Prop := x < -2147483648 ∨ 2147483647 < x
def zs (n : Nat) : Int := if n < 2147483648 then (n : Int) else (n : Int) - 4294967296
def zu (x : Int) : Nat := (x % 4294967296).toNat
def zw (x : Int) : Int := zs (zu x)
theorem zi_add (x y : Int) : zi x + zi y = zi (x + y) := (Int32.ofInt_add x y).symm
theorem zi_sub (x y : Int) : zi x - zi y = zi (x - y) := (Int32.ofInt_sub x y).symm
theorem zi_mul (x y : Int) : zi x * zi y = zi (x * y) := (Int32.ofInt_mul x y).symm
theorem zi_neg (x : Int) : -zi x = zi (-x) := (Int32.ofInt_neg x).symm
theorem zi_int {x : Int} (h : ¬ zout x) : (zi x).toInt = x := by
  unfold zi
  rw [Int32.toInt_ofInt]
  show x.bmod 4294967296 = x
  exact Int.bmod_eq_of_le (by unfold zout at h; omega) (by unfold zout at h; omega)
theorem zi_lt {x y : Int} (hx : ¬ zout x) (hy : ¬ zout y) : zi x < zi y ↔ x < y := by rw [Int32.lt_iff_toInt_lt, zi_int hx, zi_int hy]
theorem zi_le {x y : Int} (hx : ¬ zout x) (hy : ¬ zout y) : zi x ≤ zi y ↔ x ≤ y := by rw [Int32.le_iff_toInt_le, zi_int hx, zi_int hy]
theorem zi_eq {x y : Int} (hx : ¬ zout x) (hy : ¬ zout y) : zi x = zi y ↔ x = y := by rw [← Int32.toInt_inj, zi_int hx, zi_int hy]
theorem zi_of (a : Int32) : zi a.toInt = a := Int32.ofInt_toInt a
theorem zi_rng (a : Int32) : ¬ zout a.toInt := by
  have h1 := Int32.le_toInt a
  have h2 := Int32.toInt_lt a
  unfold zout
  omega
theorem zu_lt (x : Int) : zu x < 4294967296 := by unfold zu; omega
theorem zu_bv (x : Int) : (zi x).toBitVec.toNat = zu x := by
  show (BitVec.ofInt 32 x).toNat = _
  rw [BitVec.toNat_ofInt]
  rfl
theorem zi_bv {a : Int32} {x : Int} (h : a.toBitVec.toNat = zu x) : a = zi x := by
  apply Int32.toBitVec_inj.mp
  apply BitVec.eq_of_toNat_eq
  rw [h, zu_bv]
theorem zu_zs {n : Nat} (h : n < 4294967296) : zu (zs n) = n := by unfold zu zs; split <;> omega
theorem zi_zw (x : Int) : zi (zw x) = zi x := by
  symm
  apply zi_bv
  rw [zu_bv]
  unfold zw
  rw [zu_zs (zu_lt x)]
theorem zs_in {n : Nat} (h : n < 4294967296) : ¬ zout (zs n) := by unfold zs zout; split <;> omega
theorem zw_in (x : Int) : ¬ zout (zw x) := zs_in (zu_lt x)
theorem zw_id {x : Int} (h : ¬ zout x) : zw x = x := by
  unfold zw zs zu
  unfold zout at h
  split <;> omega
theorem zw_int (x : Int) : (zi x).toInt = zw x := by rw [← zi_zw x]; exact zi_int (zw_in x)
def zand (x y : Int) : Int := zs (zu x &&& zu y)
def zor (x y : Int) : Int := zs (zu x ||| zu y)
def zxor (x y : Int) : Int := zs (zu x ^^^ zu y)
theorem zand_lt (x y : Int) : zu x &&& zu y < 4294967296 := Nat.and_lt_two_pow (zu x) (n := 32) (zu_lt y)
theorem zor_lt (x y : Int) : zu x ||| zu y < 4294967296 := Nat.or_lt_two_pow (n := 32) (zu_lt x) (zu_lt y)
theorem zxor_lt (x y : Int) : zu x ^^^ zu y < 4294967296 := Nat.xor_lt_two_pow (n := 32) (zu_lt x) (zu_lt y)
theorem zi_and (x y : Int) : zi x &&& zi y = zi (zand x y) := by
  apply zi_bv
  rw [Int32.toBitVec_and, BitVec.toNat_and, zu_bv, zu_bv]
  unfold zand
  rw [zu_zs (zand_lt x y)]
theorem zi_or (x y : Int) : zi x ||| zi y = zi (zor x y) := by
  apply zi_bv
  rw [Int32.toBitVec_or, BitVec.toNat_or, zu_bv, zu_bv]
  unfold zor
  rw [zu_zs (zor_lt x y)]
theorem zi_xor (x y : Int) : zi x ^^^ zi y = zi (zxor x y) := by
  apply zi_bv
  rw [Int32.toBitVec_xor, BitVec.toNat_xor, zu_bv, zu_bv]
  unfold zxor
  rw [zu_zs (zxor_lt x y)]
theorem zand_in (x y : Int) : ¬ zout (zand x y) := zs_in (zand_lt x y)
theorem zor_in (x y : Int) : ¬ zout (zor x y) := zs_in (zor_lt x y)
theorem zxor_in (x y : Int) : ¬ zout (zxor x y) := zs_in (zxor_lt x y)
/-- shifts; the amount is an int -/
def zshl (x y : Int) : Int := zs (zu x * 2 ^ (zu y % 32) % 4294967296)
def zshr (x y : Int) : Int := zw x / ((2 ^ (zu y % 32) : Nat) : Int)
theorem zshl_in (x y : Int) : ¬ zout (zshl x y) := zs_in (Nat.mod_lt _ (by decide))
theorem zshr_in (x y : Int) : ¬ zout (zshr x y) := by
  have h := zw_in x
  unfold zshr
  unfold zout at h ⊢
  generalize zw x = a at h ⊢
  have hd : 0 < 2 ^ (zu y % 32) := Nat.two_pow_pos _
  generalize 2 ^ (zu y % 32) = d at hd ⊢
  have h1 : a / (d : Int) ≤ 2147483647 := Int.ediv_le_of_le_mul (by omega) (by omega)
  have h2 : -2147483648 ≤ a / (d : Int) := Int.le_ediv_of_mul_le (by omega) (by omega)
  omega

def zl (x : Int) : Int64 := Int64.ofInt x
abbrev zoutL (x : Int) : Prop := x < -9223372036854775808 ∨ 9223372036854775807 < x
def zsL (n : Nat) : Int := if n < 9223372036854775808 then (n : Int) else (n : Int) - 18446744073709551616
def zuL (x : Int) : Nat := (x % 18446744073709551616).toNat
def zwL (x : Int) : Int := zsL (zuL x)
theorem zl_add (x y : Int) : zl x + zl y = zl (x + y) := (Int64.ofInt_add x y).symm
theorem zl_sub (x y : Int) : zl x - zl y = zl (x - y) := (Int64.ofInt_sub x y).symm
theorem zl_mul (x y : Int) : zl x * zl y = zl (x * y) := (Int64.ofInt_mul x y).symm
theorem zl_neg (x : Int) : -zl x = zl (-x) := (Int64.ofInt_neg x).symm
theorem zl_int {x : Int} (h : ¬ zoutL x) : (zl x).toInt = x := by
  unfold zl
  rw [Int64.toInt_ofInt]
  show x.bmod 18446744073709551616 = x
  exact Int.bmod_eq_of_le (by unfold zoutL at h; omega) (by unfold zoutL at h; omega)
theorem zl_lt {x y : Int} (hx : ¬ zoutL x) (hy : ¬ zoutL y) : zl x < zl y ↔ x < y := by rw [Int64.lt_iff_toInt_lt, zl_int hx, zl_int hy]
theorem zl_le {x y : Int} (hx : ¬ zoutL x) (hy : ¬ zoutL y) : zl x ≤ zl y ↔ x ≤ y := by rw [Int64.le_iff_toInt_le, zl_int hx, zl_int hy]
theorem zl_eq {x y : Int} (hx : ¬ zoutL x) (hy : ¬ zoutL y) : zl x = zl y ↔ x = y := by rw [← Int64.toInt_inj, zl_int hx, zl_int hy]
theorem zl_of (a : Int64) : zl a.toInt = a := Int64.ofInt_toInt a
theorem zl_rng (a : Int64) : ¬ zoutL a.toInt := by
  have h1 := Int64.le_toInt a
  have h2 := Int64.toInt_lt a
  unfold zoutL
  omega
theorem zuL_lt (x : Int) : zuL x < 18446744073709551616 := by unfold zuL; omega
theorem zuL_bv (x : Int) : (zl x).toBitVec.toNat = zuL x := by
  show (BitVec.ofInt 64 x).toNat = _
  rw [BitVec.toNat_ofInt]
  rfl
theorem zl_bv {a : Int64} {x : Int} (h : a.toBitVec.toNat = zuL x) : a = zl x := by
  apply Int64.toBitVec_inj.mp
  apply BitVec.eq_of_toNat_eq
  rw [h, zuL_bv]
theorem zuL_zs {n : Nat} (h : n < 18446744073709551616) : zuL (zsL n) = n := by unfold zuL zsL; split <;> omega
theorem zl_zw (x : Int) : zl (zwL x) = zl x := by
  symm
  apply zl_bv
  rw [zuL_bv]
  unfold zwL
  rw [zuL_zs (zuL_lt x)]
theorem zsL_in {n : Nat} (h : n < 18446744073709551616) : ¬ zoutL (zsL n) := by unfold zsL zoutL; split <;> omega
theorem zwL_in (x : Int) : ¬ zoutL (zwL x) := zsL_in (zuL_lt x)
theorem zwL_id {x : Int} (h : ¬ zoutL x) : zwL x = x := by
  unfold zwL zsL zuL
  unfold zoutL at h
  split <;> omega
theorem zwL_int (x : Int) : (zl x).toInt = zwL x := by rw [← zl_zw x]; exact zl_int (zwL_in x)
def zandL (x y : Int) : Int := zsL (zuL x &&& zuL y)
def zorL (x y : Int) : Int := zsL (zuL x ||| zuL y)
def zxorL (x y : Int) : Int := zsL (zuL x ^^^ zuL y)
theorem zandL_lt (x y : Int) : zuL x &&& zuL y < 18446744073709551616 := Nat.and_lt_two_pow (zuL x) (n := 64) (zuL_lt y)
theorem zorL_lt (x y : Int) : zuL x ||| zuL y < 18446744073709551616 := Nat.or_lt_two_pow (n := 64) (zuL_lt x) (zuL_lt y)
theorem zxorL_lt (x y : Int) : zuL x ^^^ zuL y < 18446744073709551616 := Nat.xor_lt_two_pow (n := 64) (zuL_lt x) (zuL_lt y)
theorem zl_and (x y : Int) : zl x &&& zl y = zl (zandL x y) := by
  apply zl_bv
  rw [Int64.toBitVec_and, BitVec.toNat_and, zuL_bv, zuL_bv]
  unfold zandL
  rw [zuL_zs (zandL_lt x y)]
theorem zl_or (x y : Int) : zl x ||| zl y = zl (zorL x y) := by
  apply zl_bv
  rw [Int64.toBitVec_or, BitVec.toNat_or, zuL_bv, zuL_bv]
  unfold zorL
  rw [zuL_zs (zorL_lt x y)]
theorem zl_xor (x y : Int) : zl x ^^^ zl y = zl (zxorL x y) := by
  apply zl_bv
  rw [Int64.toBitVec_xor, BitVec.toNat_xor, zuL_bv, zuL_bv]
  unfold zxorL
  rw [zuL_zs (zxorL_lt x y)]
theorem zandL_in (x y : Int) : ¬ zoutL (zandL x y) := zsL_in (zandL_lt x y)
theorem zorL_in (x y : Int) : ¬ zoutL (zorL x y) := zsL_in (zorL_lt x y)
theorem zxorL_in (x y : Int) : ¬ zoutL (zxorL x y) := zsL_in (zxorL_lt x y)
/-- shifts; the amount is an int -/
def zshlL (x y : Int) : Int := zsL (zuL x * 2 ^ (zu y % 64) % 18446744073709551616)
def zshrL (x y : Int) : Int := zwL x / ((2 ^ (zu y % 64) : Nat) : Int)
theorem zshlL_in (x y : Int) : ¬ zoutL (zshlL x y) := zsL_in (Nat.mod_lt _ (by decide))
theorem zshrL_in (x y : Int) : ¬ zoutL (zshrL x y) := by
  have h := zwL_in x
  unfold zshrL
  unfold zoutL at h ⊢
  generalize zwL x = a at h ⊢
  have hd : 0 < 2 ^ (zu y % 64) := Nat.two_pow_pos _
  generalize 2 ^ (zu y % 64) = d at hd ⊢
  have h1 : a / (d : Int) ≤ 9223372036854775807 := Int.ediv_le_of_le_mul (by omega) (by omega)
  have h2 : -9223372036854775808 ≤ a / (d : Int) := Int.le_ediv_of_mul_le (by omega) (by omega)
  omega

theorem zs_k : ∀ k, k < 32 → ((nI k).toBitVec.smod 32).toNat = k := by decide +kernel
theorem zs_amt (y : Int) : ((zi y &&& 31).toBitVec.smod 32).toNat = zu y % 32 := by
  rw [pk_and _ 5 (by decide), zu_bv]
  exact zs_k _ (Nat.mod_lt _ (by decide))
theorem zi_shl (x y : Int) : zi x <<< (zi y &&& 31) = zi (zshl x y) := by
  apply zi_bv
  rw [pk_shl _ _ _ (zs_amt y), zu_bv]
  unfold zshl
  rw [zu_zs (Nat.mod_lt _ (by decide))]
theorem zi_shr (x y : Int) : zi x >>> (zi y &&& 31) = zi (zshr x y) := by
  apply Int32.toInt_inj.mp
  rw [pk_shr _ _ _ (zs_amt y), Int.shiftRight_eq_div_pow, zi_int (zshr_in x y), zw_int]
  unfold zshr
  rfl
def zushr (x y : Int) : Int := zs (zu x / 2 ^ (zu y % 32))
theorem zushr_lt (x y : Int) : zu x / 2 ^ (zu y % 32) < 4294967296 := Nat.lt_of_le_of_lt (Nat.div_le_self _ _) (zu_lt x)
theorem zushr_in (x y : Int) : ¬ zout (zushr x y) := zs_in (zushr_lt x y)
theorem zus_k : ∀ k, k < 32 → (((nI k).toUInt32 &&& Int32.toUInt32 31).toBitVec % 32).toNat = k := by decide +kernel
theorem zus_and (a : Int32) : a.toUInt32 &&& Int32.toUInt32 31 = (a &&& 31).toUInt32 &&& Int32.toUInt32 31 := by
  apply UInt32.toBitVec_inj.mp
  show a.toBitVec &&& (31 : Int32).toBitVec = (a.toBitVec &&& (31 : Int32).toBitVec) &&& (31 : Int32).toBitVec
  rw [BitVec.and_assoc, BitVec.and_self]
theorem zi_ushr (x y : Int) : ((zi x).toUInt32 >>> ((zi y).toUInt32 &&& Int32.toUInt32 31)).toInt32 = zi (zushr x y) := by
  have hs : (((zi y).toUInt32 &&& Int32.toUInt32 31).toBitVec % 32).toNat = zu y % 32 := by
    rw [zus_and, pk_and _ 5 (by decide), zu_bv]
    exact zus_k _ (Nat.mod_lt _ (by decide))
  apply zi_bv
  rw [pk_ushr _ _ _ hs, zu_bv]
  unfold zushr
  rw [zu_zs (zushr_lt x y)]
theorem zi_long (x : Int) : (zi x).toInt64 = zl (zw x) := by
  apply Int64.toInt_inj.mp
  rw [Int32.toInt_toInt64, zw_int, zl_int]
  have h := zw_in x
  unfold zout at h
  unfold zoutL
  omega
theorem zsL_k : ∀ k, k < 64 → ((BitVec.ofNat 64 k).smod 64).toNat = k := by decide +kernel
theorem zsL_amt0 (y : Int) : ((zi y).toInt64 &&& 63).toBitVec = BitVec.ofNat 64 (zu y % 64) := by
  apply BitVec.eq_of_toNat_eq
  rw [zi_long, Int64.toBitVec_and, BitVec.toNat_and, zuL_bv]
  have e : (63 : Int64).toBitVec.toNat = 2 ^ 6 - 1 := by decide
  rw [e, Nat.and_two_pow_sub_one_eq_mod, BitVec.toNat_ofNat]
  have h := zu_lt y
  unfold zuL zw zs
  split <;> omega
theorem zsL_amt (y : Int) : (((zi y).toInt64 &&& 63).toBitVec.smod 64).toNat = zu y % 64 := by
  rw [zsL_amt0]
  exact zsL_k _ (Nat.mod_lt _ (by decide))
theorem zl_shl (x y : Int) : zl x <<< ((zi y).toInt64 &&& 63) = zl (zshlL x y) := by
  apply zl_bv
  show ((zl x).toBitVec <<< (((zi y).toInt64 &&& 63).toBitVec.smod 64).toNat).toNat = _
  rw [zsL_amt, BitVec.toNat_shiftLeft, Nat.shiftLeft_eq, zuL_bv]
  unfold zshlL
  rw [zuL_zs (Nat.mod_lt _ (by decide))]
theorem zl_shr (x y : Int) : zl x >>> ((zi y).toInt64 &&& 63) = zl (zshrL x y) := by
  apply Int64.toInt_inj.mp
  have e : (zl x >>> ((zi y).toInt64 &&& 63)).toInt = (zl x).toInt >>> (zu y % 64) := by
    rw [← zsL_amt]
    exact BitVec.toInt_sshiftRight ..
  rw [e, Int.shiftRight_eq_div_pow, zl_int (zshrL_in x y), zwL_int]
  unfold zshrL
  rfl
theorem zl_int32 (x : Int) : (zl x).toInt32 = zi x := by
  apply Int32.toInt_inj.mp
  rw [Int64.toInt_toInt32, zwL_int, zw_int]
  unfold zwL zsL zuL zw zs zu
  rw [Int.bmod_def]
  split <;> split <;> split <;> omega
def zb (x : Int) : Int := if x % 256 < 128 then x % 256 else x % 256 - 256
theorem zb_in (x : Int) : ¬ zout (zb x) := by unfold zb zout; split <;> omega
theorem zi_byte (x : Int) : (zi x).toInt8.toInt32 = zi (zb x) := by
  apply Int32.toInt_inj.mp
  rw [Int8.toInt_toInt32, Int32.toInt_toInt8, zi_int (zb_in x), zw_int]
  unfold zb zw zs zu
  rw [Int.bmod_def]
  split <;> split <;> split <;> omega
theorem zi_nb (x : Int) : vp_nar .byte (zi x) = zi (zb x) := by rw [vp_nar_byte, zi_byte]
theorem zi_div {x y : Int} (hx : ¬ zout x) (hy : ¬ zout y) : zi x / zi y = zi (x.tdiv y) := by
  apply Int32.toInt_inj.mp
  rw [Int32.toInt_div, zi_int hx, zi_int hy]
  show _ = (Int32.ofInt _).toInt
  rw [Int32.toInt_ofInt]
theorem zi_rem {x y : Int} (hx : ¬ zout x) (hy : ¬ zout y) : zi x - zi x / zi y * zi y = zi (x.tmod y) := by
  rw [zi_div hx hy, zi_mul, zi_sub, Int.tmod_def, Int.mul_comm]
theorem zi_0 : zi 0 = 0 := rfl
theorem zi_ne0 {y : Int} (hy : ¬ zout y) (h : ¬ y = 0) : ¬ zi y = 0 := by
  rw [← zi_0, zi_eq hy (by decide)]
  exact h
theorem zi_clamp {i : Int} {n : Nat} (hn : n ≤ 2147483647) (h : ¬ (i < 0 ∨ (n : Int) ≤ i)) : (zi i).toNatClampNeg = i.toNat := by
  show (zi i).toInt.toNat = _
  rw [zi_int]
  unfold zout
  omega
theorem zi_vin {i : Int} {n : Nat} (hn : n ≤ 2147483647) (h : ¬ (i < 0 ∨ (n : Int) ≤ i)) : vp_in (zi i) n := by
  rw [vp_in_iff, zi_int]
  · omega
  · unfold zout
    omega
/-- a truth value as a number -/
def bI (b : Bool) : Int := if b = true then 1 else 0
theorem bI_in (b : Bool) : ¬ zout (bI b) := by cases b <;> decide
theorem bI_0 (b : Bool) : bI b = 0 ↔ b = false := by cases b <;> decide
theorem bI_nar (b : Bool) : narrow .boolean (.int (zi (bI b))) = .int (zi (bI b)) := by cases b <;> rfl
theorem bI_nz (b : Bool) : vp_nar .boolean (zi (bI b)) = zi (bI b) := by cases b <;> rfl
/-- the sign of a comparison, an absolute value, the greater, the lesser one -/
def zabs (x : Int) : Int := if 0 ≤ x then x else 0 - x
def zmax (x y : Int) : Int := if x < y then y else x
def zmin (x y : Int) : Int := if y < x then y else x
theorem zi_abs {x : Int} (hx : ¬ zout x) : (if 0 ≤ zi x then zi x else 0 - zi x) = zi (zabs x) := by
  unfold zabs
  have e : (0 ≤ zi x) ↔ 0 ≤ x := by rw [← zi_0, zi_le (by decide) hx]
  by_cases h : 0 ≤ x
  · rw [if_pos (e.mpr h), if_pos h]
  · rw [if_neg (fun q => h (e.mp q)), if_neg h, ← zi_0, zi_sub]
theorem zi_max {x y : Int} (hx : ¬ zout x) (hy : ¬ zout y) : (if zi x < zi y then zi y else zi x) = zi (zmax x y) := by
  unfold zmax
  by_cases h : x < y
  · rw [if_pos ((zi_lt hx hy).mpr h), if_pos h]
  · rw [if_neg (fun q => h ((zi_lt hx hy).mp q)), if_neg h]
theorem zi_min {x y : Int} (hx : ¬ zout x) (hy : ¬ zout y) : (if zi y < zi x then zi y else zi x) = zi (zmin x y) := by
  unfold zmin
  by_cases h : y < x
  · rw [if_pos ((zi_lt hy hx).mpr h), if_pos h]
  · rw [if_neg (fun q => h ((zi_lt hy hx).mp q)), if_neg h]
theorem z0_in : ¬ zout 0 := by decide
/-! packed arrays: 32 bits a place for ints, bytes and truth values, 64 for longs -/

def zslot (A i : Nat) : Nat := (A >>> (32 * i)) % 4294967296
def zget (A i : Nat) : Int := zs (zslot A i)
def zset (A i : Nat) (v : Int) : Nat := (((A >>> (32 * i + 32)) <<< (32 * i + 32)) ||| (zu v <<< (32 * i))) ||| (A % 2 ^ (32 * i))
theorem zslot_bit (A j k : Nat) : (zslot A j).testBit k = (decide (k < 32) && A.testBit (32 * j + k)) := by
  have e : zslot A j = (A >>> (32 * j)) % 2 ^ 32 := rfl
  rw [e, Nat.testBit_mod_two_pow, Nat.testBit_shiftRight]
theorem zu_bit (v : Int) {k : Nat} (h : 32 ≤ k) : (zu v).testBit k = false := Nat.testBit_lt_two_pow (Nat.lt_of_lt_of_le (zu_lt v) (Nat.pow_le_pow_right (by decide) h : 2 ^ 32 ≤ 2 ^ k))
theorem zset_bit (A i : Nat) (v : Int) (p : Nat) : (zset A i v).testBit p = if p < 32 * i then A.testBit p else if p < 32 * i + 32 then (zu v).testBit (p - 32 * i) else A.testBit p := by
  unfold zset
  rw [Nat.testBit_or, Nat.testBit_or, Nat.testBit_shiftLeft, Nat.testBit_shiftLeft, Nat.testBit_mod_two_pow, Nat.testBit_shiftRight]
  by_cases h1 : p < 32 * i
  · rw [if_pos h1, decide_eq_false (show ¬ p ≥ 32 * i + 32 by omega), decide_eq_false (show ¬ p ≥ 32 * i by omega), decide_eq_true h1]
    simp
  · rw [if_neg h1, decide_eq_false h1, decide_eq_true (show p ≥ 32 * i by omega)]
    by_cases h2 : p < 32 * i + 32
    · rw [if_pos h2, decide_eq_false (show ¬ p ≥ 32 * i + 32 by omega)]
      simp
    · rw [if_neg h2, decide_eq_true (show p ≥ 32 * i + 32 by omega), zu_bit v (show 32 ≤ p - 32 * i by omega), show 32 * i + 32 + (p - (32 * i + 32)) = p by omega]
      simp
theorem zslot_set (A i j : Nat) (v : Int) : zslot (zset A i v) j = if j = i then zu v else zslot A j := by
  apply Nat.eq_of_testBit_eq
  intro k
  rw [zslot_bit, zset_bit]
  by_cases hk : k < 32
  · by_cases hj : j = i
    · subst hj
      rw [if_pos rfl, if_neg (by omega), if_pos (by omega), decide_eq_true hk, show 32 * j + k - 32 * j = k by omega]
      simp
    · rw [if_neg hj, zslot_bit]
      by_cases h1 : 32 * j + k < 32 * i
      · rw [if_pos h1]
      · rw [if_neg h1, if_neg (by omega)]
  · rw [decide_eq_false hk, Bool.false_and]
    by_cases hj : j = i
    · rw [if_pos hj]
      exact (zu_bit v (by omega)).symm
    · rw [if_neg hj, zslot_bit, decide_eq_false hk, Bool.false_and]
theorem zget_set (A i j : Nat) (v : Int) : zget (zset A i v) j = if j = i then zw v else zget A j := by
  unfold zget
  rw [zslot_set]
  by_cases hj : j = i
  · rw [if_pos hj, if_pos hj]; rfl
  · rw [if_neg hj, if_neg hj]
theorem zget_in (A i : Nat) : ¬ zout (zget A i) := zs_in (Nat.mod_lt _ (by decide))
def zc (A : Nat) : Nat → Int32 := fun i => zi (zget A i)
theorem zc_set (A i : Nat) (v : Int) : upd (zc A) i (zi v) = zc (zset A i v) := by
  funext j
  show (if j = i then zi v else zc A j) = zi (zget (zset A i v) j)
  rw [zget_set]
  by_cases hj : j = i
  · rw [if_pos hj, if_pos hj, zi_zw]
  · rw [if_neg hj, if_neg hj]; rfl
theorem zget_0 (i : Nat) : zget 0 i = 0 := by
  unfold zget zslot
  rw [Nat.zero_shiftRight]
  rfl
theorem zc_0 : zc 0 = fun _ => 0 := by
  funext i
  show zi (zget 0 i) = 0
  rw [zget_0]
  rfl

def zslotL (A i : Nat) : Nat := (A >>> (64 * i)) % 18446744073709551616
def zgetL (A i : Nat) : Int := zsL (zslotL A i)
def zsetL (A i : Nat) (v : Int) : Nat := (((A >>> (64 * i + 64)) <<< (64 * i + 64)) ||| (zuL v <<< (64 * i))) ||| (A % 2 ^ (64 * i))
theorem zslotL_bit (A j k : Nat) : (zslotL A j).testBit k = (decide (k < 64) && A.testBit (64 * j + k)) := by
  have e : zslotL A j = (A >>> (64 * j)) % 2 ^ 64 := rfl
  rw [e, Nat.testBit_mod_two_pow, Nat.testBit_shiftRight]
theorem zuL_bit (v : Int) {k : Nat} (h : 64 ≤ k) : (zuL v).testBit k = false := Nat.testBit_lt_two_pow (Nat.lt_of_lt_of_le (zuL_lt v) (Nat.pow_le_pow_right (by decide) h : 2 ^ 64 ≤ 2 ^ k))
theorem zsetL_bit (A i : Nat) (v : Int) (p : Nat) : (zsetL A i v).testBit p = if p < 64 * i then A.testBit p else if p < 64 * i + 64 then (zuL v).testBit (p - 64 * i) else A.testBit p := by
  unfold zsetL
  rw [Nat.testBit_or, Nat.testBit_or, Nat.testBit_shiftLeft, Nat.testBit_shiftLeft, Nat.testBit_mod_two_pow, Nat.testBit_shiftRight]
  by_cases h1 : p < 64 * i
  · rw [if_pos h1, decide_eq_false (show ¬ p ≥ 64 * i + 64 by omega), decide_eq_false (show ¬ p ≥ 64 * i by omega), decide_eq_true h1]
    simp
  · rw [if_neg h1, decide_eq_false h1, decide_eq_true (show p ≥ 64 * i by omega)]
    by_cases h2 : p < 64 * i + 64
    · rw [if_pos h2, decide_eq_false (show ¬ p ≥ 64 * i + 64 by omega)]
      simp
    · rw [if_neg h2, decide_eq_true (show p ≥ 64 * i + 64 by omega), zuL_bit v (show 64 ≤ p - 64 * i by omega), show 64 * i + 64 + (p - (64 * i + 64)) = p by omega]
      simp
theorem zslotL_set (A i j : Nat) (v : Int) : zslotL (zsetL A i v) j = if j = i then zuL v else zslotL A j := by
  apply Nat.eq_of_testBit_eq
  intro k
  rw [zslotL_bit, zsetL_bit]
  by_cases hk : k < 64
  · by_cases hj : j = i
    · subst hj
      rw [if_pos rfl, if_neg (by omega), if_pos (by omega), decide_eq_true hk, show 64 * j + k - 64 * j = k by omega]
      simp
    · rw [if_neg hj, zslotL_bit]
      by_cases h1 : 64 * j + k < 64 * i
      · rw [if_pos h1]
      · rw [if_neg h1, if_neg (by omega)]
  · rw [decide_eq_false hk, Bool.false_and]
    by_cases hj : j = i
    · rw [if_pos hj]
      exact (zuL_bit v (by omega)).symm
    · rw [if_neg hj, zslotL_bit, decide_eq_false hk, Bool.false_and]
theorem zgetL_set (A i j : Nat) (v : Int) : zgetL (zsetL A i v) j = if j = i then zwL v else zgetL A j := by
  unfold zgetL
  rw [zslotL_set]
  by_cases hj : j = i
  · rw [if_pos hj, if_pos hj]; rfl
  · rw [if_neg hj, if_neg hj]
theorem zgetL_in (A i : Nat) : ¬ zoutL (zgetL A i) := zsL_in (Nat.mod_lt _ (by decide))
def zcL (A : Nat) : Nat → Int64 := fun i => zl (zgetL A i)
theorem zcL_set (A i : Nat) (v : Int) : vp_updL (zcL A) i (zl v) = zcL (zsetL A i v) := by
  funext j
  show (if j = i then zl v else zcL A j) = zl (zgetL (zsetL A i v) j)
  rw [zgetL_set]
  by_cases hj : j = i
  · rw [if_pos hj, if_pos hj, zl_zw]
  · rw [if_neg hj, if_neg hj]; rfl
theorem zgetL_0 (i : Nat) : zgetL 0 i = 0 := by
  unfold zgetL zslotL
  rw [Nat.zero_shiftRight]
  rfl
theorem zcL_0 : zcL 0 = fun _ => 0 := by
  funext i
  show zl (zgetL 0 i) = 0
  rw [zgetL_0]
  rfl

/-! rows of the machine over whole numbers -/
section ZV
variable {p : Program} {l : Launch} {e : Env} {R : Room} {s : State} {m : MethodId} {args : Array Value} {below : List Frame} {meth : Method} {c : Code} {H : Heap} {locs : List Loc} {cells slots : Nat} {Q : State → Prop}
variable {cc : ByteArray} {pc : Nat} {ls : Array Slot} {rest : List Value}
theorem zv_iconst (hexec : p.tables.exec = Jvm.exec) (hb : c.code = cc) {n : Int} (hdg : decode cc pc = .ok (.iconst n, 1)) (k : W p l e R s m args below meth c H locs cells slots Q (F0 m (pc + 1) ls (.int (zi n) :: rest))) : W p l e R s m args below meth c H locs cells slots Q (F0 m pc ls rest) := lv_iconst hexec hb hdg rfl k
theorem zv_bipush (hexec : p.tables.exec = Jvm.exec) (hb : c.code = cc) {n : Int} (hdg : decode cc pc = .ok (.bipush n, 2)) (hv : (Int8.ofInt n).toInt32 = zi n) (k : W p l e R s m args below meth c H locs cells slots Q (F0 m (pc + 2) ls (.int (zi n) :: rest))) : W p l e R s m args below meth c H locs cells slots Q (F0 m pc ls rest) := lv_bipush hexec hb hdg hv k
theorem zv_sipush (hexec : p.tables.exec = Jvm.exec) (hb : c.code = cc) {n : Int} (hdg : decode cc pc = .ok (.sipush n, 3)) (hv : (Int16.ofInt n).toInt32 = zi n) (k : W p l e R s m args below meth c H locs cells slots Q (F0 m (pc + 3) ls (.int (zi n) :: rest))) : W p l e R s m args below meth c H locs cells slots Q (F0 m pc ls rest) := lv_sipush hexec hb hdg hv k
theorem zv_iadd (hexec : p.tables.exec = Jvm.exec) (hb : c.code = cc) {x y : Int} (hdg : decode cc pc = .ok (.iadd, 1)) (k : W p l e R s m args below meth c H locs cells slots Q (F0 m (pc + 1) ls (.int (zi (x + y)) :: rest))) : W p l e R s m args below meth c H locs cells slots Q (F0 m pc ls (.int (zi y) :: .int (zi x) :: rest)) := lv_iadd hexec hb hdg (by rw [zi_add]; exact k)
theorem zv_isub (hexec : p.tables.exec = Jvm.exec) (hb : c.code = cc) {x y : Int} (hdg : decode cc pc = .ok (.isub, 1)) (k : W p l e R s m args below meth c H locs cells slots Q (F0 m (pc + 1) ls (.int (zi (x - y)) :: rest))) : W p l e R s m args below meth c H locs cells slots Q (F0 m pc ls (.int (zi y) :: .int (zi x) :: rest)) := lv_isub hexec hb hdg (by rw [zi_sub]; exact k)
theorem zv_imul (hexec : p.tables.exec = Jvm.exec) (hb : c.code = cc) {x y : Int} (hdg : decode cc pc = .ok (.imul, 1)) (k : W p l e R s m args below meth c H locs cells slots Q (F0 m (pc + 1) ls (.int (zi (x * y)) :: rest))) : W p l e R s m args below meth c H locs cells slots Q (F0 m pc ls (.int (zi y) :: .int (zi x) :: rest)) := lv_imul hexec hb hdg (by rw [zi_mul]; exact k)
theorem zv_iand (hexec : p.tables.exec = Jvm.exec) (hb : c.code = cc) {x y : Int} (hdg : decode cc pc = .ok (.iand, 1)) (k : W p l e R s m args below meth c H locs cells slots Q (F0 m (pc + 1) ls (.int (zi (zand x y)) :: rest))) : W p l e R s m args below meth c H locs cells slots Q (F0 m pc ls (.int (zi y) :: .int (zi x) :: rest)) := lv_iand hexec hb hdg (by rw [zi_and]; exact k)
theorem zv_ior (hexec : p.tables.exec = Jvm.exec) (hb : c.code = cc) {x y : Int} (hdg : decode cc pc = .ok (.ior, 1)) (k : W p l e R s m args below meth c H locs cells slots Q (F0 m (pc + 1) ls (.int (zi (zor x y)) :: rest))) : W p l e R s m args below meth c H locs cells slots Q (F0 m pc ls (.int (zi y) :: .int (zi x) :: rest)) := lv_ior hexec hb hdg (by rw [zi_or]; exact k)
theorem zv_ixor (hexec : p.tables.exec = Jvm.exec) (hb : c.code = cc) {x y : Int} (hdg : decode cc pc = .ok (.ixor, 1)) (k : W p l e R s m args below meth c H locs cells slots Q (F0 m (pc + 1) ls (.int (zi (zxor x y)) :: rest))) : W p l e R s m args below meth c H locs cells slots Q (F0 m pc ls (.int (zi y) :: .int (zi x) :: rest)) := lv_ixor hexec hb hdg (by rw [zi_xor]; exact k)
theorem zv_ishl (hexec : p.tables.exec = Jvm.exec) (hb : c.code = cc) {x y : Int} (hdg : decode cc pc = .ok (.ishl, 1)) (k : W p l e R s m args below meth c H locs cells slots Q (F0 m (pc + 1) ls (.int (zi (zshl x y)) :: rest))) : W p l e R s m args below meth c H locs cells slots Q (F0 m pc ls (.int (zi y) :: .int (zi x) :: rest)) := lv_ishl hexec hb hdg (by rw [zi_shl]; exact k)
theorem zv_ishr (hexec : p.tables.exec = Jvm.exec) (hb : c.code = cc) {x y : Int} (hdg : decode cc pc = .ok (.ishr, 1)) (k : W p l e R s m args below meth c H locs cells slots Q (F0 m (pc + 1) ls (.int (zi (zshr x y)) :: rest))) : W p l e R s m args below meth c H locs cells slots Q (F0 m pc ls (.int (zi y) :: .int (zi x) :: rest)) := lv_ishr hexec hb hdg (by rw [zi_shr]; exact k)
theorem zv_ladd (hexec : p.tables.exec = Jvm.exec) (hb : c.code = cc) {x y : Int} (hdg : decode cc pc = .ok (.ladd, 1)) (k : W p l e R s m args below meth c H locs cells slots Q (F0 m (pc + 1) ls (.long (zl (x + y)) :: rest))) : W p l e R s m args below meth c H locs cells slots Q (F0 m pc ls (.long (zl y) :: .long (zl x) :: rest)) := lv_ladd hexec hb hdg (by rw [zl_add]; exact k)
theorem zv_lsub (hexec : p.tables.exec = Jvm.exec) (hb : c.code = cc) {x y : Int} (hdg : decode cc pc = .ok (.lsub, 1)) (k : W p l e R s m args below meth c H locs cells slots Q (F0 m (pc + 1) ls (.long (zl (x - y)) :: rest))) : W p l e R s m args below meth c H locs cells slots Q (F0 m pc ls (.long (zl y) :: .long (zl x) :: rest)) := lv_lsub hexec hb hdg (by rw [zl_sub]; exact k)
theorem zv_lmul (hexec : p.tables.exec = Jvm.exec) (hb : c.code = cc) {x y : Int} (hdg : decode cc pc = .ok (.lmul, 1)) (k : W p l e R s m args below meth c H locs cells slots Q (F0 m (pc + 1) ls (.long (zl (x * y)) :: rest))) : W p l e R s m args below meth c H locs cells slots Q (F0 m pc ls (.long (zl y) :: .long (zl x) :: rest)) := lv_lmul hexec hb hdg (by rw [zl_mul]; exact k)
theorem zv_land (hexec : p.tables.exec = Jvm.exec) (hb : c.code = cc) {x y : Int} (hdg : decode cc pc = .ok (.land, 1)) (k : W p l e R s m args below meth c H locs cells slots Q (F0 m (pc + 1) ls (.long (zl (zandL x y)) :: rest))) : W p l e R s m args below meth c H locs cells slots Q (F0 m pc ls (.long (zl y) :: .long (zl x) :: rest)) := lv_land hexec hb hdg (by rw [zl_and]; exact k)
theorem zv_lor (hexec : p.tables.exec = Jvm.exec) (hb : c.code = cc) {x y : Int} (hdg : decode cc pc = .ok (.lor, 1)) (k : W p l e R s m args below meth c H locs cells slots Q (F0 m (pc + 1) ls (.long (zl (zorL x y)) :: rest))) : W p l e R s m args below meth c H locs cells slots Q (F0 m pc ls (.long (zl y) :: .long (zl x) :: rest)) := lv_lor hexec hb hdg (by rw [zl_or]; exact k)
theorem zv_lxor (hexec : p.tables.exec = Jvm.exec) (hb : c.code = cc) {x y : Int} (hdg : decode cc pc = .ok (.lxor, 1)) (k : W p l e R s m args below meth c H locs cells slots Q (F0 m (pc + 1) ls (.long (zl (zxorL x y)) :: rest))) : W p l e R s m args below meth c H locs cells slots Q (F0 m pc ls (.long (zl y) :: .long (zl x) :: rest)) := lv_lxor hexec hb hdg (by rw [zl_xor]; exact k)
theorem zv_lshl (hexec : p.tables.exec = Jvm.exec) (hb : c.code = cc) {x y : Int} (hdg : decode cc pc = .ok (.lshl, 1)) (k : W p l e R s m args below meth c H locs cells slots Q (F0 m (pc + 1) ls (.long (zl (zshlL x y)) :: rest))) : W p l e R s m args below meth c H locs cells slots Q (F0 m pc ls (.int (zi y) :: .long (zl x) :: rest)) := lv_lshl hexec hb hdg (zl_shl x y) k
theorem zv_lshr (hexec : p.tables.exec = Jvm.exec) (hb : c.code = cc) {x y : Int} (hdg : decode cc pc = .ok (.lshr, 1)) (k : W p l e R s m args below meth c H locs cells slots Q (F0 m (pc + 1) ls (.long (zl (zshrL x y)) :: rest))) : W p l e R s m args below meth c H locs cells slots Q (F0 m pc ls (.int (zi y) :: .long (zl x) :: rest)) := lv_lshr hexec hb hdg (zl_shr x y) k
theorem zv_iushr (hexec : p.tables.exec = Jvm.exec) (hb : c.code = cc) {x y : Int} (hdg : decode cc pc = .ok (.iushr, 1)) (k : W p l e R s m args below meth c H locs cells slots Q (F0 m (pc + 1) ls (.int (zi (zushr x y)) :: rest))) : W p l e R s m args below meth c H locs cells slots Q (F0 m pc ls (.int (zi y) :: .int (zi x) :: rest)) := lv_iushr hexec hb hdg (zi_ushr x y) k
theorem zv_ineg (hexec : p.tables.exec = Jvm.exec) (hb : c.code = cc) {x : Int} (hdg : decode cc pc = .ok (.ineg, 1)) (k : W p l e R s m args below meth c H locs cells slots Q (F0 m (pc + 1) ls (.int (zi (-x)) :: rest))) : W p l e R s m args below meth c H locs cells slots Q (F0 m pc ls (.int (zi x) :: rest)) := lv_ineg hexec hb hdg (by rw [zi_neg]; exact k)
theorem zv_i2b (hexec : p.tables.exec = Jvm.exec) (hb : c.code = cc) {x : Int} (hdg : decode cc pc = .ok (.i2b, 1)) (k : W p l e R s m args below meth c H locs cells slots Q (F0 m (pc + 1) ls (.int (zi (zb x)) :: rest))) : W p l e R s m args below meth c H locs cells slots Q (F0 m pc ls (.int (zi x) :: rest)) := lv_i2b hexec hb hdg (zi_byte x) k
theorem zv_i2l (hexec : p.tables.exec = Jvm.exec) (hb : c.code = cc) {x : Int} (hx : ¬ zout x) (hdg : decode cc pc = .ok (.i2l, 1)) (k : W p l e R s m args below meth c H locs cells slots Q (F0 m (pc + 1) ls (.long (zl x) :: rest))) : W p l e R s m args below meth c H locs cells slots Q (F0 m pc ls (.int (zi x) :: rest)) := lv_i2l hexec hb hdg (by rw [zi_long, zw_id hx]) k
theorem zv_l2i (hexec : p.tables.exec = Jvm.exec) (hb : c.code = cc) {x : Int} (hdg : decode cc pc = .ok (.l2i, 1)) (k : W p l e R s m args below meth c H locs cells slots Q (F0 m (pc + 1) ls (.int (zi x) :: rest))) : W p l e R s m args below meth c H locs cells slots Q (F0 m pc ls (.long (zl x) :: rest)) := lv_l2i hexec hb hdg (zl_int32 x) k
theorem zv_idiv (hexec : p.tables.exec = Jvm.exec) (hb : c.code = cc) {x y : Int} (hx : ¬ zout x) (hy : ¬ zout y) (h0 : ¬ y = 0) (hdg : decode cc pc = .ok (.idiv, 1)) (k : W p l e R s m args below meth c H locs cells slots Q (F0 m (pc + 1) ls (.int (zi (x.tdiv y)) :: rest))) : W p l e R s m args below meth c H locs cells slots Q (F0 m pc ls (.int (zi y) :: .int (zi x) :: rest)) := lv_idiv hexec hb hdg (zi_ne0 hy h0) (by rw [zi_div hx hy]; exact k)
theorem zv_irem (hexec : p.tables.exec = Jvm.exec) (hb : c.code = cc) {x y : Int} (hx : ¬ zout x) (hy : ¬ zout y) (h0 : ¬ y = 0) (hdg : decode cc pc = .ok (.irem, 1)) (k : W p l e R s m args below meth c H locs cells slots Q (F0 m (pc + 1) ls (.int (zi (x.tmod y)) :: rest))) : W p l e R s m args below meth c H locs cells slots Q (F0 m pc ls (.int (zi y) :: .int (zi x) :: rest)) := lv_irem hexec hb hdg (zi_ne0 hy h0) (by rw [zi_rem hx hy]; exact k)
theorem zv_icmp_eq (hexec : p.tables.exec = Jvm.exec) (hb : c.code = cc) {x y : Int} {off : Int} {tgt : Nat} (hdg : decode cc pc = .ok (.if_icmp .eq off, 3)) (ht : (pc : Int) + off = (tgt : Int)) (hx : ¬ zout x) (hy : ¬ zout y)
    (kt : x = y → W p l e R s m args below meth c H locs cells slots Q (F0 m tgt ls rest)) (kf : ¬ x = y → W p l e R s m args below meth c H locs cells slots Q (F0 m (pc + 3) ls rest)) : W p l e R s m args below meth c H locs cells slots Q (F0 m pc ls (.int (zi y) :: .int (zi x) :: rest)) := lv_icmp_eq hexec hb hdg ht (fun q => kt ((zi_eq hx hy).mp q)) (fun q => kf (fun q2 => q ((zi_eq hx hy).mpr q2)))
theorem zv_if_eq (hexec : p.tables.exec = Jvm.exec) (hb : c.code = cc) {x : Int} {off : Int} {tgt : Nat} (hdg : decode cc pc = .ok (.ifCond .eq off, 3)) (ht : (pc : Int) + off = (tgt : Int)) (hx : ¬ zout x)
    (kt : x = 0 → W p l e R s m args below meth c H locs cells slots Q (F0 m tgt ls rest)) (kf : ¬ x = 0 → W p l e R s m args below meth c H locs cells slots Q (F0 m (pc + 3) ls rest)) : W p l e R s m args below meth c H locs cells slots Q (F0 m pc ls (.int (zi x) :: rest)) := lv_if_eq hexec hb hdg ht (fun q => kt ((zi_eq hx z0_in).mp q)) (fun q => kf (fun q2 => q ((zi_eq hx z0_in).mpr q2)))
theorem zv_lif_eq (hexec : p.tables.exec = Jvm.exec) (hb : c.code = cc) {x y : Int} {off : Int} {tgt : Nat} (hd1 : decode cc pc = .ok (.lcmp, 1)) (hdg : decode cc (pc + 1) = .ok (.ifCond .eq off, 3)) (ht : ((pc + 1 : Nat) : Int) + off = (tgt : Int)) (hx : ¬ zoutL x) (hy : ¬ zoutL y)
    (kt : x = y → W p l e R s m args below meth c H locs cells slots Q (F0 m tgt ls rest)) (kf : ¬ x = y → W p l e R s m args below meth c H locs cells slots Q (F0 m (pc + 1 + 3) ls rest)) : W p l e R s m args below meth c H locs cells slots Q (F0 m pc ls (.long (zl y) :: .long (zl x) :: rest)) := W.lcmp hexec hb hd1 (lv_if_eq hexec hb hdg ht (fun q => kt ((zl_eq hx hy).mp ((lg_cmp_eq _ _).mp q))) (fun q => kf (fun q2 => q ((lg_cmp_eq _ _).mpr ((zl_eq hx hy).mpr q2)))))
theorem zv_icmp_ne (hexec : p.tables.exec = Jvm.exec) (hb : c.code = cc) {x y : Int} {off : Int} {tgt : Nat} (hdg : decode cc pc = .ok (.if_icmp .ne off, 3)) (ht : (pc : Int) + off = (tgt : Int)) (hx : ¬ zout x) (hy : ¬ zout y)
    (kt : ¬ x = y → W p l e R s m args below meth c H locs cells slots Q (F0 m tgt ls rest)) (kf : x = y → W p l e R s m args below meth c H locs cells slots Q (F0 m (pc + 3) ls rest)) : W p l e R s m args below meth c H locs cells slots Q (F0 m pc ls (.int (zi y) :: .int (zi x) :: rest)) := lv_icmp_ne hexec hb hdg ht (fun q => kt (fun q2 => q ((zi_eq hx hy).mpr q2))) (fun q => kf ((zi_eq hx hy).mp q))
theorem zv_if_ne (hexec : p.tables.exec = Jvm.exec) (hb : c.code = cc) {x : Int} {off : Int} {tgt : Nat} (hdg : decode cc pc = .ok (.ifCond .ne off, 3)) (ht : (pc : Int) + off = (tgt : Int)) (hx : ¬ zout x)
    (kt : ¬ x = 0 → W p l e R s m args below meth c H locs cells slots Q (F0 m tgt ls rest)) (kf : x = 0 → W p l e R s m args below meth c H locs cells slots Q (F0 m (pc + 3) ls rest)) : W p l e R s m args below meth c H locs cells slots Q (F0 m pc ls (.int (zi x) :: rest)) := lv_if_ne hexec hb hdg ht (fun q => kt (fun q2 => q ((zi_eq hx z0_in).mpr q2))) (fun q => kf ((zi_eq hx z0_in).mp q))
theorem zv_lif_ne (hexec : p.tables.exec = Jvm.exec) (hb : c.code = cc) {x y : Int} {off : Int} {tgt : Nat} (hd1 : decode cc pc = .ok (.lcmp, 1)) (hdg : decode cc (pc + 1) = .ok (.ifCond .ne off, 3)) (ht : ((pc + 1 : Nat) : Int) + off = (tgt : Int)) (hx : ¬ zoutL x) (hy : ¬ zoutL y)
    (kt : ¬ x = y → W p l e R s m args below meth c H locs cells slots Q (F0 m tgt ls rest)) (kf : x = y → W p l e R s m args below meth c H locs cells slots Q (F0 m (pc + 1 + 3) ls rest)) : W p l e R s m args below meth c H locs cells slots Q (F0 m pc ls (.long (zl y) :: .long (zl x) :: rest)) := W.lcmp hexec hb hd1 (lv_if_ne hexec hb hdg ht (fun q => kt (fun q2 => q ((lg_cmp_eq _ _).mpr ((zl_eq hx hy).mpr q2)))) (fun q => kf ((zl_eq hx hy).mp ((lg_cmp_eq _ _).mp q))))
theorem zv_icmp_lt (hexec : p.tables.exec = Jvm.exec) (hb : c.code = cc) {x y : Int} {off : Int} {tgt : Nat} (hdg : decode cc pc = .ok (.if_icmp .lt off, 3)) (ht : (pc : Int) + off = (tgt : Int)) (hx : ¬ zout x) (hy : ¬ zout y)
    (kt : x < y → W p l e R s m args below meth c H locs cells slots Q (F0 m tgt ls rest)) (kf : ¬ x < y → W p l e R s m args below meth c H locs cells slots Q (F0 m (pc + 3) ls rest)) : W p l e R s m args below meth c H locs cells slots Q (F0 m pc ls (.int (zi y) :: .int (zi x) :: rest)) := lv_icmp_lt hexec hb hdg ht (fun q => kt ((zi_lt hx hy).mp q)) (fun q => kf (fun q2 => q ((zi_lt hx hy).mpr q2)))
theorem zv_if_lt (hexec : p.tables.exec = Jvm.exec) (hb : c.code = cc) {x : Int} {off : Int} {tgt : Nat} (hdg : decode cc pc = .ok (.ifCond .lt off, 3)) (ht : (pc : Int) + off = (tgt : Int)) (hx : ¬ zout x)
    (kt : x < 0 → W p l e R s m args below meth c H locs cells slots Q (F0 m tgt ls rest)) (kf : ¬ x < 0 → W p l e R s m args below meth c H locs cells slots Q (F0 m (pc + 3) ls rest)) : W p l e R s m args below meth c H locs cells slots Q (F0 m pc ls (.int (zi x) :: rest)) := lv_if_lt hexec hb hdg ht (fun q => kt ((zi_lt hx z0_in).mp q)) (fun q => kf (fun q2 => q ((zi_lt hx z0_in).mpr q2)))
theorem zv_lif_lt (hexec : p.tables.exec = Jvm.exec) (hb : c.code = cc) {x y : Int} {off : Int} {tgt : Nat} (hd1 : decode cc pc = .ok (.lcmp, 1)) (hdg : decode cc (pc + 1) = .ok (.ifCond .lt off, 3)) (ht : ((pc + 1 : Nat) : Int) + off = (tgt : Int)) (hx : ¬ zoutL x) (hy : ¬ zoutL y)
    (kt : x < y → W p l e R s m args below meth c H locs cells slots Q (F0 m tgt ls rest)) (kf : ¬ x < y → W p l e R s m args below meth c H locs cells slots Q (F0 m (pc + 1 + 3) ls rest)) : W p l e R s m args below meth c H locs cells slots Q (F0 m pc ls (.long (zl y) :: .long (zl x) :: rest)) := W.lcmp hexec hb hd1 (lv_if_lt hexec hb hdg ht (fun q => kt ((zl_lt hx hy).mp ((lg_cmp_lt _ _).mp q))) (fun q => kf (fun q2 => q ((lg_cmp_lt _ _).mpr ((zl_lt hx hy).mpr q2)))))
theorem zv_icmp_ge (hexec : p.tables.exec = Jvm.exec) (hb : c.code = cc) {x y : Int} {off : Int} {tgt : Nat} (hdg : decode cc pc = .ok (.if_icmp .ge off, 3)) (ht : (pc : Int) + off = (tgt : Int)) (hx : ¬ zout x) (hy : ¬ zout y)
    (kt : y ≤ x → W p l e R s m args below meth c H locs cells slots Q (F0 m tgt ls rest)) (kf : ¬ y ≤ x → W p l e R s m args below meth c H locs cells slots Q (F0 m (pc + 3) ls rest)) : W p l e R s m args below meth c H locs cells slots Q (F0 m pc ls (.int (zi y) :: .int (zi x) :: rest)) := lv_icmp_ge hexec hb hdg ht (fun q => kt ((zi_le hy hx).mp q)) (fun q => kf (fun q2 => q ((zi_le hy hx).mpr q2)))
theorem zv_if_ge (hexec : p.tables.exec = Jvm.exec) (hb : c.code = cc) {x : Int} {off : Int} {tgt : Nat} (hdg : decode cc pc = .ok (.ifCond .ge off, 3)) (ht : (pc : Int) + off = (tgt : Int)) (hx : ¬ zout x)
    (kt : 0 ≤ x → W p l e R s m args below meth c H locs cells slots Q (F0 m tgt ls rest)) (kf : ¬ 0 ≤ x → W p l e R s m args below meth c H locs cells slots Q (F0 m (pc + 3) ls rest)) : W p l e R s m args below meth c H locs cells slots Q (F0 m pc ls (.int (zi x) :: rest)) := lv_if_ge hexec hb hdg ht (fun q => kt ((zi_le z0_in hx).mp q)) (fun q => kf (fun q2 => q ((zi_le z0_in hx).mpr q2)))
theorem zv_lif_ge (hexec : p.tables.exec = Jvm.exec) (hb : c.code = cc) {x y : Int} {off : Int} {tgt : Nat} (hd1 : decode cc pc = .ok (.lcmp, 1)) (hdg : decode cc (pc + 1) = .ok (.ifCond .ge off, 3)) (ht : ((pc + 1 : Nat) : Int) + off = (tgt : Int)) (hx : ¬ zoutL x) (hy : ¬ zoutL y)
    (kt : y ≤ x → W p l e R s m args below meth c H locs cells slots Q (F0 m tgt ls rest)) (kf : ¬ y ≤ x → W p l e R s m args below meth c H locs cells slots Q (F0 m (pc + 1 + 3) ls rest)) : W p l e R s m args below meth c H locs cells slots Q (F0 m pc ls (.long (zl y) :: .long (zl x) :: rest)) := W.lcmp hexec hb hd1 (lv_if_ge hexec hb hdg ht (fun q => kt ((zl_le hy hx).mp ((lg_cmp_ge _ _).mp q))) (fun q => kf (fun q2 => q ((lg_cmp_ge _ _).mpr ((zl_le hy hx).mpr q2)))))
theorem zv_icmp_gt (hexec : p.tables.exec = Jvm.exec) (hb : c.code = cc) {x y : Int} {off : Int} {tgt : Nat} (hdg : decode cc pc = .ok (.if_icmp .gt off, 3)) (ht : (pc : Int) + off = (tgt : Int)) (hx : ¬ zout x) (hy : ¬ zout y)
    (kt : y < x → W p l e R s m args below meth c H locs cells slots Q (F0 m tgt ls rest)) (kf : ¬ y < x → W p l e R s m args below meth c H locs cells slots Q (F0 m (pc + 3) ls rest)) : W p l e R s m args below meth c H locs cells slots Q (F0 m pc ls (.int (zi y) :: .int (zi x) :: rest)) := lv_icmp_gt hexec hb hdg ht (fun q => kt ((zi_lt hy hx).mp q)) (fun q => kf (fun q2 => q ((zi_lt hy hx).mpr q2)))
theorem zv_if_gt (hexec : p.tables.exec = Jvm.exec) (hb : c.code = cc) {x : Int} {off : Int} {tgt : Nat} (hdg : decode cc pc = .ok (.ifCond .gt off, 3)) (ht : (pc : Int) + off = (tgt : Int)) (hx : ¬ zout x)
    (kt : 0 < x → W p l e R s m args below meth c H locs cells slots Q (F0 m tgt ls rest)) (kf : ¬ 0 < x → W p l e R s m args below meth c H locs cells slots Q (F0 m (pc + 3) ls rest)) : W p l e R s m args below meth c H locs cells slots Q (F0 m pc ls (.int (zi x) :: rest)) := lv_if_gt hexec hb hdg ht (fun q => kt ((zi_lt z0_in hx).mp q)) (fun q => kf (fun q2 => q ((zi_lt z0_in hx).mpr q2)))
theorem zv_lif_gt (hexec : p.tables.exec = Jvm.exec) (hb : c.code = cc) {x y : Int} {off : Int} {tgt : Nat} (hd1 : decode cc pc = .ok (.lcmp, 1)) (hdg : decode cc (pc + 1) = .ok (.ifCond .gt off, 3)) (ht : ((pc + 1 : Nat) : Int) + off = (tgt : Int)) (hx : ¬ zoutL x) (hy : ¬ zoutL y)
    (kt : y < x → W p l e R s m args below meth c H locs cells slots Q (F0 m tgt ls rest)) (kf : ¬ y < x → W p l e R s m args below meth c H locs cells slots Q (F0 m (pc + 1 + 3) ls rest)) : W p l e R s m args below meth c H locs cells slots Q (F0 m pc ls (.long (zl y) :: .long (zl x) :: rest)) := W.lcmp hexec hb hd1 (lv_if_gt hexec hb hdg ht (fun q => kt ((zl_lt hy hx).mp ((lg_cmp_gt _ _).mp q))) (fun q => kf (fun q2 => q ((lg_cmp_gt _ _).mpr ((zl_lt hy hx).mpr q2)))))
theorem zv_icmp_le (hexec : p.tables.exec = Jvm.exec) (hb : c.code = cc) {x y : Int} {off : Int} {tgt : Nat} (hdg : decode cc pc = .ok (.if_icmp .le off, 3)) (ht : (pc : Int) + off = (tgt : Int)) (hx : ¬ zout x) (hy : ¬ zout y)
    (kt : x ≤ y → W p l e R s m args below meth c H locs cells slots Q (F0 m tgt ls rest)) (kf : ¬ x ≤ y → W p l e R s m args below meth c H locs cells slots Q (F0 m (pc + 3) ls rest)) : W p l e R s m args below meth c H locs cells slots Q (F0 m pc ls (.int (zi y) :: .int (zi x) :: rest)) := lv_icmp_le hexec hb hdg ht (fun q => kt ((zi_le hx hy).mp q)) (fun q => kf (fun q2 => q ((zi_le hx hy).mpr q2)))
theorem zv_if_le (hexec : p.tables.exec = Jvm.exec) (hb : c.code = cc) {x : Int} {off : Int} {tgt : Nat} (hdg : decode cc pc = .ok (.ifCond .le off, 3)) (ht : (pc : Int) + off = (tgt : Int)) (hx : ¬ zout x)
    (kt : x ≤ 0 → W p l e R s m args below meth c H locs cells slots Q (F0 m tgt ls rest)) (kf : ¬ x ≤ 0 → W p l e R s m args below meth c H locs cells slots Q (F0 m (pc + 3) ls rest)) : W p l e R s m args below meth c H locs cells slots Q (F0 m pc ls (.int (zi x) :: rest)) := lv_if_le hexec hb hdg ht (fun q => kt ((zi_le hx z0_in).mp q)) (fun q => kf (fun q2 => q ((zi_le hx z0_in).mpr q2)))
theorem zv_lif_le (hexec : p.tables.exec = Jvm.exec) (hb : c.code = cc) {x y : Int} {off : Int} {tgt : Nat} (hd1 : decode cc pc = .ok (.lcmp, 1)) (hdg : decode cc (pc + 1) = .ok (.ifCond .le off, 3)) (ht : ((pc + 1 : Nat) : Int) + off = (tgt : Int)) (hx : ¬ zoutL x) (hy : ¬ zoutL y)
    (kt : x ≤ y → W p l e R s m args below meth c H locs cells slots Q (F0 m tgt ls rest)) (kf : ¬ x ≤ y → W p l e R s m args below meth c H locs cells slots Q (F0 m (pc + 1 + 3) ls rest)) : W p l e R s m args below meth c H locs cells slots Q (F0 m pc ls (.long (zl y) :: .long (zl x) :: rest)) := W.lcmp hexec hb hd1 (lv_if_le hexec hb hdg ht (fun q => kt ((zl_le hx hy).mp ((lg_cmp_le _ _).mp q))) (fun q => kf (fun q2 => q ((lg_cmp_le _ _).mpr ((zl_le hx hy).mpr q2)))))
theorem zv_ifb_eq (hexec : p.tables.exec = Jvm.exec) (hb : c.code = cc) {b : Bool} {off : Int} {tgt : Nat} (hdg : decode cc pc = .ok (.ifCond .eq off, 3)) (ht : (pc : Int) + off = (tgt : Int))
    (kt : b = false → W p l e R s m args below meth c H locs cells slots Q (F0 m tgt ls rest)) (kf : ¬ b = false → W p l e R s m args below meth c H locs cells slots Q (F0 m (pc + 3) ls rest)) : W p l e R s m args below meth c H locs cells slots Q (F0 m pc ls (.int (zi (bI b)) :: rest)) := lv_if_eq hexec hb hdg ht (fun q => kt ((bI_0 b).mp ((zi_eq (bI_in b) z0_in).mp q))) (fun q => kf (fun q2 => q ((zi_eq (bI_in b) z0_in).mpr ((bI_0 b).mpr q2))))
theorem zv_ifb_ne (hexec : p.tables.exec = Jvm.exec) (hb : c.code = cc) {b : Bool} {off : Int} {tgt : Nat} (hdg : decode cc pc = .ok (.ifCond .ne off, 3)) (ht : (pc : Int) + off = (tgt : Int))
    (kt : ¬ b = false → W p l e R s m args below meth c H locs cells slots Q (F0 m tgt ls rest)) (kf : b = false → W p l e R s m args below meth c H locs cells slots Q (F0 m (pc + 3) ls rest)) : W p l e R s m args below meth c H locs cells slots Q (F0 m pc ls (.int (zi (bI b)) :: rest)) := lv_if_ne hexec hb hdg ht (fun q => kt (fun q2 => q ((zi_eq (bI_in b) z0_in).mpr ((bI_0 b).mpr q2)))) (fun q => kf ((bI_0 b).mp ((zi_eq (bI_in b) z0_in).mp q)))
end ZV
section ZA
variable {p : Program} {l : Launch} {e : Env} {R : Room} {s : State} {m : MethodId} {args : Array Value} {below : List Frame} {meth : Method} {c : Code} {H H0 : Heap} {locs : List Loc} {cells slots : Nat} {Q : State → Prop} {A : Nat → Prop}
variable {cc : ByteArray} {pc : Nat} {ls : Array Slot} {rest : List Value} {D : va_G} {cl : List vw_C} {tys : List (ClassId × FieldType)} {ws : va_W} {a : Nat}
theorem zv_iald (hexec : p.tables.exec = Jvm.exec) (hb : c.code = cc) (hK : va_K D cl tys s) (hP : va_P D cl ws H) (q0 t0 : Nat) {cA : ClassId} {n F : Nat} (ha : ws[q0]? = some (a, .inl (cA, n, .inl (zc F)))) (ht : tys[t0]? = some (cA, .int)) (hn : n ≤ 2147483647) {i : Int} (hin : ¬ (i < 0 ∨ (n : Int) ≤ i)) (hdg : decode cc pc = .ok (.iaload, 1))
    (kk : W p l e R s m args below meth c H locs cells slots Q (F0 m (pc + 1) ls (.int (zi (zget F i.toNat)) :: rest))) : W p l e R s m args below meth c H locs cells slots Q (F0 m pc ls (.int (zi i) :: .ref a :: rest)) := va_iald hexec hb hK hP q0 t0 ha ht (zi_vin hn hin) hdg (by rw [zi_clamp hn hin]; exact kk)
theorem zv_bald (hexec : p.tables.exec = Jvm.exec) (hb : c.code = cc) (hK : va_K D cl tys s) (hP : va_P D cl ws H) (q0 t0 : Nat) {cA : ClassId} {n F : Nat} (ha : ws[q0]? = some (a, .inl (cA, n, .inl (zc F)))) (ht : tys[t0]? = some (cA, .byte)) (hn : n ≤ 2147483647) {i : Int} (hin : ¬ (i < 0 ∨ (n : Int) ≤ i)) (hdg : decode cc pc = .ok (.baload, 1))
    (kk : W p l e R s m args below meth c H locs cells slots Q (F0 m (pc + 1) ls (.int (zi (zget F i.toNat)) :: rest))) : W p l e R s m args below meth c H locs cells slots Q (F0 m pc ls (.int (zi i) :: .ref a :: rest)) := va_bald hexec hb hK hP q0 t0 ha ht (zi_vin hn hin) hdg (by rw [zi_clamp hn hin]; exact kk)
theorem zv_zald (hexec : p.tables.exec = Jvm.exec) (hb : c.code = cc) (hK : va_K D cl tys s) (hP : va_P D cl ws H) (q0 t0 : Nat) {cA : ClassId} {n F : Nat} (ha : ws[q0]? = some (a, .inl (cA, n, .inl (zc F)))) (ht : tys[t0]? = some (cA, .boolean)) (hn : n ≤ 2147483647) {i : Int} (hin : ¬ (i < 0 ∨ (n : Int) ≤ i)) (hdg : decode cc pc = .ok (.baload, 1))
    (kk : W p l e R s m args below meth c H locs cells slots Q (F0 m (pc + 1) ls (.int (zi (zget F i.toNat)) :: rest))) : W p l e R s m args below meth c H locs cells slots Q (F0 m pc ls (.int (zi i) :: .ref a :: rest)) := va_zald hexec hb hK hP q0 t0 ha ht (zi_vin hn hin) hdg (by rw [zi_clamp hn hin]; exact kk)
theorem zv_lald (hexec : p.tables.exec = Jvm.exec) (hb : c.code = cc) (hK : va_K D cl tys s) (hP : va_P D cl ws H) (q0 t0 : Nat) {cA : ClassId} {n F : Nat} (ha : ws[q0]? = some (a, .inl (cA, n, .inr (.inl (zcL F))))) (ht : tys[t0]? = some (cA, .long)) (hn : n ≤ 2147483647) {i : Int} (hin : ¬ (i < 0 ∨ (n : Int) ≤ i)) (hdg : decode cc pc = .ok (.laload, 1))
    (kk : W p l e R s m args below meth c H locs cells slots Q (F0 m (pc + 1) ls (.long (zl (zgetL F i.toNat)) :: rest))) : W p l e R s m args below meth c H locs cells slots Q (F0 m pc ls (.int (zi i) :: .ref a :: rest)) := va_lald hexec hb hK hP q0 t0 ha ht (zi_vin hn hin) hdg (by rw [zi_clamp hn hin]; exact kk)
theorem zv_iast (hexec : p.tables.exec = Jvm.exec) (hb : c.code = cc) (hK : va_K D cl tys s) (hP : va_P D cl ws H) (hD : va_D A ws) (hS : va_S A H0 H locs) (q0 t0 : Nat) {cA : ClassId} {n F : Nat} (ha : ws[q0]? = some (a, .inl (cA, n, .inl (zc F)))) (ht : tys[t0]? = some (cA, .int)) (hn : n ≤ 2147483647) {i : Int} {x : Int} (hin : ¬ (i < 0 ∨ (n : Int) ≤ i)) (hdg : decode cc pc = .ok (.iastore, 1))
    (kk : ∀ (H1 : Heap) (locs1 : List Loc), va_P D cl (ws.set q0 (a, .inl (cA, n, .inl (zc (zset F i.toNat x))))) H1 → va_D A (ws.set q0 (a, .inl (cA, n, .inl (zc (zset F i.toNat x))))) → va_S A H0 H1 locs1 → W p l e R s m args below meth c H1 locs1 cells slots Q (F0 m (pc + 1) ls rest)) : W p l e R s m args below meth c H locs cells slots Q (F0 m pc ls (.int (zi (x)) :: .int (zi i) :: .ref a :: rest)) := by
  refine va_iast hexec hb hK hP hD hS q0 t0 ha ht (zi_vin hn hin) hdg ?_
  rw [zi_clamp hn hin, zc_set]
  exact kk
theorem zv_bast (hexec : p.tables.exec = Jvm.exec) (hb : c.code = cc) (hK : va_K D cl tys s) (hP : va_P D cl ws H) (hD : va_D A ws) (hS : va_S A H0 H locs) (q0 t0 : Nat) {cA : ClassId} {n F : Nat} (ha : ws[q0]? = some (a, .inl (cA, n, .inl (zc F)))) (ht : tys[t0]? = some (cA, .byte)) (hn : n ≤ 2147483647) {i : Int} {x : Int} (hin : ¬ (i < 0 ∨ (n : Int) ≤ i)) (hdg : decode cc pc = .ok (.bastore, 1))
    (kk : ∀ (H1 : Heap) (locs1 : List Loc), va_P D cl (ws.set q0 (a, .inl (cA, n, .inl (zc (zset F i.toNat (zb x)))))) H1 → va_D A (ws.set q0 (a, .inl (cA, n, .inl (zc (zset F i.toNat (zb x)))))) → va_S A H0 H1 locs1 → W p l e R s m args below meth c H1 locs1 cells slots Q (F0 m (pc + 1) ls rest)) : W p l e R s m args below meth c H locs cells slots Q (F0 m pc ls (.int (zi (x)) :: .int (zi i) :: .ref a :: rest)) := by
  refine va_bast hexec hb hK hP hD hS q0 t0 ha ht (zi_vin hn hin) hdg ?_
  rw [zi_clamp hn hin, zi_nb, zc_set]
  exact kk
theorem zv_zast (hexec : p.tables.exec = Jvm.exec) (hb : c.code = cc) (hK : va_K D cl tys s) (hP : va_P D cl ws H) (hD : va_D A ws) (hS : va_S A H0 H locs) (q0 t0 : Nat) {cA : ClassId} {n F : Nat} (ha : ws[q0]? = some (a, .inl (cA, n, .inl (zc F)))) (ht : tys[t0]? = some (cA, .boolean)) (hn : n ≤ 2147483647) {i : Int} {x : Bool} (hin : ¬ (i < 0 ∨ (n : Int) ≤ i)) (hdg : decode cc pc = .ok (.bastore, 1))
    (kk : ∀ (H1 : Heap) (locs1 : List Loc), va_P D cl (ws.set q0 (a, .inl (cA, n, .inl (zc (zset F i.toNat (bI x)))))) H1 → va_D A (ws.set q0 (a, .inl (cA, n, .inl (zc (zset F i.toNat (bI x)))))) → va_S A H0 H1 locs1 → W p l e R s m args below meth c H1 locs1 cells slots Q (F0 m (pc + 1) ls rest)) : W p l e R s m args below meth c H locs cells slots Q (F0 m pc ls (.int (zi (bI x)) :: .int (zi i) :: .ref a :: rest)) := by
  refine va_zast hexec hb hK hP hD hS q0 t0 ha ht (zi_vin hn hin) hdg ?_
  rw [zi_clamp hn hin, bI_nz, zc_set]
  exact kk
theorem zv_last (hexec : p.tables.exec = Jvm.exec) (hb : c.code = cc) (hK : va_K D cl tys s) (hP : va_P D cl ws H) (hD : va_D A ws) (hS : va_S A H0 H locs) (q0 t0 : Nat) {cA : ClassId} {n F : Nat} (ha : ws[q0]? = some (a, .inl (cA, n, .inr (.inl (zcL F))))) (ht : tys[t0]? = some (cA, .long)) (hn : n ≤ 2147483647) {i : Int} {x : Int} (hin : ¬ (i < 0 ∨ (n : Int) ≤ i)) (hdg : decode cc pc = .ok (.lastore, 1))
    (kk : ∀ (H1 : Heap) (locs1 : List Loc), va_P D cl (ws.set q0 (a, .inl (cA, n, .inr (.inl (zcL (zsetL F i.toNat x)))))) H1 → va_D A (ws.set q0 (a, .inl (cA, n, .inr (.inl (zcL (zsetL F i.toNat x)))))) → va_S A H0 H1 locs1 → W p l e R s m args below meth c H1 locs1 cells slots Q (F0 m (pc + 1) ls rest)) : W p l e R s m args below meth c H locs cells slots Q (F0 m pc ls (.long (zl (x)) :: .int (zi i) :: .ref a :: rest)) := by
  refine va_last hexec hb hK hP hD hS q0 t0 ha ht (zi_vin hn hin) hdg ?_
  rw [zi_clamp hn hin, zcL_set]
  exact kk
end ZA
