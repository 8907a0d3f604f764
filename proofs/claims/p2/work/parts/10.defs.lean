noncomputable def zf_J6_bitCount_0f7a4   (i0 : Int) : Option (Int) :=
  some ((zand (((zand (((zand (i0 - (zand (zushr i0 (1 : Int)) (1431655765 : Int))) (858993459 : Int)) + (zand (zushr (i0 - (zand (zushr i0 (1 : Int)) (1431655765 : Int))) (2 : Int)) (858993459 : Int))) + (zushr ((zand (i0 - (zand (zushr i0 (1 : Int)) (1431655765 : Int))) (858993459 : Int)) + (zand (zushr (i0 - (zand (zushr i0 (1 : Int)) (1431655765 : Int))) (2 : Int)) (858993459 : Int))) (4 : Int))) (252645135 : Int)) + (zushr (zand (((zand (i0 - (zand (zushr i0 (1 : Int)) (1431655765 : Int))) (858993459 : Int)) + (zand (zushr (i0 - (zand (zushr i0 (1 : Int)) (1431655765 : Int))) (2 : Int)) (858993459 : Int))) + (zushr ((zand (i0 - (zand (zushr i0 (1 : Int)) (1431655765 : Int))) (858993459 : Int)) + (zand (zushr (i0 - (zand (zushr i0 (1 : Int)) (1431655765 : Int))) (2 : Int)) (858993459 : Int))) (4 : Int))) (252645135 : Int)) (8 : Int))) + (zushr ((zand (((zand (i0 - (zand (zushr i0 (1 : Int)) (1431655765 : Int))) (858993459 : Int)) + (zand (zushr (i0 - (zand (zushr i0 (1 : Int)) (1431655765 : Int))) (2 : Int)) (858993459 : Int))) + (zushr ((zand (i0 - (zand (zushr i0 (1 : Int)) (1431655765 : Int))) (858993459 : Int)) + (zand (zushr (i0 - (zand (zushr i0 (1 : Int)) (1431655765 : Int))) (2 : Int)) (858993459 : Int))) (4 : Int))) (252645135 : Int)) + (zushr (zand (((zand (i0 - (zand (zushr i0 (1 : Int)) (1431655765 : Int))) (858993459 : Int)) + (zand (zushr (i0 - (zand (zushr i0 (1 : Int)) (1431655765 : Int))) (2 : Int)) (858993459 : Int))) + (zushr ((zand (i0 - (zand (zushr i0 (1 : Int)) (1431655765 : Int))) (858993459 : Int)) + (zand (zushr (i0 - (zand (zushr i0 (1 : Int)) (1431655765 : Int))) (2 : Int)) (858993459 : Int))) (4 : Int))) (252645135 : Int)) (8 : Int))) (16 : Int))) (63 : Int)))
noncomputable def zf_J9_floorMod_7cf53   (i0 : Int) (i1 : Int) : Option (Int) :=
  if zout i0 then none else
  if zout i1 then none else
  if i1 = 0 then none else
  if 0 ≤ (zxor i0 i1) then
  some ((Int.tmod i0 i1))
  else
  if zout (Int.tmod i0 i1) then none else
  if (Int.tmod i0 i1) = 0 then
  some ((Int.tmod i0 i1))
  else
  some (((Int.tmod i0 i1) + i1))
noncomputable def zf_X8_size  (t_length : Int)  : Option (Int) :=
  some (t_length)
noncomputable def zf_X8_kind  (t_kind : Int)  : Option (Int) :=
  some (t_kind)
noncomputable def zf_X8_place  (t_place : Int)  : Option (Int) :=
  some (t_place)
noncomputable def zf_X8_value  (t_value : Int)  : Option (Int) :=
  some (t_value)
noncomputable def zf_X8_hasRoomForTwenty  (t_length : Int)  : Option (Bool) :=
  if zout (t_length + (20 : Int)) then none else
  if (300 : Int) < (t_length + (20 : Int)) then
  some (false)
  else
  some (true)
abbrev zS_X8_append : Type := Nat × Int × Int × Int × Nat
abbrev zO_X8_append : Type := Int × Nat
noncomputable def zg_X8_append_0   (i1 : Int) (i2 : Int) (t_length : Int) (t_bytes : Nat) : Option (zO_X8_append ⊕ zS_X8_append) :=
  some (.inr (3, i1, (24 : Int), t_length, t_bytes))
noncomputable def zg_X8_append_3   (i1 : Int) (i2 : Int) (t_length : Int) (t_bytes : Nat) : Option (zO_X8_append ⊕ zS_X8_append) :=
  if zout i2 then none else
  if i2 < 0 then
  some (.inl (t_length, t_bytes))
  else
  if zout t_length then none else
  if (300 : Int) ≤ t_length then
  some (.inl (t_length, t_bytes))
  else
  if t_length < 0 ∨ 300 ≤ t_length then none else
  some (.inr (3, i1, (i2 + (-8 : Int)), (t_length + (1 : Int)), (zset t_bytes (Int.toNat t_length) (zb (zb (zshr i1 i2))))))
noncomputable def zg_X8_append   (st : zS_X8_append) : Option (zO_X8_append ⊕ zS_X8_append) := match st with
  | (lab, i1, i2, t_length, t_bytes) => if lab = 0 then zg_X8_append_0  i1 i2 t_length t_bytes else if lab = 3 then zg_X8_append_3  i1 i2 t_length t_bytes else none
noncomputable def zf_X8_append  (t_length : Int) (t_bytes : Nat) (i1 : Int) : Option (Int × Nat) := jrun (zg_X8_append ) jfuel (0, i1, 0, t_length, t_bytes)
noncomputable def zf_X8_shorten  (t_length : Int) (i1 : Int) : Option (Int) :=
  if zout i1 then none else
  if i1 < 0 then
  some (t_length)
  else
  if zout t_length then none else
  if t_length < i1 then
  some (t_length)
  else
  some (i1)
noncomputable def zf_X8_rewind  (t_next : Int)  : Option (Int) :=
  some ((0 : Int))
noncomputable def zf_X8_isBlank   (i0 : Int) : Option (Bool) :=
  if zout i0 then none else
  if i0 = (32 : Int) then
  some (true)
  else
  if i0 = (10 : Int) then
  some (true)
  else
  some (false)
noncomputable def zf_X8_isLetter   (i0 : Int) : Option (Bool) :=
  if zout i0 then none else
  if i0 < (97 : Int) then
  some (false)
  else
  if (122 : Int) < i0 then
  some (false)
  else
  some (true)
abbrev zS_X8_readWord : Type := Nat × Int × Int
abbrev zO_X8_readWord : Type := Int × Int
noncomputable def zg_X8_readWord_0  (t_length : Int) (t_place : Int) (t_bytes : Nat) (t_next : Int) (t_kind : Int) : Option (zO_X8_readWord ⊕ zS_X8_readWord) :=
  if zout t_next then none else
  if zout t_length then none else
  if t_length ≤ t_next then
  if zout (t_next - t_place) then none else
  if (8 : Int) < (t_next - t_place) then
  some (.inl (t_next, (4 : Int)))
  else
  some (.inl (t_next, (1 : Int)))
  else
  if t_next < 0 ∨ 300 ≤ t_next then none else
  Option.bind (zf_X8_isLetter (zget t_bytes (Int.toNat t_next))) (fun o6 =>
  if o6 = false then
  if zout (t_next - t_place) then none else
  if (8 : Int) < (t_next - t_place) then
  some (.inl (t_next, (4 : Int)))
  else
  some (.inl (t_next, (1 : Int)))
  else
  some (.inr (0, (t_next + (1 : Int)), t_kind)))
noncomputable def zg_X8_readWord  (t_length : Int) (t_place : Int) (t_bytes : Nat) (st : zS_X8_readWord) : Option (zO_X8_readWord ⊕ zS_X8_readWord) := match st with
  | (lab, t_next, t_kind) => if lab = 0 then zg_X8_readWord_0 t_length t_place t_bytes t_next t_kind else none
noncomputable def zf_X8_readWord  (t_length : Int) (t_next : Int) (t_kind : Int) (t_place : Int) (t_bytes : Nat)  : Option (Int × Int) := jrun (zg_X8_readWord t_length t_place t_bytes) jfuel (0, t_next, t_kind)
noncomputable def zf_X8_isDigit   (i0 : Int) : Option (Bool) :=
  if zout i0 then none else
  if i0 < (48 : Int) then
  some (false)
  else
  if (57 : Int) < i0 then
  some (false)
  else
  some (true)
abbrev zS_X8_readNumber : Type := Nat × Int × Int × Int
abbrev zO_X8_readNumber : Type := Int × Int × Int
noncomputable def zg_X8_readNumber_0  (t_length : Int) (t_place : Int) (t_bytes : Nat) (t_next : Int) (t_kind : Int) (t_value : Int) : Option (zO_X8_readNumber ⊕ zS_X8_readNumber) :=
  if zout t_next then none else
  if zout t_length then none else
  if t_length ≤ t_next then
  if zout (t_next - t_place) then none else
  if (3 : Int) < (t_next - t_place) then
  some (.inl (t_next, (4 : Int), t_value))
  else
  some (.inl (t_next, (2 : Int), t_value))
  else
  if t_next < 0 ∨ 300 ≤ t_next then none else
  Option.bind (zf_X8_isDigit (zget t_bytes (Int.toNat t_next))) (fun o6 =>
  if o6 = false then
  if zout (t_next - t_place) then none else
  if (3 : Int) < (t_next - t_place) then
  some (.inl (t_next, (4 : Int), t_value))
  else
  some (.inl (t_next, (2 : Int), t_value))
  else
  some (.inr (0, (t_next + (1 : Int)), t_kind, (((t_value * (10 : Int)) + (zget t_bytes (Int.toNat t_next))) - (48 : Int)))))
noncomputable def zg_X8_readNumber  (t_length : Int) (t_place : Int) (t_bytes : Nat) (st : zS_X8_readNumber) : Option (zO_X8_readNumber ⊕ zS_X8_readNumber) := match st with
  | (lab, t_next, t_kind, t_value) => if lab = 0 then zg_X8_readNumber_0 t_length t_place t_bytes t_next t_kind t_value else none
noncomputable def zf_X8_readNumber  (t_length : Int) (t_next : Int) (t_kind : Int) (t_place : Int) (t_value : Int) (t_bytes : Nat)  : Option (Int × Int × Int) := jrun (zg_X8_readNumber t_length t_place t_bytes) jfuel (0, t_next, t_kind, t_value)
abbrev zS_X8_readToken : Type := Nat × Int × Int × Int × Int
abbrev zO_X8_readToken : Type := Int × Int × Int × Int
noncomputable def zg_X8_readToken_0  (t_length : Int) (t_bytes : Nat) (t_next : Int) (t_kind : Int) (t_place : Int) (t_value : Int) : Option (zO_X8_readToken ⊕ zS_X8_readToken) :=
  if zout t_next then none else
  if zout t_length then none else
  if t_length ≤ t_next then
  some (.inr (39, t_next, t_kind, t_place, t_value))
  else
  if t_next < 0 ∨ 300 ≤ t_next then none else
  Option.bind (zf_X8_isBlank (zget t_bytes (Int.toNat t_next))) (fun o4 =>
  if o4 = false then
  some (.inr (39, t_next, t_kind, t_place, t_value))
  else
  some (.inr (0, (t_next + (1 : Int)), t_kind, t_place, t_value)))
noncomputable def zg_X8_readToken_39  (t_length : Int) (t_bytes : Nat) (t_next : Int) (t_kind : Int) (t_place : Int) (t_value : Int) : Option (zO_X8_readToken ⊕ zS_X8_readToken) :=
  if zout t_next then none else
  if zout t_length then none else
  if t_next < t_length then
  if t_next < 0 ∨ 300 ≤ t_next then none else
  Option.bind (zf_X8_isLetter (zget t_bytes (Int.toNat t_next))) (fun o10 =>
  if o10 = false then
  Option.bind (zf_X8_isDigit (zget t_bytes (Int.toNat t_next))) (fun o11 =>
  if o11 = false then
  if (zget t_bytes (Int.toNat t_next)) = (59 : Int) then
  some (.inl ((t_next + (1 : Int)), (3 : Int), t_next, (0 : Int)))
  else
  some (.inl ((t_next + (1 : Int)), (4 : Int), t_next, (0 : Int)))
  else
  Option.bind (zf_X8_readNumber t_length t_next t_kind t_next (0 : Int) t_bytes) (fun o13 =>
  some (.inl ((o13.1), (o13.2.1), t_next, (o13.2.2)))))
  else
  Option.bind (zf_X8_readWord t_length t_next t_kind t_next t_bytes) (fun o15 =>
  some (.inl ((o15.1), (o15.2), t_next, (0 : Int)))))
  else
  some (.inl (t_next, (0 : Int), t_next, (0 : Int)))
noncomputable def zg_X8_readToken  (t_length : Int) (t_bytes : Nat) (st : zS_X8_readToken) : Option (zO_X8_readToken ⊕ zS_X8_readToken) := match st with
  | (lab, t_next, t_kind, t_place, t_value) => if lab = 0 then zg_X8_readToken_0 t_length t_bytes t_next t_kind t_place t_value else if lab = 39 then zg_X8_readToken_39 t_length t_bytes t_next t_kind t_place t_value else none
noncomputable def zf_X8_readToken  (t_length : Int) (t_next : Int) (t_kind : Int) (t_place : Int) (t_value : Int) (t_bytes : Nat)  : Option (Int × Int × Int × Int) := jrun (zg_X8_readToken t_length t_bytes) jfuel (0, t_next, t_kind, t_place, t_value)
abbrev zS_X8_readNumbers : Type := Nat × Int × Int × Int × Int × Int × Nat
abbrev zO_X8_readNumbers : Type := Int × Int × Int × Int × Int × Nat
noncomputable def zg_X8_readNumbers_0  (t_length : Int) (t_bytes : Nat) (i2 : Int) (t_next : Int) (t_kind : Int) (t_place : Int) (t_value : Int) (q1_c : Nat) : Option (zO_X8_readNumbers ⊕ zS_X8_readNumbers) :=
  Option.bind (zf_X8_rewind t_next) (fun o1 =>
  some (.inr (6, (0 : Int), o1, t_kind, t_place, t_value, q1_c)))
noncomputable def zg_X8_readNumbers_6  (t_length : Int) (t_bytes : Nat) (i2 : Int) (t_next : Int) (t_kind : Int) (t_place : Int) (t_value : Int) (q1_c : Nat) : Option (zO_X8_readNumbers ⊕ zS_X8_readNumbers) :=
  if zout i2 then none else
  if (10 : Int) < i2 then
  some (.inl ((-1 : Int), t_next, t_kind, t_place, t_value, q1_c))
  else
  Option.bind (zf_X8_readToken t_length t_next t_kind t_place t_value t_bytes) (fun o3 =>
  if zout (o3.2.1) then none else
  if (o3.2.1) = 0 then
  some (.inl (i2, (o3.1), (o3.2.1), (o3.2.2.1), (o3.2.2.2), q1_c))
  else
  if (o3.2.1) = (2 : Int) then
  if i2 = (10 : Int) then
  some (.inl ((-1 : Int), (o3.1), (o3.2.1), (o3.2.2.1), (o3.2.2.2), q1_c))
  else
  if i2 < 0 ∨ 10 ≤ i2 then none else
  some (.inr (6, (i2 + (1 : Int)), (o3.1), (o3.2.1), (o3.2.2.1), (o3.2.2.2), (zset q1_c (Int.toNat i2) (o3.2.2.2))))
  else
  some (.inl ((-1 : Int), (o3.1), (o3.2.1), (o3.2.2.1), (o3.2.2.2), q1_c)))
noncomputable def zg_X8_readNumbers  (t_length : Int) (t_bytes : Nat) (st : zS_X8_readNumbers) : Option (zO_X8_readNumbers ⊕ zS_X8_readNumbers) := match st with
  | (lab, i2, t_next, t_kind, t_place, t_value, q1_c) => if lab = 0 then zg_X8_readNumbers_0 t_length t_bytes i2 t_next t_kind t_place t_value q1_c else if lab = 6 then zg_X8_readNumbers_6 t_length t_bytes i2 t_next t_kind t_place t_value q1_c else none
noncomputable def zf_X8_readNumbers  (t_length : Int) (t_next : Int) (t_kind : Int) (t_place : Int) (t_value : Int) (t_bytes : Nat) (q1_c : Nat)  : Option (Int × Int × Int × Int × Int × Nat) := jrun (zg_X8_readNumbers t_length t_bytes) jfuel (0, 0, t_next, t_kind, t_place, t_value, q1_c)
noncomputable def zf_X5_numberLine  (t_lineCount : Int) (t_lesser : Nat) (t_greater : Nat) (t_numberOfLine : Nat) (t_linesAt : Nat) (i1 : Int) (i2 : Int) : Option (Int × Nat × Nat × Nat × Nat) :=
  if zout t_lineCount then none else
  if t_lineCount < (27 : Int) then
  if t_lineCount < 0 ∨ 27 ≤ t_lineCount then none else
  if ((i1 * (9 : Int)) + i2) < 0 ∨ 81 ≤ ((i1 * (9 : Int)) + i2) then none else
  if ((i2 * (9 : Int)) + i1) < 0 ∨ 81 ≤ ((i2 * (9 : Int)) + i1) then none else
  if i1 < 0 ∨ 9 ≤ i1 then none else
  if i2 < 0 ∨ 9 ≤ i2 then none else
  some ((t_lineCount + (1 : Int)), (zset t_lesser (Int.toNat t_lineCount) i1), (zset t_greater (Int.toNat t_lineCount) i2), (zset (zset t_numberOfLine (Int.toNat ((i1 * (9 : Int)) + i2)) t_lineCount) (Int.toNat ((i2 * (9 : Int)) + i1)) t_lineCount), (zset (zset t_linesAt (Int.toNat i1) (zor (zget t_linesAt (Int.toNat i1)) (zshl (1 : Int) t_lineCount))) (Int.toNat i2) (zor (zget (zset t_linesAt (Int.toNat i1) (zor (zget t_linesAt (Int.toNat i1)) (zshl (1 : Int) t_lineCount))) (Int.toNat i2)) (zshl (1 : Int) t_lineCount))))
  else
  some (t_lineCount, t_lesser, t_greater, t_numberOfLine, t_linesAt)
abbrev zS_X5_numberLines : Type := Nat × Int × Int × Int × Int × Nat × Nat × Nat × Nat
abbrev zO_X5_numberLines : Type := Int × Nat × Nat × Nat × Nat
noncomputable def zg_X5_numberLines_0  (t_corners : Int) (i1 : Int) (i2 : Int) (i3 : Int) (t_lineCount : Int) (t_lesser : Nat) (t_greater : Nat) (t_numberOfLine : Nat) (t_linesAt : Nat) : Option (zO_X5_numberLines ⊕ zS_X5_numberLines) :=
  some (.inr (2, (0 : Int), 0, 0, t_lineCount, t_lesser, t_greater, t_numberOfLine, t_linesAt))
noncomputable def zg_X5_numberLines_2  (t_corners : Int) (i1 : Int) (i2 : Int) (i3 : Int) (t_lineCount : Int) (t_lesser : Nat) (t_greater : Nat) (t_numberOfLine : Nat) (t_linesAt : Nat) : Option (zO_X5_numberLines ⊕ zS_X5_numberLines) :=
  if zout i1 then none else
  if zout t_corners then none else
  if t_corners ≤ i1 then
  some (.inr (46, (0 : Int), 0, 0, t_lineCount, t_lesser, t_greater, t_numberOfLine, t_linesAt))
  else
  some (.inr (12, i1, (0 : Int), 0, t_lineCount, t_lesser, t_greater, t_numberOfLine, t_linesAt))
noncomputable def zg_X5_numberLines_12  (t_corners : Int) (i1 : Int) (i2 : Int) (i3 : Int) (t_lineCount : Int) (t_lesser : Nat) (t_greater : Nat) (t_numberOfLine : Nat) (t_linesAt : Nat) : Option (zO_X5_numberLines ⊕ zS_X5_numberLines) :=
  if zout i2 then none else
  if zout t_corners then none else
  if t_corners ≤ i2 then
  some (.inr (2, (i1 + (1 : Int)), i2, 0, t_lineCount, t_lesser, t_greater, t_numberOfLine, t_linesAt))
  else
  if ((i1 * (9 : Int)) + i2) < 0 ∨ 81 ≤ ((i1 * (9 : Int)) + i2) then none else
  some (.inr (12, i1, (i2 + (1 : Int)), 0, t_lineCount, t_lesser, t_greater, (zset t_numberOfLine (Int.toNat ((i1 * (9 : Int)) + i2)) (-1 : Int)), t_linesAt))
noncomputable def zg_X5_numberLines_46  (t_corners : Int) (i1 : Int) (i2 : Int) (i3 : Int) (t_lineCount : Int) (t_lesser : Nat) (t_greater : Nat) (t_numberOfLine : Nat) (t_linesAt : Nat) : Option (zO_X5_numberLines ⊕ zS_X5_numberLines) :=
  if zout i1 then none else
  if zout t_corners then none else
  if t_corners ≤ i1 then
  some (.inl (t_lineCount, t_lesser, t_greater, t_numberOfLine, t_linesAt))
  else
  if i1 = 0 then
  some (.inr (76, i1, (t_corners - (1 : Int)), (i1 + (2 : Int)), t_lineCount, t_lesser, t_greater, t_numberOfLine, t_linesAt))
  else
  some (.inr (76, i1, t_corners, (i1 + (2 : Int)), t_lineCount, t_lesser, t_greater, t_numberOfLine, t_linesAt))
noncomputable def zg_X5_numberLines_76  (t_corners : Int) (i1 : Int) (i2 : Int) (i3 : Int) (t_lineCount : Int) (t_lesser : Nat) (t_greater : Nat) (t_numberOfLine : Nat) (t_linesAt : Nat) : Option (zO_X5_numberLines ⊕ zS_X5_numberLines) :=
  if zout i3 then none else
  if zout i2 then none else
  if i2 ≤ i3 then
  some (.inr (46, (i1 + (1 : Int)), i2, i3, t_lineCount, t_lesser, t_greater, t_numberOfLine, t_linesAt))
  else
  Option.bind (zf_X5_numberLine t_lineCount t_lesser t_greater t_numberOfLine t_linesAt i1 i3) (fun o14 =>
  some (.inr (76, i1, i2, (i3 + (1 : Int)), (o14.1), (o14.2.1), (o14.2.2.1), (o14.2.2.2.1), (o14.2.2.2.2))))
noncomputable def zg_X5_numberLines  (t_corners : Int) (st : zS_X5_numberLines) : Option (zO_X5_numberLines ⊕ zS_X5_numberLines) := match st with
  | (lab, i1, i2, i3, t_lineCount, t_lesser, t_greater, t_numberOfLine, t_linesAt) => if lab = 0 then zg_X5_numberLines_0 t_corners i1 i2 i3 t_lineCount t_lesser t_greater t_numberOfLine t_linesAt else if lab = 2 then zg_X5_numberLines_2 t_corners i1 i2 i3 t_lineCount t_lesser t_greater t_numberOfLine t_linesAt else if lab = 12 then zg_X5_numberLines_12 t_corners i1 i2 i3 t_lineCount t_lesser t_greater t_numberOfLine t_linesAt else if lab = 46 then zg_X5_numberLines_46 t_corners i1 i2 i3 t_lineCount t_lesser t_greater t_numberOfLine t_linesAt else if lab = 76 then zg_X5_numberLines_76 t_corners i1 i2 i3 t_lineCount t_lesser t_greater t_numberOfLine t_linesAt else none
noncomputable def zf_X5_numberLines  (t_corners : Int) (t_lineCount : Int) (t_lesser : Nat) (t_greater : Nat) (t_numberOfLine : Nat) (t_linesAt : Nat)  : Option (Int × Nat × Nat × Nat × Nat) := jrun (zg_X5_numberLines t_corners) jfuel (0, 0, 0, 0, t_lineCount, t_lesser, t_greater, t_numberOfLine, t_linesAt)
noncomputable def zf_X5_cross   (i0 : Int) (i1 : Int) (i2 : Int) (i3 : Int) : Option (Bool) :=
  if zout i0 then none else
  if zout i2 then none else
  if i2 ≤ i0 then
  if i0 ≤ i2 then
  some (false)
  else
  if zout i3 then none else
  if i3 ≤ i0 then
  some (false)
  else
  if zout i1 then none else
  if i1 ≤ i3 then
  some (false)
  else
  some (true)
  else
  if zout i1 then none else
  if i1 ≤ i2 then
  if i0 ≤ i2 then
  some (false)
  else
  if zout i3 then none else
  if i3 ≤ i0 then
  some (false)
  else
  if i1 ≤ i3 then
  some (false)
  else
  some (true)
  else
  if zout i3 then none else
  if i1 < i3 then
  some (true)
  else
  if i0 ≤ i2 then
  some (false)
  else
  if i3 ≤ i0 then
  some (false)
  else
  if i1 ≤ i3 then
  some (false)
  else
  some (true)
abbrev zS_X5_findCrossers : Type := Nat × Int × Int × Nat
abbrev zO_X5_findCrossers : Type := Nat
noncomputable def zg_X5_findCrossers_0  (t_lineCount : Int) (t_lesser : Nat) (t_greater : Nat) (i1 : Int) (i2 : Int) (t_crossers : Nat) : Option (zO_X5_findCrossers ⊕ zS_X5_findCrossers) :=
  some (.inr (2, (0 : Int), 0, t_crossers))
noncomputable def zg_X5_findCrossers_2  (t_lineCount : Int) (t_lesser : Nat) (t_greater : Nat) (i1 : Int) (i2 : Int) (t_crossers : Nat) : Option (zO_X5_findCrossers ⊕ zS_X5_findCrossers) :=
  if zout i1 then none else
  if zout t_lineCount then none else
  if t_lineCount ≤ i1 then
  some (.inl (t_crossers))
  else
  some (.inr (12, i1, (0 : Int), t_crossers))
noncomputable def zg_X5_findCrossers_12  (t_lineCount : Int) (t_lesser : Nat) (t_greater : Nat) (i1 : Int) (i2 : Int) (t_crossers : Nat) : Option (zO_X5_findCrossers ⊕ zS_X5_findCrossers) :=
  if zout i2 then none else
  if zout t_lineCount then none else
  if t_lineCount ≤ i2 then
  some (.inr (2, (i1 + (1 : Int)), i2, t_crossers))
  else
  if i1 < 0 ∨ 27 ≤ i1 then none else
  if i2 < 0 ∨ 27 ≤ i2 then none else
  Option.bind (zf_X5_cross (zget t_lesser (Int.toNat i1)) (zget t_greater (Int.toNat i1)) (zget t_lesser (Int.toNat i2)) (zget t_greater (Int.toNat i2))) (fun o8 =>
  if o8 = false then
  some (.inr (12, i1, (i2 + (1 : Int)), t_crossers))
  else
  some (.inr (12, i1, (i2 + (1 : Int)), (zset t_crossers (Int.toNat i1) (zor (zget t_crossers (Int.toNat i1)) (zshl (1 : Int) i2))))))
noncomputable def zg_X5_findCrossers  (t_lineCount : Int) (t_lesser : Nat) (t_greater : Nat) (st : zS_X5_findCrossers) : Option (zO_X5_findCrossers ⊕ zS_X5_findCrossers) := match st with
  | (lab, i1, i2, t_crossers) => if lab = 0 then zg_X5_findCrossers_0 t_lineCount t_lesser t_greater i1 i2 t_crossers else if lab = 2 then zg_X5_findCrossers_2 t_lineCount t_lesser t_greater i1 i2 t_crossers else if lab = 12 then zg_X5_findCrossers_12 t_lineCount t_lesser t_greater i1 i2 t_crossers else none
noncomputable def zf_X5_findCrossers  (t_lineCount : Int) (t_lesser : Nat) (t_greater : Nat) (t_crossers : Nat)  : Option (Nat) := jrun (zg_X5_findCrossers t_lineCount t_lesser t_greater) jfuel (0, 0, 0, t_crossers)
noncomputable def zf_X5_keepCut  (t_cutCount : Int) (t_cuts : Nat) (i1 : Int) : Option (Int × Nat) :=
  if zout t_cutCount then none else
  if (429 : Int) ≤ t_cutCount then
  some (t_cutCount, t_cuts)
  else
  if t_cutCount < 0 ∨ 429 ≤ t_cutCount then none else
  some ((t_cutCount + (1 : Int)), (zset t_cuts (Int.toNat t_cutCount) i1))
noncomputable def zh_X5_gatherCuts (rec : Int → Nat → Nat → Int → Int → Int → Int → Option (Int × Nat))  (t_cutCount : Int) (t_crossers : Nat) (t_cuts : Nat) (i1 : Int) (i2 : Int) (i3 : Int) (i4 : Int) : Option (Int × Nat) :=
  if zout i4 then none else
  if i4 = 0 then
  Option.bind (zf_X5_keepCut t_cutCount t_cuts i2) (fun o11 =>
  some ((o11.1), (o11.2)))
  else
  if zout i1 then none else
  if i1 < 0 then
  some (t_cutCount, t_cuts)
  else
  Option.bind (zf_J6_bitCount_0f7a4 i3) (fun o3 =>
  if zout o3 then none else
  if i4 ≤ o3 then
  Option.bind (rec t_cutCount t_crossers t_cuts (i1 - (1 : Int)) i2 (zand i3 (zxor (zshl (1 : Int) i1) (-1 : Int))) i4) (fun o5 =>
  if (zand i3 (zshl (1 : Int) i1)) = 0 then
  some ((o5.1), (o5.2))
  else
  if i1 < 0 ∨ 27 ≤ i1 then none else
  Option.bind (rec (o5.1) t_crossers (o5.2) (i1 - (1 : Int)) (zor i2 (zshl (1 : Int) i1)) (zand (zand i3 (zxor (zshl (1 : Int) i1) (-1 : Int))) (zxor (zget t_crossers (Int.toNat i1)) (-1 : Int))) (i4 - (1 : Int))) (fun o7 =>
  some ((o7.1), (o7.2))))
  else
  some (t_cutCount, t_cuts))
noncomputable def zf_X5_gatherCuts (d : Nat) : Int → Nat → Nat → Int → Int → Int → Int → Option (Int × Nat) := Nat.rec (fun _ _ _ _ _ _ _ => none) (fun _ rec t_cutCount t_crossers t_cuts i1 i2 i3 i4 => zh_X5_gatherCuts rec t_cutCount t_crossers t_cuts i1 i2 i3 i4) d
noncomputable def zf_X5_corners (n : Nat)   : Option (Int) :=
  some ((n : Int))
noncomputable def zf_X5_lineCount (n : Nat)   : Option (Int) :=
  some ((pg7 n))
noncomputable def zf_X5_cutCount (n : Nat)   : Option (Int) :=
  some ((pg8 n))
noncomputable def zf_X5_hasCorner (n : Nat)  (i1 : Int) : Option (Bool) :=
  if zout i1 then none else
  if i1 < 0 then
  some (false)
  else
  if zout (n : Int) then none else
  if (n : Int) ≤ i1 then
  some (false)
  else
  some (true)
noncomputable def zf_X5_hasCut (n : Nat)  (i1 : Int) : Option (Bool) :=
  if zout i1 then none else
  if i1 < 0 then
  some (false)
  else
  if zout (pg8 n) then none else
  if (pg8 n) ≤ i1 then
  some (false)
  else
  some (true)
noncomputable def zf_X5_cutAt (n : Nat)  (i1 : Int) : Option (Int) :=
  Option.bind (zf_X5_hasCut n i1) (fun o1 =>
  if o1 = false then
  some ((-1 : Int))
  else
  if i1 < 0 ∨ 429 ≤ i1 then none else
  some ((zget (pg6 n) (Int.toNat i1))))
abbrev zS_X5_numberOf : Type := Nat × Int × Int × Int × Int
abbrev zO_X5_numberOf : Type := Int
noncomputable def zg_X5_numberOf_0 (n : Nat)  (i1 : Int) (i2 : Int) (i3 : Int) (i4 : Int) : Option (zO_X5_numberOf ⊕ zS_X5_numberOf) :=
  some (.inr (12, i1, (0 : Int), ((pg8 n) - (1 : Int)), (0 : Int)))
noncomputable def zg_X5_numberOf_12 (n : Nat)  (i1 : Int) (i2 : Int) (i3 : Int) (i4 : Int) : Option (zO_X5_numberOf ⊕ zS_X5_numberOf) :=
  if zout i4 then none else
  if (429 : Int) ≤ i4 then
  some (.inl ((-1 : Int)))
  else
  if zout i2 then none else
  if zout i3 then none else
  if i3 < i2 then
  some (.inl ((-1 : Int)))
  else
  if (zshr (i2 + i3) (1 : Int)) < 0 ∨ 429 ≤ (zshr (i2 + i3) (1 : Int)) then none else
  if zout i1 then none else
  if (zget (pg6 n) (Int.toNat (zshr (i2 + i3) (1 : Int)))) = i1 then
  some (.inl ((zshr (i2 + i3) (1 : Int))))
  else
  if i1 ≤ (zget (pg6 n) (Int.toNat (zshr (i2 + i3) (1 : Int)))) then
  some (.inr (12, i1, i2, ((zshr (i2 + i3) (1 : Int)) - (1 : Int)), (i4 + (1 : Int))))
  else
  some (.inr (12, i1, ((zshr (i2 + i3) (1 : Int)) + (1 : Int)), i3, (i4 + (1 : Int))))
noncomputable def zg_X5_numberOf (n : Nat)  (st : zS_X5_numberOf) : Option (zO_X5_numberOf ⊕ zS_X5_numberOf) := match st with
  | (lab, i1, i2, i3, i4) => if lab = 0 then zg_X5_numberOf_0 n i1 i2 i3 i4 else if lab = 12 then zg_X5_numberOf_12 n i1 i2 i3 i4 else none
noncomputable def zf_X5_numberOf (n : Nat)  (i1 : Int) : Option (Int) := jrun (zg_X5_numberOf n) jfuel (0, i1, 0, 0, 0)
noncomputable def zf_X5_areNext (n : Nat)  (i1 : Int) (i2 : Int) : Option (Bool) :=
  if zout (i1 - i2) then none else
  if zout (zabs (i1 - i2)) then none else
  if (zabs (i1 - i2)) = (1 : Int) then
  some (true)
  else
  if zout ((n : Int) - (1 : Int)) then none else
  if (zabs (i1 - i2)) = ((n : Int) - (1 : Int)) then
  some (true)
  else
  some (false)
noncomputable def zf_X5_lineOf (n : Nat)  (i1 : Int) (i2 : Int) : Option (Int) :=
  Option.bind (zf_X5_hasCorner n i1) (fun o1 =>
  if o1 = false then
  some ((-1 : Int))
  else
  Option.bind (zf_X5_hasCorner n i2) (fun o2 =>
  if o2 = false then
  some ((-1 : Int))
  else
  if ((i1 * (9 : Int)) + i2) < 0 ∨ 81 ≤ ((i1 * (9 : Int)) + i2) then none else
  some ((zget (pg3 n) (Int.toNat ((i1 * (9 : Int)) + i2))))))
noncomputable def zf_X5_hasLine (n : Nat)  (i1 : Int) : Option (Bool) :=
  if zout i1 then none else
  if i1 < 0 then
  some (false)
  else
  if zout (pg7 n) then none else
  if (pg7 n) ≤ i1 then
  some (false)
  else
  some (true)
noncomputable def zf_X5_pairOf (n : Nat)  (i1 : Int) : Option (Int) :=
  Option.bind (zf_X5_hasLine n i1) (fun o1 =>
  if o1 = false then
  some ((-1 : Int))
  else
  if i1 < 0 ∨ 27 ≤ i1 then none else
  some ((((16 : Int) * (zget (pg1 n) (Int.toNat i1))) + (zget (pg2 n) (Int.toNat i1)))))
noncomputable def zf_X5_lesserOf (n : Nat)  (i1 : Int) : Option (Int) :=
  Option.bind (zf_X5_hasLine n i1) (fun o1 =>
  if o1 = false then
  some ((-1 : Int))
  else
  if i1 < 0 ∨ 27 ≤ i1 then none else
  some ((zget (pg1 n) (Int.toNat i1))))
noncomputable def zf_X5_greaterOf (n : Nat)  (i1 : Int) : Option (Int) :=
  Option.bind (zf_X5_hasLine n i1) (fun o1 =>
  if o1 = false then
  some ((-1 : Int))
  else
  if i1 < 0 ∨ 27 ≤ i1 then none else
  some ((zget (pg2 n) (Int.toNat i1))))
noncomputable def zf_X5_crossersOf (n : Nat)  (i1 : Int) : Option (Int) :=
  Option.bind (zf_X5_hasLine n i1) (fun o1 =>
  if o1 = false then
  some ((0 : Int))
  else
  if i1 < 0 ∨ 27 ≤ i1 then none else
  some ((zget (pg4 n) (Int.toNat i1))))
noncomputable def zf_X5_has (n : Nat)  (i1 : Int) (i2 : Int) : Option (Bool) :=
  Option.bind (zf_X5_hasLine n i2) (fun o1 =>
  if o1 = false then
  some (false)
  else
  if (zand (zshr i1 i2) (1 : Int)) = 0 then
  some (false)
  else
  some (true))
noncomputable def zf_X5_areJoined (n : Nat)  (i1 : Int) (i2 : Int) (i3 : Int) : Option (Bool) :=
  Option.bind (zf_X5_areNext n i2 i3) (fun o1 =>
  if o1 = false then
  Option.bind (zf_X5_lineOf n i2 i3) (fun o2 =>
  Option.bind (zf_X5_has n i1 o2) (fun o3 =>
  if o3 = false then
  some (false)
  else
  some (true)))
  else
  some (true))
noncomputable def zf_X5_ahead (n : Nat)  (i1 : Int) (i2 : Int) : Option (Int) :=
  if zout i2 then none else
  if zout i1 then none else
  if i2 < i1 then
  some (((i2 - i1) + (n : Int)))
  else
  some ((i2 - i1))
noncomputable def zf_X5_trianglesAt (n : Nat)  (i1 : Int) (i2 : Int) : Option (Int) :=
  Option.bind (zf_X5_hasCorner n i2) (fun o1 =>
  if o1 = false then
  some ((0 : Int))
  else
  if i2 < 0 ∨ 9 ≤ i2 then none else
  Option.bind (zf_J6_bitCount_0f7a4 (zand i1 (zget (pg5 n) (Int.toNat i2)))) (fun o3 =>
  some (((1 : Int) + o3))))
abbrev zS_X5_entryOf : Type := Nat × Int × Int × Int × Int × Int × Int
abbrev zO_X5_entryOf : Type := Int
noncomputable def zg_X5_entryOf_0 (n : Nat)  (i1 : Int) (i2 : Int) (i3 : Int) (i4 : Int) (i5 : Int) (i6 : Int) : Option (zO_X5_entryOf ⊕ zS_X5_entryOf) :=
  if zout i2 then none else
  if zout i3 then none else
  if i2 = i3 then
  some (.inl ((0 : Int)))
  else
  some (.inr (22, i1, i2, i3, (0 : Int), (1 : Int), ((zmin i2 i3) + (1 : Int))))
noncomputable def zg_X5_entryOf_22 (n : Nat)  (i1 : Int) (i2 : Int) (i3 : Int) (i4 : Int) (i5 : Int) (i6 : Int) : Option (zO_X5_entryOf ⊕ zS_X5_entryOf) :=
  if zout i2 then none else
  if zout i3 then none else
  if zout i6 then none else
  if zout (zmax i2 i3) then none else
  if (zmax i2 i3) ≤ i6 then
  some (.inl (i5))
  else
  Option.bind (zf_X5_trianglesAt n i1 i6) (fun o8 =>
  some (.inr (22, i1, i2, i3, i5, ((o8 * i5) - i4), (i6 + (1 : Int)))))
noncomputable def zg_X5_entryOf (n : Nat)  (st : zS_X5_entryOf) : Option (zO_X5_entryOf ⊕ zS_X5_entryOf) := match st with
  | (lab, i1, i2, i3, i4, i5, i6) => if lab = 0 then zg_X5_entryOf_0 n i1 i2 i3 i4 i5 i6 else if lab = 22 then zg_X5_entryOf_22 n i1 i2 i3 i4 i5 i6 else none
noncomputable def zf_X5_entryOf (n : Nat)  (i1 : Int) (i2 : Int) (i3 : Int) : Option (Int) := jrun (zg_X5_entryOf n) jfuel (0, i1, i2, i3, 0, 0, 0)
abbrev zS_X5_otherLine : Type := Nat × Int × Int × Int
abbrev zO_X5_otherLine : Type := Int
noncomputable def zg_X5_otherLine_0 (n : Nat)  (i1 : Int) (i2 : Int) (i3 : Int) : Option (zO_X5_otherLine ⊕ zS_X5_otherLine) :=
  some (.inr (2, i1, i2, (0 : Int)))
noncomputable def zg_X5_otherLine_2 (n : Nat)  (i1 : Int) (i2 : Int) (i3 : Int) : Option (zO_X5_otherLine ⊕ zS_X5_otherLine) :=
  if zout i3 then none else
  if zout (pg7 n) then none else
  if (pg7 n) ≤ i3 then
  some (.inl ((-1 : Int)))
  else
  if i3 < 0 ∨ 27 ≤ i3 then none else
  if (zand (zget (pg4 n) (Int.toNat i3)) i1) = (zshl (1 : Int) i2) then
  some (.inl (i3))
  else
  some (.inr (2, i1, i2, (i3 + (1 : Int))))
noncomputable def zg_X5_otherLine (n : Nat)  (st : zS_X5_otherLine) : Option (zO_X5_otherLine ⊕ zS_X5_otherLine) := match st with
  | (lab, i1, i2, i3) => if lab = 0 then zg_X5_otherLine_0 n i1 i2 i3 else if lab = 2 then zg_X5_otherLine_2 n i1 i2 i3 else none
noncomputable def zf_X5_otherLine (n : Nat)  (i1 : Int) (i2 : Int) : Option (Int) := jrun (zg_X5_otherLine n) jfuel (0, i1, i2, 0)
noncomputable def zf_X5_neighbourWith (n : Nat)  (i1 : Int) (i2 : Int) : Option (Int) :=
  Option.bind (zf_X5_crossersOf n i2) (fun o1 =>
  Option.bind (zf_J6_bitCount_0f7a4 (zand o1 i1)) (fun o2 =>
  if zout o2 then none else
  if o2 = (1 : Int) then
  Option.bind (zf_X5_numberOf n (zor (zxor i1 (zand o1 i1)) (zshl (1 : Int) i2))) (fun o4 =>
  some (o4))
  else
  some ((-1 : Int))))
noncomputable def zf_X5_movedCorner (n : Nat)  (i1 : Int) (i2 : Bool) : Option (Int) :=
  if i2 = false then
  if zout (i1 + (1 : Int)) then none else
  if zout (n : Int) then none else
  if (i1 + (1 : Int)) = (n : Int) then
  some ((0 : Int))
  else
  some ((i1 + (1 : Int)))
  else
  some ((((n : Int) - (1 : Int)) - i1))
abbrev zS_X5_moved : Type := Nat × Int × Bool × Int × Int
abbrev zO_X5_moved : Type := Int
noncomputable def zg_X5_moved_0 (n : Nat)  (i1 : Int) (i2 : Bool) (i3 : Int) (i4 : Int) : Option (zO_X5_moved ⊕ zS_X5_moved) :=
  some (.inr (5, i1, i2, (0 : Int), (0 : Int)))
noncomputable def zg_X5_moved_5 (n : Nat)  (i1 : Int) (i2 : Bool) (i3 : Int) (i4 : Int) : Option (zO_X5_moved ⊕ zS_X5_moved) :=
  if zout i4 then none else
  if zout (pg7 n) then none else
  if (pg7 n) ≤ i4 then
  some (.inl (i3))
  else
  Option.bind (zf_X5_has n i1 i4) (fun o3 =>
  if o3 = false then
  some (.inr (5, i1, i2, i3, (i4 + (1 : Int))))
  else
  if i4 < 0 ∨ 27 ≤ i4 then none else
  Option.bind (zf_X5_movedCorner n (zget (pg1 n) (Int.toNat i4)) i2) (fun o5 =>
  Option.bind (zf_X5_movedCorner n (zget (pg2 n) (Int.toNat i4)) i2) (fun o6 =>
  Option.bind (zf_X5_lineOf n o5 o6) (fun o7 =>
  some (.inr (5, i1, i2, (zor i3 (zshl (1 : Int) o7)), (i4 + (1 : Int))))))))
noncomputable def zg_X5_moved (n : Nat)  (st : zS_X5_moved) : Option (zO_X5_moved ⊕ zS_X5_moved) := match st with
  | (lab, i1, i2, i3, i4) => if lab = 0 then zg_X5_moved_0 n i1 i2 i3 i4 else if lab = 5 then zg_X5_moved_5 n i1 i2 i3 i4 else none
noncomputable def zf_X5_moved (n : Nat)  (i1 : Int) (i2 : Bool) : Option (Int) := jrun (zg_X5_moved n) jfuel (0, i1, i2, 0, 0)
abbrev zS_X5_leastTurned : Type := Nat × Int × Int × Int × Int
abbrev zO_X5_leastTurned : Type := Int
noncomputable def zg_X5_leastTurned_0 (n : Nat)  (i1 : Int) (i2 : Int) (i3 : Int) (i4 : Int) : Option (zO_X5_leastTurned ⊕ zS_X5_leastTurned) :=
  some (.inr (7, i1, i1, i1, (1 : Int)))
noncomputable def zg_X5_leastTurned_7 (n : Nat)  (i1 : Int) (i2 : Int) (i3 : Int) (i4 : Int) : Option (zO_X5_leastTurned ⊕ zS_X5_leastTurned) :=
  if zout i4 then none else
  if zout (n : Int) then none else
  if (n : Int) ≤ i4 then
  some (.inl (i2))
  else
  Option.bind (zf_X5_moved n i3 false) (fun o3 =>
  if zout i2 then none else
  if zout o3 then none else
  some (.inr (7, 0, (zmin i2 o3), o3, (i4 + (1 : Int)))))
noncomputable def zg_X5_leastTurned (n : Nat)  (st : zS_X5_leastTurned) : Option (zO_X5_leastTurned ⊕ zS_X5_leastTurned) := match st with
  | (lab, i1, i2, i3, i4) => if lab = 0 then zg_X5_leastTurned_0 n i1 i2 i3 i4 else if lab = 7 then zg_X5_leastTurned_7 n i1 i2 i3 i4 else none
noncomputable def zf_X5_leastTurned (n : Nat)  (i1 : Int) : Option (Int) := jrun (zg_X5_leastTurned n) jfuel (0, i1, 0, 0, 0)
noncomputable def zf_X5_leastAlike (n : Nat)  (i1 : Int) (i2 : Bool) : Option (Int) :=
  Option.bind (zf_X5_leastTurned n i1) (fun o1 =>
  if i2 = false then
  some (o1)
  else
  Option.bind (zf_X5_moved n i1 true) (fun o2 =>
  Option.bind (zf_X5_leastTurned n o2) (fun o3 =>
  if zout o1 then none else
  if zout o3 then none else
  some ((zmin o1 o3)))))
abbrev zS_X5_neverTurnsBelow : Type := Nat × Int × Int × Int × Int
abbrev zO_X5_neverTurnsBelow : Type := Bool
noncomputable def zg_X5_neverTurnsBelow_0 (n : Nat)  (i1 : Int) (i2 : Int) (i3 : Int) (i4 : Int) : Option (zO_X5_neverTurnsBelow ⊕ zS_X5_neverTurnsBelow) :=
  some (.inr (5, i1, i2, i1, (0 : Int)))
noncomputable def zg_X5_neverTurnsBelow_5 (n : Nat)  (i1 : Int) (i2 : Int) (i3 : Int) (i4 : Int) : Option (zO_X5_neverTurnsBelow ⊕ zS_X5_neverTurnsBelow) :=
  if zout i4 then none else
  if zout (n : Int) then none else
  if (n : Int) ≤ i4 then
  some (.inl (true))
  else
  if zout i3 then none else
  if zout i2 then none else
  if i2 ≤ i3 then
  Option.bind (zf_X5_moved n i3 false) (fun o5 =>
  some (.inr (5, 0, i2, o5, (i4 + (1 : Int)))))
  else
  some (.inl (false))
noncomputable def zg_X5_neverTurnsBelow (n : Nat)  (st : zS_X5_neverTurnsBelow) : Option (zO_X5_neverTurnsBelow ⊕ zS_X5_neverTurnsBelow) := match st with
  | (lab, i1, i2, i3, i4) => if lab = 0 then zg_X5_neverTurnsBelow_0 n i1 i2 i3 i4 else if lab = 5 then zg_X5_neverTurnsBelow_5 n i1 i2 i3 i4 else none
noncomputable def zf_X5_neverTurnsBelow (n : Nat)  (i1 : Int) (i2 : Int) : Option (Bool) := jrun (zg_X5_neverTurnsBelow n) jfuel (0, i1, i2, 0, 0)
abbrev zS_X5_countKinds : Type := Nat × Bool × Int × Int
abbrev zO_X5_countKinds : Type := Int
noncomputable def zg_X5_countKinds_0 (n : Nat)  (i1 : Bool) (i2 : Int) (i3 : Int) : Option (zO_X5_countKinds ⊕ zS_X5_countKinds) :=
  some (.inr (4, i1, (0 : Int), (0 : Int)))
noncomputable def zg_X5_countKinds_4 (n : Nat)  (i1 : Bool) (i2 : Int) (i3 : Int) : Option (zO_X5_countKinds ⊕ zS_X5_countKinds) :=
  if zout i3 then none else
  if zout (pg8 n) then none else
  if (pg8 n) ≤ i3 then
  some (.inl (i2))
  else
  if i3 < 0 ∨ 429 ≤ i3 then none else
  Option.bind (zf_X5_neverTurnsBelow n (zget (pg6 n) (Int.toNat i3)) (zget (pg6 n) (Int.toNat i3))) (fun o4 =>
  if o4 = false then
  some (.inr (4, i1, i2, (i3 + (1 : Int))))
  else
  if i1 = false then
  some (.inr (4, i1, (i2 + (1 : Int)), (i3 + (1 : Int))))
  else
  Option.bind (zf_X5_moved n (zget (pg6 n) (Int.toNat i3)) true) (fun o5 =>
  Option.bind (zf_X5_neverTurnsBelow n o5 (zget (pg6 n) (Int.toNat i3))) (fun o6 =>
  if o6 = false then
  some (.inr (4, i1, i2, (i3 + (1 : Int))))
  else
  some (.inr (4, i1, (i2 + (1 : Int)), (i3 + (1 : Int)))))))
noncomputable def zg_X5_countKinds (n : Nat)  (st : zS_X5_countKinds) : Option (zO_X5_countKinds ⊕ zS_X5_countKinds) := match st with
  | (lab, i1, i2, i3) => if lab = 0 then zg_X5_countKinds_0 n i1 i2 i3 else if lab = 4 then zg_X5_countKinds_4 n i1 i2 i3 else none
noncomputable def zf_X5_countKinds (n : Nat)  (i1 : Bool) : Option (Int) := jrun (zg_X5_countKinds n) jfuel (0, i1, 0, 0)
abbrev zS_X5_differenceFrom : Type := Nat × Int × Int × Int
abbrev zO_X5_differenceFrom : Type := Int
noncomputable def zg_X5_differenceFrom_0 (n : Nat) (q1_c : Nat) (i2 : Int) (i3 : Int) (i4 : Int) : Option (zO_X5_differenceFrom ⊕ zS_X5_differenceFrom) :=
  some (.inr (5, i2, (0 : Int), (0 : Int)))
noncomputable def zg_X5_differenceFrom_5 (n : Nat) (q1_c : Nat) (i2 : Int) (i3 : Int) (i4 : Int) : Option (zO_X5_differenceFrom ⊕ zS_X5_differenceFrom) :=
  if zout i4 then none else
  if zout (n : Int) then none else
  if (n : Int) ≤ i4 then
  some (.inl (i3))
  else
  if (10 : Int) ≤ i4 then
  some (.inl (i3))
  else
  if i4 < 0 ∨ 10 ≤ i4 then none else
  Option.bind (zf_X5_trianglesAt n i2 i4) (fun o4 =>
  if zout ((zget q1_c (Int.toNat i4)) - o4) then none else
  some (.inr (5, i2, (i3 + (zabs ((zget q1_c (Int.toNat i4)) - o4))), (i4 + (1 : Int)))))
noncomputable def zg_X5_differenceFrom (n : Nat) (q1_c : Nat) (st : zS_X5_differenceFrom) : Option (zO_X5_differenceFrom ⊕ zS_X5_differenceFrom) := match st with
  | (lab, i2, i3, i4) => if lab = 0 then zg_X5_differenceFrom_0 n q1_c i2 i3 i4 else if lab = 5 then zg_X5_differenceFrom_5 n q1_c i2 i3 i4 else none
noncomputable def zf_X5_differenceFrom (n : Nat) (q1_c : Nat) (i2 : Int) : Option (Int) := jrun (zg_X5_differenceFrom n q1_c) jfuel (0, i2, 0, 0)
abbrev zS_X5_nearestTo : Type := Nat × Int × Int × Int
abbrev zO_X5_nearestTo : Type := Int
noncomputable def zg_X5_nearestTo_0 (n : Nat) (q1_c : Nat) (i2 : Int) (i3 : Int) (i4 : Int) : Option (zO_X5_nearestTo ⊕ zS_X5_nearestTo) :=
  Option.bind (zf_X5_cutAt n (0 : Int)) (fun o1 =>
  Option.bind (zf_X5_differenceFrom n q1_c o1) (fun o2 =>
  some (.inr (16, (0 : Int), o2, (1 : Int)))))
noncomputable def zg_X5_nearestTo_16 (n : Nat) (q1_c : Nat) (i2 : Int) (i3 : Int) (i4 : Int) : Option (zO_X5_nearestTo ⊕ zS_X5_nearestTo) :=
  if zout i4 then none else
  if zout (pg8 n) then none else
  if (pg8 n) ≤ i4 then
  some (.inl (i2))
  else
  if zout i3 then none else
  if i3 ≤ 0 then
  some (.inl (i2))
  else
  if i4 < 0 ∨ 429 ≤ i4 then none else
  Option.bind (zf_X5_differenceFrom n q1_c (zget (pg6 n) (Int.toNat i4))) (fun o7 =>
  if zout o7 then none else
  if i3 ≤ o7 then
  some (.inr (16, i2, i3, (i4 + (1 : Int))))
  else
  some (.inr (16, i4, o7, (i4 + (1 : Int)))))
noncomputable def zg_X5_nearestTo (n : Nat) (q1_c : Nat) (st : zS_X5_nearestTo) : Option (zO_X5_nearestTo ⊕ zS_X5_nearestTo) := match st with
  | (lab, i2, i3, i4) => if lab = 0 then zg_X5_nearestTo_0 n q1_c i2 i3 i4 else if lab = 16 then zg_X5_nearestTo_16 n q1_c i2 i3 i4 else none
noncomputable def zf_X5_nearestTo (n : Nat) (q1_c : Nat)  : Option (Int) := jrun (zg_X5_nearestTo n q1_c) jfuel (0, 0, 0, 0)
abbrev zS_X5_greatestFrom : Type := Nat × Int × Int × Int × Int × Int × Int
abbrev zO_X5_greatestFrom : Type := Int
noncomputable def zg_X5_greatestFrom_0 (n : Nat)  (i1 : Int) (i2 : Int) (i3 : Int) (i4 : Int) (i5 : Int) (i6 : Int) : Option (zO_X5_greatestFrom ⊕ zS_X5_greatestFrom) :=
  some (.inr (13, i1, i2, (0 : Int), (0 : Int), (1 : Int), (i2 + (1 : Int))))
noncomputable def zg_X5_greatestFrom_13 (n : Nat)  (i1 : Int) (i2 : Int) (i3 : Int) (i4 : Int) (i5 : Int) (i6 : Int) : Option (zO_X5_greatestFrom ⊕ zS_X5_greatestFrom) :=
  if zout i6 then none else
  if zout (n : Int) then none else
  if (n : Int) ≤ i6 then
  some (.inl (i3))
  else
  if zout i3 then none else
  if zout i5 then none else
  Option.bind (zf_X5_trianglesAt n i1 i6) (fun o5 =>
  some (.inr (13, i1, 0, (zmax i3 i5), i5, ((o5 * i5) - i4), (i6 + (1 : Int)))))
noncomputable def zg_X5_greatestFrom (n : Nat)  (st : zS_X5_greatestFrom) : Option (zO_X5_greatestFrom ⊕ zS_X5_greatestFrom) := match st with
  | (lab, i1, i2, i3, i4, i5, i6) => if lab = 0 then zg_X5_greatestFrom_0 n i1 i2 i3 i4 i5 i6 else if lab = 13 then zg_X5_greatestFrom_13 n i1 i2 i3 i4 i5 i6 else none
noncomputable def zf_X5_greatestFrom (n : Nat)  (i1 : Int) (i2 : Int) : Option (Int) := jrun (zg_X5_greatestFrom n) jfuel (0, i1, i2, 0, 0, 0, 0)
abbrev zS_X5_greatestIn : Type := Nat × Int × Int × Int
abbrev zO_X5_greatestIn : Type := Int
noncomputable def zg_X5_greatestIn_0 (n : Nat)  (i1 : Int) (i2 : Int) (i3 : Int) : Option (zO_X5_greatestIn ⊕ zS_X5_greatestIn) :=
  some (.inr (4, i1, (0 : Int), (0 : Int)))
noncomputable def zg_X5_greatestIn_4 (n : Nat)  (i1 : Int) (i2 : Int) (i3 : Int) : Option (zO_X5_greatestIn ⊕ zS_X5_greatestIn) :=
  if zout i3 then none else
  if zout (n : Int) then none else
  if (n : Int) ≤ i3 then
  some (.inl (i2))
  else
  Option.bind (zf_X5_greatestFrom n i1 i3) (fun o3 =>
  if zout i2 then none else
  if zout o3 then none else
  some (.inr (4, i1, (zmax i2 o3), (i3 + (1 : Int)))))
noncomputable def zg_X5_greatestIn (n : Nat)  (st : zS_X5_greatestIn) : Option (zO_X5_greatestIn ⊕ zS_X5_greatestIn) := match st with
  | (lab, i1, i2, i3) => if lab = 0 then zg_X5_greatestIn_0 n i1 i2 i3 else if lab = 4 then zg_X5_greatestIn_4 n i1 i2 i3 else none
noncomputable def zf_X5_greatestIn (n : Nat)  (i1 : Int) : Option (Int) := jrun (zg_X5_greatestIn n) jfuel (0, i1, 0, 0)
abbrev zS_X5_numberOfGreatest : Type := Nat × Int × Int × Int
abbrev zO_X5_numberOfGreatest : Type := Int
noncomputable def zg_X5_numberOfGreatest_0 (n : Nat)  (i1 : Int) (i2 : Int) (i3 : Int) : Option (zO_X5_numberOfGreatest ⊕ zS_X5_numberOfGreatest) :=
  some (.inr (6, (0 : Int), (0 : Int), (0 : Int)))
noncomputable def zg_X5_numberOfGreatest_6 (n : Nat)  (i1 : Int) (i2 : Int) (i3 : Int) : Option (zO_X5_numberOfGreatest ⊕ zS_X5_numberOfGreatest) :=
  if zout i3 then none else
  if zout (pg8 n) then none else
  if (pg8 n) ≤ i3 then
  some (.inl (i1))
  else
  if i3 < 0 ∨ 429 ≤ i3 then none else
  Option.bind (zf_X5_greatestIn n (zget (pg6 n) (Int.toNat i3))) (fun o4 =>
  if zout o4 then none else
  if zout i2 then none else
  if o4 ≤ i2 then
  some (.inr (6, i1, i2, (i3 + (1 : Int))))
  else
  some (.inr (6, i3, o4, (i3 + (1 : Int)))))
noncomputable def zg_X5_numberOfGreatest (n : Nat)  (st : zS_X5_numberOfGreatest) : Option (zO_X5_numberOfGreatest ⊕ zS_X5_numberOfGreatest) := match st with
  | (lab, i1, i2, i3) => if lab = 0 then zg_X5_numberOfGreatest_0 n i1 i2 i3 else if lab = 6 then zg_X5_numberOfGreatest_6 n i1 i2 i3 else none
noncomputable def zf_X5_numberOfGreatest (n : Nat)   : Option (Int) := jrun (zg_X5_numberOfGreatest n) jfuel (0, 0, 0, 0)
abbrev zS_X5_countWith : Type := Nat × Int × Int × Int × Int × Int
abbrev zO_X5_countWith : Type := Int
noncomputable def zg_X5_countWith_0 (n : Nat)  (i1 : Int) (i2 : Int) (i3 : Int) (i4 : Int) (i5 : Int) : Option (zO_X5_countWith ⊕ zS_X5_countWith) :=
  some (.inr (6, i1, i2, i3, (0 : Int), (0 : Int)))
noncomputable def zg_X5_countWith_6 (n : Nat)  (i1 : Int) (i2 : Int) (i3 : Int) (i4 : Int) (i5 : Int) : Option (zO_X5_countWith ⊕ zS_X5_countWith) :=
  if zout i5 then none else
  if zout (pg8 n) then none else
  if (pg8 n) ≤ i5 then
  some (.inl (i4))
  else
  if i5 < 0 ∨ 429 ≤ i5 then none else
  Option.bind (zf_X5_entryOf n (zget (pg6 n) (Int.toNat i5)) i1 i2) (fun o4 =>
  if zout o4 then none else
  if zout i3 then none else
  if o4 = i3 then
  some (.inr (6, i1, i2, i3, (i4 + (1 : Int)), (i5 + (1 : Int))))
  else
  some (.inr (6, i1, i2, i3, i4, (i5 + (1 : Int)))))
noncomputable def zg_X5_countWith (n : Nat)  (st : zS_X5_countWith) : Option (zO_X5_countWith ⊕ zS_X5_countWith) := match st with
  | (lab, i1, i2, i3, i4, i5) => if lab = 0 then zg_X5_countWith_0 n i1 i2 i3 i4 i5 else if lab = 6 then zg_X5_countWith_6 n i1 i2 i3 i4 i5 else none
noncomputable def zf_X5_countWith (n : Nat)  (i1 : Int) (i2 : Int) (i3 : Int) : Option (Int) := jrun (zg_X5_countWith n) jfuel (0, i1, i2, i3, 0, 0)
noncomputable def zf_X2_size  (t_size : Int)  : Option (Int) :=
  some (t_size)
noncomputable def zf_X2_hasPlace  (t_size : Int) (i1 : Int) : Option (Bool) :=
  if zout i1 then none else
  if i1 < 0 then
  some (false)
  else
  if zout t_size then none else
  if t_size ≤ i1 then
  some (false)
  else
  some (true)
abbrev zS_X2_accepts : Type := Nat × Int × Int
abbrev zO_X2_accepts : Type := Bool
noncomputable def zg_X2_accepts_0  (q1_c : Nat) (i2 : Int) (i3 : Int) : Option (zO_X2_accepts ⊕ zS_X2_accepts) :=
  if zout i2 then none else
  if i2 < (1 : Int) then
  some (.inl (false))
  else
  if (10 : Int) < i2 then
  some (.inl (false))
  else
  if i2 ≤ (10 : Int) then
  some (.inr (21, i2, (0 : Int)))
  else
  some (.inl (false))
noncomputable def zg_X2_accepts_21  (q1_c : Nat) (i2 : Int) (i3 : Int) : Option (zO_X2_accepts ⊕ zS_X2_accepts) :=
  if zout i3 then none else
  if zout i2 then none else
  if i2 ≤ i3 then
  some (.inl (true))
  else
  if i3 < 0 ∨ 10 ≤ i3 then none else
  if (zget q1_c (Int.toNat i3)) < (1 : Int) then
  some (.inl (false))
  else
  if (zget q1_c (Int.toNat i3)) ≤ (20 : Int) then
  some (.inr (21, i2, (i3 + (1 : Int))))
  else
  some (.inl (false))
noncomputable def zg_X2_accepts  (q1_c : Nat) (st : zS_X2_accepts) : Option (zO_X2_accepts ⊕ zS_X2_accepts) := match st with
  | (lab, i2, i3) => if lab = 0 then zg_X2_accepts_0 q1_c i2 i3 else if lab = 21 then zg_X2_accepts_21 q1_c i2 i3 else none
noncomputable def zf_X2_accepts  (q1_c : Nat) (i2 : Int) : Option (Bool) := jrun (zg_X2_accepts q1_c) jfuel (0, i2, 0)
abbrev zS_X2_become : Type := Nat × Int × Int × Int × Nat
abbrev zO_X2_become : Type := Int × Int × Nat
noncomputable def zg_X2_become_0  (q1_c : Nat) (i2 : Int) (i3 : Int) (t_size : Int) (t_numbers : Nat) : Option (zO_X2_become ⊕ zS_X2_become) :=
  if zout i2 then none else
  some (.inr (12, i2, (0 : Int), (zmin i2 (10 : Int)), t_numbers))
noncomputable def zg_X2_become_12  (q1_c : Nat) (i2 : Int) (i3 : Int) (t_size : Int) (t_numbers : Nat) : Option (zO_X2_become ⊕ zS_X2_become) :=
  if zout i3 then none else
  if zout t_size then none else
  if t_size ≤ i3 then
  some (.inl (t_size, t_size, t_numbers))
  else
  if (10 : Int) ≤ i3 then
  some (.inl (t_size, t_size, t_numbers))
  else
  if i3 < 0 ∨ 10 ≤ i3 then none else
  some (.inr (12, 0, (i3 + (1 : Int)), t_size, (zset t_numbers (Int.toNat i3) (zget q1_c (Int.toNat i3)))))
noncomputable def zg_X2_become  (q1_c : Nat) (st : zS_X2_become) : Option (zO_X2_become ⊕ zS_X2_become) := match st with
  | (lab, i2, i3, t_size, t_numbers) => if lab = 0 then zg_X2_become_0 q1_c i2 i3 t_size t_numbers else if lab = 12 then zg_X2_become_12 q1_c i2 i3 t_size t_numbers else none
noncomputable def zf_X2_become  (t_size : Int) (t_numbers : Nat) (q1_c : Nat) (i2 : Int) : Option (Int × Int × Nat) := jrun (zg_X2_become q1_c) jfuel (0, i2, 0, t_size, t_numbers)
noncomputable def zf_X2_wrapped  (t_size : Int) (i1 : Int) : Option (Int) :=
  if zout t_size then none else
  if t_size ≤ 0 then
  some ((0 : Int))
  else
  Option.bind (zf_J9_floorMod_7cf53 i1 t_size) (fun o2 =>
  some (o2))
noncomputable def zf_X2_at  (t_size : Int) (t_numbers : Nat) (i1 : Int) : Option (Int) :=
  Option.bind (zf_X2_wrapped t_size i1) (fun o1 =>
  if o1 < 0 ∨ 10 ≤ o1 then none else
  some ((zget t_numbers (Int.toNat o1))))
abbrev zS_X2_entryAt : Type := Nat × Int × Int × Int × Int × Int
abbrev zO_X2_entryAt : Type := Int
noncomputable def zg_X2_entryAt_0  (t_size : Int) (t_numbers : Nat) (i1 : Int) (i2 : Int) (i3 : Int) (i5 : Int) (i7 : Int) : Option (zO_X2_entryAt ⊕ zS_X2_entryAt) :=
  if zout i2 then none else
  if 0 < i2 then
  some (.inr (14, i1, i2, (0 : Int), (1 : Int), (1 : Int)))
  else
  some (.inl ((0 : Int)))
noncomputable def zg_X2_entryAt_14  (t_size : Int) (t_numbers : Nat) (i1 : Int) (i2 : Int) (i3 : Int) (i5 : Int) (i7 : Int) : Option (zO_X2_entryAt ⊕ zS_X2_entryAt) :=
  if zout i7 then none else
  if zout i2 then none else
  if i2 ≤ i7 then
  some (.inl (i5))
  else
  if (12 : Int) ≤ i7 then
  some (.inl (i5))
  else
  Option.bind (zf_X2_at t_size t_numbers (i1 + i7)) (fun o5 =>
  if zout o5 then none else
  some (.inr (14, i1, i2, i5, ((o5 * i5) - i3), (i7 + (1 : Int)))))
noncomputable def zg_X2_entryAt  (t_size : Int) (t_numbers : Nat) (st : zS_X2_entryAt) : Option (zO_X2_entryAt ⊕ zS_X2_entryAt) := match st with
  | (lab, i1, i2, i3, i5, i7) => if lab = 0 then zg_X2_entryAt_0 t_size t_numbers i1 i2 i3 i5 i7 else if lab = 14 then zg_X2_entryAt_14 t_size t_numbers i1 i2 i3 i5 i7 else none
noncomputable def zf_X2_entryAt  (t_size : Int) (t_numbers : Nat) (i1 : Int) (i2 : Int) : Option (Int) := jrun (zg_X2_entryAt t_size t_numbers) jfuel (0, i1, i2, 0, 0, 0)
abbrev zS_X2_breakPlace : Type := Nat × Int × Int
abbrev zO_X2_breakPlace : Type := Int
noncomputable def zg_X2_breakPlace_0  (t_size : Int) (t_numbers : Nat) (i1 : Int) (i2 : Int) : Option (zO_X2_breakPlace ⊕ zS_X2_breakPlace) :=
  some (.inr (2, i1, (0 : Int)))
noncomputable def zg_X2_breakPlace_2  (t_size : Int) (t_numbers : Nat) (i1 : Int) (i2 : Int) : Option (zO_X2_breakPlace ⊕ zS_X2_breakPlace) :=
  if zout i2 then none else
  if zout t_size then none else
  if t_size ≤ i2 then
  some (.inl ((-1 : Int)))
  else
  Option.bind (zf_X2_entryAt t_size t_numbers i2 i1) (fun o3 =>
  if zoutL o3 then none else
  if (0 : Int) < o3 then
  some (.inr (2, i1, (i2 + (1 : Int))))
  else
  some (.inl (i2)))
noncomputable def zg_X2_breakPlace  (t_size : Int) (t_numbers : Nat) (st : zS_X2_breakPlace) : Option (zO_X2_breakPlace ⊕ zS_X2_breakPlace) := match st with
  | (lab, i1, i2) => if lab = 0 then zg_X2_breakPlace_0 t_size t_numbers i1 i2 else if lab = 2 then zg_X2_breakPlace_2 t_size t_numbers i1 i2 else none
noncomputable def zf_X2_breakPlace  (t_size : Int) (t_numbers : Nat) (i1 : Int) : Option (Int) := jrun (zg_X2_breakPlace t_size t_numbers) jfuel (0, i1, 0)
abbrev zS_X2_breakLength : Type := Nat × Int
abbrev zO_X2_breakLength : Type := Int
noncomputable def zg_X2_breakLength_0  (t_size : Int) (t_numbers : Nat) (i1 : Int) : Option (zO_X2_breakLength ⊕ zS_X2_breakLength) :=
  some (.inr (2, (2 : Int)))
noncomputable def zg_X2_breakLength_2  (t_size : Int) (t_numbers : Nat) (i1 : Int) : Option (zO_X2_breakLength ⊕ zS_X2_breakLength) :=
  if zout i1 then none else
  if (12 : Int) < i1 then
  some (.inl ((-1 : Int)))
  else
  Option.bind (zf_X2_breakPlace t_size t_numbers i1) (fun o2 =>
  if zout o2 then none else
  if o2 = (-1 : Int) then
  some (.inr (2, (i1 + (1 : Int))))
  else
  some (.inl (i1)))
noncomputable def zg_X2_breakLength  (t_size : Int) (t_numbers : Nat) (st : zS_X2_breakLength) : Option (zO_X2_breakLength ⊕ zS_X2_breakLength) := match st with
  | (lab, i1) => if lab = 0 then zg_X2_breakLength_0 t_size t_numbers i1 else if lab = 2 then zg_X2_breakLength_2 t_size t_numbers i1 else none
noncomputable def zf_X2_breakLength  (t_size : Int) (t_numbers : Nat)  : Option (Int) := jrun (zg_X2_breakLength t_size t_numbers) jfuel (0, 0)
abbrev zS_X2_allAre : Type := Nat × Int × Int × Int
abbrev zO_X2_allAre : Type := Bool
noncomputable def zg_X2_allAre_0  (t_size : Int) (t_numbers : Nat) (i1 : Int) (i2 : Int) (i4 : Int) : Option (zO_X2_allAre ⊕ zS_X2_allAre) :=
  some (.inr (3, i1, i2, (0 : Int)))
noncomputable def zg_X2_allAre_3  (t_size : Int) (t_numbers : Nat) (i1 : Int) (i2 : Int) (i4 : Int) : Option (zO_X2_allAre ⊕ zS_X2_allAre) :=
  if zout i4 then none else
  if zout t_size then none else
  if t_size ≤ i4 then
  some (.inl (true))
  else
  Option.bind (zf_X2_entryAt t_size t_numbers i4 i1) (fun o3 =>
  if zoutL o3 then none else
  if zoutL i2 then none else
  if o3 = i2 then
  some (.inr (3, i1, i2, (i4 + (1 : Int))))
  else
  some (.inl (false)))
noncomputable def zg_X2_allAre  (t_size : Int) (t_numbers : Nat) (st : zS_X2_allAre) : Option (zO_X2_allAre ⊕ zS_X2_allAre) := match st with
  | (lab, i1, i2, i4) => if lab = 0 then zg_X2_allAre_0 t_size t_numbers i1 i2 i4 else if lab = 3 then zg_X2_allAre_3 t_size t_numbers i1 i2 i4 else none
noncomputable def zf_X2_allAre  (t_size : Int) (t_numbers : Nat) (i1 : Int) (i2 : Int) : Option (Bool) := jrun (zg_X2_allAre t_size t_numbers) jfuel (0, i1, i2, 0)
noncomputable def zf_X2_comesBack  (t_size : Int) (t_numbers : Nat) (i1 : Int) : Option (Bool) :=
  Option.bind (zf_X2_allAre t_size t_numbers i1 (0 : Int)) (fun o1 =>
  if o1 = false then
  some (false)
  else
  if zout i1 then none else
  if i1 = (12 : Int) then
  some (true)
  else
  Option.bind (zf_X2_allAre t_size t_numbers (i1 + (1 : Int)) (-1 : Int)) (fun o3 =>
  if o3 = false then
  some (false)
  else
  some (true)))
noncomputable def zf_X2_growthOfRound  (t_size : Int) (t_numbers : Nat)  : Option (Int) :=
  Option.bind (zf_X2_entryAt t_size t_numbers (0 : Int) (t_size + (1 : Int))) (fun o1 =>
  Option.bind (zf_X2_entryAt t_size t_numbers (1 : Int) (t_size - (1 : Int))) (fun o2 =>
  some ((o1 - o2))))
noncomputable def zf_X2_canGlue  (t_size : Int) (t_numbers : Nat) (i1 : Int) : Option (Bool) :=
  if zout t_size then none else
  if t_size < (10 : Int) then
  if t_size = (1 : Int) then
  Option.bind (zf_X2_at t_size t_numbers i1) (fun o8 =>
  if zout (o8 + (2 : Int)) then none else
  if (20 : Int) < (o8 + (2 : Int)) then
  some (false)
  else
  Option.bind (zf_X2_at t_size t_numbers (i1 + (1 : Int))) (fun o10 =>
  if zout (o10 + (2 : Int)) then none else
  if (20 : Int) < (o10 + (2 : Int)) then
  some (false)
  else
  some (true)))
  else
  Option.bind (zf_X2_at t_size t_numbers i1) (fun o2 =>
  if zout (o2 + (1 : Int)) then none else
  if (20 : Int) < (o2 + (1 : Int)) then
  some (false)
  else
  Option.bind (zf_X2_at t_size t_numbers (i1 + (1 : Int))) (fun o4 =>
  if zout (o4 + (1 : Int)) then none else
  if (20 : Int) < (o4 + (1 : Int)) then
  some (false)
  else
  some (true)))
  else
  some (false)
abbrev zS_X2_glueBehind : Type := Nat × Int × Int × Int × Nat
abbrev zO_X2_glueBehind : Type := Int × Int × Nat
noncomputable def zg_X2_glueBehind_0   (i1 : Int) (i2 : Int) (t_size : Int) (t_numbers : Nat) : Option (zO_X2_glueBehind ⊕ zS_X2_glueBehind) :=
  Option.bind (zf_X2_hasPlace t_size i1) (fun o1 =>
  if o1 = false then
  some (.inl (t_size, t_size, t_numbers))
  else
  Option.bind (zf_X2_canGlue t_size t_numbers i1) (fun o2 =>
  if o2 = false then
  some (.inl (t_size, t_size, t_numbers))
  else
  if i1 < 0 ∨ 10 ≤ i1 then none else
  Option.bind (zf_X2_wrapped t_size (i1 + (1 : Int))) (fun o4 =>
  if o4 < 0 ∨ 10 ≤ o4 then none else
  some (.inr (52, i1, t_size, t_size, (zset (zset t_numbers (Int.toNat i1) ((zget t_numbers (Int.toNat i1)) + (1 : Int))) (Int.toNat o4) ((zget (zset t_numbers (Int.toNat i1) ((zget t_numbers (Int.toNat i1)) + (1 : Int))) (Int.toNat o4)) + (1 : Int))))))))
noncomputable def zg_X2_glueBehind_52   (i1 : Int) (i2 : Int) (t_size : Int) (t_numbers : Nat) : Option (zO_X2_glueBehind ⊕ zS_X2_glueBehind) :=
  if zout i2 then none else
  if zout (i1 + (1 : Int)) then none else
  if i2 ≤ (i1 + (1 : Int)) then
  if (i1 + (1 : Int)) < 0 ∨ 10 ≤ (i1 + (1 : Int)) then none else
  some (.inl ((t_size + (1 : Int)), (t_size + (1 : Int)), (zset t_numbers (Int.toNat (i1 + (1 : Int))) (1 : Int))))
  else
  if (i2 - (1 : Int)) < 0 ∨ 10 ≤ (i2 - (1 : Int)) then none else
  if i2 < 0 ∨ 10 ≤ i2 then none else
  some (.inr (52, i1, (i2 + (-1 : Int)), t_size, (zset t_numbers (Int.toNat i2) (zget t_numbers (Int.toNat (i2 - (1 : Int)))))))
noncomputable def zg_X2_glueBehind   (st : zS_X2_glueBehind) : Option (zO_X2_glueBehind ⊕ zS_X2_glueBehind) := match st with
  | (lab, i1, i2, t_size, t_numbers) => if lab = 0 then zg_X2_glueBehind_0  i1 i2 t_size t_numbers else if lab = 52 then zg_X2_glueBehind_52  i1 i2 t_size t_numbers else none
noncomputable def zf_X2_glueBehind  (t_size : Int) (t_numbers : Nat) (i1 : Int) : Option (Int × Int × Nat) := jrun (zg_X2_glueBehind ) jfuel (0, i1, 0, t_size, t_numbers)
noncomputable def zf_X2_canLose  (t_size : Int) (t_numbers : Nat) (i1 : Int) : Option (Bool) :=
  if zout t_size then none else
  if t_size < (3 : Int) then
  some (false)
  else
  Option.bind (zf_X2_at t_size t_numbers i1) (fun o2 =>
  if zout o2 then none else
  if o2 = (1 : Int) then
  Option.bind (zf_X2_at t_size t_numbers (i1 - (1 : Int))) (fun o4 =>
  if zout o4 then none else
  if o4 ≤ (1 : Int) then
  some (false)
  else
  Option.bind (zf_X2_at t_size t_numbers (i1 + (1 : Int))) (fun o6 =>
  if zout o6 then none else
  if o6 ≤ (1 : Int) then
  some (false)
  else
  some (true)))
  else
  some (false))
abbrev zS_X2_lose : Type := Nat × Int × Int × Int × Nat
abbrev zO_X2_lose : Type := Int × Int × Nat
noncomputable def zg_X2_lose_0   (i1 : Int) (i2 : Int) (t_size : Int) (t_numbers : Nat) : Option (zO_X2_lose ⊕ zS_X2_lose) :=
  Option.bind (zf_X2_hasPlace t_size i1) (fun o1 =>
  if o1 = false then
  some (.inl (t_size, t_size, t_numbers))
  else
  Option.bind (zf_X2_canLose t_size t_numbers i1) (fun o2 =>
  if o2 = false then
  some (.inl (t_size, t_size, t_numbers))
  else
  Option.bind (zf_X2_wrapped t_size (i1 - (1 : Int))) (fun o3 =>
  if o3 < 0 ∨ 10 ≤ o3 then none else
  Option.bind (zf_X2_wrapped t_size (i1 + (1 : Int))) (fun o5 =>
  if o5 < 0 ∨ 10 ≤ o5 then none else
  some (.inr (55, i1, i1, t_size, (zset (zset t_numbers (Int.toNat o3) ((zget t_numbers (Int.toNat o3)) - (1 : Int))) (Int.toNat o5) ((zget (zset t_numbers (Int.toNat o3) ((zget t_numbers (Int.toNat o3)) - (1 : Int))) (Int.toNat o5)) - (1 : Int)))))))))
noncomputable def zg_X2_lose_55   (i1 : Int) (i2 : Int) (t_size : Int) (t_numbers : Nat) : Option (zO_X2_lose ⊕ zS_X2_lose) :=
  if zout (i2 + (1 : Int)) then none else
  if zout t_size then none else
  if t_size ≤ (i2 + (1 : Int)) then
  some (.inl ((t_size - (1 : Int)), (t_size - (1 : Int)), t_numbers))
  else
  if (i2 + (1 : Int)) < 0 ∨ 10 ≤ (i2 + (1 : Int)) then none else
  if i2 < 0 ∨ 10 ≤ i2 then none else
  some (.inr (55, 0, (i2 + (1 : Int)), t_size, (zset t_numbers (Int.toNat i2) (zget t_numbers (Int.toNat (i2 + (1 : Int)))))))
noncomputable def zg_X2_lose   (st : zS_X2_lose) : Option (zO_X2_lose ⊕ zS_X2_lose) := match st with
  | (lab, i1, i2, t_size, t_numbers) => if lab = 0 then zg_X2_lose_0  i1 i2 t_size t_numbers else if lab = 55 then zg_X2_lose_55  i1 i2 t_size t_numbers else none
noncomputable def zf_X2_lose  (t_size : Int) (t_numbers : Nat) (i1 : Int) : Option (Int × Int × Nat) := jrun (zg_X2_lose ) jfuel (0, i1, 0, t_size, t_numbers)
abbrev zS_X2_firstOne : Type := Nat × Int
abbrev zO_X2_firstOne : Type := Int
noncomputable def zg_X2_firstOne_0  (t_size : Int) (t_numbers : Nat) (i1 : Int) : Option (zO_X2_firstOne ⊕ zS_X2_firstOne) :=
  some (.inr (2, (0 : Int)))
noncomputable def zg_X2_firstOne_2  (t_size : Int) (t_numbers : Nat) (i1 : Int) : Option (zO_X2_firstOne ⊕ zS_X2_firstOne) :=
  if zout i1 then none else
  if zout t_size then none else
  if t_size ≤ i1 then
  some (.inl ((-1 : Int)))
  else
  if i1 < 0 ∨ 10 ≤ i1 then none else
  if (zget t_numbers (Int.toNat i1)) = (1 : Int) then
  some (.inl (i1))
  else
  some (.inr (2, (i1 + (1 : Int))))
noncomputable def zg_X2_firstOne  (t_size : Int) (t_numbers : Nat) (st : zS_X2_firstOne) : Option (zO_X2_firstOne ⊕ zS_X2_firstOne) := match st with
  | (lab, i1) => if lab = 0 then zg_X2_firstOne_0 t_size t_numbers i1 else if lab = 2 then zg_X2_firstOne_2 t_size t_numbers i1 else none
noncomputable def zf_X2_firstOne  (t_size : Int) (t_numbers : Nat)  : Option (Int) := jrun (zg_X2_firstOne t_size t_numbers) jfuel (0, 0)
abbrev zS_X2_loseAll : Type := Nat × Int × Int × Int × Nat
abbrev zO_X2_loseAll : Type := Int × Int × Nat
noncomputable def zg_X2_loseAll_0   (i1 : Int) (i2 : Int) (t_size : Int) (t_numbers : Nat) : Option (zO_X2_loseAll ⊕ zS_X2_loseAll) :=
  some (.inr (4, (0 : Int), (0 : Int), t_size, t_numbers))
noncomputable def zg_X2_loseAll_4   (i1 : Int) (i2 : Int) (t_size : Int) (t_numbers : Nat) : Option (zO_X2_loseAll ⊕ zS_X2_loseAll) :=
  if zout i2 then none else
  if (10 : Int) ≤ i2 then
  some (.inl (i1, t_size, t_numbers))
  else
  Option.bind (zf_X2_firstOne t_size t_numbers) (fun o2 =>
  if zout o2 then none else
  if o2 = (-1 : Int) then
  some (.inl (i1, t_size, t_numbers))
  else
  Option.bind (zf_X2_canLose t_size t_numbers o2) (fun o4 =>
  if o4 = false then
  some (.inl (i1, t_size, t_numbers))
  else
  Option.bind (zf_X2_lose t_size t_numbers o2) (fun o5 =>
  some (.inr (4, (i1 + (1 : Int)), (i2 + (1 : Int)), (o5.2.1), (o5.2.2))))))
noncomputable def zg_X2_loseAll   (st : zS_X2_loseAll) : Option (zO_X2_loseAll ⊕ zS_X2_loseAll) := match st with
  | (lab, i1, i2, t_size, t_numbers) => if lab = 0 then zg_X2_loseAll_0  i1 i2 t_size t_numbers else if lab = 4 then zg_X2_loseAll_4  i1 i2 t_size t_numbers else none
noncomputable def zf_X2_loseAll  (t_size : Int) (t_numbers : Nat)  : Option (Int × Int × Nat) := jrun (zg_X2_loseAll ) jfuel (0, 0, 0, t_size, t_numbers)
noncomputable def zf_X7_size  (t_size : Int)  : Option (Int) :=
  some (t_size)
noncomputable def zf_X7_rights  (t_rights : Int)  : Option (Int) :=
  some (t_rights)
noncomputable def zf_X7_has  (t_size : Int) (i1 : Int) : Option (Bool) :=
  if zout i1 then none else
  if i1 < 0 then
  some (false)
  else
  if zout t_size then none else
  if t_size ≤ i1 then
  some (false)
  else
  some (true)
noncomputable def zf_X7_wasSeenBefore  (t_size : Int) (t_seenStep : Nat) (i1 : Int) (i2 : Int) : Option (Bool) :=
  Option.bind (zf_X7_has t_size i2) (fun o1 =>
  if o1 = false then
  some (false)
  else
  if i2 < 0 ∨ 20 ≤ i2 then none else
  if zout i1 then none else
  if i1 ≤ (zget t_seenStep (Int.toNat i2)) then
  some (false)
  else
  some (true))
noncomputable def zf_X7_canTell  (t_latest : Int) (i1 : Int) : Option (Bool) :=
  if zout i1 then none else
  if zout t_latest then none else
  if i1 < t_latest then
  some (false)
  else
  if (999 : Int) < i1 then
  some (false)
  else
  some (true)
noncomputable def zf_X7_forget  (t_size : Int) (t_rights : Int) (t_latest : Int)  : Option (Int × Int × Int) :=
  some ((0 : Int), (0 : Int), (0 : Int))
noncomputable def zf_X7_add  (t_size : Int) (t_latest : Int) (t_seenStep : Nat) (t_seenFrom : Nat) (t_seenTo : Nat) (t_seenValue : Nat) (t_timesRight : Nat) (i1 : Int) (i2 : Int) (i3 : Int) (i4 : Int) : Option (Int × Int × Int × Nat × Nat × Nat × Nat × Nat) :=
  if zout t_size then none else
  if t_size < (20 : Int) then
  if t_size < 0 ∨ 20 ≤ t_size then none else
  some (((t_size + (1 : Int)) - (1 : Int)), (t_size + (1 : Int)), i1, (zset t_seenStep (Int.toNat t_size) i1), (zset t_seenFrom (Int.toNat t_size) i2), (zset t_seenTo (Int.toNat t_size) i3), (zset t_seenValue (Int.toNat t_size) i4), (zset t_timesRight (Int.toNat t_size) (0 : Int)))
  else
  some ((-3 : Int), t_size, t_latest, t_seenStep, t_seenFrom, t_seenTo, t_seenValue, t_timesRight)
noncomputable def zf_X7_putRight  (t_size : Int) (t_rights : Int) (t_latest : Int) (t_timesRight : Nat) (t_rightStep : Nat) (t_rightOf : Nat) (t_rightValue : Nat) (i1 : Int) (i2 : Int) (i3 : Int) : Option (Int × Int × Int × Nat × Nat × Nat × Nat) :=
  if zout t_rights then none else
  if (20 : Int) ≤ t_rights then
  some ((-3 : Int), t_rights, t_latest, t_timesRight, t_rightStep, t_rightOf, t_rightValue)
  else
  Option.bind (zf_X7_has t_size i2) (fun o2 =>
  if o2 = false then
  some ((-3 : Int), t_rights, t_latest, t_timesRight, t_rightStep, t_rightOf, t_rightValue)
  else
  if t_rights < 0 ∨ 20 ≤ t_rights then none else
  if i2 < 0 ∨ 20 ≤ i2 then none else
  some ((zget (zset t_timesRight (Int.toNat i2) ((zget t_timesRight (Int.toNat i2)) + (1 : Int))) (Int.toNat i2)), (t_rights + (1 : Int)), i1, (zset t_timesRight (Int.toNat i2) ((zget t_timesRight (Int.toNat i2)) + (1 : Int))), (zset t_rightStep (Int.toNat t_rights) i1), (zset t_rightOf (Int.toNat t_rights) i2), (zset t_rightValue (Int.toNat t_rights) i3)))
abbrev zS_X7_recall : Type := Nat × Int × Int × Nat
abbrev zO_X7_recall : Type := Nat
noncomputable def zg_X7_recall_0  (t_size : Int) (t_rights : Int) (t_seenStep : Nat) (t_seenValue : Nat) (t_rightStep : Nat) (t_rightOf : Nat) (t_rightValue : Nat) (i1 : Int) (i2 : Int) (t_knownValue : Nat) : Option (zO_X7_recall ⊕ zS_X7_recall) :=
  some (.inr (2, i1, (0 : Int), t_knownValue))
noncomputable def zg_X7_recall_2  (t_size : Int) (t_rights : Int) (t_seenStep : Nat) (t_seenValue : Nat) (t_rightStep : Nat) (t_rightOf : Nat) (t_rightValue : Nat) (i1 : Int) (i2 : Int) (t_knownValue : Nat) : Option (zO_X7_recall ⊕ zS_X7_recall) :=
  if zout i2 then none else
  if zout t_size then none else
  if t_size ≤ i2 then
  some (.inr (44, i1, (0 : Int), t_knownValue))
  else
  if i2 < 0 ∨ 20 ≤ i2 then none else
  if zout i1 then none else
  if i1 < (zget t_seenStep (Int.toNat i2)) then
  some (.inr (2, i1, (i2 + (1 : Int)), (zset t_knownValue (Int.toNat i2) (-1 : Int))))
  else
  some (.inr (2, i1, (i2 + (1 : Int)), (zset t_knownValue (Int.toNat i2) (zget t_seenValue (Int.toNat i2)))))
noncomputable def zg_X7_recall_44  (t_size : Int) (t_rights : Int) (t_seenStep : Nat) (t_seenValue : Nat) (t_rightStep : Nat) (t_rightOf : Nat) (t_rightValue : Nat) (i1 : Int) (i2 : Int) (t_knownValue : Nat) : Option (zO_X7_recall ⊕ zS_X7_recall) :=
  if zout i2 then none else
  if zout t_rights then none else
  if t_rights ≤ i2 then
  some (.inl (t_knownValue))
  else
  if i2 < 0 ∨ 20 ≤ i2 then none else
  if zout i1 then none else
  if i1 < (zget t_rightStep (Int.toNat i2)) then
  some (.inr (44, i1, (i2 + (1 : Int)), t_knownValue))
  else
  Option.bind (zf_X7_has t_size (zget t_rightOf (Int.toNat i2))) (fun o11 =>
  if o11 = false then
  some (.inr (44, i1, (i2 + (1 : Int)), t_knownValue))
  else
  if (zget t_rightOf (Int.toNat i2)) < 0 ∨ 20 ≤ (zget t_rightOf (Int.toNat i2)) then none else
  some (.inr (44, i1, (i2 + (1 : Int)), (zset t_knownValue (Int.toNat (zget t_rightOf (Int.toNat i2))) (zget t_rightValue (Int.toNat i2))))))
noncomputable def zg_X7_recall  (t_size : Int) (t_rights : Int) (t_seenStep : Nat) (t_seenValue : Nat) (t_rightStep : Nat) (t_rightOf : Nat) (t_rightValue : Nat) (st : zS_X7_recall) : Option (zO_X7_recall ⊕ zS_X7_recall) := match st with
  | (lab, i1, i2, t_knownValue) => if lab = 0 then zg_X7_recall_0 t_size t_rights t_seenStep t_seenValue t_rightStep t_rightOf t_rightValue i1 i2 t_knownValue else if lab = 2 then zg_X7_recall_2 t_size t_rights t_seenStep t_seenValue t_rightStep t_rightOf t_rightValue i1 i2 t_knownValue else if lab = 44 then zg_X7_recall_44 t_size t_rights t_seenStep t_seenValue t_rightStep t_rightOf t_rightValue i1 i2 t_knownValue else none
noncomputable def zf_X7_recall  (t_size : Int) (t_rights : Int) (t_seenStep : Nat) (t_seenValue : Nat) (t_rightStep : Nat) (t_rightOf : Nat) (t_rightValue : Nat) (t_knownValue : Nat) (i1 : Int) : Option (Nat) := jrun (zg_X7_recall t_size t_rights t_seenStep t_seenValue t_rightStep t_rightOf t_rightValue) jfuel (0, i1, 0, t_knownValue)
abbrev zS_X7_agreeWith : Type := Nat × Int × Int
abbrev zO_X7_agreeWith : Type := Bool
noncomputable def zg_X7_agreeWith_0 (mk : Nat) (t_size : Int) (t_seenFrom : Nat) (t_seenTo : Nat) (t_knownValue : Nat) (n1 : Nat) (i2 : Int) (i3 : Int) : Option (zO_X7_agreeWith ⊕ zS_X7_agreeWith) :=
  some (.inr (2, i2, (0 : Int)))
noncomputable def zg_X7_agreeWith_2 (mk : Nat) (t_size : Int) (t_seenFrom : Nat) (t_seenTo : Nat) (t_knownValue : Nat) (n1 : Nat) (i2 : Int) (i3 : Int) : Option (zO_X7_agreeWith ⊕ zS_X7_agreeWith) :=
  if zout i3 then none else
  if zout t_size then none else
  if t_size ≤ i3 then
  some (.inl (true))
  else
  if i3 < 0 ∨ 20 ≤ i3 then none else
  if (zget t_knownValue (Int.toNat i3)) = (-1 : Int) then
  if (0 : Int) = 0 then
  some (.inr (2, i2, (i3 + (1 : Int))))
  else
  if zno mk n1 then none else
  Option.bind (zf_X5_entryOf n1 i2 (zget t_seenFrom (Int.toNat i3)) (zget t_seenTo (Int.toNat i3))) (fun o5 =>
  if zout o5 then none else
  if o5 = (zget t_knownValue (Int.toNat i3)) then
  some (.inr (2, i2, (i3 + (1 : Int))))
  else
  some (.inl (false)))
  else
  if (1 : Int) = 0 then
  some (.inr (2, i2, (i3 + (1 : Int))))
  else
  if zno mk n1 then none else
  Option.bind (zf_X5_entryOf n1 i2 (zget t_seenFrom (Int.toNat i3)) (zget t_seenTo (Int.toNat i3))) (fun o10 =>
  if zout o10 then none else
  if o10 = (zget t_knownValue (Int.toNat i3)) then
  some (.inr (2, i2, (i3 + (1 : Int))))
  else
  some (.inl (false)))
noncomputable def zg_X7_agreeWith (mk : Nat) (t_size : Int) (t_seenFrom : Nat) (t_seenTo : Nat) (t_knownValue : Nat) (n1 : Nat) (st : zS_X7_agreeWith) : Option (zO_X7_agreeWith ⊕ zS_X7_agreeWith) := match st with
  | (lab, i2, i3) => if lab = 0 then zg_X7_agreeWith_0 mk t_size t_seenFrom t_seenTo t_knownValue n1 i2 i3 else if lab = 2 then zg_X7_agreeWith_2 mk t_size t_seenFrom t_seenTo t_knownValue n1 i2 i3 else none
noncomputable def zf_X7_agreeWith (mk : Nat) (t_size : Int) (t_seenFrom : Nat) (t_seenTo : Nat) (t_knownValue : Nat) (n1 : Nat) (i2 : Int) : Option (Bool) := jrun (zg_X7_agreeWith mk t_size t_seenFrom t_seenTo t_knownValue n1) jfuel (0, i2, 0)
noncomputable def zf_X0_size  (t_size : Int)  : Option (Int) :=
  some (t_size)
noncomputable def zf_X0_spanFrom (mk : Nat)  (n0 : Nat) (i1 : Int) (i2 : Int) : Option (Int) :=
  if zno mk n0 then none else
  Option.bind (zf_X5_lesserOf n0 i2) (fun o2 =>
  Option.bind (zf_X5_ahead n0 i1 o2) (fun o3 =>
  Option.bind (zf_X5_greaterOf n0 i2) (fun o4 =>
  Option.bind (zf_X5_ahead n0 i1 o4) (fun o5 =>
  if zout (o3 - o5) then none else
  some ((zabs (o3 - o5)))))))
abbrev zS_X0_gather : Type := Nat × Int × Int × Int × Int × Int × Int × Int × Nat
abbrev zO_X0_gather : Type := Int × Nat
noncomputable def zg_X0_gather_0 (mk : Nat) (n1 : Nat) (i2 : Int) (i3 : Int) (i4 : Int) (i5 : Int) (i6 : Int) (i7 : Int) (t_size : Int) (t_lines : Nat) : Option (zO_X0_gather ⊕ zS_X0_gather) :=
  if zno mk n1 then none else
  Option.bind (zf_X5_lineOf n1 i3 i4) (fun o2 =>
  Option.bind (zf_X5_crossersOf n1 o2) (fun o3 =>
  Option.bind (zf_X5_corners n1) (fun o4 =>
  some (.inr (28, i2, i3, i4, (zand o3 i2), (o4 - (1 : Int)), 0, (0 : Int), t_lines)))))
noncomputable def zg_X0_gather_28 (mk : Nat) (n1 : Nat) (i2 : Int) (i3 : Int) (i4 : Int) (i5 : Int) (i6 : Int) (i7 : Int) (t_size : Int) (t_lines : Nat) : Option (zO_X0_gather ⊕ zS_X0_gather) :=
  if zout i6 then none else
  if i6 ≤ 0 then
  some (.inl (t_size, t_lines))
  else
  some (.inr (36, 0, i3, 0, i5, i6, (0 : Int), t_size, t_lines))
noncomputable def zg_X0_gather_36 (mk : Nat) (n1 : Nat) (i2 : Int) (i3 : Int) (i4 : Int) (i5 : Int) (i6 : Int) (i7 : Int) (t_size : Int) (t_lines : Nat) : Option (zO_X0_gather ⊕ zS_X0_gather) :=
  if zno mk n1 then none else
  Option.bind (zf_X5_lineCount n1) (fun o8 =>
  if zout i7 then none else
  if zout o8 then none else
  if o8 ≤ i7 then
  some (.inr (28, 0, i3, 0, i5, (i6 + (-1 : Int)), i7, t_size, t_lines))
  else
  Option.bind (zf_X5_has n1 i5 i7) (fun o11 =>
  if o11 = false then
  some (.inr (36, 0, i3, 0, i5, i6, (i7 + (1 : Int)), t_size, t_lines))
  else
  Option.bind (zf_X0_spanFrom mk n1 i3 i7) (fun o12 =>
  if zout o12 then none else
  if zout i6 then none else
  if o12 = i6 then
  if zout t_size then none else
  if (27 : Int) ≤ t_size then
  some (.inr (36, 0, i3, 0, i5, i6, (i7 + (1 : Int)), t_size, t_lines))
  else
  if t_size < 0 ∨ 27 ≤ t_size then none else
  some (.inr (36, 0, i3, 0, i5, i6, (i7 + (1 : Int)), (t_size + (1 : Int)), (zset t_lines (Int.toNat t_size) i7)))
  else
  some (.inr (36, 0, i3, 0, i5, i6, (i7 + (1 : Int)), t_size, t_lines)))))
noncomputable def zg_X0_gather (mk : Nat) (n1 : Nat) (st : zS_X0_gather) : Option (zO_X0_gather ⊕ zS_X0_gather) := match st with
  | (lab, i2, i3, i4, i5, i6, i7, t_size, t_lines) => if lab = 0 then zg_X0_gather_0 mk n1 i2 i3 i4 i5 i6 i7 t_size t_lines else if lab = 28 then zg_X0_gather_28 mk n1 i2 i3 i4 i5 i6 i7 t_size t_lines else if lab = 36 then zg_X0_gather_36 mk n1 i2 i3 i4 i5 i6 i7 t_size t_lines else none
noncomputable def zf_X0_gather (mk : Nat) (t_size : Int) (t_lines : Nat) (n1 : Nat) (i2 : Int) (i3 : Int) (i4 : Int) : Option (Int × Nat) := jrun (zg_X0_gather mk n1) jfuel (0, i2, i3, i4, 0, 0, 0, t_size, t_lines)
noncomputable def zf_X0_pairAt (mk : Nat) (t_size : Int) (t_lines : Nat) (n1 : Nat) (i2 : Int) : Option (Int) :=
  if zout i2 then none else
  if i2 < 0 then
  some ((-1 : Int))
  else
  if zout t_size then none else
  if i2 < t_size then
  if i2 < 0 ∨ 27 ≤ i2 then none else
  if zno mk n1 then none else
  Option.bind (zf_X5_pairOf n1 (zget t_lines (Int.toNat i2))) (fun o5 =>
  some (o5))
  else
  some ((-1 : Int))
noncomputable def zf_X0_sharedWithNext (mk : Nat) (t_size : Int) (t_lines : Nat) (n1 : Nat) (i2 : Int) : Option (Int) :=
  if zout i2 then none else
  if i2 < 0 then
  some ((-1 : Int))
  else
  if zout (t_size - (1 : Int)) then none else
  if i2 < (t_size - (1 : Int)) then
  if i2 < 0 ∨ 27 ≤ i2 then none else
  if zno mk n1 then none else
  Option.bind (zf_X5_lesserOf n1 (zget t_lines (Int.toNat i2))) (fun o5 =>
  if (i2 + (1 : Int)) < 0 ∨ 27 ≤ (i2 + (1 : Int)) then none else
  Option.bind (zf_X5_lesserOf n1 (zget t_lines (Int.toNat (i2 + (1 : Int))))) (fun o7 =>
  Option.bind (zf_X5_greaterOf n1 (zget t_lines (Int.toNat (i2 + (1 : Int))))) (fun o8 =>
  if zout o5 then none else
  if zout o7 then none else
  if o5 = o7 then
  some (o5)
  else
  if zout o8 then none else
  if o5 = o8 then
  some (o5)
  else
  Option.bind (zf_X5_greaterOf n1 (zget t_lines (Int.toNat i2))) (fun o12 =>
  some (o12)))))
  else
  some ((-1 : Int))
noncomputable def zf_X4_comeTo  (t_queued : Int) (t_steps : Nat) (t_queue : Nat) (i1 : Int) (i2 : Int) : Option (Int × Nat × Nat) :=
  if zout i1 then none else
  if i1 < 0 then
  some (t_queued, t_steps, t_queue)
  else
  if (429 : Int) ≤ i1 then
  some (t_queued, t_steps, t_queue)
  else
  if i1 < 0 ∨ 429 ≤ i1 then none else
  if (zget t_steps (Int.toNat i1)) = (-1 : Int) then
  if zout t_queued then none else
  if (429 : Int) ≤ t_queued then
  some (t_queued, t_steps, t_queue)
  else
  if t_queued < 0 ∨ 429 ≤ t_queued then none else
  some ((t_queued + (1 : Int)), (zset t_steps (Int.toNat i1) i2), (zset t_queue (Int.toNat t_queued) i1))
  else
  some (t_queued, t_steps, t_queue)
noncomputable def zf_X4_stepsTo  (t_steps : Nat) (i1 : Int) : Option (Int) :=
  if zout i1 then none else
  if i1 < 0 then
  some ((-1 : Int))
  else
  if (429 : Int) ≤ i1 then
  some ((-1 : Int))
  else
  if i1 < 0 ∨ 429 ≤ i1 then none else
  some ((zget t_steps (Int.toNat i1)))
abbrev zS_X4_measure : Type := Nat × Int × Int × Int × Int × Int × Nat × Nat
abbrev zO_X4_measure : Type := Int × Nat × Nat
noncomputable def zg_X4_measure_0 (mk : Nat) (n1 : Nat) (i2 : Int) (i3 : Int) (i4 : Int) (i5 : Int) (t_queued : Int) (t_steps : Nat) (t_queue : Nat) : Option (zO_X4_measure ⊕ zS_X4_measure) :=
  some (.inr (2, i2, (0 : Int), 0, 0, t_queued, t_steps, t_queue))
noncomputable def zg_X4_measure_2 (mk : Nat) (n1 : Nat) (i2 : Int) (i3 : Int) (i4 : Int) (i5 : Int) (t_queued : Int) (t_steps : Nat) (t_queue : Nat) : Option (zO_X4_measure ⊕ zS_X4_measure) :=
  if zout i3 then none else
  if (429 : Int) ≤ i3 then
  Option.bind (zf_X4_comeTo (0 : Int) t_steps t_queue i2 (0 : Int)) (fun o2 =>
  some (.inr (35, i2, (0 : Int), 0, 0, (o2.1), (o2.2.1), (o2.2.2))))
  else
  if i3 < 0 ∨ 429 ≤ i3 then none else
  some (.inr (2, i2, (i3 + (1 : Int)), 0, 0, t_queued, (zset t_steps (Int.toNat i3) (-1 : Int)), t_queue))
noncomputable def zg_X4_measure_35 (mk : Nat) (n1 : Nat) (i2 : Int) (i3 : Int) (i4 : Int) (i5 : Int) (t_queued : Int) (t_steps : Nat) (t_queue : Nat) : Option (zO_X4_measure ⊕ zS_X4_measure) :=
  if zout i3 then none else
  if zout t_queued then none else
  if t_queued ≤ i3 then
  some (.inl (t_queued, t_steps, t_queue))
  else
  if (429 : Int) ≤ i3 then
  some (.inl (t_queued, t_steps, t_queue))
  else
  if i3 < 0 ∨ 429 ≤ i3 then none else
  if zno mk n1 then none else
  Option.bind (zf_X5_cutAt n1 (zget t_queue (Int.toNat i3))) (fun o9 =>
  some (.inr (65, 0, i3, o9, (0 : Int), t_queued, t_steps, t_queue)))
noncomputable def zg_X4_measure_65 (mk : Nat) (n1 : Nat) (i2 : Int) (i3 : Int) (i4 : Int) (i5 : Int) (t_queued : Int) (t_steps : Nat) (t_queue : Nat) : Option (zO_X4_measure ⊕ zS_X4_measure) :=
  if zno mk n1 then none else
  Option.bind (zf_X5_lineCount n1) (fun o13 =>
  if zout i5 then none else
  if zout o13 then none else
  if o13 ≤ i5 then
  some (.inr (35, 0, (i3 + (1 : Int)), i4, i5, t_queued, t_steps, t_queue))
  else
  Option.bind (zf_X5_neighbourWith n1 i4 i5) (fun o16 =>
  if i3 < 0 ∨ 429 ≤ i3 then none else
  Option.bind (zf_X4_stepsTo t_steps (zget t_queue (Int.toNat i3))) (fun o18 =>
  Option.bind (zf_X4_comeTo t_queued t_steps t_queue o16 (o18 + (1 : Int))) (fun o19 =>
  some (.inr (65, 0, i3, i4, (i5 + (1 : Int)), (o19.1), (o19.2.1), (o19.2.2)))))))
noncomputable def zg_X4_measure (mk : Nat) (n1 : Nat) (st : zS_X4_measure) : Option (zO_X4_measure ⊕ zS_X4_measure) := match st with
  | (lab, i2, i3, i4, i5, t_queued, t_steps, t_queue) => if lab = 0 then zg_X4_measure_0 mk n1 i2 i3 i4 i5 t_queued t_steps t_queue else if lab = 2 then zg_X4_measure_2 mk n1 i2 i3 i4 i5 t_queued t_steps t_queue else if lab = 35 then zg_X4_measure_35 mk n1 i2 i3 i4 i5 t_queued t_steps t_queue else if lab = 65 then zg_X4_measure_65 mk n1 i2 i3 i4 i5 t_queued t_steps t_queue else none
noncomputable def zf_X4_measure (mk : Nat) (t_queued : Int) (t_steps : Nat) (t_queue : Nat) (n1 : Nat) (i2 : Int) : Option (Int × Nat × Nat) := jrun (zg_X4_measure mk n1) jfuel (0, i2, 0, 0, 0, t_queued, t_steps, t_queue)
abbrev zS_X4_mostSteps : Type := Nat × Int × Int
abbrev zO_X4_mostSteps : Type := Int
noncomputable def zg_X4_mostSteps_0 (mk : Nat) (t_steps : Nat) (n1 : Nat) (i2 : Int) (i3 : Int) : Option (zO_X4_mostSteps ⊕ zS_X4_mostSteps) :=
  some (.inr (4, (0 : Int), (0 : Int)))
noncomputable def zg_X4_mostSteps_4 (mk : Nat) (t_steps : Nat) (n1 : Nat) (i2 : Int) (i3 : Int) : Option (zO_X4_mostSteps ⊕ zS_X4_mostSteps) :=
  if zno mk n1 then none else
  Option.bind (zf_X5_cutCount n1) (fun o2 =>
  if zout i3 then none else
  if zout o2 then none else
  if o2 ≤ i3 then
  some (.inl (i2))
  else
  Option.bind (zf_X4_stepsTo t_steps i3) (fun o5 =>
  if zout i2 then none else
  if zout o5 then none else
  some (.inr (4, (zmax i2 o5), (i3 + (1 : Int))))))
noncomputable def zg_X4_mostSteps (mk : Nat) (t_steps : Nat) (n1 : Nat) (st : zS_X4_mostSteps) : Option (zO_X4_mostSteps ⊕ zS_X4_mostSteps) := match st with
  | (lab, i2, i3) => if lab = 0 then zg_X4_mostSteps_0 mk t_steps n1 i2 i3 else if lab = 4 then zg_X4_mostSteps_4 mk t_steps n1 i2 i3 else none
noncomputable def zf_X4_mostSteps (mk : Nat) (t_steps : Nat) (n1 : Nat) : Option (Int) := jrun (zg_X4_mostSteps mk t_steps n1) jfuel (0, 0, 0)
abbrev zS_X4_howManyAt : Type := Nat × Int × Int × Int
abbrev zO_X4_howManyAt : Type := Int
noncomputable def zg_X4_howManyAt_0 (mk : Nat) (t_steps : Nat) (n1 : Nat) (i2 : Int) (i3 : Int) (i4 : Int) : Option (zO_X4_howManyAt ⊕ zS_X4_howManyAt) :=
  some (.inr (5, i2, (0 : Int), (0 : Int)))
noncomputable def zg_X4_howManyAt_5 (mk : Nat) (t_steps : Nat) (n1 : Nat) (i2 : Int) (i3 : Int) (i4 : Int) : Option (zO_X4_howManyAt ⊕ zS_X4_howManyAt) :=
  if zno mk n1 then none else
  Option.bind (zf_X5_cutCount n1) (fun o2 =>
  if zout i4 then none else
  if zout o2 then none else
  if o2 ≤ i4 then
  some (.inl (i3))
  else
  Option.bind (zf_X4_stepsTo t_steps i4) (fun o5 =>
  if zout o5 then none else
  if zout i2 then none else
  if o5 = i2 then
  some (.inr (5, i2, (i3 + (1 : Int)), (i4 + (1 : Int))))
  else
  some (.inr (5, i2, i3, (i4 + (1 : Int))))))
noncomputable def zg_X4_howManyAt (mk : Nat) (t_steps : Nat) (n1 : Nat) (st : zS_X4_howManyAt) : Option (zO_X4_howManyAt ⊕ zS_X4_howManyAt) := match st with
  | (lab, i2, i3, i4) => if lab = 0 then zg_X4_howManyAt_0 mk t_steps n1 i2 i3 i4 else if lab = 5 then zg_X4_howManyAt_5 mk t_steps n1 i2 i3 i4 else none
noncomputable def zf_X4_howManyAt (mk : Nat) (t_steps : Nat) (n1 : Nat) (i2 : Int) : Option (Int) := jrun (zg_X4_howManyAt mk t_steps n1) jfuel (0, i2, 0, 0)
abbrev zS_X4_leastNearer : Type := Nat × Int × Int × Int × Int × Int
abbrev zO_X4_leastNearer : Type := Int
noncomputable def zg_X4_leastNearer_0 (mk : Nat) (t_steps : Nat) (n1 : Nat) (i2 : Int) (i3 : Int) (i4 : Int) (i5 : Int) (i6 : Int) : Option (zO_X4_leastNearer ⊕ zS_X4_leastNearer) :=
  if zno mk n1 then none else
  Option.bind (zf_X5_cutAt n1 i2) (fun o2 =>
  some (.inr (12, i2, o2, (-1 : Int), (0 : Int), 0)))
noncomputable def zg_X4_leastNearer_12 (mk : Nat) (t_steps : Nat) (n1 : Nat) (i2 : Int) (i3 : Int) (i4 : Int) (i5 : Int) (i6 : Int) : Option (zO_X4_leastNearer ⊕ zS_X4_leastNearer) :=
  if zno mk n1 then none else
  Option.bind (zf_X5_lineCount n1) (fun o4 =>
  if zout i5 then none else
  if zout o4 then none else
  if o4 ≤ i5 then
  some (.inl (i4))
  else
  Option.bind (zf_X5_neighbourWith n1 i3 i5) (fun o7 =>
  if zout o7 then none else
  if o7 = (-1 : Int) then
  some (.inr (56, i2, i3, i4, i5, o7))
  else
  Option.bind (zf_X4_stepsTo t_steps o7) (fun o9 =>
  Option.bind (zf_X4_stepsTo t_steps i2) (fun o10 =>
  if zout o9 then none else
  if zout (o10 - (1 : Int)) then none else
  if o9 = (o10 - (1 : Int)) then
  if (1 : Int) = 0 then
  some (.inr (12, i2, i3, i4, (i5 + (1 : Int)), o7))
  else
  if zout i4 then none else
  if i4 = (-1 : Int) then
  some (.inr (12, i2, i3, o7, (i5 + (1 : Int)), o7))
  else
  if i4 ≤ o7 then
  some (.inr (12, i2, i3, i4, (i5 + (1 : Int)), o7))
  else
  some (.inr (12, i2, i3, o7, (i5 + (1 : Int)), o7))
  else
  some (.inr (56, i2, i3, i4, i5, o7))))))
noncomputable def zg_X4_leastNearer_56 (mk : Nat) (t_steps : Nat) (n1 : Nat) (i2 : Int) (i3 : Int) (i4 : Int) (i5 : Int) (i6 : Int) : Option (zO_X4_leastNearer ⊕ zS_X4_leastNearer) :=
  if (0 : Int) = 0 then
  some (.inr (12, i2, i3, i4, (i5 + (1 : Int)), i6))
  else
  if zout i4 then none else
  if i4 = (-1 : Int) then
  some (.inr (12, i2, i3, i6, (i5 + (1 : Int)), i6))
  else
  if zout i6 then none else
  if i4 ≤ i6 then
  some (.inr (12, i2, i3, i4, (i5 + (1 : Int)), i6))
  else
  some (.inr (12, i2, i3, i6, (i5 + (1 : Int)), i6))
noncomputable def zg_X4_leastNearer (mk : Nat) (t_steps : Nat) (n1 : Nat) (st : zS_X4_leastNearer) : Option (zO_X4_leastNearer ⊕ zS_X4_leastNearer) := match st with
  | (lab, i2, i3, i4, i5, i6) => if lab = 0 then zg_X4_leastNearer_0 mk t_steps n1 i2 i3 i4 i5 i6 else if lab = 12 then zg_X4_leastNearer_12 mk t_steps n1 i2 i3 i4 i5 i6 else if lab = 56 then zg_X4_leastNearer_56 mk t_steps n1 i2 i3 i4 i5 i6 else none
noncomputable def zf_X4_leastNearer (mk : Nat) (t_steps : Nat) (n1 : Nat) (i2 : Int) : Option (Int) := jrun (zg_X4_leastNearer mk t_steps n1) jfuel (0, i2, 0, 0, 0, 0)
abbrev zS_X4_layWay : Type := Nat × Int × Int × Int × Int × Int × Int × Int × Nat × Nat × Nat
abbrev zO_X4_layWay : Type := Int × Int × Int × Nat × Nat × Nat
noncomputable def zg_X4_layWay_0 (mk : Nat) (n1 : Nat) (i2 : Int) (i3 : Int) (i4 : Int) (i5 : Int) (i6 : Int) (t_wayLength : Int) (t_queued : Int) (t_steps : Nat) (t_queue : Nat) (t_way : Nat) : Option (zO_X4_layWay ⊕ zS_X4_layWay) :=
  Option.bind (zf_X4_measure mk t_queued t_steps t_queue n1 i3) (fun o1 =>
  Option.bind (zf_X4_stepsTo (o1.2.1) i2) (fun o2 =>
  some (.inr (24, i2, i3, o2, i2, (0 : Int), (0 : Int), (o1.1), (o1.2.1), (o1.2.2), t_way))))
noncomputable def zg_X4_layWay_24 (mk : Nat) (n1 : Nat) (i2 : Int) (i3 : Int) (i4 : Int) (i5 : Int) (i6 : Int) (t_wayLength : Int) (t_queued : Int) (t_steps : Nat) (t_queue : Nat) (t_way : Nat) : Option (zO_X4_layWay ⊕ zS_X4_layWay) :=
  if zout i6 then none else
  if zout i4 then none else
  if i4 < i6 then
  some (.inl (i4, t_wayLength, t_queued, t_steps, t_queue, t_way))
  else
  if (429 : Int) ≤ i6 then
  some (.inl (i4, t_wayLength, t_queued, t_steps, t_queue, t_way))
  else
  if i6 < 0 ∨ 429 ≤ i6 then none else
  Option.bind (zf_X4_leastNearer mk t_steps n1 i5) (fun o6 =>
  some (.inr (24, 0, 0, i4, o6, (i6 + (1 : Int)), (t_wayLength + (1 : Int)), t_queued, t_steps, t_queue, (zset t_way (Int.toNat i6) i5))))
noncomputable def zg_X4_layWay (mk : Nat) (n1 : Nat) (st : zS_X4_layWay) : Option (zO_X4_layWay ⊕ zS_X4_layWay) := match st with
  | (lab, i2, i3, i4, i5, i6, t_wayLength, t_queued, t_steps, t_queue, t_way) => if lab = 0 then zg_X4_layWay_0 mk n1 i2 i3 i4 i5 i6 t_wayLength t_queued t_steps t_queue t_way else if lab = 24 then zg_X4_layWay_24 mk n1 i2 i3 i4 i5 i6 t_wayLength t_queued t_steps t_queue t_way else none
noncomputable def zf_X4_layWay (mk : Nat) (t_wayLength : Int) (t_queued : Int) (t_steps : Nat) (t_queue : Nat) (t_way : Nat) (n1 : Nat) (i2 : Int) (i3 : Int) : Option (Int × Int × Int × Nat × Nat × Nat) := jrun (zg_X4_layWay mk n1) jfuel (0, i2, i3, 0, 0, 0, t_wayLength, t_queued, t_steps, t_queue, t_way)
noncomputable def zf_X4_onWay  (t_wayLength : Int) (t_way : Nat) (i1 : Int) : Option (Int) :=
  if zout i1 then none else
  if i1 < 0 then
  some ((-1 : Int))
  else
  if zout t_wayLength then none else
  if t_wayLength ≤ i1 then
  some ((-1 : Int))
  else
  if i1 < 0 ∨ 429 ≤ i1 then none else
  some ((zget t_way (Int.toNat i1)))
abbrev zS_X9_gatherOn : Type := Nat × Int × Int × Int × Int × Int × Nat
abbrev zO_X9_gatherOn : Type := Int × Nat
noncomputable def zg_X9_gatherOn_0 (mk : Nat) (n1 : Nat) (i2 : Int) (i3 : Int) (i4 : Int) (i5 : Int) (t_count : Int) (t_cornersOf : Nat) : Option (zO_X9_gatherOn ⊕ zS_X9_gatherOn) :=
  some (.inr (6, i2, i3, i4, (i4 + (1 : Int)), t_count, t_cornersOf))
noncomputable def zg_X9_gatherOn_6 (mk : Nat) (n1 : Nat) (i2 : Int) (i3 : Int) (i4 : Int) (i5 : Int) (t_count : Int) (t_cornersOf : Nat) : Option (zO_X9_gatherOn ⊕ zS_X9_gatherOn) :=
  if zno mk n1 then none else
  Option.bind (zf_X5_corners n1) (fun o2 =>
  if zout i5 then none else
  if zout o2 then none else
  if o2 ≤ i5 then
  some (.inl (t_count, t_cornersOf))
  else
  Option.bind (zf_X5_areJoined n1 i2 i3 i5) (fun o5 =>
  if o5 = false then
  some (.inr (42, i2, i3, i4, i5, t_count, t_cornersOf))
  else
  Option.bind (zf_X5_areJoined n1 i2 i4 i5) (fun o6 =>
  if o6 = false then
  some (.inr (42, i2, i3, i4, i5, t_count, t_cornersOf))
  else
  if (1 : Int) = 0 then
  some (.inr (6, i2, i3, i4, (i5 + (1 : Int)), t_count, t_cornersOf))
  else
  if zout t_count then none else
  if (7 : Int) ≤ t_count then
  some (.inr (6, i2, i3, i4, (i5 + (1 : Int)), t_count, t_cornersOf))
  else
  if ((3 : Int) * t_count) < 0 ∨ 21 ≤ ((3 : Int) * t_count) then none else
  if (((3 : Int) * t_count) + (1 : Int)) < 0 ∨ 21 ≤ (((3 : Int) * t_count) + (1 : Int)) then none else
  if (((3 : Int) * t_count) + (2 : Int)) < 0 ∨ 21 ≤ (((3 : Int) * t_count) + (2 : Int)) then none else
  some (.inr (6, i2, i3, i4, (i5 + (1 : Int)), (t_count + (1 : Int)), (zset (zset (zset t_cornersOf (Int.toNat ((3 : Int) * t_count)) i3) (Int.toNat (((3 : Int) * t_count) + (1 : Int))) i4) (Int.toNat (((3 : Int) * t_count) + (2 : Int))) i5))))))
noncomputable def zg_X9_gatherOn_42 (mk : Nat) (n1 : Nat) (i2 : Int) (i3 : Int) (i4 : Int) (i5 : Int) (t_count : Int) (t_cornersOf : Nat) : Option (zO_X9_gatherOn ⊕ zS_X9_gatherOn) :=
  if (0 : Int) = 0 then
  some (.inr (6, i2, i3, i4, (i5 + (1 : Int)), t_count, t_cornersOf))
  else
  if zout t_count then none else
  if (7 : Int) ≤ t_count then
  some (.inr (6, i2, i3, i4, (i5 + (1 : Int)), t_count, t_cornersOf))
  else
  if ((3 : Int) * t_count) < 0 ∨ 21 ≤ ((3 : Int) * t_count) then none else
  if (((3 : Int) * t_count) + (1 : Int)) < 0 ∨ 21 ≤ (((3 : Int) * t_count) + (1 : Int)) then none else
  if (((3 : Int) * t_count) + (2 : Int)) < 0 ∨ 21 ≤ (((3 : Int) * t_count) + (2 : Int)) then none else
  some (.inr (6, i2, i3, i4, (i5 + (1 : Int)), (t_count + (1 : Int)), (zset (zset (zset t_cornersOf (Int.toNat ((3 : Int) * t_count)) i3) (Int.toNat (((3 : Int) * t_count) + (1 : Int))) i4) (Int.toNat (((3 : Int) * t_count) + (2 : Int))) i5)))
noncomputable def zg_X9_gatherOn (mk : Nat) (n1 : Nat) (st : zS_X9_gatherOn) : Option (zO_X9_gatherOn ⊕ zS_X9_gatherOn) := match st with
  | (lab, i2, i3, i4, i5, t_count, t_cornersOf) => if lab = 0 then zg_X9_gatherOn_0 mk n1 i2 i3 i4 i5 t_count t_cornersOf else if lab = 6 then zg_X9_gatherOn_6 mk n1 i2 i3 i4 i5 t_count t_cornersOf else if lab = 42 then zg_X9_gatherOn_42 mk n1 i2 i3 i4 i5 t_count t_cornersOf else none
noncomputable def zf_X9_gatherOn (mk : Nat) (t_count : Int) (t_cornersOf : Nat) (n1 : Nat) (i2 : Int) (i3 : Int) (i4 : Int) : Option (Int × Nat) := jrun (zg_X9_gatherOn mk n1) jfuel (0, i2, i3, i4, 0, t_count, t_cornersOf)
abbrev zS_X9_gather : Type := Nat × Int × Int × Int × Int × Nat
abbrev zO_X9_gather : Type := Int × Nat
noncomputable def zg_X9_gather_0 (mk : Nat) (n1 : Nat) (i2 : Int) (i3 : Int) (i4 : Int) (t_count : Int) (t_cornersOf : Nat) : Option (zO_X9_gather ⊕ zS_X9_gather) :=
  some (.inr (7, i2, (0 : Int), 0, (0 : Int), t_cornersOf))
noncomputable def zg_X9_gather_7 (mk : Nat) (n1 : Nat) (i2 : Int) (i3 : Int) (i4 : Int) (t_count : Int) (t_cornersOf : Nat) : Option (zO_X9_gather ⊕ zS_X9_gather) :=
  if zno mk n1 then none else
  Option.bind (zf_X5_corners n1) (fun o2 =>
  if zout i3 then none else
  if zout o2 then none else
  if o2 ≤ i3 then
  some (.inl (t_count, t_cornersOf))
  else
  some (.inr (20, i2, i3, (i3 + (1 : Int)), t_count, t_cornersOf)))
noncomputable def zg_X9_gather_20 (mk : Nat) (n1 : Nat) (i2 : Int) (i3 : Int) (i4 : Int) (t_count : Int) (t_cornersOf : Nat) : Option (zO_X9_gather ⊕ zS_X9_gather) :=
  if zno mk n1 then none else
  Option.bind (zf_X5_corners n1) (fun o7 =>
  if zout i4 then none else
  if zout o7 then none else
  if o7 ≤ i4 then
  some (.inr (7, i2, (i3 + (1 : Int)), i4, t_count, t_cornersOf))
  else
  Option.bind (zf_X5_areJoined n1 i2 i3 i4) (fun o10 =>
  if o10 = false then
  some (.inr (20, i2, i3, (i4 + (1 : Int)), t_count, t_cornersOf))
  else
  Option.bind (zf_X9_gatherOn mk t_count t_cornersOf n1 i2 i3 i4) (fun o11 =>
  some (.inr (20, i2, i3, (i4 + (1 : Int)), (o11.1), (o11.2))))))
noncomputable def zg_X9_gather (mk : Nat) (n1 : Nat) (st : zS_X9_gather) : Option (zO_X9_gather ⊕ zS_X9_gather) := match st with
  | (lab, i2, i3, i4, t_count, t_cornersOf) => if lab = 0 then zg_X9_gather_0 mk n1 i2 i3 i4 t_count t_cornersOf else if lab = 7 then zg_X9_gather_7 mk n1 i2 i3 i4 t_count t_cornersOf else if lab = 20 then zg_X9_gather_20 mk n1 i2 i3 i4 t_count t_cornersOf else none
noncomputable def zf_X9_gather (mk : Nat) (t_count : Int) (t_cornersOf : Nat) (n1 : Nat) (i2 : Int) : Option (Int × Nat) := jrun (zg_X9_gather mk n1) jfuel (0, i2, 0, 0, t_count, t_cornersOf)
noncomputable def zf_X9_cornerOf (mk : Nat) (t_count : Int) (t_cornersOf : Nat) (i1 : Int) (i2 : Int) : Option (Int) :=
  if zout i1 then none else
  if i1 < 0 then
  some ((-1 : Int))
  else
  if zout t_count then none else
  if t_count ≤ i1 then
  some ((-1 : Int))
  else
  if zout i2 then none else
  if i2 < 0 then
  some ((-1 : Int))
  else
  if i2 ≤ (2 : Int) then
  if (((3 : Int) * i1) + i2) < 0 ∨ 21 ≤ (((3 : Int) * i1) + i2) then none else
  some ((zget t_cornersOf (Int.toNat (((3 : Int) * i1) + i2))))
  else
  some ((-1 : Int))
noncomputable def zf_X9_touches (mk : Nat) (t_count : Int) (t_cornersOf : Nat) (i1 : Int) (i2 : Int) : Option (Bool) :=
  Option.bind (zf_X9_cornerOf mk t_count t_cornersOf i1 (0 : Int)) (fun o1 =>
  if zout o1 then none else
  if zout i2 then none else
  if o1 = i2 then
  some (true)
  else
  Option.bind (zf_X9_cornerOf mk t_count t_cornersOf i1 (1 : Int)) (fun o4 =>
  if zout o4 then none else
  if o4 = i2 then
  some (true)
  else
  Option.bind (zf_X9_cornerOf mk t_count t_cornersOf i1 (2 : Int)) (fun o6 =>
  if zout o6 then none else
  if o6 = i2 then
  some (true)
  else
  some (false))))
abbrev zS_X9_choose : Type := Nat × Int × Int × Int × Int × Int × Nat
abbrev zO_X9_choose : Type := Bool × Int × Nat
noncomputable def zg_X9_choose_0 (rec : Nat → Int → Nat → Int → Int → Int → Nat → Nat → Int → Int → Option (Bool × Int × Nat)) (mk : Nat) (t_count : Int) (t_polygon : Nat) (t_from : Int) (t_length : Int) (t_cornersOf : Nat) (i1 : Int) (i2 : Int) (i3 : Int) (i4 : Int) (t_waysAhead : Int) (t_chosen : Nat) : Option (zO_X9_choose ⊕ zS_X9_choose) :=
  if zout i1 then none else
  if zout t_length then none else
  if t_length ≤ i1 then
  if zout (t_waysAhead - (1 : Int)) then none else
  if 0 ≤ (t_waysAhead - (1 : Int)) then
  some (.inl (false, (t_waysAhead - (1 : Int)), t_chosen))
  else
  some (.inl (true, (t_waysAhead - (1 : Int)), t_chosen))
  else
  if i1 < (7 : Int) then
  if zno mk t_polygon then none else
  Option.bind (zf_X5_corners t_polygon) (fun o6 =>
  if zout ((t_from + (1 : Int)) + i1) then none else
  if zout o6 then none else
  if ((t_from + (1 : Int)) + i1) < o6 then
  some (.inr (70, i1, i2, ((t_from + (1 : Int)) + i1), (0 : Int), t_waysAhead, t_chosen))
  else
  Option.bind (zf_X5_corners t_polygon) (fun o9 =>
  some (.inr (70, i1, i2, (((t_from + (1 : Int)) + i1) - o9), (0 : Int), t_waysAhead, t_chosen))))
  else
  if zout (t_waysAhead - (1 : Int)) then none else
  if 0 ≤ (t_waysAhead - (1 : Int)) then
  some (.inl (false, (t_waysAhead - (1 : Int)), t_chosen))
  else
  some (.inl (true, (t_waysAhead - (1 : Int)), t_chosen))
noncomputable def zg_X9_choose_70 (rec : Nat → Int → Nat → Int → Int → Int → Nat → Nat → Int → Int → Option (Bool × Int × Nat)) (mk : Nat) (t_count : Int) (t_polygon : Nat) (t_from : Int) (t_length : Int) (t_cornersOf : Nat) (i1 : Int) (i2 : Int) (i3 : Int) (i4 : Int) (t_waysAhead : Int) (t_chosen : Nat) : Option (zO_X9_choose ⊕ zS_X9_choose) :=
  if zout i4 then none else
  if zout t_count then none else
  if t_count ≤ i4 then
  some (.inl (false, t_waysAhead, t_chosen))
  else
  if (zand (zshr i2 i4) (1 : Int)) = 0 then
  Option.bind (zf_X9_touches mk t_count t_cornersOf i4 i3) (fun o17 =>
  if o17 = false then
  some (.inr (70, i1, i2, i3, (i4 + (1 : Int)), t_waysAhead, t_chosen))
  else
  if i1 < 0 ∨ 7 ≤ i1 then none else
  Option.bind (rec mk t_count t_polygon t_from t_length t_waysAhead t_cornersOf (zset t_chosen (Int.toNat i1) i4) (i1 + (1 : Int)) (zor i2 (zshl (1 : Int) i4))) (fun o19 =>
  if (o19.1) = false then
  some (.inr (70, i1, i2, i3, (i4 + (1 : Int)), (o19.2.1), (o19.2.2)))
  else
  some (.inl (true, (o19.2.1), (o19.2.2)))))
  else
  some (.inr (70, i1, i2, i3, (i4 + (1 : Int)), t_waysAhead, t_chosen))
noncomputable def zg_X9_choose (rec : Nat → Int → Nat → Int → Int → Int → Nat → Nat → Int → Int → Option (Bool × Int × Nat)) (mk : Nat) (t_count : Int) (t_polygon : Nat) (t_from : Int) (t_length : Int) (t_cornersOf : Nat) (st : zS_X9_choose) : Option (zO_X9_choose ⊕ zS_X9_choose) := match st with
  | (lab, i1, i2, i3, i4, t_waysAhead, t_chosen) => if lab = 0 then zg_X9_choose_0 rec mk t_count t_polygon t_from t_length t_cornersOf i1 i2 i3 i4 t_waysAhead t_chosen else if lab = 70 then zg_X9_choose_70 rec mk t_count t_polygon t_from t_length t_cornersOf i1 i2 i3 i4 t_waysAhead t_chosen else none
noncomputable def zf_X9_choose (d : Nat) : Nat → Int → Nat → Int → Int → Int → Nat → Nat → Int → Int → Option (Bool × Int × Nat) := Nat.rec (fun _ _ _ _ _ _ _ _ _ _ => none) (fun _ rec mk t_count t_polygon t_from t_length t_waysAhead t_cornersOf t_chosen i1 i2 => jrun (zg_X9_choose rec mk t_count t_polygon t_from t_length t_cornersOf) jfuel (0, i1, i2, 0, 0, t_waysAhead, t_chosen)) d
noncomputable def zf_X9_onWay (mk : Nat) (t_count : Int) (t_polygon : Nat) (t_from : Int) (t_length : Int) (t_waysAhead : Int) (t_cornersOf : Nat) (t_chosen : Nat) (n1 : Nat) (i2 : Int) (i3 : Int) (i4 : Int) (i5 : Int) : Option (Int × Nat × Int × Int × Int × Nat) :=
  if zno mk n1 then none else
  Option.bind (zf_X5_ahead n1 i2 i3) (fun o2 =>
  if zout (o2 - (1 : Int)) then none else
  if (7 : Int) < (o2 - (1 : Int)) then
  some ((-1 : Int), n1, i2, (o2 - (1 : Int)), i4, t_chosen)
  else
  if zout i5 then none else
  if i5 < 0 then
  some ((-1 : Int), n1, i2, (o2 - (1 : Int)), i4, t_chosen)
  else
  if i5 < (o2 - (1 : Int)) then
  Option.bind (zf_X9_choose 10 mk t_count n1 i2 (o2 - (1 : Int)) i4 t_cornersOf t_chosen (0 : Int) (0 : Int)) (fun o5 =>
  if (o5.1) = false then
  some ((-2 : Int), n1, i2, (o2 - (1 : Int)), (o5.2.1), (o5.2.2))
  else
  if i5 < 0 ∨ 7 ≤ i5 then none else
  some ((zget (o5.2.2) (Int.toNat i5)), n1, i2, (o2 - (1 : Int)), (o5.2.1), (o5.2.2)))
  else
  some ((-1 : Int), n1, i2, (o2 - (1 : Int)), i4, t_chosen))
noncomputable def zf_X3_size  (t_size : Int)  : Option (Int) :=
  some (t_size)
abbrev zS_X3_gather : Type := Nat × Int × Int × Int × Nat × Nat
abbrev zO_X3_gather : Type := Int × Nat × Nat
noncomputable def zg_X3_gather_0 (mk : Nat) (q2_size : Int) (q2_rights : Int) (q2_seenStep : Nat) (q2_seenFrom : Nat) (q2_seenTo : Nat) (q2_seenValue : Nat) (q2_rightStep : Nat) (q2_rightOf : Nat) (q2_rightValue : Nat) (n1 : Nat) (i3 : Int) (i4 : Int) (t_size : Int) (t_numbers : Nat) (q2_knownValue : Nat) : Option (zO_X3_gather ⊕ zS_X3_gather) :=
  Option.bind (zf_X7_recall q2_size q2_rights q2_seenStep q2_seenValue q2_rightStep q2_rightOf q2_rightValue q2_knownValue i3) (fun o1 =>
  some (.inr (13, i3, (0 : Int), (0 : Int), t_numbers, o1)))
noncomputable def zg_X3_gather_13 (mk : Nat) (q2_size : Int) (q2_rights : Int) (q2_seenStep : Nat) (q2_seenFrom : Nat) (q2_seenTo : Nat) (q2_seenValue : Nat) (q2_rightStep : Nat) (q2_rightOf : Nat) (q2_rightValue : Nat) (n1 : Nat) (i3 : Int) (i4 : Int) (t_size : Int) (t_numbers : Nat) (q2_knownValue : Nat) : Option (zO_X3_gather ⊕ zS_X3_gather) :=
  if zno mk n1 then none else
  Option.bind (zf_X5_cutCount n1) (fun o3 =>
  if zout i4 then none else
  if zout o3 then none else
  if o3 ≤ i4 then
  some (.inl (t_size, t_numbers, q2_knownValue))
  else
  if (429 : Int) ≤ i4 then
  some (.inl (t_size, t_numbers, q2_knownValue))
  else
  Option.bind (zf_X5_cutAt n1 i4) (fun o6 =>
  Option.bind (zf_X7_agreeWith mk q2_size q2_seenFrom q2_seenTo q2_knownValue n1 o6) (fun o7 =>
  if o7 = false then
  some (.inr (13, 0, (i4 + (1 : Int)), t_size, t_numbers, q2_knownValue))
  else
  if t_size < 0 ∨ 429 ≤ t_size then none else
  some (.inr (13, 0, (i4 + (1 : Int)), (t_size + (1 : Int)), (zset t_numbers (Int.toNat t_size) i4), q2_knownValue)))))
noncomputable def zg_X3_gather (mk : Nat) (q2_size : Int) (q2_rights : Int) (q2_seenStep : Nat) (q2_seenFrom : Nat) (q2_seenTo : Nat) (q2_seenValue : Nat) (q2_rightStep : Nat) (q2_rightOf : Nat) (q2_rightValue : Nat) (n1 : Nat) (st : zS_X3_gather) : Option (zO_X3_gather ⊕ zS_X3_gather) := match st with
  | (lab, i3, i4, t_size, t_numbers, q2_knownValue) => if lab = 0 then zg_X3_gather_0 mk q2_size q2_rights q2_seenStep q2_seenFrom q2_seenTo q2_seenValue q2_rightStep q2_rightOf q2_rightValue n1 i3 i4 t_size t_numbers q2_knownValue else if lab = 13 then zg_X3_gather_13 mk q2_size q2_rights q2_seenStep q2_seenFrom q2_seenTo q2_seenValue q2_rightStep q2_rightOf q2_rightValue n1 i3 i4 t_size t_numbers q2_knownValue else none
noncomputable def zf_X3_gather (mk : Nat) (t_size : Int) (t_numbers : Nat) (q2_size : Int) (q2_rights : Int) (q2_seenStep : Nat) (q2_seenFrom : Nat) (q2_seenTo : Nat) (q2_seenValue : Nat) (q2_rightStep : Nat) (q2_rightOf : Nat) (q2_rightValue : Nat) (q2_knownValue : Nat) (n1 : Nat) (i3 : Int) : Option (Int × Nat × Nat) := jrun (zg_X3_gather mk q2_size q2_rights q2_seenStep q2_seenFrom q2_seenTo q2_seenValue q2_rightStep q2_rightOf q2_rightValue n1) jfuel (0, i3, 0, t_size, t_numbers, q2_knownValue)
noncomputable def zf_X3_leastNumber  (t_size : Int) (t_numbers : Nat)  : Option (Int) :=
  if zout t_size then none else
  if t_size ≤ 0 then
  some ((-1 : Int))
  else
  some ((zget t_numbers (Int.toNat (0 : Int))))
abbrev zS_X3_howSure : Type := Nat × Int × Int × Int
abbrev zO_X3_howSure : Type := Int
noncomputable def zg_X3_howSure_0 (mk : Nat) (t_size : Int) (t_numbers : Nat) (n1 : Nat) (i2 : Int) (i3 : Int) (i4 : Int) : Option (zO_X3_howSure ⊕ zS_X3_howSure) :=
  some (.inr (5, i2, (0 : Int), (0 : Int)))
noncomputable def zg_X3_howSure_5 (mk : Nat) (t_size : Int) (t_numbers : Nat) (n1 : Nat) (i2 : Int) (i3 : Int) (i4 : Int) : Option (zO_X3_howSure ⊕ zS_X3_howSure) :=
  if zout i4 then none else
  if zout t_size then none else
  if t_size ≤ i4 then
  if t_size = 0 then
  some (.inl ((-1 : Int)))
  else
  if zout i3 then none else
  if i3 = t_size then
  some (.inl ((1 : Int)))
  else
  if i3 = 0 then
  some (.inl ((0 : Int)))
  else
  some (.inl ((2 : Int)))
  else
  if i4 < 0 ∨ 429 ≤ i4 then none else
  if zno mk n1 then none else
  Option.bind (zf_X5_cutAt n1 (zget t_numbers (Int.toNat i4))) (fun o9 =>
  Option.bind (zf_X5_has n1 o9 i2) (fun o10 =>
  if o10 = false then
  some (.inr (5, i2, i3, (i4 + (1 : Int))))
  else
  some (.inr (5, i2, (i3 + (1 : Int)), (i4 + (1 : Int))))))
noncomputable def zg_X3_howSure (mk : Nat) (t_size : Int) (t_numbers : Nat) (n1 : Nat) (st : zS_X3_howSure) : Option (zO_X3_howSure ⊕ zS_X3_howSure) := match st with
  | (lab, i2, i3, i4) => if lab = 0 then zg_X3_howSure_0 mk t_size t_numbers n1 i2 i3 i4 else if lab = 5 then zg_X3_howSure_5 mk t_size t_numbers n1 i2 i3 i4 else none
noncomputable def zf_X3_howSure (mk : Nat) (t_size : Int) (t_numbers : Nat) (n1 : Nat) (i2 : Int) : Option (Int) := jrun (zg_X3_howSure mk t_size t_numbers n1) jfuel (0, i2, 0, 0)
abbrev zS_X3_mostAgreeing : Type := Nat × Int × Int × Int × Int × Nat
abbrev zO_X3_mostAgreeing : Type := Int × Nat
noncomputable def zg_X3_mostAgreeing_0 (mk : Nat) (t_size : Int) (t_numbers : Nat) (n1 : Nat) (i2 : Int) (i3 : Int) (i4 : Int) (i5 : Int) (t_tally : Nat) : Option (zO_X3_mostAgreeing ⊕ zS_X3_mostAgreeing) :=
  some (.inr (3, i2, i3, (0 : Int), 0, t_tally))
noncomputable def zg_X3_mostAgreeing_3 (mk : Nat) (t_size : Int) (t_numbers : Nat) (n1 : Nat) (i2 : Int) (i3 : Int) (i4 : Int) (i5 : Int) (t_tally : Nat) : Option (zO_X3_mostAgreeing ⊕ zS_X3_mostAgreeing) :=
  if zout i4 then none else
  if (21 : Int) < i4 then
  some (.inr (30, i2, i3, (0 : Int), (0 : Int), t_tally))
  else
  if i4 < 0 ∨ 22 ≤ i4 then none else
  some (.inr (3, i2, i3, (i4 + (1 : Int)), 0, (zset t_tally (Int.toNat i4) (0 : Int))))
noncomputable def zg_X3_mostAgreeing_30 (mk : Nat) (t_size : Int) (t_numbers : Nat) (n1 : Nat) (i2 : Int) (i3 : Int) (i4 : Int) (i5 : Int) (t_tally : Nat) : Option (zO_X3_mostAgreeing ⊕ zS_X3_mostAgreeing) :=
  if zout i5 then none else
  if zout t_size then none else
  if t_size ≤ i5 then
  some (.inl (i4, t_tally))
  else
  if i5 < 0 ∨ 429 ≤ i5 then none else
  if zno mk n1 then none else
  Option.bind (zf_X5_cutAt n1 (zget t_numbers (Int.toNat i5))) (fun o8 =>
  Option.bind (zf_X5_entryOf n1 o8 i2 i3) (fun o9 =>
  if zout o9 then none else
  if o9 < 0 then
  some (.inr (30, i2, i3, i4, (i5 + (1 : Int)), t_tally))
  else
  if (21 : Int) < o9 then
  some (.inr (30, i2, i3, i4, (i5 + (1 : Int)), t_tally))
  else
  if o9 < 0 ∨ 22 ≤ o9 then none else
  if zout i4 then none else
  some (.inr (30, i2, i3, (zmax i4 (zget (zset t_tally (Int.toNat o9) ((zget t_tally (Int.toNat o9)) + (1 : Int))) (Int.toNat o9))), (i5 + (1 : Int)), (zset t_tally (Int.toNat o9) ((zget t_tally (Int.toNat o9)) + (1 : Int)))))))
noncomputable def zg_X3_mostAgreeing (mk : Nat) (t_size : Int) (t_numbers : Nat) (n1 : Nat) (st : zS_X3_mostAgreeing) : Option (zO_X3_mostAgreeing ⊕ zS_X3_mostAgreeing) := match st with
  | (lab, i2, i3, i4, i5, t_tally) => if lab = 0 then zg_X3_mostAgreeing_0 mk t_size t_numbers n1 i2 i3 i4 i5 t_tally else if lab = 3 then zg_X3_mostAgreeing_3 mk t_size t_numbers n1 i2 i3 i4 i5 t_tally else if lab = 30 then zg_X3_mostAgreeing_30 mk t_size t_numbers n1 i2 i3 i4 i5 t_tally else none
noncomputable def zf_X3_mostAgreeing (mk : Nat) (t_size : Int) (t_numbers : Nat) (t_tally : Nat) (n1 : Nat) (i2 : Int) (i3 : Int) : Option (Int × Nat) := jrun (zg_X3_mostAgreeing mk t_size t_numbers n1) jfuel (0, i2, i3, 0, 0, t_tally)
abbrev zS_X3_bestQuestion : Type := Nat × Int × Int × Int × Nat
abbrev zO_X3_bestQuestion : Type := Int × Nat
noncomputable def zg_X3_bestQuestion_0 (mk : Nat) (t_size : Int) (t_numbers : Nat) (n1 : Nat) (i2 : Int) (i3 : Int) (i4 : Int) (t_tally : Nat) : Option (zO_X3_bestQuestion ⊕ zS_X3_bestQuestion) :=
  some (.inr (10, (-1 : Int), t_size, (0 : Int), t_tally))
noncomputable def zg_X3_bestQuestion_10 (mk : Nat) (t_size : Int) (t_numbers : Nat) (n1 : Nat) (i2 : Int) (i3 : Int) (i4 : Int) (t_tally : Nat) : Option (zO_X3_bestQuestion ⊕ zS_X3_bestQuestion) :=
  if zno mk n1 then none else
  Option.bind (zf_X5_lineCount n1) (fun o2 =>
  if zout i4 then none else
  if zout o2 then none else
  if o2 ≤ i4 then
  some (.inl (i2, t_tally))
  else
  Option.bind (zf_X5_lesserOf n1 i4) (fun o5 =>
  Option.bind (zf_X5_greaterOf n1 i4) (fun o6 =>
  Option.bind (zf_X3_mostAgreeing mk t_size t_numbers t_tally n1 o5 o6) (fun o7 =>
  if zout (o7.1) then none else
  if zout i3 then none else
  if i3 ≤ (o7.1) then
  some (.inr (10, i2, i3, (i4 + (1 : Int)), (o7.2)))
  else
  Option.bind (zf_X5_pairOf n1 i4) (fun o10 =>
  some (.inr (10, o10, (o7.1), (i4 + (1 : Int)), (o7.2))))))))
noncomputable def zg_X3_bestQuestion (mk : Nat) (t_size : Int) (t_numbers : Nat) (n1 : Nat) (st : zS_X3_bestQuestion) : Option (zO_X3_bestQuestion ⊕ zS_X3_bestQuestion) := match st with
  | (lab, i2, i3, i4, t_tally) => if lab = 0 then zg_X3_bestQuestion_0 mk t_size t_numbers n1 i2 i3 i4 t_tally else if lab = 10 then zg_X3_bestQuestion_10 mk t_size t_numbers n1 i2 i3 i4 t_tally else none
noncomputable def zf_X3_bestQuestion (mk : Nat) (t_size : Int) (t_numbers : Nat) (t_tally : Nat) (n1 : Nat) : Option (Int × Nat) := jrun (zg_X3_bestQuestion mk t_size t_numbers n1) jfuel (0, 0, 0, 0, t_tally)
noncomputable def zf_X1_faultKind (mk : Nat) (t_faultKind : Int)  : Option (Int) :=
  some (t_faultKind)
noncomputable def zf_X1_faultPlace (mk : Nat) (t_faultPlace : Int)  : Option (Int) :=
  some (t_faultPlace)
noncomputable def zf_X1_bits (mk : Nat) (t_bits : Int)  : Option (Int) :=
  some (t_bits)
noncomputable def zf_X1_takeFirst (mk : Nat) (t_first : Int) (t_polygon : Nat) (t_bits : Int) (q1_kind : Int) (q1_value : Int)  : Option (Int × Int) :=
  if t_polygon = 0 then
  some ((1 : Int), t_first)
  else
  Option.bind (zf_X8_kind q1_kind) (fun o2 =>
  if zout o2 then none else
  if o2 = 0 then
  Option.bind (zf_J6_bitCount_0f7a4 t_bits) (fun o11 =>
  if zno mk t_polygon then none else
  Option.bind (zf_X5_corners t_polygon) (fun o13 =>
  if zout o11 then none else
  if zout (o13 - (3 : Int)) then none else
  if (o13 - (3 : Int)) ≤ o11 then
  some ((0 : Int), t_first)
  else
  some ((6 : Int), t_first)))
  else
  Option.bind (zf_X8_value q1_value) (fun o4 =>
  Option.bind (zf_X8_kind q1_kind) (fun o5 =>
  if zout o5 then none else
  if o5 = (2 : Int) then
  if zno mk t_polygon then none else
  Option.bind (zf_X5_hasCorner t_polygon o4) (fun o8 =>
  if o8 = false then
  some ((2 : Int), o4)
  else
  some ((0 : Int), o4))
  else
  some ((1 : Int), o4))))
noncomputable def zf_X1_takeSecond (mk : Nat) (t_first : Int) (t_polygon : Nat) (t_bits : Int) (i1 : Int) : Option (Int × Int) :=
  if t_polygon = 0 then
  some ((2 : Int), t_bits)
  else
  if zno mk t_polygon then none else
  Option.bind (zf_X5_hasCorner t_polygon i1) (fun o3 =>
  if o3 = false then
  some ((2 : Int), t_bits)
  else
  Option.bind (zf_X5_lineOf t_polygon t_first i1) (fun o4 =>
  if zout o4 then none else
  if o4 = (-1 : Int) then
  some ((4 : Int), t_bits)
  else
  Option.bind (zf_X5_has t_polygon t_bits o4) (fun o6 =>
  if o6 = false then
  Option.bind (zf_X5_crossersOf t_polygon o4) (fun o7 =>
  if (zand o7 t_bits) = 0 then
  some ((0 : Int), (zor t_bits (zshl (1 : Int) o4)))
  else
  some ((5 : Int), t_bits))
  else
  some ((3 : Int), t_bits))))
noncomputable def zf_X10_feed (mk : Nat) (tape_length : Int) (tape_bytes : Nat) (i1 : Int) (i2 : Int) (i3 : Int) (i4 : Int) (i5 : Int) : Option (Int × Int × Nat) :=
  Option.bind (zf_X8_hasRoomForTwenty tape_length) (fun o1 =>
  if o1 = false then
  some ((-3 : Int), tape_length, tape_bytes)
  else
  Option.bind (zf_X8_append tape_length tape_bytes i1) (fun o2 =>
  Option.bind (zf_X8_append (o2.1) (o2.2) i2) (fun o3 =>
  Option.bind (zf_X8_append (o3.1) (o3.2) i3) (fun o4 =>
  Option.bind (zf_X8_append (o4.1) (o4.2) i4) (fun o5 =>
  Option.bind (zf_X8_append (o5.1) (o5.2) i5) (fun o6 =>
  Option.bind (zf_X8_size (o6.1)) (fun o7 =>
  some (o7, (o6.1), (o6.2)))))))))
noncomputable def zf_X10_end (mk : Nat) (tape_length : Int) (i1 : Int) : Option (Int × Int) :=
  if zout i1 then none else
  if i1 < 0 then
  some ((-1 : Int), tape_length)
  else
  Option.bind (zf_X8_size tape_length) (fun o2 =>
  if zout o2 then none else
  if i1 ≤ o2 then
  Option.bind (zf_X8_shorten tape_length i1) (fun o4 =>
  some (i1, o4))
  else
  some ((-1 : Int), tape_length))
noncomputable def zf_X10_become (mk : Nat) (t_polygon : Nat) (t_bits : Int) (sightings_size : Int) (sightings_rights : Int) (sightings_latest : Int) (n1 : Nat) (i2 : Int) : Option (Nat × Int × Int × Int × Int) :=
  if zno mk n1 then none else
  Option.bind (zf_X5_corners n1) (fun o2 =>
  if zno mk t_polygon then none else
  Option.bind (zf_X5_corners t_polygon) (fun o4 =>
  if zout o2 then none else
  if zout o4 then none else
  if o2 = o4 then
  some (n1, i2, sightings_size, sightings_rights, sightings_latest)
  else
  Option.bind (zf_X7_forget sightings_size sightings_rights sightings_latest) (fun o7 =>
  some (n1, i2, (o7.1), (o7.2.1), (o7.2.2)))))
noncomputable def zf_X10_fault (mk : Nat) (text_faultKind : Int) (text_faultPlace : Int) (i1 : Int) : Option (Int) :=
  if zout i1 then none else
  if i1 = 0 then
  Option.bind (zf_X1_faultKind mk text_faultKind) (fun o4 =>
  some (o4))
  else
  if i1 = (1 : Int) then
  Option.bind (zf_X1_faultPlace mk text_faultPlace) (fun o2 =>
  some (o2))
  else
  some ((-1 : Int))
noncomputable def zf_X10_told (mk : Nat) (t_polygon : Nat) (t_bits : Int) (endless_size : Int) (i1 : Int) : Option (Int) :=
  if zout i1 then none else
  if i1 = (0 : Int) then
  if zno mk t_polygon then none else
  Option.bind (zf_X5_corners t_polygon) (fun o4 =>
  some (o4))
  else
  if i1 = (1 : Int) then
  if zno mk t_polygon then none else
  Option.bind (zf_X5_numberOf t_polygon t_bits) (fun o7 =>
  some (o7))
  else
  if i1 = (2 : Int) then
  if zno mk t_polygon then none else
  Option.bind (zf_X5_cutCount t_polygon) (fun o10 =>
  some (o10))
  else
  if i1 = (3 : Int) then
  Option.bind (zf_X2_size endless_size) (fun o12 =>
  some (o12))
  else
  some ((-1 : Int))
noncomputable def zf_X10_triangle (mk : Nat) (t_polygon : Nat) (t_bits : Int) (triangles_count : Int) (triangles_cornersOf : Nat) (i1 : Int) (i2 : Int) : Option (Int × Int × Nat) :=
  if zout i1 then none else
  if i1 < 0 then
  some ((-2 : Int), triangles_count, triangles_cornersOf)
  else
  if zno mk t_polygon then none else
  Option.bind (zf_X5_corners t_polygon) (fun o3 =>
  if zout (o3 - (2 : Int)) then none else
  if (o3 - (2 : Int)) ≤ i1 then
  some ((-2 : Int), triangles_count, triangles_cornersOf)
  else
  if zout i2 then none else
  if i2 < 0 then
  some ((-2 : Int), triangles_count, triangles_cornersOf)
  else
  if i2 ≤ (2 : Int) then
  Option.bind (zf_X9_gather mk triangles_count triangles_cornersOf t_polygon t_bits) (fun o6 =>
  Option.bind (zf_X9_cornerOf mk (o6.1) (o6.2) i1 i2) (fun o7 =>
  some (o7, (o6.1), (o6.2))))
  else
  some ((-2 : Int), triangles_count, triangles_cornersOf))
noncomputable def zf_X10_areCorners (mk : Nat) (t_polygon : Nat) (i1 : Int) (i2 : Int) : Option (Bool) :=
  if zno mk t_polygon then none else
  Option.bind (zf_X5_hasCorner t_polygon i1) (fun o2 =>
  if o2 = false then
  some (false)
  else
  Option.bind (zf_X5_hasCorner t_polygon i2) (fun o3 =>
  if o3 = false then
  some (false)
  else
  some (true)))
noncomputable def zf_X10_entry (mk : Nat) (t_polygon : Nat) (t_bits : Int) (i1 : Int) (i2 : Int) : Option (Int) :=
  Option.bind (zf_X10_areCorners mk t_polygon i1 i2) (fun o1 =>
  if o1 = false then
  some ((-2 : Int))
  else
  if zno mk t_polygon then none else
  Option.bind (zf_X5_entryOf t_polygon t_bits i1 i2) (fun o3 =>
  some (o3)))
noncomputable def zf_X10_row (mk : Nat) (t_polygon : Nat) (t_bits : Int) (i1 : Int) : Option (Int) :=
  if zno mk t_polygon then none else
  Option.bind (zf_X5_hasCorner t_polygon i1) (fun o2 =>
  if o2 = false then
  some ((-2 : Int))
  else
  Option.bind (zf_X5_trianglesAt t_polygon t_bits i1) (fun o3 =>
  some (o3)))
noncomputable def zf_X10_way (mk : Nat) (t_polygon : Nat) (t_bits : Int) (triangles_count : Int) (triangles_polygon : Nat) (triangles_from : Int) (triangles_length : Int) (triangles_waysAhead : Int) (triangles_cornersOf : Nat) (triangles_chosen : Nat) (i1 : Int) (i2 : Int) (i3 : Int) (i4 : Int) : Option (Int × Int × Nat × Int × Int × Int × Nat × Nat) :=
  Option.bind (zf_X10_areCorners mk t_polygon i1 i2) (fun o1 =>
  if o1 = false then
  some ((-2 : Int), triangles_count, triangles_polygon, triangles_from, triangles_length, triangles_waysAhead, triangles_cornersOf, triangles_chosen)
  else
  if zno mk t_polygon then none else
  Option.bind (zf_X5_hasCorner t_polygon i4) (fun o3 =>
  if o3 = false then
  some ((-2 : Int), triangles_count, triangles_polygon, triangles_from, triangles_length, triangles_waysAhead, triangles_cornersOf, triangles_chosen)
  else
  if zout i3 then none else
  if i3 < 0 then
  some ((-2 : Int), triangles_count, triangles_polygon, triangles_from, triangles_length, triangles_waysAhead, triangles_cornersOf, triangles_chosen)
  else
  Option.bind (zf_X5_entryOf t_polygon t_bits i1 i2) (fun o5 =>
  if zout o5 then none else
  if i3 < o5 then
  Option.bind (zf_X5_ahead t_polygon i1 i4) (fun o7 =>
  if zout (o7 - (1 : Int)) then none else
  if (o7 - (1 : Int)) < 0 then
  some ((-1 : Int), triangles_count, triangles_polygon, triangles_from, triangles_length, triangles_waysAhead, triangles_cornersOf, triangles_chosen)
  else
  Option.bind (zf_X5_ahead t_polygon i1 i2) (fun o9 =>
  if zout (o9 - (1 : Int)) then none else
  if (o7 - (1 : Int)) < (o9 - (1 : Int)) then
  Option.bind (zf_X9_gather mk triangles_count triangles_cornersOf t_polygon t_bits) (fun o11 =>
  Option.bind (zf_X9_onWay mk (o11.1) triangles_polygon triangles_from triangles_length triangles_waysAhead (o11.2) triangles_chosen t_polygon i1 i2 i3 (o7 - (1 : Int))) (fun o12 =>
  some ((o12.1), (o11.1), (o12.2.1), (o12.2.2.1), (o12.2.2.2.1), (o12.2.2.2.2.1), (o11.2), (o12.2.2.2.2.2))))
  else
  some ((-1 : Int), triangles_count, triangles_polygon, triangles_from, triangles_length, triangles_waysAhead, triangles_cornersOf, triangles_chosen)))
  else
  some ((-2 : Int), triangles_count, triangles_polygon, triangles_from, triangles_length, triangles_waysAhead, triangles_cornersOf, triangles_chosen))))
noncomputable def zf_X10_flip (mk : Nat) (t_polygon : Nat) (t_bits : Int) (i1 : Int) (i2 : Int) : Option (Int × Int) :=
  Option.bind (zf_X10_areCorners mk t_polygon i1 i2) (fun o1 =>
  if o1 = false then
  some ((-2 : Int), t_bits)
  else
  if zno mk t_polygon then none else
  Option.bind (zf_X5_lineOf t_polygon i1 i2) (fun o3 =>
  Option.bind (zf_X5_has t_polygon t_bits o3) (fun o4 =>
  if o4 = false then
  some ((-1 : Int), t_bits)
  else
  Option.bind (zf_X5_otherLine t_polygon t_bits o3) (fun o5 =>
  Option.bind (zf_X5_pairOf t_polygon o5) (fun o6 =>
  some (o6, (zor (zand t_bits (zxor (zshl (1 : Int) o3) (-1 : Int))) (zshl (1 : Int) o5))))))))
noncomputable def zf_X10_fewest (mk : Nat) (t_polygon : Nat) (t_bits : Int) (flips_wayLength : Int) (flips_queued : Int) (flips_steps : Nat) (flips_queue : Nat) (flips_way : Nat) (i1 : Int) : Option (Int × Int × Int × Nat × Nat × Nat) :=
  if zno mk t_polygon then none else
  Option.bind (zf_X5_hasCut t_polygon i1) (fun o2 =>
  if o2 = false then
  some ((-2 : Int), flips_wayLength, flips_queued, flips_steps, flips_queue, flips_way)
  else
  Option.bind (zf_X5_numberOf t_polygon t_bits) (fun o3 =>
  Option.bind (zf_X4_layWay mk flips_wayLength flips_queued flips_steps flips_queue flips_way t_polygon o3 i1) (fun o4 =>
  some ((o4.1), (o4.2.1), (o4.2.2.1), (o4.2.2.2.1), (o4.2.2.2.2.1), (o4.2.2.2.2.2)))))
noncomputable def zf_X10_passed (mk : Nat) (flips_wayLength : Int) (flips_way : Nat) (i1 : Int) : Option (Int) :=
  Option.bind (zf_X4_onWay flips_wayLength flips_way i1) (fun o1 =>
  some (o1))
abbrev zS_X10_farthest : Type := Nat × Int × Int × Nat × Nat
abbrev zO_X10_farthest : Type := Int × Int × Nat × Nat
noncomputable def zg_X10_farthest_0 (mk : Nat) (t_polygon : Nat) (t_bits : Int) (i1 : Int) (flips_queued : Int) (flips_steps : Nat) (flips_queue : Nat) : Option (zO_X10_farthest ⊕ zS_X10_farthest) :=
  if zout i1 then none else
  if i1 = 0 then
  some (.inr (11, i1, flips_queued, flips_steps, flips_queue))
  else
  if i1 = (1 : Int) then
  some (.inr (11, i1, flips_queued, flips_steps, flips_queue))
  else
  some (.inl ((-1 : Int), flips_queued, flips_steps, flips_queue))
noncomputable def zg_X10_farthest_11 (mk : Nat) (t_polygon : Nat) (t_bits : Int) (i1 : Int) (flips_queued : Int) (flips_steps : Nat) (flips_queue : Nat) : Option (zO_X10_farthest ⊕ zS_X10_farthest) :=
  if zno mk t_polygon then none else
  Option.bind (zf_X5_numberOf t_polygon t_bits) (fun o5 =>
  Option.bind (zf_X4_measure mk flips_queued flips_steps flips_queue t_polygon o5) (fun o6 =>
  Option.bind (zf_X4_mostSteps mk (o6.2.1) t_polygon) (fun o7 =>
  if zout i1 then none else
  if i1 = 0 then
  some (.inl (o7, (o6.1), (o6.2.1), (o6.2.2)))
  else
  Option.bind (zf_X4_howManyAt mk (o6.2.1) t_polygon o7) (fun o9 =>
  some (.inl (o9, (o6.1), (o6.2.1), (o6.2.2)))))))
noncomputable def zg_X10_farthest (mk : Nat) (t_polygon : Nat) (t_bits : Int) (st : zS_X10_farthest) : Option (zO_X10_farthest ⊕ zS_X10_farthest) := match st with
  | (lab, i1, flips_queued, flips_steps, flips_queue) => if lab = 0 then zg_X10_farthest_0 mk t_polygon t_bits i1 flips_queued flips_steps flips_queue else if lab = 11 then zg_X10_farthest_11 mk t_polygon t_bits i1 flips_queued flips_steps flips_queue else none
noncomputable def zf_X10_farthest (mk : Nat) (t_polygon : Nat) (t_bits : Int) (flips_queued : Int) (flips_steps : Nat) (flips_queue : Nat) (i1 : Int) : Option (Int × Int × Nat × Nat) := jrun (zg_X10_farthest mk t_polygon t_bits) jfuel (0, i1, flips_queued, flips_steps, flips_queue)
noncomputable def zf_X10_least (mk : Nat) (t_polygon : Nat) (t_bits : Int) (i1 : Bool) : Option (Int) :=
  if zno mk t_polygon then none else
  Option.bind (zf_X5_leastAlike t_polygon t_bits i1) (fun o2 =>
  Option.bind (zf_X5_numberOf t_polygon o2) (fun o3 =>
  some (o3)))
noncomputable def zf_X10_takeRow (mk : Nat) (t_polygon : Nat) (tape_length : Int) (tape_next : Int) (tape_kind : Int) (tape_place : Int) (tape_value : Int) (tape_bytes : Nat) (t_toldRow : Nat)  : Option (Bool × Int × Int × Int × Int × Int × Nat) :=
  Option.bind (zf_X8_readNumbers tape_length tape_next tape_kind tape_place tape_value tape_bytes t_toldRow) (fun o1 =>
  Option.bind (zf_X8_shorten tape_length (0 : Int)) (fun o2 =>
  if zno mk t_polygon then none else
  Option.bind (zf_X5_corners t_polygon) (fun o4 =>
  if zout (o1.1) then none else
  if zout o4 then none else
  if (o1.1) = o4 then
  some (true, o2, (o1.2.1), (o1.2.2.1), (o1.2.2.2.1), (o1.2.2.2.2.1), (o1.2.2.2.2.2))
  else
  some (false, o2, (o1.2.1), (o1.2.2.1), (o1.2.2.2.1), (o1.2.2.2.2.1), (o1.2.2.2.2.2)))))
noncomputable def zf_X10_read (mk : Nat) (t_polygon : Nat) (t_bits : Int) (tape_length : Int) (tape_next : Int) (tape_kind : Int) (tape_place : Int) (tape_value : Int) (tape_bytes : Nat) (t_toldRow : Nat)  : Option (Int × Int × Int × Int × Int × Int × Int × Nat) :=
  Option.bind (zf_X10_takeRow mk t_polygon tape_length tape_next tape_kind tape_place tape_value tape_bytes t_toldRow) (fun o1 =>
  if (o1.1) = false then
  some ((-2 : Int), t_bits, (o1.2.1), (o1.2.2.1), (o1.2.2.2.1), (o1.2.2.2.2.1), (o1.2.2.2.2.2.1), (o1.2.2.2.2.2.2))
  else
  if zno mk t_polygon then none else
  Option.bind (zf_X5_nearestTo t_polygon (o1.2.2.2.2.2.2)) (fun o3 =>
  Option.bind (zf_X5_cutAt t_polygon o3) (fun o4 =>
  Option.bind (zf_X5_differenceFrom t_polygon (o1.2.2.2.2.2.2) o4) (fun o5 =>
  if zout o5 then none else
  if o5 = 0 then
  Option.bind (zf_X5_cutAt t_polygon o3) (fun o7 =>
  some (o3, o7, (o1.2.1), (o1.2.2.1), (o1.2.2.2.1), (o1.2.2.2.2.1), (o1.2.2.2.2.2.1), (o1.2.2.2.2.2.2)))
  else
  some ((-1 : Int), t_bits, (o1.2.1), (o1.2.2.1), (o1.2.2.2.1), (o1.2.2.2.2.1), (o1.2.2.2.2.2.1), (o1.2.2.2.2.2.2))))))
noncomputable def zf_X10_mend (mk : Nat) (t_polygon : Nat) (t_mendedNumber : Int) (tape_length : Int) (tape_next : Int) (tape_kind : Int) (tape_place : Int) (tape_value : Int) (tape_bytes : Nat) (t_toldRow : Nat)  : Option (Int × Int × Int × Int × Int × Int × Int × Nat) :=
  Option.bind (zf_X10_takeRow mk t_polygon tape_length tape_next tape_kind tape_place tape_value tape_bytes t_toldRow) (fun o1 =>
  if (o1.1) = false then
  some ((-2 : Int), t_mendedNumber, (o1.2.1), (o1.2.2.1), (o1.2.2.2.1), (o1.2.2.2.2.1), (o1.2.2.2.2.2.1), (o1.2.2.2.2.2.2))
  else
  if zno mk t_polygon then none else
  Option.bind (zf_X5_nearestTo t_polygon (o1.2.2.2.2.2.2)) (fun o3 =>
  Option.bind (zf_X5_cutAt t_polygon o3) (fun o4 =>
  Option.bind (zf_X5_differenceFrom t_polygon (o1.2.2.2.2.2.2) o4) (fun o5 =>
  some (o5, o3, (o1.2.1), (o1.2.2.1), (o1.2.2.2.1), (o1.2.2.2.2.1), (o1.2.2.2.2.2.1), (o1.2.2.2.2.2.2))))))
noncomputable def zf_X10_mended (mk : Nat) (t_mendedNumber : Int)  : Option (Int) :=
  some (t_mendedNumber)
noncomputable def zf_X10_crossed (mk : Nat) (t_polygon : Nat) (t_bits : Int) (crossedLines_size : Int) (crossedLines_lines : Nat) (i1 : Int) (i2 : Int) (i3 : Int) : Option (Int × Int × Nat) :=
  Option.bind (zf_X10_areCorners mk t_polygon i1 i2) (fun o1 =>
  if o1 = false then
  some ((-2 : Int), crossedLines_size, crossedLines_lines)
  else
  if zout i1 then none else
  if zout i2 then none else
  if i1 = i2 then
  some ((-2 : Int), crossedLines_size, crossedLines_lines)
  else
  if zno mk t_polygon then none else
  Option.bind (zf_X0_gather mk crossedLines_size crossedLines_lines t_polygon t_bits i1 i2) (fun o5 =>
  if zout i3 then none else
  if i3 = (-1 : Int) then
  Option.bind (zf_X0_size (o5.1)) (fun o8 =>
  some (o8, (o5.1), (o5.2)))
  else
  Option.bind (zf_X0_pairAt mk (o5.1) (o5.2) t_polygon i3) (fun o7 =>
  some (o7, (o5.1), (o5.2)))))
noncomputable def zf_X10_side (mk : Nat) (t_polygon : Nat) (t_bits : Int) (crossedLines_size : Int) (crossedLines_lines : Nat) (i1 : Int) (i2 : Int) (i3 : Int) : Option (Int × Int × Nat) :=
  Option.bind (zf_X10_areCorners mk t_polygon i1 i2) (fun o1 =>
  if o1 = false then
  some ((-2 : Int), crossedLines_size, crossedLines_lines)
  else
  if zout i1 then none else
  if zout i2 then none else
  if i1 = i2 then
  some ((-2 : Int), crossedLines_size, crossedLines_lines)
  else
  if zno mk t_polygon then none else
  Option.bind (zf_X0_gather mk crossedLines_size crossedLines_lines t_polygon t_bits i1 i2) (fun o5 =>
  Option.bind (zf_X0_sharedWithNext mk (o5.1) (o5.2) t_polygon i3) (fun o6 =>
  if zout o6 then none else
  if o6 = (-1 : Int) then
  some ((-1 : Int), (o5.1), (o5.2))
  else
  Option.bind (zf_X5_ahead t_polygon i1 o6) (fun o8 =>
  Option.bind (zf_X5_ahead t_polygon i1 i2) (fun o9 =>
  if zout o8 then none else
  if zout o9 then none else
  if o9 ≤ o8 then
  some ((1 : Int), (o5.1), (o5.2))
  else
  some ((0 : Int), (o5.1), (o5.2)))))))
noncomputable def zf_X10_spread (mk : Nat) (t_polygon : Nat) (i1 : Int) (i2 : Int) (i3 : Int) : Option (Int) :=
  Option.bind (zf_X10_areCorners mk t_polygon i1 i2) (fun o1 =>
  if o1 = false then
  some ((-2 : Int))
  else
  if zno mk t_polygon then none else
  Option.bind (zf_X5_countWith t_polygon i1 i2 i3) (fun o3 =>
  some (o3)))
noncomputable def zf_X10_period (mk : Nat) (tape_length : Int) (tape_next : Int) (tape_kind : Int) (tape_place : Int) (tape_value : Int) (tape_bytes : Nat) (endless_size : Int) (endless_numbers : Nat) (t_toldRow : Nat)  : Option (Int × Int × Int × Int × Int × Int × Int × Nat × Nat) :=
  Option.bind (zf_X8_readNumbers tape_length tape_next tape_kind tape_place tape_value tape_bytes t_toldRow) (fun o1 =>
  Option.bind (zf_X8_shorten tape_length (0 : Int)) (fun o2 =>
  Option.bind (zf_X2_accepts (o1.2.2.2.2.2) (o1.1)) (fun o3 =>
  if o3 = false then
  some ((-2 : Int), o2, (o1.2.1), (o1.2.2.1), (o1.2.2.2.1), (o1.2.2.2.2.1), endless_size, endless_numbers, (o1.2.2.2.2.2))
  else
  Option.bind (zf_X2_become endless_size endless_numbers (o1.2.2.2.2.2) (o1.1)) (fun o4 =>
  some ((o4.1), o2, (o1.2.1), (o1.2.2.1), (o1.2.2.2.1), (o1.2.2.2.2.1), (o4.2.1), (o4.2.2), (o1.2.2.2.2.2))))))
abbrev zS_X10_ofCut : Type := Nat × Int × Int × Nat × Nat
abbrev zO_X10_ofCut : Type := Int × Int × Nat × Nat
noncomputable def zg_X10_ofCut_0 (mk : Nat) (t_polygon : Nat) (t_bits : Int) (i1 : Int) (endless_size : Int) (endless_numbers : Nat) (t_toldRow : Nat) : Option (zO_X10_ofCut ⊕ zS_X10_ofCut) :=
  some (.inr (2, (0 : Int), endless_size, endless_numbers, t_toldRow))
noncomputable def zg_X10_ofCut_2 (mk : Nat) (t_polygon : Nat) (t_bits : Int) (i1 : Int) (endless_size : Int) (endless_numbers : Nat) (t_toldRow : Nat) : Option (zO_X10_ofCut ⊕ zS_X10_ofCut) :=
  if zno mk t_polygon then none else
  Option.bind (zf_X5_corners t_polygon) (fun o2 =>
  if zout i1 then none else
  if zout o2 then none else
  if o2 ≤ i1 then
  Option.bind (zf_X5_corners t_polygon) (fun o5 =>
  Option.bind (zf_X2_become endless_size endless_numbers t_toldRow o5) (fun o6 =>
  some (.inl ((o6.1), (o6.2.1), (o6.2.2), t_toldRow))))
  else
  Option.bind (zf_X5_trianglesAt t_polygon t_bits i1) (fun o7 =>
  if i1 < 0 ∨ 10 ≤ i1 then none else
  some (.inr (2, (i1 + (1 : Int)), endless_size, endless_numbers, (zset t_toldRow (Int.toNat i1) o7)))))
noncomputable def zg_X10_ofCut (mk : Nat) (t_polygon : Nat) (t_bits : Int) (st : zS_X10_ofCut) : Option (zO_X10_ofCut ⊕ zS_X10_ofCut) := match st with
  | (lab, i1, endless_size, endless_numbers, t_toldRow) => if lab = 0 then zg_X10_ofCut_0 mk t_polygon t_bits i1 endless_size endless_numbers t_toldRow else if lab = 2 then zg_X10_ofCut_2 mk t_polygon t_bits i1 endless_size endless_numbers t_toldRow else none
noncomputable def zf_X10_ofCut (mk : Nat) (t_polygon : Nat) (t_bits : Int) (endless_size : Int) (endless_numbers : Nat) (t_toldRow : Nat)  : Option (Int × Int × Nat × Nat) := jrun (zg_X10_ofCut mk t_polygon t_bits) jfuel (0, 0, endless_size, endless_numbers, t_toldRow)
noncomputable def zf_X10_of (mk : Nat) (endless_size : Int) (endless_numbers : Nat) (i1 : Int) : Option (Int) :=
  Option.bind (zf_X2_hasPlace endless_size i1) (fun o1 =>
  if o1 = false then
  some ((-2 : Int))
  else
  Option.bind (zf_X2_at endless_size endless_numbers i1) (fun o2 =>
  some (o2)))
noncomputable def zf_X10_along (mk : Nat) (endless_size : Int) (endless_numbers : Nat) (i1 : Int) (i2 : Int) : Option (Int) :=
  Option.bind (zf_X2_hasPlace endless_size i1) (fun o1 =>
  if o1 = false then
  some ((-9000000000000000000 : Int))
  else
  if zout i2 then none else
  if i2 < 0 then
  some ((-9000000000000000000 : Int))
  else
  if i2 ≤ (12 : Int) then
  Option.bind (zf_X2_entryAt endless_size endless_numbers i1 i2) (fun o3 =>
  some (o3))
  else
  some ((-9000000000000000000 : Int)))
noncomputable def zf_X10_breaks (mk : Nat) (endless_size : Int) (endless_numbers : Nat) (i1 : Int) : Option (Int) :=
  Option.bind (zf_X2_breakLength endless_size endless_numbers) (fun o1 =>
  if zout o1 then none else
  if o1 = (-1 : Int) then
  some ((-1 : Int))
  else
  if zout i1 then none else
  if i1 = (0 : Int) then
  some (o1)
  else
  if i1 = (1 : Int) then
  Option.bind (zf_X2_breakPlace endless_size endless_numbers o1) (fun o6 =>
  some (o6))
  else
  if i1 = (2 : Int) then
  Option.bind (zf_X2_comesBack endless_size endless_numbers o1) (fun o8 =>
  if o8 = false then
  some ((0 : Int))
  else
  some ((1 : Int)))
  else
  some ((-1 : Int)))
noncomputable def zf_X10_growth (mk : Nat) (endless_size : Int) (endless_numbers : Nat)  : Option (Int) :=
  Option.bind (zf_X2_growthOfRound endless_size endless_numbers) (fun o1 =>
  some (o1))
noncomputable def zf_X10_glue (mk : Nat) (endless_size : Int) (endless_numbers : Nat) (i1 : Int) : Option (Int × Int × Nat) :=
  Option.bind (zf_X2_hasPlace endless_size i1) (fun o1 =>
  if o1 = false then
  some ((-2 : Int), endless_size, endless_numbers)
  else
  Option.bind (zf_X2_canGlue endless_size endless_numbers i1) (fun o2 =>
  if o2 = false then
  some ((-3 : Int), endless_size, endless_numbers)
  else
  Option.bind (zf_X2_glueBehind endless_size endless_numbers i1) (fun o3 =>
  some ((o3.1), (o3.2.1), (o3.2.2)))))
noncomputable def zf_X10_cutOff (mk : Nat) (endless_size : Int) (endless_numbers : Nat) (i1 : Int) : Option (Int × Int × Nat) :=
  Option.bind (zf_X2_hasPlace endless_size i1) (fun o1 =>
  if o1 = false then
  some ((-2 : Int), endless_size, endless_numbers)
  else
  Option.bind (zf_X2_canLose endless_size endless_numbers i1) (fun o2 =>
  if o2 = false then
  some ((-4 : Int), endless_size, endless_numbers)
  else
  Option.bind (zf_X2_lose endless_size endless_numbers i1) (fun o3 =>
  some ((o3.1), (o3.2.1), (o3.2.2)))))
noncomputable def zf_X10_core (mk : Nat) (endless_size : Int) (endless_numbers : Nat)  : Option (Int × Int × Nat) :=
  Option.bind (zf_X2_loseAll endless_size endless_numbers) (fun o1 =>
  some ((o1.1), (o1.2.1), (o1.2.2)))
noncomputable def zf_X10_isValue   (i0 : Int) : Option (Bool) :=
  if zout i0 then none else
  if i0 < 0 then
  some (false)
  else
  if (9999 : Int) < i0 then
  some (false)
  else
  some (true)
noncomputable def zf_X10_see (mk : Nat) (t_polygon : Nat) (sightings_size : Int) (sightings_latest : Int) (sightings_seenStep : Nat) (sightings_seenFrom : Nat) (sightings_seenTo : Nat) (sightings_seenValue : Nat) (sightings_timesRight : Nat) (i1 : Int) (i2 : Int) (i3 : Int) (i4 : Int) : Option (Int × Int × Int × Nat × Nat × Nat × Nat × Nat) :=
  Option.bind (zf_X7_canTell sightings_latest i1) (fun o1 =>
  if o1 = false then
  some ((-2 : Int), sightings_size, sightings_latest, sightings_seenStep, sightings_seenFrom, sightings_seenTo, sightings_seenValue, sightings_timesRight)
  else
  Option.bind (zf_X10_areCorners mk t_polygon i2 i3) (fun o2 =>
  if o2 = false then
  some ((-2 : Int), sightings_size, sightings_latest, sightings_seenStep, sightings_seenFrom, sightings_seenTo, sightings_seenValue, sightings_timesRight)
  else
  if zout i2 then none else
  if zout i3 then none else
  if i2 = i3 then
  some ((-2 : Int), sightings_size, sightings_latest, sightings_seenStep, sightings_seenFrom, sightings_seenTo, sightings_seenValue, sightings_timesRight)
  else
  Option.bind (zf_X10_isValue i4) (fun o5 =>
  if o5 = false then
  some ((-2 : Int), sightings_size, sightings_latest, sightings_seenStep, sightings_seenFrom, sightings_seenTo, sightings_seenValue, sightings_timesRight)
  else
  Option.bind (zf_X7_add sightings_size sightings_latest sightings_seenStep sightings_seenFrom sightings_seenTo sightings_seenValue sightings_timesRight i1 i2 i3 i4) (fun o6 =>
  some ((o6.1), (o6.2.1), (o6.2.2.1), (o6.2.2.2.1), (o6.2.2.2.2.1), (o6.2.2.2.2.2.1), (o6.2.2.2.2.2.2.1), (o6.2.2.2.2.2.2.2))))))
noncomputable def zf_X10_right (mk : Nat) (sightings_size : Int) (sightings_rights : Int) (sightings_latest : Int) (sightings_seenStep : Nat) (sightings_timesRight : Nat) (sightings_rightStep : Nat) (sightings_rightOf : Nat) (sightings_rightValue : Nat) (i1 : Int) (i2 : Int) (i3 : Int) : Option (Int × Int × Int × Nat × Nat × Nat × Nat) :=
  Option.bind (zf_X7_canTell sightings_latest i1) (fun o1 =>
  if o1 = false then
  some ((-2 : Int), sightings_rights, sightings_latest, sightings_timesRight, sightings_rightStep, sightings_rightOf, sightings_rightValue)
  else
  Option.bind (zf_X7_wasSeenBefore sightings_size sightings_seenStep i1 i2) (fun o2 =>
  if o2 = false then
  some ((-2 : Int), sightings_rights, sightings_latest, sightings_timesRight, sightings_rightStep, sightings_rightOf, sightings_rightValue)
  else
  Option.bind (zf_X10_isValue i3) (fun o3 =>
  if o3 = false then
  some ((-2 : Int), sightings_rights, sightings_latest, sightings_timesRight, sightings_rightStep, sightings_rightOf, sightings_rightValue)
  else
  Option.bind (zf_X7_putRight sightings_size sightings_rights sightings_latest sightings_timesRight sightings_rightStep sightings_rightOf sightings_rightValue i1 i2 i3) (fun o4 =>
  some ((o4.1), (o4.2.1), (o4.2.2.1), (o4.2.2.2.1), (o4.2.2.2.2.1), (o4.2.2.2.2.2.1), (o4.2.2.2.2.2.2))))))
noncomputable def zf_X10_isStep   (i0 : Int) : Option (Bool) :=
  if zout i0 then none else
  if i0 < 0 then
  some (false)
  else
  if (999 : Int) < i0 then
  some (false)
  else
  some (true)
noncomputable def zf_X10_fit (mk : Nat) (t_polygon : Nat) (sightings_size : Int) (sightings_rights : Int) (sightings_seenStep : Nat) (sightings_seenFrom : Nat) (sightings_seenTo : Nat) (sightings_seenValue : Nat) (sightings_rightStep : Nat) (sightings_rightOf : Nat) (sightings_rightValue : Nat) (sightings_knownValue : Nat) (fitting_size : Int) (fitting_numbers : Nat) (i1 : Int) (i2 : Int) : Option (Int × Nat × Int × Nat) :=
  Option.bind (zf_X10_isStep i1) (fun o1 =>
  if o1 = false then
  some ((-2 : Int), sightings_knownValue, fitting_size, fitting_numbers)
  else
  if zout i2 then none else
  if i2 < 0 then
  some ((-2 : Int), sightings_knownValue, fitting_size, fitting_numbers)
  else
  if i2 ≤ (1 : Int) then
  if zno mk t_polygon then none else
  Option.bind (zf_X3_gather mk fitting_size fitting_numbers sightings_size sightings_rights sightings_seenStep sightings_seenFrom sightings_seenTo sightings_seenValue sightings_rightStep sightings_rightOf sightings_rightValue sightings_knownValue t_polygon i1) (fun o4 =>
  if i2 = 0 then
  Option.bind (zf_X3_size (o4.1)) (fun o6 =>
  some (o6, (o4.2.2), (o4.1), (o4.2.1)))
  else
  Option.bind (zf_X3_leastNumber (o4.1) (o4.2.1)) (fun o5 =>
  some (o5, (o4.2.2), (o4.1), (o4.2.1))))
  else
  some ((-2 : Int), sightings_knownValue, fitting_size, fitting_numbers))
noncomputable def zf_X10_surely (mk : Nat) (t_polygon : Nat) (sightings_size : Int) (sightings_rights : Int) (sightings_seenStep : Nat) (sightings_seenFrom : Nat) (sightings_seenTo : Nat) (sightings_seenValue : Nat) (sightings_rightStep : Nat) (sightings_rightOf : Nat) (sightings_rightValue : Nat) (sightings_knownValue : Nat) (fitting_size : Int) (fitting_numbers : Nat) (i1 : Int) (i2 : Int) (i3 : Int) : Option (Int × Nat × Int × Nat) :=
  Option.bind (zf_X10_isStep i3) (fun o1 =>
  if o1 = false then
  some ((-2 : Int), sightings_knownValue, fitting_size, fitting_numbers)
  else
  Option.bind (zf_X10_areCorners mk t_polygon i1 i2) (fun o2 =>
  if o2 = false then
  some ((-2 : Int), sightings_knownValue, fitting_size, fitting_numbers)
  else
  if zno mk t_polygon then none else
  Option.bind (zf_X5_lineOf t_polygon i1 i2) (fun o4 =>
  if zout o4 then none else
  if o4 = (-1 : Int) then
  some ((-2 : Int), sightings_knownValue, fitting_size, fitting_numbers)
  else
  Option.bind (zf_X3_gather mk fitting_size fitting_numbers sightings_size sightings_rights sightings_seenStep sightings_seenFrom sightings_seenTo sightings_seenValue sightings_rightStep sightings_rightOf sightings_rightValue sightings_knownValue t_polygon i3) (fun o6 =>
  Option.bind (zf_X5_lineOf t_polygon i1 i2) (fun o7 =>
  Option.bind (zf_X3_howSure mk (o6.1) (o6.2.1) t_polygon o7) (fun o8 =>
  some (o8, (o6.2.2), (o6.1), (o6.2.1))))))))
noncomputable def zf_X10_ask (mk : Nat) (t_polygon : Nat) (sightings_size : Int) (sightings_rights : Int) (sightings_seenStep : Nat) (sightings_seenFrom : Nat) (sightings_seenTo : Nat) (sightings_seenValue : Nat) (sightings_rightStep : Nat) (sightings_rightOf : Nat) (sightings_rightValue : Nat) (sightings_knownValue : Nat) (fitting_size : Int) (fitting_numbers : Nat) (fitting_tally : Nat) (i1 : Int) : Option (Int × Nat × Int × Nat × Nat) :=
  Option.bind (zf_X10_isStep i1) (fun o1 =>
  if o1 = false then
  some ((-2 : Int), sightings_knownValue, fitting_size, fitting_numbers, fitting_tally)
  else
  if zno mk t_polygon then none else
  Option.bind (zf_X3_gather mk fitting_size fitting_numbers sightings_size sightings_rights sightings_seenStep sightings_seenFrom sightings_seenTo sightings_seenValue sightings_rightStep sightings_rightOf sightings_rightValue sightings_knownValue t_polygon i1) (fun o3 =>
  Option.bind (zf_X3_bestQuestion mk (o3.1) (o3.2.1) fitting_tally t_polygon) (fun o4 =>
  some ((o4.1), (o3.2.2), (o3.1), (o3.2.1), (o4.2)))))
noncomputable def zf_X10_count (mk : Nat) (tape_length : Int) (sightings_size : Int) (sightings_rights : Int) (i1 : Int) : Option (Int) :=
  if zout i1 then none else
  if i1 = (0 : Int) then
  Option.bind (zf_X7_size sightings_size) (fun o3 =>
  some (o3))
  else
  if i1 = (1 : Int) then
  Option.bind (zf_X7_rights sightings_rights) (fun o5 =>
  some (o5))
  else
  if i1 = (2 : Int) then
  Option.bind (zf_X8_size tape_length) (fun o7 =>
  some (o7))
  else
  some ((-1 : Int))
noncomputable def zf_X11_isNext   (i0 : Int) (i1 : Int) (i2 : Int) : Option (Bool) :=
  if zout (i1 + (1 : Int)) then none else
  if zout i0 then none else
  if i0 = 0 then none else
  if zout (Int.tmod (i1 + (1 : Int)) i0) then none else
  if zout i2 then none else
  if (Int.tmod (i1 + (1 : Int)) i0) = i2 then
  some (true)
  else
  if zout (i2 + (1 : Int)) then none else
  if i0 = 0 then none else
  if zout (Int.tmod (i2 + (1 : Int)) i0) then none else
  if zout i1 then none else
  if (Int.tmod (i2 + (1 : Int)) i0) = i1 then
  some (true)
  else
  some (false)
noncomputable def zf_X11_isLine   (i0 : Int) (i1 : Int) (i2 : Int) : Option (Bool) :=
  if zout i1 then none else
  if zout i2 then none else
  if i1 = i2 then
  some (false)
  else
  Option.bind (zf_X11_isNext i0 i1 i2) (fun o3 =>
  if o3 = false then
  some (true)
  else
  some (false))
abbrev zS_X11_linesOf : Type := Nat × Int × Int × Int × Int × Int × Nat × Nat × Nat
abbrev zO_X11_linesOf : Type := Int × Int × Nat × Nat × Nat
noncomputable def zg_X11_linesOf_0   (i1 : Int) (i2 : Int) (i3 : Int) (t_lines : Int) (t_linesFor : Int) (t_numberOf : Nat) (t_lesser : Nat) (t_greater : Nat) : Option (zO_X11_linesOf ⊕ zS_X11_linesOf) :=
  if zout t_linesFor then none else
  if zout i1 then none else
  if t_linesFor = i1 then
  some (.inl (t_lines, t_linesFor, t_numberOf, t_lesser, t_greater))
  else
  some (.inr (21, i1, (0 : Int), 0, (0 : Int), i1, t_numberOf, t_lesser, t_greater))
noncomputable def zg_X11_linesOf_21   (i1 : Int) (i2 : Int) (i3 : Int) (t_lines : Int) (t_linesFor : Int) (t_numberOf : Nat) (t_lesser : Nat) (t_greater : Nat) : Option (zO_X11_linesOf ⊕ zS_X11_linesOf) :=
  if zout i2 then none else
  if zout i1 then none else
  if i1 ≤ i2 then
  some (.inl (t_lines, t_linesFor, t_numberOf, t_lesser, t_greater))
  else
  some (.inr (30, i1, i2, (i2 + (1 : Int)), t_lines, t_linesFor, t_numberOf, t_lesser, t_greater))
noncomputable def zg_X11_linesOf_30   (i1 : Int) (i2 : Int) (i3 : Int) (t_lines : Int) (t_linesFor : Int) (t_numberOf : Nat) (t_lesser : Nat) (t_greater : Nat) : Option (zO_X11_linesOf ⊕ zS_X11_linesOf) :=
  if zout i3 then none else
  if zout i1 then none else
  if i1 ≤ i3 then
  some (.inr (21, i1, (i2 + (1 : Int)), i3, t_lines, t_linesFor, t_numberOf, t_lesser, t_greater))
  else
  if (((10 : Int) * i2) + i3) < 0 ∨ 100 ≤ (((10 : Int) * i2) + i3) then none else
  if (((10 : Int) * i3) + i2) < 0 ∨ 100 ≤ (((10 : Int) * i3) + i2) then none else
  Option.bind (zf_X11_isLine i1 i2 i3) (fun o11 =>
  if o11 = false then
  some (.inr (30, i1, i2, (i3 + (1 : Int)), t_lines, t_linesFor, (zset (zset t_numberOf (Int.toNat (((10 : Int) * i2) + i3)) (-1 : Int)) (Int.toNat (((10 : Int) * i3) + i2)) (-1 : Int)), t_lesser, t_greater))
  else
  if t_lines < 0 ∨ 35 ≤ t_lines then none else
  some (.inr (30, i1, i2, (i3 + (1 : Int)), (t_lines + (1 : Int)), t_linesFor, (zset (zset (zset (zset t_numberOf (Int.toNat (((10 : Int) * i2) + i3)) (-1 : Int)) (Int.toNat (((10 : Int) * i3) + i2)) (-1 : Int)) (Int.toNat (((10 : Int) * i2) + i3)) t_lines) (Int.toNat (((10 : Int) * i3) + i2)) t_lines), (zset t_lesser (Int.toNat t_lines) i2), (zset t_greater (Int.toNat t_lines) i3))))
noncomputable def zg_X11_linesOf   (st : zS_X11_linesOf) : Option (zO_X11_linesOf ⊕ zS_X11_linesOf) := match st with
  | (lab, i1, i2, i3, t_lines, t_linesFor, t_numberOf, t_lesser, t_greater) => if lab = 0 then zg_X11_linesOf_0  i1 i2 i3 t_lines t_linesFor t_numberOf t_lesser t_greater else if lab = 21 then zg_X11_linesOf_21  i1 i2 i3 t_lines t_linesFor t_numberOf t_lesser t_greater else if lab = 30 then zg_X11_linesOf_30  i1 i2 i3 t_lines t_linesFor t_numberOf t_lesser t_greater else none
noncomputable def zf_X11_linesOf  (t_lines : Int) (t_linesFor : Int) (t_numberOf : Nat) (t_lesser : Nat) (t_greater : Nat) (i1 : Int) : Option (Int × Int × Nat × Nat × Nat) := jrun (zg_X11_linesOf ) jfuel (0, i1, 0, 0, t_lines, t_linesFor, t_numberOf, t_lesser, t_greater)
noncomputable def zf_X11_isBetween   (i0 : Int) (i1 : Int) (i2 : Int) (i3 : Int) : Option (Bool) :=
  if zout i2 then none else
  if zout i1 then none else
  if i2 = i1 then
  some (false)
  else
  if zout i3 then none else
  if i2 = i3 then
  some (false)
  else
  if zout ((i2 - i1) + i0) then none else
  if zout i0 then none else
  if i0 = 0 then none else
  if zout ((i3 - i1) + i0) then none else
  if i0 = 0 then none else
  if zout (Int.tmod ((i2 - i1) + i0) i0) then none else
  if zout (Int.tmod ((i3 - i1) + i0) i0) then none else
  if (Int.tmod ((i3 - i1) + i0) i0) ≤ (Int.tmod ((i2 - i1) + i0) i0) then
  some (false)
  else
  some (true)
noncomputable def zf_X11_isCross   (i0 : Int) (i1 : Int) (i2 : Int) (i3 : Int) (i4 : Int) : Option (Bool) :=
  if zout i3 then none else
  if zout i1 then none else
  if i3 = i1 then
  some (false)
  else
  if zout i2 then none else
  if i3 = i2 then
  some (false)
  else
  if zout i4 then none else
  if i4 = i1 then
  some (false)
  else
  if i4 = i2 then
  some (false)
  else
  Option.bind (zf_X11_isBetween i0 i1 i3 i2) (fun o5 =>
  Option.bind (zf_X11_isBetween i0 i1 i4 i2) (fun o6 =>
  if (bI o5) = (bI o6) then
  some (false)
  else
  some (true)))
abbrev zS_X11_grow : Type := Nat × Int × Int × Int × Int × Int × Int × Int × Int × Nat
abbrev zO_X11_grow : Type := Int × Nat
noncomputable def zg_X11_grow_0 (rec : Int → Int → Nat → Nat → Nat → Int → Int → Int → Int → Option (Int × Nat))  (t_lines : Int) (t_lesser : Nat) (t_greater : Nat) (i1 : Int) (i2 : Int) (i4 : Int) (i5 : Int) (i6 : Int) (i7 : Int) (i8 : Int) (t_listMany : Int) (t_list : Nat) : Option (zO_X11_grow ⊕ zS_X11_grow) :=
  if zout i4 then none else
  if zout (i1 - (3 : Int)) then none else
  if i4 = (i1 - (3 : Int)) then
  if t_listMany < 0 ∨ 429 ≤ t_listMany then none else
  some (.inl ((t_listMany + (1 : Int)), (zsetL t_list (Int.toNat t_listMany) i2)))
  else
  some (.inr (33, i1, i2, i4, i5, i5, 0, 0, t_listMany, t_list))
noncomputable def zg_X11_grow_33 (rec : Int → Int → Nat → Nat → Nat → Int → Int → Int → Int → Option (Int × Nat))  (t_lines : Int) (t_lesser : Nat) (t_greater : Nat) (i1 : Int) (i2 : Int) (i4 : Int) (i5 : Int) (i6 : Int) (i7 : Int) (i8 : Int) (t_listMany : Int) (t_list : Nat) : Option (zO_X11_grow ⊕ zS_X11_grow) :=
  if zout i6 then none else
  if zout t_lines then none else
  if t_lines ≤ i6 then
  some (.inl (t_listMany, t_list))
  else
  some (.inr (48, i1, i2, i4, 0, i6, (1 : Int), (0 : Int), t_listMany, t_list))
noncomputable def zg_X11_grow_48 (rec : Int → Int → Nat → Nat → Nat → Int → Int → Int → Int → Option (Int × Nat))  (t_lines : Int) (t_lesser : Nat) (t_greater : Nat) (i1 : Int) (i2 : Int) (i4 : Int) (i5 : Int) (i6 : Int) (i7 : Int) (i8 : Int) (t_listMany : Int) (t_list : Nat) : Option (zO_X11_grow ⊕ zS_X11_grow) :=
  if zout i8 then none else
  if zout i6 then none else
  if i6 ≤ i8 then
  some (.inr (119, i1, i2, i4, 0, i6, i7, i8, t_listMany, t_list))
  else
  if zout i7 then none else
  if i7 = 0 then
  some (.inr (119, i1, i2, i4, 0, i6, i7, i8, t_listMany, t_list))
  else
  if (zandL (zshrL i2 i8) (1 : Int)) = (0 : Int) then
  some (.inr (48, i1, i2, i4, 0, i6, (1 : Int), (i8 + (1 : Int)), t_listMany, t_list))
  else
  if i6 < 0 ∨ 35 ≤ i6 then none else
  if i8 < 0 ∨ 35 ≤ i8 then none else
  Option.bind (zf_X11_isCross i1 (zget t_lesser (Int.toNat i6)) (zget t_greater (Int.toNat i6)) (zget t_lesser (Int.toNat i8)) (zget t_greater (Int.toNat i8))) (fun o13 =>
  if o13 = false then
  some (.inr (48, i1, i2, i4, 0, i6, (1 : Int), (i8 + (1 : Int)), t_listMany, t_list))
  else
  some (.inr (48, i1, i2, i4, 0, i6, (0 : Int), (i8 + (1 : Int)), t_listMany, t_list)))
noncomputable def zg_X11_grow_119 (rec : Int → Int → Nat → Nat → Nat → Int → Int → Int → Int → Option (Int × Nat))  (t_lines : Int) (t_lesser : Nat) (t_greater : Nat) (i1 : Int) (i2 : Int) (i4 : Int) (i5 : Int) (i6 : Int) (i7 : Int) (i8 : Int) (t_listMany : Int) (t_list : Nat) : Option (zO_X11_grow ⊕ zS_X11_grow) :=
  if zout i7 then none else
  if i7 = 0 then
  some (.inr (33, i1, i2, i4, 0, (i6 + (1 : Int)), i7, 0, t_listMany, t_list))
  else
  Option.bind (rec t_lines t_listMany t_lesser t_greater t_list i1 (zorL i2 (zshlL (1 : Int) i6)) (i4 + (1 : Int)) (i6 + (1 : Int))) (fun o19 =>
  some (.inr (33, i1, i2, i4, 0, (i6 + (1 : Int)), i7, 0, (o19.1), (o19.2))))
noncomputable def zg_X11_grow (rec : Int → Int → Nat → Nat → Nat → Int → Int → Int → Int → Option (Int × Nat))  (t_lines : Int) (t_lesser : Nat) (t_greater : Nat) (st : zS_X11_grow) : Option (zO_X11_grow ⊕ zS_X11_grow) := match st with
  | (lab, i1, i2, i4, i5, i6, i7, i8, t_listMany, t_list) => if lab = 0 then zg_X11_grow_0 rec t_lines t_lesser t_greater i1 i2 i4 i5 i6 i7 i8 t_listMany t_list else if lab = 33 then zg_X11_grow_33 rec t_lines t_lesser t_greater i1 i2 i4 i5 i6 i7 i8 t_listMany t_list else if lab = 48 then zg_X11_grow_48 rec t_lines t_lesser t_greater i1 i2 i4 i5 i6 i7 i8 t_listMany t_list else if lab = 119 then zg_X11_grow_119 rec t_lines t_lesser t_greater i1 i2 i4 i5 i6 i7 i8 t_listMany t_list else none
noncomputable def zf_X11_grow (d : Nat) : Int → Int → Nat → Nat → Nat → Int → Int → Int → Int → Option (Int × Nat) := Nat.rec (fun _ _ _ _ _ _ _ _ _ => none) (fun _ rec t_lines t_listMany t_lesser t_greater t_list i1 i2 i4 i5 => jrun (zg_X11_grow rec t_lines t_lesser t_greater) jfuel (0, i1, i2, i4, i5, 0, 0, 0, t_listMany, t_list)) d
abbrev zS_X11_listFor : Type := Nat × Int × Int × Int × Int × Int × Int × Int × Int × Nat × Nat × Nat × Nat
abbrev zO_X11_listFor : Type := Int × Int × Int × Int × Nat × Nat × Nat × Nat
noncomputable def zg_X11_listFor_0   (i1 : Int) (i2 : Int) (i3 : Int) (i5 : Int) (t_lines : Int) (t_linesFor : Int) (t_listMany : Int) (t_listCorners : Int) (t_numberOf : Nat) (t_lesser : Nat) (t_greater : Nat) (t_list : Nat) : Option (zO_X11_listFor ⊕ zS_X11_listFor) :=
  Option.bind (zf_X11_linesOf t_lines t_linesFor t_numberOf t_lesser t_greater i1) (fun o1 =>
  if zout t_listCorners then none else
  if zout i1 then none else
  if t_listCorners = i1 then
  some (.inl ((o1.1), (o1.2.1), t_listMany, t_listCorners, (o1.2.2.1), (o1.2.2.2.1), (o1.2.2.2.2), t_list))
  else
  Option.bind (zf_X11_grow 9 (o1.1) (0 : Int) (o1.2.2.2.1) (o1.2.2.2.2) t_list i1 (0 : Int) (0 : Int) (0 : Int)) (fun o4 =>
  some (.inr (34, i1, (1 : Int), 0, 0, (o1.1), (o1.2.1), (o4.1), i1, (o1.2.2.1), (o1.2.2.2.1), (o1.2.2.2.2), (o4.2)))))
noncomputable def zg_X11_listFor_34   (i1 : Int) (i2 : Int) (i3 : Int) (i5 : Int) (t_lines : Int) (t_linesFor : Int) (t_listMany : Int) (t_listCorners : Int) (t_numberOf : Nat) (t_lesser : Nat) (t_greater : Nat) (t_list : Nat) : Option (zO_X11_listFor ⊕ zS_X11_listFor) :=
  if zout i2 then none else
  if zout t_listMany then none else
  if t_listMany ≤ i2 then
  some (.inl (t_lines, t_linesFor, t_listMany, t_listCorners, t_numberOf, t_lesser, t_greater, t_list))
  else
  if i2 < 0 ∨ 429 ≤ i2 then none else
  some (.inr (52, 0, i2, (zgetL t_list (Int.toNat i2)), i2, t_lines, t_linesFor, t_listMany, t_listCorners, t_numberOf, t_lesser, t_greater, t_list))
noncomputable def zg_X11_listFor_52   (i1 : Int) (i2 : Int) (i3 : Int) (i5 : Int) (t_lines : Int) (t_linesFor : Int) (t_listMany : Int) (t_listCorners : Int) (t_numberOf : Nat) (t_lesser : Nat) (t_greater : Nat) (t_list : Nat) : Option (zO_X11_listFor ⊕ zS_X11_listFor) :=
  if zout i5 then none else
  if i5 ≤ 0 then
  if i5 < 0 ∨ 429 ≤ i5 then none else
  some (.inr (34, 0, (i2 + (1 : Int)), i3, i5, t_lines, t_linesFor, t_listMany, t_listCorners, t_numberOf, t_lesser, t_greater, (zsetL t_list (Int.toNat i5) i3)))
  else
  if (i5 - (1 : Int)) < 0 ∨ 429 ≤ (i5 - (1 : Int)) then none else
  if zoutL i3 then none else
  if (zgetL t_list (Int.toNat (i5 - (1 : Int)))) ≤ i3 then
  if i5 < 0 ∨ 429 ≤ i5 then none else
  some (.inr (34, 0, (i2 + (1 : Int)), i3, i5, t_lines, t_linesFor, t_listMany, t_listCorners, t_numberOf, t_lesser, t_greater, (zsetL t_list (Int.toNat i5) i3)))
  else
  if i5 < 0 ∨ 429 ≤ i5 then none else
  some (.inr (52, 0, i2, i3, (i5 + (-1 : Int)), t_lines, t_linesFor, t_listMany, t_listCorners, t_numberOf, t_lesser, t_greater, (zsetL t_list (Int.toNat i5) (zgetL t_list (Int.toNat (i5 - (1 : Int)))))))
noncomputable def zg_X11_listFor   (st : zS_X11_listFor) : Option (zO_X11_listFor ⊕ zS_X11_listFor) := match st with
  | (lab, i1, i2, i3, i5, t_lines, t_linesFor, t_listMany, t_listCorners, t_numberOf, t_lesser, t_greater, t_list) => if lab = 0 then zg_X11_listFor_0  i1 i2 i3 i5 t_lines t_linesFor t_listMany t_listCorners t_numberOf t_lesser t_greater t_list else if lab = 34 then zg_X11_listFor_34  i1 i2 i3 i5 t_lines t_linesFor t_listMany t_listCorners t_numberOf t_lesser t_greater t_list else if lab = 52 then zg_X11_listFor_52  i1 i2 i3 i5 t_lines t_linesFor t_listMany t_listCorners t_numberOf t_lesser t_greater t_list else none
noncomputable def zf_X11_listFor  (t_lines : Int) (t_linesFor : Int) (t_listMany : Int) (t_listCorners : Int) (t_numberOf : Nat) (t_lesser : Nat) (t_greater : Nat) (t_list : Nat) (i1 : Int) : Option (Int × Int × Int × Int × Nat × Nat × Nat × Nat) := jrun (zg_X11_listFor ) jfuel (0, i1, 0, 0, 0, t_lines, t_linesFor, t_listMany, t_listCorners, t_numberOf, t_lesser, t_greater, t_list)
noncomputable def zf_X11_in   (i0 : Int) (i1 : Int) (i2 : Int) : Option (Bool) :=
  if zout i0 then none else
  if zout i1 then none else
  if i0 < i1 then
  some (false)
  else
  if zout i2 then none else
  if i2 < i0 then
  some (false)
  else
  some (true)
abbrev zS_X11_feed : Type := Nat × Int × Int × Int × Int × Int × Int × Int × Int × Int × Nat
abbrev zO_X11_feed : Type := Int × Int × Nat
noncomputable def zg_X11_feed_0   (i1 : Int) (i2 : Int) (i3 : Int) (i4 : Int) (i5 : Int) (i6 : Int) (i7 : Int) (i8 : Int) (t_taped : Int) (t_tape : Nat) : Option (zO_X11_feed ⊕ zS_X11_feed) :=
  if zout (t_taped + (20 : Int)) then none else
  if (t_taped + (20 : Int)) ≤ (300 : Int) then
  some (.inr (19, i1, i2, i3, i4, i5, (0 : Int), 0, 0, t_taped, t_tape))
  else
  some (.inl ((-3 : Int), t_taped, t_tape))
noncomputable def zg_X11_feed_19   (i1 : Int) (i2 : Int) (i3 : Int) (i4 : Int) (i5 : Int) (i6 : Int) (i7 : Int) (i8 : Int) (t_taped : Int) (t_tape : Nat) : Option (zO_X11_feed ⊕ zS_X11_feed) :=
  if zout i6 then none else
  if (5 : Int) ≤ i6 then
  some (.inl (t_taped, t_taped, t_tape))
  else
  if i6 = 0 then
  some (.inr (73, i1, i2, i3, i4, i5, i6, i1, (24 : Int), t_taped, t_tape))
  else
  if i6 = (1 : Int) then
  some (.inr (73, i1, i2, i3, i4, i5, i6, i2, (24 : Int), t_taped, t_tape))
  else
  if i6 = (2 : Int) then
  some (.inr (73, i1, i2, i3, i4, i5, i6, i3, (24 : Int), t_taped, t_tape))
  else
  if i6 = (3 : Int) then
  some (.inr (73, i1, i2, i3, i4, i5, i6, i4, (24 : Int), t_taped, t_tape))
  else
  some (.inr (73, i1, i2, i3, i4, i5, i6, i5, (24 : Int), t_taped, t_tape))
noncomputable def zg_X11_feed_73   (i1 : Int) (i2 : Int) (i3 : Int) (i4 : Int) (i5 : Int) (i6 : Int) (i7 : Int) (i8 : Int) (t_taped : Int) (t_tape : Nat) : Option (zO_X11_feed ⊕ zS_X11_feed) :=
  if zout i8 then none else
  if i8 < 0 then
  some (.inr (19, i1, i2, i3, i4, i5, (i6 + (1 : Int)), i7, i8, t_taped, t_tape))
  else
  if t_taped < 0 ∨ 300 ≤ t_taped then none else
  some (.inr (73, i1, i2, i3, i4, i5, i6, i7, (i8 + (-8 : Int)), (t_taped + (1 : Int)), (zset t_tape (Int.toNat t_taped) (zb (zb (zshr i7 i8))))))
noncomputable def zg_X11_feed   (st : zS_X11_feed) : Option (zO_X11_feed ⊕ zS_X11_feed) := match st with
  | (lab, i1, i2, i3, i4, i5, i6, i7, i8, t_taped, t_tape) => if lab = 0 then zg_X11_feed_0  i1 i2 i3 i4 i5 i6 i7 i8 t_taped t_tape else if lab = 19 then zg_X11_feed_19  i1 i2 i3 i4 i5 i6 i7 i8 t_taped t_tape else if lab = 73 then zg_X11_feed_73  i1 i2 i3 i4 i5 i6 i7 i8 t_taped t_tape else none
noncomputable def zf_X11_feed  (t_taped : Int) (t_tape : Nat) (i1 : Int) (i2 : Int) (i3 : Int) (i4 : Int) (i5 : Int) : Option (Int × Int × Nat) := jrun (zg_X11_feed ) jfuel (0, i1, i2, i3, i4, i5, 0, 0, 0, t_taped, t_tape)
noncomputable def zf_X11_end  (t_taped : Int) (i1 : Int) : Option (Int × Int) :=
  if zout i1 then none else
  if i1 < 0 then
  some ((-1 : Int), t_taped)
  else
  if zout t_taped then none else
  if i1 ≤ t_taped then
  some (i1, i1)
  else
  some ((-1 : Int), t_taped)
noncomputable def zf_X11_byteAt  (t_size : Int) (t_tape : Nat) (i1 : Int) : Option (Int) :=
  if zout i1 then none else
  if zout t_size then none else
  if t_size ≤ i1 then
  some ((-1 : Int))
  else
  if i1 < 0 ∨ 300 ≤ i1 then none else
  some ((zand (zget t_tape (Int.toNat i1)) (255 : Int)))
noncomputable def zf_X11_isSmall   (i0 : Int) : Option (Bool) :=
  if zout i0 then none else
  if i0 < (97 : Int) then
  some (false)
  else
  if (122 : Int) < i0 then
  some (false)
  else
  some (true)
noncomputable def zf_X11_isDigit   (i0 : Int) : Option (Bool) :=
  if zout i0 then none else
  if i0 < (48 : Int) then
  some (false)
  else
  if (57 : Int) < i0 then
  some (false)
  else
  some (true)
abbrev zS_X11_scan : Type := Nat × Int × Int × Int × Int × Int × Int × Int
abbrev zO_X11_scan : Type := Int × Int × Int × Int × Int
noncomputable def zg_X11_scan_0  (t_size : Int) (t_tape : Nat) (i1 : Int) (i3 : Int) (t_sort : Int) (t_at : Int) (t_end : Int) (t_number : Int) (t_word : Int) : Option (zO_X11_scan ⊕ zS_X11_scan) :=
  some (.inr (5, t_end, 0, t_sort, t_at, t_end, t_number, t_word))
noncomputable def zg_X11_scan_5  (t_size : Int) (t_tape : Nat) (i1 : Int) (i3 : Int) (t_sort : Int) (t_at : Int) (t_end : Int) (t_number : Int) (t_word : Int) : Option (zO_X11_scan ⊕ zS_X11_scan) :=
  Option.bind (zf_X11_byteAt t_size t_tape i1) (fun o1 =>
  if zout o1 then none else
  if o1 = (32 : Int) then
  some (.inr (5, (i1 + (1 : Int)), 0, t_sort, t_at, t_end, t_number, t_word))
  else
  Option.bind (zf_X11_byteAt t_size t_tape i1) (fun o3 =>
  if zout o3 then none else
  if o3 = (10 : Int) then
  some (.inr (5, (i1 + (1 : Int)), 0, t_sort, t_at, t_end, t_number, t_word))
  else
  Option.bind (zf_X11_byteAt t_size t_tape i1) (fun o5 =>
  if zout o5 then none else
  if o5 = (-1 : Int) then
  some (.inl ((4 : Int), i1, i1, t_number, t_word))
  else
  Option.bind (zf_X11_isSmall o5) (fun o7 =>
  if o7 = false then
  Option.bind (zf_X11_isDigit o5) (fun o8 =>
  if o8 = false then
  if o5 = (59 : Int) then
  some (.inl ((3 : Int), i1, (i1 + (1 : Int)), t_number, t_word))
  else
  some (.inl ((0 : Int), i1, (i1 + (1 : Int)), t_number, t_word))
  else
  some (.inr (160, i1, (i1 + (1 : Int)), t_sort, i1, t_end, (o5 - (48 : Int)), t_word)))
  else
  some (.inr (75, i1, i1, t_sort, i1, t_end, t_number, (0 : Int)))))))
noncomputable def zg_X11_scan_75  (t_size : Int) (t_tape : Nat) (i1 : Int) (i3 : Int) (t_sort : Int) (t_at : Int) (t_end : Int) (t_number : Int) (t_word : Int) : Option (zO_X11_scan ⊕ zS_X11_scan) :=
  Option.bind (zf_X11_byteAt t_size t_tape i3) (fun o15 =>
  Option.bind (zf_X11_isSmall o15) (fun o16 =>
  if o16 = false then
  if zout (i3 - i1) then none else
  if (i3 - i1) ≤ (8 : Int) then
  some (.inl ((1 : Int), t_at, i3, t_number, t_word))
  else
  some (.inl ((0 : Int), t_at, i3, t_number, t_word))
  else
  if zout (i3 - i1) then none else
  if (8 : Int) ≤ (i3 - i1) then
  some (.inr (75, i1, (i3 + (1 : Int)), t_sort, t_at, t_end, t_number, t_word))
  else
  Option.bind (zf_X11_byteAt t_size t_tape i3) (fun o20 =>
  if zout o20 then none else
  some (.inr (75, i1, (i3 + (1 : Int)), t_sort, t_at, t_end, t_number, (((((32 : Int) * t_word) + o20) - (97 : Int)) + (1 : Int)))))))
noncomputable def zg_X11_scan_160  (t_size : Int) (t_tape : Nat) (i1 : Int) (i3 : Int) (t_sort : Int) (t_at : Int) (t_end : Int) (t_number : Int) (t_word : Int) : Option (zO_X11_scan ⊕ zS_X11_scan) :=
  Option.bind (zf_X11_byteAt t_size t_tape i3) (fun o24 =>
  Option.bind (zf_X11_isDigit o24) (fun o25 =>
  if o25 = false then
  if zout (i3 - i1) then none else
  if (i3 - i1) ≤ (3 : Int) then
  some (.inl ((2 : Int), t_at, i3, t_number, t_word))
  else
  some (.inl ((0 : Int), t_at, i3, t_number, t_word))
  else
  if zout (i3 - i1) then none else
  if (3 : Int) ≤ (i3 - i1) then
  some (.inr (160, i1, (i3 + (1 : Int)), t_sort, t_at, t_end, t_number, t_word))
  else
  Option.bind (zf_X11_byteAt t_size t_tape i3) (fun o29 =>
  some (.inr (160, i1, (i3 + (1 : Int)), t_sort, t_at, t_end, ((((10 : Int) * t_number) + o29) - (48 : Int)), t_word)))))
noncomputable def zg_X11_scan  (t_size : Int) (t_tape : Nat) (st : zS_X11_scan) : Option (zO_X11_scan ⊕ zS_X11_scan) := match st with
  | (lab, i1, i3, t_sort, t_at, t_end, t_number, t_word) => if lab = 0 then zg_X11_scan_0 t_size t_tape i1 i3 t_sort t_at t_end t_number t_word else if lab = 5 then zg_X11_scan_5 t_size t_tape i1 i3 t_sort t_at t_end t_number t_word else if lab = 75 then zg_X11_scan_75 t_size t_tape i1 i3 t_sort t_at t_end t_number t_word else if lab = 160 then zg_X11_scan_160 t_size t_tape i1 i3 t_sort t_at t_end t_number t_word else none
noncomputable def zf_X11_scan  (t_size : Int) (t_sort : Int) (t_at : Int) (t_end : Int) (t_number : Int) (t_word : Int) (t_tape : Nat)  : Option (Int × Int × Int × Int × Int) := jrun (zg_X11_scan t_size t_tape) jfuel (0, 0, 0, t_sort, t_at, t_end, t_number, t_word)
noncomputable def zf_X11_begin  (t_taped : Int) (t_size : Int) (t_sort : Int) (t_at : Int) (t_end : Int) (t_number : Int) (t_word : Int) (t_tape : Nat)  : Option (Int × Int × Int × Int × Int × Int × Int) :=
  Option.bind (zf_X11_scan t_taped t_sort t_at (0 : Int) t_number t_word t_tape) (fun o1 =>
  some ((0 : Int), t_taped, (o1.1), (o1.2.1), (o1.2.2.1), (o1.2.2.2.1), (o1.2.2.2.2)))
noncomputable def zf_X11_fails  (t_at : Int) (t_faultKind : Int) (t_faultPlace : Int) (i1 : Int) : Option (Bool × Int × Int) :=
  some (false, i1, t_at)
noncomputable def zf_X11_fault  (t_faultKind : Int) (t_faultPlace : Int) (i1 : Int) : Option (Int) :=
  if zout i1 then none else
  if i1 = 0 then
  some (t_faultKind)
  else
  if i1 = (1 : Int) then
  some (t_faultPlace)
  else
  some ((-1 : Int))
abbrev zS_X11_placeOf : Type := Nat × Int × Int × Int
abbrev zO_X11_placeOf : Type := Int
noncomputable def zg_X11_placeOf_0  (t_listMany : Int) (t_list : Nat) (i1 : Int) (i3 : Int) (i4 : Int) : Option (zO_X11_placeOf ⊕ zS_X11_placeOf) :=
  some (.inr (10, i1, (0 : Int), (t_listMany - (1 : Int))))
noncomputable def zg_X11_placeOf_10  (t_listMany : Int) (t_list : Nat) (i1 : Int) (i3 : Int) (i4 : Int) : Option (zO_X11_placeOf ⊕ zS_X11_placeOf) :=
  if zout i3 then none else
  if zout i4 then none else
  if i4 ≤ i3 then
  some (.inl (i3))
  else
  if zout (i3 + i4) then none else
  if (Int.tdiv (i3 + i4) (2 : Int)) < 0 ∨ 429 ≤ (Int.tdiv (i3 + i4) (2 : Int)) then none else
  if zoutL i1 then none else
  if i1 ≤ (zgetL t_list (Int.toNat (Int.tdiv (i3 + i4) (2 : Int)))) then
  some (.inr (10, i1, i3, (Int.tdiv (i3 + i4) (2 : Int))))
  else
  some (.inr (10, i1, ((Int.tdiv (i3 + i4) (2 : Int)) + (1 : Int)), i4))
noncomputable def zg_X11_placeOf  (t_listMany : Int) (t_list : Nat) (st : zS_X11_placeOf) : Option (zO_X11_placeOf ⊕ zS_X11_placeOf) := match st with
  | (lab, i1, i3, i4) => if lab = 0 then zg_X11_placeOf_0 t_listMany t_list i1 i3 i4 else if lab = 10 then zg_X11_placeOf_10 t_listMany t_list i1 i3 i4 else none
noncomputable def zf_X11_placeOf  (t_listMany : Int) (t_list : Nat) (i1 : Int) : Option (Int) := jrun (zg_X11_placeOf t_listMany t_list) jfuel (0, i1, 0, 0)
noncomputable def zf_X11_ownNumber  (t_corners : Int) (t_lines : Int) (t_linesFor : Int) (t_listMany : Int) (t_listCorners : Int) (t_own : Int) (t_numberOf : Nat) (t_lesser : Nat) (t_greater : Nat) (t_list : Nat)  : Option (Int × Int × Int × Int × Int × Nat × Nat × Nat × Nat) :=
  Option.bind (zf_X11_listFor t_lines t_linesFor t_listMany t_listCorners t_numberOf t_lesser t_greater t_list t_corners) (fun o1 =>
  Option.bind (zf_X11_placeOf (o1.2.2.1) (o1.2.2.2.2.2.2.2) t_own) (fun o2 =>
  some (o2, (o1.1), (o1.2.1), (o1.2.2.1), (o1.2.2.2.1), (o1.2.2.2.2.1), (o1.2.2.2.2.2.1), (o1.2.2.2.2.2.2.1), (o1.2.2.2.2.2.2.2))))
noncomputable def zf_X11_becomes  (t_corners : Int) (t_own : Int) (t_seenMany : Int) (t_rightMany : Int) (t_lastTold : Int) (i1 : Int) (i2 : Int) : Option (Int × Int × Int × Int × Int) :=
  if zout i1 then none else
  if zout t_corners then none else
  if i1 = t_corners then
  some (i1, i2, t_seenMany, t_rightMany, t_lastTold)
  else
  some (i1, i2, (0 : Int), (0 : Int), (0 : Int))
noncomputable def zf_X11_near  (t_numberOf : Nat) (i1 : Int) (i2 : Int) (i4 : Int) (i5 : Int) : Option (Bool) :=
  if zout i4 then none else
  if zout i5 then none else
  if i4 = i5 then
  some (false)
  else
  Option.bind (zf_X11_isNext i1 i4 i5) (fun o3 =>
  if o3 = false then
  if (((10 : Int) * i4) + i5) < 0 ∨ 100 ≤ (((10 : Int) * i4) + i5) then none else
  if (zandL (zshrL i2 (zget t_numberOf (Int.toNat (((10 : Int) * i4) + i5)))) (1 : Int)) = (1 : Int) then
  some (true)
  else
  some (false)
  else
  some (true))
noncomputable def zf_X11_readCorner  (t_sort : Int) (t_at : Int) (t_number : Int) (t_faultKind : Int) (t_faultPlace : Int) (t_newCorners : Int)  : Option (Bool × Int × Int) :=
  if zout t_sort then none else
  if t_sort = (2 : Int) then
  Option.bind (zf_X11_in t_number (0 : Int) (t_newCorners - (1 : Int))) (fun o2 =>
  if o2 = false then
  Option.bind (zf_X11_fails t_at t_faultKind t_faultPlace (2 : Int)) (fun o3 =>
  some ((o3.1), (o3.2.1), (o3.2.2)))
  else
  some (true, t_faultKind, t_faultPlace))
  else
  Option.bind (zf_X11_fails t_at t_faultKind t_faultPlace (1 : Int)) (fun o5 =>
  some ((o5.1), (o5.2.1), (o5.2.2)))
abbrev zS_X11_readCut : Type := Nat × Int × Int × Int × Int × Int × Int × Int × Int × Int × Int × Int × Int × Int × Int × Int × Nat × Nat × Nat
abbrev zO_X11_readCut : Type := Bool × Int × Int × Int × Int × Int × Int × Int × Int × Int × Int × Int × Nat × Nat × Nat
noncomputable def zg_X11_readCut_0  (t_size : Int) (t_tape : Nat) (i1 : Int) (i2 : Int) (i3 : Int) (i4 : Int) (t_sort : Int) (t_at : Int) (t_end : Int) (t_number : Int) (t_faultKind : Int) (t_faultPlace : Int) (t_word : Int) (t_lines : Int) (t_linesFor : Int) (t_newCorners : Int) (t_newCut : Int) (t_numberOf : Nat) (t_lesser : Nat) (t_greater : Nat) : Option (zO_X11_readCut ⊕ zS_X11_readCut) :=
  if zout t_sort then none else
  if t_sort = (1 : Int) then
  if zoutL t_word then none else
  if t_word = (3743880787 : Int) then
  Option.bind (zf_X11_scan t_size t_sort t_at t_end t_number t_word t_tape) (fun o4 =>
  if zout (o4.1) then none else
  if (o4.1) = (2 : Int) then
  Option.bind (zf_X11_in (o4.2.2.2.1) (4 : Int) (9 : Int)) (fun o6 =>
  if o6 = false then
  Option.bind (zf_X11_fails (o4.2.1) t_faultKind t_faultPlace (2 : Int)) (fun o13 =>
  some (.inl ((o13.1), (o4.1), (o4.2.1), (o4.2.2.1), (o4.2.2.2.1), (o13.2.1), (o13.2.2), (o4.2.2.2.2), t_lines, t_linesFor, t_newCorners, t_newCut, t_numberOf, t_lesser, t_greater)))
  else
  Option.bind (zf_X11_linesOf t_lines t_linesFor t_numberOf t_lesser t_greater (o4.2.2.2.1)) (fun o7 =>
  Option.bind (zf_X11_scan t_size (o4.1) (o4.2.1) (o4.2.2.1) (o4.2.2.2.1) (o4.2.2.2.2) t_tape) (fun o8 =>
  if zout (o8.1) then none else
  if (o8.1) = (3 : Int) then
  Option.bind (zf_X11_scan t_size (o8.1) (o8.2.1) (o8.2.2.1) (o8.2.2.2.1) (o8.2.2.2.2) t_tape) (fun o10 =>
  some (.inr (107, (0 : Int), 0, 0, 0, (o10.1), (o10.2.1), (o10.2.2.1), (o10.2.2.2.1), t_faultKind, t_faultPlace, (o10.2.2.2.2), (o7.1), (o7.2.1), (o4.2.2.2.1), (0 : Int), (o7.2.2.1), (o7.2.2.2.1), (o7.2.2.2.2))))
  else
  Option.bind (zf_X11_fails (o8.2.1) t_faultKind t_faultPlace (1 : Int)) (fun o11 =>
  some (.inl ((o11.1), (o8.1), (o8.2.1), (o8.2.2.1), (o8.2.2.2.1), (o11.2.1), (o11.2.2), (o8.2.2.2.2), (o7.1), (o7.2.1), (o4.2.2.2.1), (0 : Int), (o7.2.2.1), (o7.2.2.2.1), (o7.2.2.2.2)))))))
  else
  Option.bind (zf_X11_fails (o4.2.1) t_faultKind t_faultPlace (1 : Int)) (fun o15 =>
  some (.inl ((o15.1), (o4.1), (o4.2.1), (o4.2.2.1), (o4.2.2.2.1), (o15.2.1), (o15.2.2), (o4.2.2.2.2), t_lines, t_linesFor, t_newCorners, t_newCut, t_numberOf, t_lesser, t_greater))))
  else
  Option.bind (zf_X11_fails t_at t_faultKind t_faultPlace (1 : Int)) (fun o17 =>
  some (.inl ((o17.1), t_sort, t_at, t_end, t_number, (o17.2.1), (o17.2.2), t_word, t_lines, t_linesFor, t_newCorners, t_newCut, t_numberOf, t_lesser, t_greater)))
  else
  Option.bind (zf_X11_fails t_at t_faultKind t_faultPlace (1 : Int)) (fun o2 =>
  some (.inl ((o2.1), t_sort, t_at, t_end, t_number, (o2.2.1), (o2.2.2), t_word, t_lines, t_linesFor, t_newCorners, t_newCut, t_numberOf, t_lesser, t_greater)))
noncomputable def zg_X11_readCut_107  (t_size : Int) (t_tape : Nat) (i1 : Int) (i2 : Int) (i3 : Int) (i4 : Int) (t_sort : Int) (t_at : Int) (t_end : Int) (t_number : Int) (t_faultKind : Int) (t_faultPlace : Int) (t_word : Int) (t_lines : Int) (t_linesFor : Int) (t_newCorners : Int) (t_newCut : Int) (t_numberOf : Nat) (t_lesser : Nat) (t_greater : Nat) : Option (zO_X11_readCut ⊕ zS_X11_readCut) :=
  if zout t_sort then none else
  if t_sort = (4 : Int) then
  if zout i1 then none else
  if zout (t_newCorners - (3 : Int)) then none else
  if i1 = (t_newCorners - (3 : Int)) then
  some (.inl (true, t_sort, t_at, t_end, t_number, t_faultKind, t_faultPlace, t_word, t_lines, t_linesFor, t_newCorners, t_newCut, t_numberOf, t_lesser, t_greater))
  else
  Option.bind (zf_X11_fails t_at t_faultKind t_faultPlace (6 : Int)) (fun o23 =>
  if (o23.1) = false then
  some (.inl (false, t_sort, t_at, t_end, t_number, (o23.2.1), (o23.2.2), t_word, t_lines, t_linesFor, t_newCorners, t_newCut, t_numberOf, t_lesser, t_greater))
  else
  some (.inl (true, t_sort, t_at, t_end, t_number, (o23.2.1), (o23.2.2), t_word, t_lines, t_linesFor, t_newCorners, t_newCut, t_numberOf, t_lesser, t_greater)))
  else
  Option.bind (zf_X11_readCorner t_sort t_at t_number t_faultKind t_faultPlace t_newCorners) (fun o26 =>
  if (o26.1) = false then
  some (.inl (false, t_sort, t_at, t_end, t_number, (o26.2.1), (o26.2.2), t_word, t_lines, t_linesFor, t_newCorners, t_newCut, t_numberOf, t_lesser, t_greater))
  else
  Option.bind (zf_X11_scan t_size t_sort t_at t_end t_number t_word t_tape) (fun o27 =>
  Option.bind (zf_X11_readCorner (o27.1) (o27.2.1) (o27.2.2.2.1) (o26.2.1) (o26.2.2) t_newCorners) (fun o28 =>
  if (o28.1) = false then
  some (.inl (false, (o27.1), (o27.2.1), (o27.2.2.1), (o27.2.2.2.1), (o28.2.1), (o28.2.2), (o27.2.2.2.2), t_lines, t_linesFor, t_newCorners, t_newCut, t_numberOf, t_lesser, t_greater))
  else
  Option.bind (zf_X11_isLine t_newCorners t_number (o27.2.2.2.1)) (fun o29 =>
  if o29 = false then
  Option.bind (zf_X11_fails (o27.2.1) (o28.2.1) (o28.2.2) (4 : Int)) (fun o30 =>
  some (.inl ((o30.1), (o27.1), (o27.2.1), (o27.2.2.1), (o27.2.2.2.1), (o30.2.1), (o30.2.2), (o27.2.2.2.2), t_lines, t_linesFor, t_newCorners, t_newCut, t_numberOf, t_lesser, t_greater)))
  else
  if (((10 : Int) * t_number) + (o27.2.2.2.1)) < 0 ∨ 100 ≤ (((10 : Int) * t_number) + (o27.2.2.2.1)) then none else
  if (zandL (zshrL t_newCut (zget t_numberOf (Int.toNat (((10 : Int) * t_number) + (o27.2.2.2.1))))) (1 : Int)) = (1 : Int) then
  Option.bind (zf_X11_fails (o27.2.1) (o28.2.1) (o28.2.2) (3 : Int)) (fun o32 =>
  some (.inl ((o32.1), (o27.1), (o27.2.1), (o27.2.2.1), (o27.2.2.2.1), (o32.2.1), (o32.2.2), (o27.2.2.2.2), t_lines, t_linesFor, t_newCorners, t_newCut, t_numberOf, t_lesser, t_greater)))
  else
  some (.inr (191, i1, t_number, (o27.2.2.2.1), (0 : Int), (o27.1), (o27.2.1), (o27.2.2.1), (o27.2.2.2.1), (o28.2.1), (o28.2.2), (o27.2.2.2.2), t_lines, t_linesFor, t_newCorners, t_newCut, t_numberOf, t_lesser, t_greater))))))
noncomputable def zg_X11_readCut_191  (t_size : Int) (t_tape : Nat) (i1 : Int) (i2 : Int) (i3 : Int) (i4 : Int) (t_sort : Int) (t_at : Int) (t_end : Int) (t_number : Int) (t_faultKind : Int) (t_faultPlace : Int) (t_word : Int) (t_lines : Int) (t_linesFor : Int) (t_newCorners : Int) (t_newCut : Int) (t_numberOf : Nat) (t_lesser : Nat) (t_greater : Nat) : Option (zO_X11_readCut ⊕ zS_X11_readCut) :=
  if zout i4 then none else
  if zout t_lines then none else
  if t_lines ≤ i4 then
  if (((10 : Int) * i2) + i3) < 0 ∨ 100 ≤ (((10 : Int) * i2) + i3) then none else
  Option.bind (zf_X11_scan t_size t_sort t_at t_end t_number t_word t_tape) (fun o41 =>
  if zout (o41.1) then none else
  if (o41.1) = (3 : Int) then
  Option.bind (zf_X11_scan t_size (o41.1) (o41.2.1) (o41.2.2.1) (o41.2.2.2.1) (o41.2.2.2.2) t_tape) (fun o43 =>
  some (.inr (107, (i1 + (1 : Int)), i2, i3, i4, (o43.1), (o43.2.1), (o43.2.2.1), (o43.2.2.2.1), t_faultKind, t_faultPlace, (o43.2.2.2.2), t_lines, t_linesFor, t_newCorners, (zorL t_newCut (zshlL (1 : Int) (zget t_numberOf (Int.toNat (((10 : Int) * i2) + i3))))), t_numberOf, t_lesser, t_greater)))
  else
  Option.bind (zf_X11_fails (o41.2.1) t_faultKind t_faultPlace (1 : Int)) (fun o44 =>
  some (.inl ((o44.1), (o41.1), (o41.2.1), (o41.2.2.1), (o41.2.2.2.1), (o44.2.1), (o44.2.2), (o41.2.2.2.2), t_lines, t_linesFor, t_newCorners, (zorL t_newCut (zshlL (1 : Int) (zget t_numberOf (Int.toNat (((10 : Int) * i2) + i3))))), t_numberOf, t_lesser, t_greater))))
  else
  if (zandL (zshrL t_newCut i4) (1 : Int)) = (1 : Int) then
  if i4 < 0 ∨ 35 ≤ i4 then none else
  Option.bind (zf_X11_isCross t_newCorners i2 i3 (zget t_lesser (Int.toNat i4)) (zget t_greater (Int.toNat i4))) (fun o47 =>
  if o47 = false then
  some (.inr (191, i1, i2, i3, (i4 + (1 : Int)), t_sort, t_at, t_end, t_number, t_faultKind, t_faultPlace, t_word, t_lines, t_linesFor, t_newCorners, t_newCut, t_numberOf, t_lesser, t_greater))
  else
  Option.bind (zf_X11_fails t_at t_faultKind t_faultPlace (5 : Int)) (fun o48 =>
  some (.inl ((o48.1), t_sort, t_at, t_end, t_number, (o48.2.1), (o48.2.2), t_word, t_lines, t_linesFor, t_newCorners, t_newCut, t_numberOf, t_lesser, t_greater))))
  else
  some (.inr (191, i1, i2, i3, (i4 + (1 : Int)), t_sort, t_at, t_end, t_number, t_faultKind, t_faultPlace, t_word, t_lines, t_linesFor, t_newCorners, t_newCut, t_numberOf, t_lesser, t_greater))
noncomputable def zg_X11_readCut  (t_size : Int) (t_tape : Nat) (st : zS_X11_readCut) : Option (zO_X11_readCut ⊕ zS_X11_readCut) := match st with
  | (lab, i1, i2, i3, i4, t_sort, t_at, t_end, t_number, t_faultKind, t_faultPlace, t_word, t_lines, t_linesFor, t_newCorners, t_newCut, t_numberOf, t_lesser, t_greater) => if lab = 0 then zg_X11_readCut_0 t_size t_tape i1 i2 i3 i4 t_sort t_at t_end t_number t_faultKind t_faultPlace t_word t_lines t_linesFor t_newCorners t_newCut t_numberOf t_lesser t_greater else if lab = 107 then zg_X11_readCut_107 t_size t_tape i1 i2 i3 i4 t_sort t_at t_end t_number t_faultKind t_faultPlace t_word t_lines t_linesFor t_newCorners t_newCut t_numberOf t_lesser t_greater else if lab = 191 then zg_X11_readCut_191 t_size t_tape i1 i2 i3 i4 t_sort t_at t_end t_number t_faultKind t_faultPlace t_word t_lines t_linesFor t_newCorners t_newCut t_numberOf t_lesser t_greater else none
noncomputable def zf_X11_readCut  (t_size : Int) (t_sort : Int) (t_at : Int) (t_end : Int) (t_number : Int) (t_faultKind : Int) (t_faultPlace : Int) (t_word : Int) (t_lines : Int) (t_linesFor : Int) (t_newCorners : Int) (t_newCut : Int) (t_tape : Nat) (t_numberOf : Nat) (t_lesser : Nat) (t_greater : Nat)  : Option (Bool × Int × Int × Int × Int × Int × Int × Int × Int × Int × Int × Int × Nat × Nat × Nat) := jrun (zg_X11_readCut t_size t_tape) jfuel (0, 0, 0, 0, 0, t_sort, t_at, t_end, t_number, t_faultKind, t_faultPlace, t_word, t_lines, t_linesFor, t_newCorners, t_newCut, t_numberOf, t_lesser, t_greater)
noncomputable def zf_X11_cut  (t_taped : Int) (t_size : Int) (t_sort : Int) (t_at : Int) (t_end : Int) (t_number : Int) (t_faultKind : Int) (t_faultPlace : Int) (t_word : Int) (t_corners : Int) (t_lines : Int) (t_linesFor : Int) (t_listMany : Int) (t_listCorners : Int) (t_own : Int) (t_newCorners : Int) (t_newCut : Int) (t_seenMany : Int) (t_rightMany : Int) (t_lastTold : Int) (t_tape : Nat) (t_numberOf : Nat) (t_lesser : Nat) (t_greater : Nat) (t_list : Nat)  : Option (Int × Int × Int × Int × Int × Int × Int × Int × Int × Int × Int × Int × Int × Int × Int × Int × Int × Int × Int × Int × Int × Nat × Nat × Nat × Nat) :=
  Option.bind (zf_X11_begin t_taped t_size t_sort t_at t_end t_number t_word t_tape) (fun o1 =>
  Option.bind (zf_X11_readCut (o1.2.1) (o1.2.2.1) (o1.2.2.2.1) (o1.2.2.2.2.1) (o1.2.2.2.2.2.1) (0 : Int) (-1 : Int) (o1.2.2.2.2.2.2) t_lines t_linesFor t_newCorners t_newCut t_tape t_numberOf t_lesser t_greater) (fun o2 =>
  if (o2.1) = false then
  some ((-1 : Int), (o1.1), (o1.2.1), (o2.2.1), (o2.2.2.1), (o2.2.2.2.1), (o2.2.2.2.2.1), (o2.2.2.2.2.2.1), (o2.2.2.2.2.2.2.1), (o2.2.2.2.2.2.2.2.1), t_corners, (o2.2.2.2.2.2.2.2.2.1), (o2.2.2.2.2.2.2.2.2.2.1), t_listMany, t_listCorners, t_own, (o2.2.2.2.2.2.2.2.2.2.2.1), (o2.2.2.2.2.2.2.2.2.2.2.2.1), t_seenMany, t_rightMany, t_lastTold, (o2.2.2.2.2.2.2.2.2.2.2.2.2.1), (o2.2.2.2.2.2.2.2.2.2.2.2.2.2.1), (o2.2.2.2.2.2.2.2.2.2.2.2.2.2.2), t_list)
  else
  Option.bind (zf_X11_becomes t_corners t_own t_seenMany t_rightMany t_lastTold (o2.2.2.2.2.2.2.2.2.2.2.1) (o2.2.2.2.2.2.2.2.2.2.2.2.1)) (fun o3 =>
  Option.bind (zf_X11_ownNumber (o3.1) (o2.2.2.2.2.2.2.2.2.1) (o2.2.2.2.2.2.2.2.2.2.1) t_listMany t_listCorners (o3.2.1) (o2.2.2.2.2.2.2.2.2.2.2.2.2.1) (o2.2.2.2.2.2.2.2.2.2.2.2.2.2.1) (o2.2.2.2.2.2.2.2.2.2.2.2.2.2.2) t_list) (fun o4 =>
  some ((o4.1), (o1.1), (o1.2.1), (o2.2.1), (o2.2.2.1), (o2.2.2.2.1), (o2.2.2.2.2.1), (o2.2.2.2.2.2.1), (o2.2.2.2.2.2.2.1), (o2.2.2.2.2.2.2.2.1), (o3.1), (o4.2.1), (o4.2.2.1), (o4.2.2.2.1), (o4.2.2.2.2.1), (o3.2.1), (o2.2.2.2.2.2.2.2.2.2.2.1), (o2.2.2.2.2.2.2.2.2.2.2.2.1), (o3.2.2.1), (o3.2.2.2.1), (o3.2.2.2.2), (o4.2.2.2.2.2.1), (o4.2.2.2.2.2.2.1), (o4.2.2.2.2.2.2.2.1), (o4.2.2.2.2.2.2.2.2))))))
noncomputable def zf_X11_take  (t_corners : Int) (t_lines : Int) (t_linesFor : Int) (t_listMany : Int) (t_listCorners : Int) (t_own : Int) (t_seenMany : Int) (t_rightMany : Int) (t_lastTold : Int) (t_numberOf : Nat) (t_lesser : Nat) (t_greater : Nat) (t_list : Nat) (i1 : Int) (i2 : Int) : Option (Int × Int × Int × Int × Int × Int × Int × Int × Int × Int × Nat × Nat × Nat × Nat) :=
  Option.bind (zf_X11_in i1 (4 : Int) (9 : Int)) (fun o1 =>
  if o1 = false then
  some ((-2 : Int), t_corners, t_lines, t_linesFor, t_listMany, t_listCorners, t_own, t_seenMany, t_rightMany, t_lastTold, t_numberOf, t_lesser, t_greater, t_list)
  else
  if zout i2 then none else
  if 0 ≤ i2 then
  Option.bind (zf_X11_listFor t_lines t_linesFor t_listMany t_listCorners t_numberOf t_lesser t_greater t_list i1) (fun o3 =>
  if zout (o3.2.2.1) then none else
  if i2 < (o3.2.2.1) then
  if i2 < 0 ∨ 429 ≤ i2 then none else
  Option.bind (zf_X11_becomes t_corners t_own t_seenMany t_rightMany t_lastTold i1 (zgetL (o3.2.2.2.2.2.2.2) (Int.toNat i2))) (fun o6 =>
  some (i2, (o6.1), (o3.1), (o3.2.1), (o3.2.2.1), (o3.2.2.2.1), (o6.2.1), (o6.2.2.1), (o6.2.2.2.1), (o6.2.2.2.2), (o3.2.2.2.2.1), (o3.2.2.2.2.2.1), (o3.2.2.2.2.2.2.1), (o3.2.2.2.2.2.2.2)))
  else
  some ((-2 : Int), t_corners, (o3.1), (o3.2.1), (o3.2.2.1), (o3.2.2.2.1), t_own, t_seenMany, t_rightMany, t_lastTold, (o3.2.2.2.2.1), (o3.2.2.2.2.2.1), (o3.2.2.2.2.2.2.1), (o3.2.2.2.2.2.2.2)))
  else
  some ((-2 : Int), t_corners, t_lines, t_linesFor, t_listMany, t_listCorners, t_own, t_seenMany, t_rightMany, t_lastTold, t_numberOf, t_lesser, t_greater, t_list))
noncomputable def zf_X11_told  (t_corners : Int) (t_lines : Int) (t_linesFor : Int) (t_listMany : Int) (t_listCorners : Int) (t_own : Int) (t_periodMany : Int) (t_numberOf : Nat) (t_lesser : Nat) (t_greater : Nat) (t_list : Nat) (i1 : Int) : Option (Int × Int × Int × Int × Int × Nat × Nat × Nat × Nat) :=
  if zout i1 then none else
  if i1 = (0 : Int) then
  some (t_corners, t_lines, t_linesFor, t_listMany, t_listCorners, t_numberOf, t_lesser, t_greater, t_list)
  else
  if i1 = (1 : Int) then
  Option.bind (zf_X11_ownNumber t_corners t_lines t_linesFor t_listMany t_listCorners t_own t_numberOf t_lesser t_greater t_list) (fun o4 =>
  some ((o4.1), (o4.2.1), (o4.2.2.1), (o4.2.2.2.1), (o4.2.2.2.2.1), (o4.2.2.2.2.2.1), (o4.2.2.2.2.2.2.1), (o4.2.2.2.2.2.2.2.1), (o4.2.2.2.2.2.2.2.2)))
  else
  if i1 = (2 : Int) then
  Option.bind (zf_X11_listFor t_lines t_linesFor t_listMany t_listCorners t_numberOf t_lesser t_greater t_list t_corners) (fun o6 =>
  some ((o6.2.2.1), (o6.1), (o6.2.1), (o6.2.2.1), (o6.2.2.2.1), (o6.2.2.2.2.1), (o6.2.2.2.2.2.1), (o6.2.2.2.2.2.2.1), (o6.2.2.2.2.2.2.2)))
  else
  if i1 = (3 : Int) then
  some (t_periodMany, t_lines, t_linesFor, t_listMany, t_listCorners, t_numberOf, t_lesser, t_greater, t_list)
  else
  some ((-1 : Int), t_lines, t_linesFor, t_listMany, t_listCorners, t_numberOf, t_lesser, t_greater, t_list)
noncomputable def zf_X11_isCorner  (t_corners : Int) (i1 : Int) : Option (Bool) :=
  Option.bind (zf_X11_in i1 (0 : Int) (t_corners - (1 : Int))) (fun o1 =>
  some (o1))
abbrev zS_X11_trianglesOf : Type := Nat × Int × Int × Int × Int × Int × Int × Int × Int × Nat × Nat × Nat × Nat × Nat × Nat
abbrev zO_X11_trianglesOf : Type := Int × Int × Nat × Nat × Nat × Nat × Nat × Nat
noncomputable def zg_X11_trianglesOf_0   (i1 : Int) (i2 : Int) (i4 : Int) (i5 : Int) (i6 : Int) (i7 : Int) (t_lines : Int) (t_linesFor : Int) (t_numberOf : Nat) (t_lesser : Nat) (t_greater : Nat) (t_tA : Nat) (t_tB : Nat) (t_tC : Nat) : Option (zO_X11_trianglesOf ⊕ zS_X11_trianglesOf) :=
  Option.bind (zf_X11_linesOf t_lines t_linesFor t_numberOf t_lesser t_greater i1) (fun o1 =>
  some (.inr (11, i1, i2, (0 : Int), (0 : Int), 0, 0, (o1.1), (o1.2.1), (o1.2.2.1), (o1.2.2.2.1), (o1.2.2.2.2), t_tA, t_tB, t_tC)))
noncomputable def zg_X11_trianglesOf_11   (i1 : Int) (i2 : Int) (i4 : Int) (i5 : Int) (i6 : Int) (i7 : Int) (t_lines : Int) (t_linesFor : Int) (t_numberOf : Nat) (t_lesser : Nat) (t_greater : Nat) (t_tA : Nat) (t_tB : Nat) (t_tC : Nat) : Option (zO_X11_trianglesOf ⊕ zS_X11_trianglesOf) :=
  if zout i5 then none else
  if zout i1 then none else
  if i1 ≤ i5 then
  some (.inl (t_lines, t_linesFor, t_numberOf, t_lesser, t_greater, t_tA, t_tB, t_tC))
  else
  some (.inr (23, i1, i2, i4, i5, (i5 + (1 : Int)), 0, t_lines, t_linesFor, t_numberOf, t_lesser, t_greater, t_tA, t_tB, t_tC))
noncomputable def zg_X11_trianglesOf_23   (i1 : Int) (i2 : Int) (i4 : Int) (i5 : Int) (i6 : Int) (i7 : Int) (t_lines : Int) (t_linesFor : Int) (t_numberOf : Nat) (t_lesser : Nat) (t_greater : Nat) (t_tA : Nat) (t_tB : Nat) (t_tC : Nat) : Option (zO_X11_trianglesOf ⊕ zS_X11_trianglesOf) :=
  if zout i6 then none else
  if zout i1 then none else
  if i1 ≤ i6 then
  some (.inr (11, i1, i2, i4, (i5 + (1 : Int)), i6, 0, t_lines, t_linesFor, t_numberOf, t_lesser, t_greater, t_tA, t_tB, t_tC))
  else
  some (.inr (35, i1, i2, i4, i5, i6, (i6 + (1 : Int)), t_lines, t_linesFor, t_numberOf, t_lesser, t_greater, t_tA, t_tB, t_tC))
noncomputable def zg_X11_trianglesOf_35   (i1 : Int) (i2 : Int) (i4 : Int) (i5 : Int) (i6 : Int) (i7 : Int) (t_lines : Int) (t_linesFor : Int) (t_numberOf : Nat) (t_lesser : Nat) (t_greater : Nat) (t_tA : Nat) (t_tB : Nat) (t_tC : Nat) : Option (zO_X11_trianglesOf ⊕ zS_X11_trianglesOf) :=
  if zout i7 then none else
  if zout i1 then none else
  if i1 ≤ i7 then
  some (.inr (23, i1, i2, i4, i5, (i6 + (1 : Int)), i7, t_lines, t_linesFor, t_numberOf, t_lesser, t_greater, t_tA, t_tB, t_tC))
  else
  Option.bind (zf_X11_near t_numberOf i1 i2 i5 i6) (fun o10 =>
  if o10 = false then
  some (.inr (35, i1, i2, i4, i5, i6, (i7 + (1 : Int)), t_lines, t_linesFor, t_numberOf, t_lesser, t_greater, t_tA, t_tB, t_tC))
  else
  Option.bind (zf_X11_near t_numberOf i1 i2 i6 i7) (fun o11 =>
  if o11 = false then
  some (.inr (35, i1, i2, i4, i5, i6, (i7 + (1 : Int)), t_lines, t_linesFor, t_numberOf, t_lesser, t_greater, t_tA, t_tB, t_tC))
  else
  Option.bind (zf_X11_near t_numberOf i1 i2 i5 i7) (fun o12 =>
  if o12 = false then
  some (.inr (35, i1, i2, i4, i5, i6, (i7 + (1 : Int)), t_lines, t_linesFor, t_numberOf, t_lesser, t_greater, t_tA, t_tB, t_tC))
  else
  if i4 < 0 ∨ 8 ≤ i4 then none else
  some (.inr (35, i1, i2, (i4 + (1 : Int)), i5, i6, (i7 + (1 : Int)), t_lines, t_linesFor, t_numberOf, t_lesser, t_greater, (zset t_tA (Int.toNat i4) i5), (zset t_tB (Int.toNat i4) i6), (zset t_tC (Int.toNat i4) i7))))))
noncomputable def zg_X11_trianglesOf   (st : zS_X11_trianglesOf) : Option (zO_X11_trianglesOf ⊕ zS_X11_trianglesOf) := match st with
  | (lab, i1, i2, i4, i5, i6, i7, t_lines, t_linesFor, t_numberOf, t_lesser, t_greater, t_tA, t_tB, t_tC) => if lab = 0 then zg_X11_trianglesOf_0  i1 i2 i4 i5 i6 i7 t_lines t_linesFor t_numberOf t_lesser t_greater t_tA t_tB t_tC else if lab = 11 then zg_X11_trianglesOf_11  i1 i2 i4 i5 i6 i7 t_lines t_linesFor t_numberOf t_lesser t_greater t_tA t_tB t_tC else if lab = 23 then zg_X11_trianglesOf_23  i1 i2 i4 i5 i6 i7 t_lines t_linesFor t_numberOf t_lesser t_greater t_tA t_tB t_tC else if lab = 35 then zg_X11_trianglesOf_35  i1 i2 i4 i5 i6 i7 t_lines t_linesFor t_numberOf t_lesser t_greater t_tA t_tB t_tC else none
noncomputable def zf_X11_trianglesOf  (t_lines : Int) (t_linesFor : Int) (t_numberOf : Nat) (t_lesser : Nat) (t_greater : Nat) (t_tA : Nat) (t_tB : Nat) (t_tC : Nat) (i1 : Int) (i2 : Int) : Option (Int × Int × Nat × Nat × Nat × Nat × Nat × Nat) := jrun (zg_X11_trianglesOf ) jfuel (0, i1, i2, 0, 0, 0, 0, t_lines, t_linesFor, t_numberOf, t_lesser, t_greater, t_tA, t_tB, t_tC)
noncomputable def zf_X11_triangle  (t_corners : Int) (t_lines : Int) (t_linesFor : Int) (t_own : Int) (t_numberOf : Nat) (t_lesser : Nat) (t_greater : Nat) (t_tA : Nat) (t_tB : Nat) (t_tC : Nat) (i1 : Int) (i2 : Int) : Option (Int × Int × Int × Nat × Nat × Nat × Nat × Nat × Nat) :=
  Option.bind (zf_X11_in i1 (0 : Int) (t_corners - (3 : Int))) (fun o1 =>
  if o1 = false then
  some ((-2 : Int), t_lines, t_linesFor, t_numberOf, t_lesser, t_greater, t_tA, t_tB, t_tC)
  else
  Option.bind (zf_X11_in i2 (0 : Int) (2 : Int)) (fun o2 =>
  if o2 = false then
  some ((-2 : Int), t_lines, t_linesFor, t_numberOf, t_lesser, t_greater, t_tA, t_tB, t_tC)
  else
  Option.bind (zf_X11_trianglesOf t_lines t_linesFor t_numberOf t_lesser t_greater t_tA t_tB t_tC t_corners t_own) (fun o3 =>
  if zout i2 then none else
  if i2 = 0 then
  if i1 < 0 ∨ 8 ≤ i1 then none else
  some ((zget (o3.2.2.2.2.2.1) (Int.toNat i1)), (o3.1), (o3.2.1), (o3.2.2.1), (o3.2.2.2.1), (o3.2.2.2.2.1), (o3.2.2.2.2.2.1), (o3.2.2.2.2.2.2.1), (o3.2.2.2.2.2.2.2))
  else
  if i2 = (1 : Int) then
  if i1 < 0 ∨ 8 ≤ i1 then none else
  some ((zget (o3.2.2.2.2.2.2.1) (Int.toNat i1)), (o3.1), (o3.2.1), (o3.2.2.1), (o3.2.2.2.1), (o3.2.2.2.2.1), (o3.2.2.2.2.2.1), (o3.2.2.2.2.2.2.1), (o3.2.2.2.2.2.2.2))
  else
  if i1 < 0 ∨ 8 ≤ i1 then none else
  some ((zget (o3.2.2.2.2.2.2.2) (Int.toNat i1)), (o3.1), (o3.2.1), (o3.2.2.1), (o3.2.2.2.1), (o3.2.2.2.2.1), (o3.2.2.2.2.2.1), (o3.2.2.2.2.2.2.1), (o3.2.2.2.2.2.2.2)))))
noncomputable def zf_X11_isAt  (t_tA : Nat) (t_tB : Nat) (t_tC : Nat) (i1 : Int) (i2 : Int) : Option (Bool) :=
  if i1 < 0 ∨ 8 ≤ i1 then none else
  if zout i2 then none else
  if (zget t_tA (Int.toNat i1)) = i2 then
  some (true)
  else
  if (zget t_tB (Int.toNat i1)) = i2 then
  some (true)
  else
  if (zget t_tC (Int.toNat i1)) = i2 then
  some (true)
  else
  some (false)
abbrev zS_X11_entriesFrom : Type := Nat × Int × Int × Int × Int × Int × Int × Int × Nat × Nat × Nat × Nat × Nat × Nat × Nat
abbrev zO_X11_entriesFrom : Type := Int × Int × Nat × Nat × Nat × Nat × Nat × Nat × Nat
noncomputable def zg_X11_entriesFrom_0   (i1 : Int) (i2 : Int) (i4 : Int) (i5 : Int) (i6 : Int) (t_lines : Int) (t_linesFor : Int) (t_numberOf : Nat) (t_lesser : Nat) (t_greater : Nat) (t_tA : Nat) (t_tB : Nat) (t_tC : Nat) (t_from : Nat) : Option (zO_X11_entriesFrom ⊕ zS_X11_entriesFrom) :=
  Option.bind (zf_X11_trianglesOf t_lines t_linesFor t_numberOf t_lesser t_greater t_tA t_tB t_tC i1 i2) (fun o1 =>
  some (.inr (9, i1, i2, i4, (0 : Int), 0, (o1.1), (o1.2.1), (o1.2.2.1), (o1.2.2.2.1), (o1.2.2.2.2.1), (o1.2.2.2.2.2.1), (o1.2.2.2.2.2.2.1), (o1.2.2.2.2.2.2.2), t_from)))
noncomputable def zg_X11_entriesFrom_9   (i1 : Int) (i2 : Int) (i4 : Int) (i5 : Int) (i6 : Int) (t_lines : Int) (t_linesFor : Int) (t_numberOf : Nat) (t_lesser : Nat) (t_greater : Nat) (t_tA : Nat) (t_tB : Nat) (t_tC : Nat) (t_from : Nat) : Option (zO_X11_entriesFrom ⊕ zS_X11_entriesFrom) :=
  if zout i5 then none else
  if zout i1 then none else
  if i1 ≤ i5 then
  some (.inr (60, i1, i2, i4, (1 : Int), 0, t_lines, t_linesFor, t_numberOf, t_lesser, t_greater, t_tA, t_tB, t_tC, t_from))
  else
  if zout i4 then none else
  if i5 = i4 then
  if i5 < 0 ∨ 10 ≤ i5 then none else
  some (.inr (9, i1, i2, i4, (i5 + (1 : Int)), 0, t_lines, t_linesFor, t_numberOf, t_lesser, t_greater, t_tA, t_tB, t_tC, (zset t_from (Int.toNat i5) (0 : Int))))
  else
  Option.bind (zf_X11_near t_numberOf i1 i2 i4 i5) (fun o5 =>
  if o5 = false then
  if i5 < 0 ∨ 10 ≤ i5 then none else
  some (.inr (9, i1, i2, i4, (i5 + (1 : Int)), 0, t_lines, t_linesFor, t_numberOf, t_lesser, t_greater, t_tA, t_tB, t_tC, (zset t_from (Int.toNat i5) (-1 : Int))))
  else
  if i5 < 0 ∨ 10 ≤ i5 then none else
  some (.inr (9, i1, i2, i4, (i5 + (1 : Int)), 0, t_lines, t_linesFor, t_numberOf, t_lesser, t_greater, t_tA, t_tB, t_tC, (zset t_from (Int.toNat i5) (1 : Int)))))
noncomputable def zg_X11_entriesFrom_60   (i1 : Int) (i2 : Int) (i4 : Int) (i5 : Int) (i6 : Int) (t_lines : Int) (t_linesFor : Int) (t_numberOf : Nat) (t_lesser : Nat) (t_greater : Nat) (t_tA : Nat) (t_tB : Nat) (t_tC : Nat) (t_from : Nat) : Option (zO_X11_entriesFrom ⊕ zS_X11_entriesFrom) :=
  if zout i5 then none else
  if i5 = 0 then
  some (.inl (t_lines, t_linesFor, t_numberOf, t_lesser, t_greater, t_tA, t_tB, t_tC, t_from))
  else
  some (.inr (71, i1, 0, 0, (0 : Int), (0 : Int), t_lines, t_linesFor, t_numberOf, t_lesser, t_greater, t_tA, t_tB, t_tC, t_from))
noncomputable def zg_X11_entriesFrom_71   (i1 : Int) (i2 : Int) (i4 : Int) (i5 : Int) (i6 : Int) (t_lines : Int) (t_linesFor : Int) (t_numberOf : Nat) (t_lesser : Nat) (t_greater : Nat) (t_tA : Nat) (t_tB : Nat) (t_tC : Nat) (t_from : Nat) : Option (zO_X11_entriesFrom ⊕ zS_X11_entriesFrom) :=
  if zout i6 then none else
  if zout (i1 - (2 : Int)) then none else
  if (i1 - (2 : Int)) ≤ i6 then
  some (.inr (60, i1, 0, 0, i5, i6, t_lines, t_linesFor, t_numberOf, t_lesser, t_greater, t_tA, t_tB, t_tC, t_from))
  else
  if i6 < 0 ∨ 8 ≤ i6 then none else
  if (zget t_tA (Int.toNat i6)) < 0 ∨ 10 ≤ (zget t_tA (Int.toNat i6)) then none else
  if 0 ≤ (zget t_from (Int.toNat (zget t_tA (Int.toNat i6)))) then
  if (zget t_tB (Int.toNat i6)) < 0 ∨ 10 ≤ (zget t_tB (Int.toNat i6)) then none else
  if 0 ≤ (zget t_from (Int.toNat (zget t_tB (Int.toNat i6)))) then
  if (zget t_tC (Int.toNat i6)) < 0 ∨ 10 ≤ (zget t_tC (Int.toNat i6)) then none else
  if 0 ≤ (zget t_from (Int.toNat (zget t_tC (Int.toNat i6)))) then
  if zout (((0 : Int) + (0 : Int)) + (0 : Int)) then none else
  if (((0 : Int) + (0 : Int)) + (0 : Int)) = (1 : Int) then
  if 0 ≤ (zget t_from (Int.toNat (zget t_tA (Int.toNat i6)))) then
  if 0 ≤ (zget t_from (Int.toNat (zget t_tB (Int.toNat i6)))) then
  some (.inr (71, i1, 0, 0, (1 : Int), (i6 + (1 : Int)), t_lines, t_linesFor, t_numberOf, t_lesser, t_greater, t_tA, t_tB, t_tC, (zset t_from (Int.toNat (zget t_tC (Int.toNat i6))) ((zget t_from (Int.toNat (zget t_tA (Int.toNat i6)))) + (zget t_from (Int.toNat (zget t_tB (Int.toNat i6))))))))
  else
  some (.inr (71, i1, 0, 0, (1 : Int), (i6 + (1 : Int)), t_lines, t_linesFor, t_numberOf, t_lesser, t_greater, t_tA, t_tB, t_tC, (zset t_from (Int.toNat (zget t_tB (Int.toNat i6))) ((zget t_from (Int.toNat (zget t_tA (Int.toNat i6)))) + (zget t_from (Int.toNat (zget t_tC (Int.toNat i6))))))))
  else
  some (.inr (71, i1, 0, 0, (1 : Int), (i6 + (1 : Int)), t_lines, t_linesFor, t_numberOf, t_lesser, t_greater, t_tA, t_tB, t_tC, (zset t_from (Int.toNat (zget t_tA (Int.toNat i6))) ((zget t_from (Int.toNat (zget t_tB (Int.toNat i6)))) + (zget t_from (Int.toNat (zget t_tC (Int.toNat i6))))))))
  else
  some (.inr (71, i1, 0, 0, i5, (i6 + (1 : Int)), t_lines, t_linesFor, t_numberOf, t_lesser, t_greater, t_tA, t_tB, t_tC, t_from))
  else
  if zout (((0 : Int) + (0 : Int)) + (1 : Int)) then none else
  if (((0 : Int) + (0 : Int)) + (1 : Int)) = (1 : Int) then
  if 0 ≤ (zget t_from (Int.toNat (zget t_tA (Int.toNat i6)))) then
  if 0 ≤ (zget t_from (Int.toNat (zget t_tB (Int.toNat i6)))) then
  some (.inr (71, i1, 0, 0, (1 : Int), (i6 + (1 : Int)), t_lines, t_linesFor, t_numberOf, t_lesser, t_greater, t_tA, t_tB, t_tC, (zset t_from (Int.toNat (zget t_tC (Int.toNat i6))) ((zget t_from (Int.toNat (zget t_tA (Int.toNat i6)))) + (zget t_from (Int.toNat (zget t_tB (Int.toNat i6))))))))
  else
  some (.inr (71, i1, 0, 0, (1 : Int), (i6 + (1 : Int)), t_lines, t_linesFor, t_numberOf, t_lesser, t_greater, t_tA, t_tB, t_tC, (zset t_from (Int.toNat (zget t_tB (Int.toNat i6))) ((zget t_from (Int.toNat (zget t_tA (Int.toNat i6)))) + (zget t_from (Int.toNat (zget t_tC (Int.toNat i6))))))))
  else
  some (.inr (71, i1, 0, 0, (1 : Int), (i6 + (1 : Int)), t_lines, t_linesFor, t_numberOf, t_lesser, t_greater, t_tA, t_tB, t_tC, (zset t_from (Int.toNat (zget t_tA (Int.toNat i6))) ((zget t_from (Int.toNat (zget t_tB (Int.toNat i6)))) + (zget t_from (Int.toNat (zget t_tC (Int.toNat i6))))))))
  else
  some (.inr (71, i1, 0, 0, i5, (i6 + (1 : Int)), t_lines, t_linesFor, t_numberOf, t_lesser, t_greater, t_tA, t_tB, t_tC, t_from))
  else
  if (zget t_tC (Int.toNat i6)) < 0 ∨ 10 ≤ (zget t_tC (Int.toNat i6)) then none else
  if 0 ≤ (zget t_from (Int.toNat (zget t_tC (Int.toNat i6)))) then
  if zout (((0 : Int) + (1 : Int)) + (0 : Int)) then none else
  if (((0 : Int) + (1 : Int)) + (0 : Int)) = (1 : Int) then
  if 0 ≤ (zget t_from (Int.toNat (zget t_tA (Int.toNat i6)))) then
  if 0 ≤ (zget t_from (Int.toNat (zget t_tB (Int.toNat i6)))) then
  some (.inr (71, i1, 0, 0, (1 : Int), (i6 + (1 : Int)), t_lines, t_linesFor, t_numberOf, t_lesser, t_greater, t_tA, t_tB, t_tC, (zset t_from (Int.toNat (zget t_tC (Int.toNat i6))) ((zget t_from (Int.toNat (zget t_tA (Int.toNat i6)))) + (zget t_from (Int.toNat (zget t_tB (Int.toNat i6))))))))
  else
  some (.inr (71, i1, 0, 0, (1 : Int), (i6 + (1 : Int)), t_lines, t_linesFor, t_numberOf, t_lesser, t_greater, t_tA, t_tB, t_tC, (zset t_from (Int.toNat (zget t_tB (Int.toNat i6))) ((zget t_from (Int.toNat (zget t_tA (Int.toNat i6)))) + (zget t_from (Int.toNat (zget t_tC (Int.toNat i6))))))))
  else
  some (.inr (71, i1, 0, 0, (1 : Int), (i6 + (1 : Int)), t_lines, t_linesFor, t_numberOf, t_lesser, t_greater, t_tA, t_tB, t_tC, (zset t_from (Int.toNat (zget t_tA (Int.toNat i6))) ((zget t_from (Int.toNat (zget t_tB (Int.toNat i6)))) + (zget t_from (Int.toNat (zget t_tC (Int.toNat i6))))))))
  else
  some (.inr (71, i1, 0, 0, i5, (i6 + (1 : Int)), t_lines, t_linesFor, t_numberOf, t_lesser, t_greater, t_tA, t_tB, t_tC, t_from))
  else
  if zout (((0 : Int) + (1 : Int)) + (1 : Int)) then none else
  if (((0 : Int) + (1 : Int)) + (1 : Int)) = (1 : Int) then
  if 0 ≤ (zget t_from (Int.toNat (zget t_tA (Int.toNat i6)))) then
  if 0 ≤ (zget t_from (Int.toNat (zget t_tB (Int.toNat i6)))) then
  some (.inr (71, i1, 0, 0, (1 : Int), (i6 + (1 : Int)), t_lines, t_linesFor, t_numberOf, t_lesser, t_greater, t_tA, t_tB, t_tC, (zset t_from (Int.toNat (zget t_tC (Int.toNat i6))) ((zget t_from (Int.toNat (zget t_tA (Int.toNat i6)))) + (zget t_from (Int.toNat (zget t_tB (Int.toNat i6))))))))
  else
  some (.inr (71, i1, 0, 0, (1 : Int), (i6 + (1 : Int)), t_lines, t_linesFor, t_numberOf, t_lesser, t_greater, t_tA, t_tB, t_tC, (zset t_from (Int.toNat (zget t_tB (Int.toNat i6))) ((zget t_from (Int.toNat (zget t_tA (Int.toNat i6)))) + (zget t_from (Int.toNat (zget t_tC (Int.toNat i6))))))))
  else
  some (.inr (71, i1, 0, 0, (1 : Int), (i6 + (1 : Int)), t_lines, t_linesFor, t_numberOf, t_lesser, t_greater, t_tA, t_tB, t_tC, (zset t_from (Int.toNat (zget t_tA (Int.toNat i6))) ((zget t_from (Int.toNat (zget t_tB (Int.toNat i6)))) + (zget t_from (Int.toNat (zget t_tC (Int.toNat i6))))))))
  else
  some (.inr (71, i1, 0, 0, i5, (i6 + (1 : Int)), t_lines, t_linesFor, t_numberOf, t_lesser, t_greater, t_tA, t_tB, t_tC, t_from))
  else
  if (zget t_tB (Int.toNat i6)) < 0 ∨ 10 ≤ (zget t_tB (Int.toNat i6)) then none else
  if 0 ≤ (zget t_from (Int.toNat (zget t_tB (Int.toNat i6)))) then
  if (zget t_tC (Int.toNat i6)) < 0 ∨ 10 ≤ (zget t_tC (Int.toNat i6)) then none else
  if 0 ≤ (zget t_from (Int.toNat (zget t_tC (Int.toNat i6)))) then
  if zout (((1 : Int) + (0 : Int)) + (0 : Int)) then none else
  if (((1 : Int) + (0 : Int)) + (0 : Int)) = (1 : Int) then
  if 0 ≤ (zget t_from (Int.toNat (zget t_tA (Int.toNat i6)))) then
  if 0 ≤ (zget t_from (Int.toNat (zget t_tB (Int.toNat i6)))) then
  some (.inr (71, i1, 0, 0, (1 : Int), (i6 + (1 : Int)), t_lines, t_linesFor, t_numberOf, t_lesser, t_greater, t_tA, t_tB, t_tC, (zset t_from (Int.toNat (zget t_tC (Int.toNat i6))) ((zget t_from (Int.toNat (zget t_tA (Int.toNat i6)))) + (zget t_from (Int.toNat (zget t_tB (Int.toNat i6))))))))
  else
  some (.inr (71, i1, 0, 0, (1 : Int), (i6 + (1 : Int)), t_lines, t_linesFor, t_numberOf, t_lesser, t_greater, t_tA, t_tB, t_tC, (zset t_from (Int.toNat (zget t_tB (Int.toNat i6))) ((zget t_from (Int.toNat (zget t_tA (Int.toNat i6)))) + (zget t_from (Int.toNat (zget t_tC (Int.toNat i6))))))))
  else
  some (.inr (71, i1, 0, 0, (1 : Int), (i6 + (1 : Int)), t_lines, t_linesFor, t_numberOf, t_lesser, t_greater, t_tA, t_tB, t_tC, (zset t_from (Int.toNat (zget t_tA (Int.toNat i6))) ((zget t_from (Int.toNat (zget t_tB (Int.toNat i6)))) + (zget t_from (Int.toNat (zget t_tC (Int.toNat i6))))))))
  else
  some (.inr (71, i1, 0, 0, i5, (i6 + (1 : Int)), t_lines, t_linesFor, t_numberOf, t_lesser, t_greater, t_tA, t_tB, t_tC, t_from))
  else
  if zout (((1 : Int) + (0 : Int)) + (1 : Int)) then none else
  if (((1 : Int) + (0 : Int)) + (1 : Int)) = (1 : Int) then
  if 0 ≤ (zget t_from (Int.toNat (zget t_tA (Int.toNat i6)))) then
  if 0 ≤ (zget t_from (Int.toNat (zget t_tB (Int.toNat i6)))) then
  some (.inr (71, i1, 0, 0, (1 : Int), (i6 + (1 : Int)), t_lines, t_linesFor, t_numberOf, t_lesser, t_greater, t_tA, t_tB, t_tC, (zset t_from (Int.toNat (zget t_tC (Int.toNat i6))) ((zget t_from (Int.toNat (zget t_tA (Int.toNat i6)))) + (zget t_from (Int.toNat (zget t_tB (Int.toNat i6))))))))
  else
  some (.inr (71, i1, 0, 0, (1 : Int), (i6 + (1 : Int)), t_lines, t_linesFor, t_numberOf, t_lesser, t_greater, t_tA, t_tB, t_tC, (zset t_from (Int.toNat (zget t_tB (Int.toNat i6))) ((zget t_from (Int.toNat (zget t_tA (Int.toNat i6)))) + (zget t_from (Int.toNat (zget t_tC (Int.toNat i6))))))))
  else
  some (.inr (71, i1, 0, 0, (1 : Int), (i6 + (1 : Int)), t_lines, t_linesFor, t_numberOf, t_lesser, t_greater, t_tA, t_tB, t_tC, (zset t_from (Int.toNat (zget t_tA (Int.toNat i6))) ((zget t_from (Int.toNat (zget t_tB (Int.toNat i6)))) + (zget t_from (Int.toNat (zget t_tC (Int.toNat i6))))))))
  else
  some (.inr (71, i1, 0, 0, i5, (i6 + (1 : Int)), t_lines, t_linesFor, t_numberOf, t_lesser, t_greater, t_tA, t_tB, t_tC, t_from))
  else
  if (zget t_tC (Int.toNat i6)) < 0 ∨ 10 ≤ (zget t_tC (Int.toNat i6)) then none else
  if 0 ≤ (zget t_from (Int.toNat (zget t_tC (Int.toNat i6)))) then
  if zout (((1 : Int) + (1 : Int)) + (0 : Int)) then none else
  if (((1 : Int) + (1 : Int)) + (0 : Int)) = (1 : Int) then
  if 0 ≤ (zget t_from (Int.toNat (zget t_tA (Int.toNat i6)))) then
  if 0 ≤ (zget t_from (Int.toNat (zget t_tB (Int.toNat i6)))) then
  some (.inr (71, i1, 0, 0, (1 : Int), (i6 + (1 : Int)), t_lines, t_linesFor, t_numberOf, t_lesser, t_greater, t_tA, t_tB, t_tC, (zset t_from (Int.toNat (zget t_tC (Int.toNat i6))) ((zget t_from (Int.toNat (zget t_tA (Int.toNat i6)))) + (zget t_from (Int.toNat (zget t_tB (Int.toNat i6))))))))
  else
  some (.inr (71, i1, 0, 0, (1 : Int), (i6 + (1 : Int)), t_lines, t_linesFor, t_numberOf, t_lesser, t_greater, t_tA, t_tB, t_tC, (zset t_from (Int.toNat (zget t_tB (Int.toNat i6))) ((zget t_from (Int.toNat (zget t_tA (Int.toNat i6)))) + (zget t_from (Int.toNat (zget t_tC (Int.toNat i6))))))))
  else
  some (.inr (71, i1, 0, 0, (1 : Int), (i6 + (1 : Int)), t_lines, t_linesFor, t_numberOf, t_lesser, t_greater, t_tA, t_tB, t_tC, (zset t_from (Int.toNat (zget t_tA (Int.toNat i6))) ((zget t_from (Int.toNat (zget t_tB (Int.toNat i6)))) + (zget t_from (Int.toNat (zget t_tC (Int.toNat i6))))))))
  else
  some (.inr (71, i1, 0, 0, i5, (i6 + (1 : Int)), t_lines, t_linesFor, t_numberOf, t_lesser, t_greater, t_tA, t_tB, t_tC, t_from))
  else
  if zout (((1 : Int) + (1 : Int)) + (1 : Int)) then none else
  if (((1 : Int) + (1 : Int)) + (1 : Int)) = (1 : Int) then
  if 0 ≤ (zget t_from (Int.toNat (zget t_tA (Int.toNat i6)))) then
  if 0 ≤ (zget t_from (Int.toNat (zget t_tB (Int.toNat i6)))) then
  some (.inr (71, i1, 0, 0, (1 : Int), (i6 + (1 : Int)), t_lines, t_linesFor, t_numberOf, t_lesser, t_greater, t_tA, t_tB, t_tC, (zset t_from (Int.toNat (zget t_tC (Int.toNat i6))) ((zget t_from (Int.toNat (zget t_tA (Int.toNat i6)))) + (zget t_from (Int.toNat (zget t_tB (Int.toNat i6))))))))
  else
  some (.inr (71, i1, 0, 0, (1 : Int), (i6 + (1 : Int)), t_lines, t_linesFor, t_numberOf, t_lesser, t_greater, t_tA, t_tB, t_tC, (zset t_from (Int.toNat (zget t_tB (Int.toNat i6))) ((zget t_from (Int.toNat (zget t_tA (Int.toNat i6)))) + (zget t_from (Int.toNat (zget t_tC (Int.toNat i6))))))))
  else
  some (.inr (71, i1, 0, 0, (1 : Int), (i6 + (1 : Int)), t_lines, t_linesFor, t_numberOf, t_lesser, t_greater, t_tA, t_tB, t_tC, (zset t_from (Int.toNat (zget t_tA (Int.toNat i6))) ((zget t_from (Int.toNat (zget t_tB (Int.toNat i6)))) + (zget t_from (Int.toNat (zget t_tC (Int.toNat i6))))))))
  else
  some (.inr (71, i1, 0, 0, i5, (i6 + (1 : Int)), t_lines, t_linesFor, t_numberOf, t_lesser, t_greater, t_tA, t_tB, t_tC, t_from))
noncomputable def zg_X11_entriesFrom   (st : zS_X11_entriesFrom) : Option (zO_X11_entriesFrom ⊕ zS_X11_entriesFrom) := match st with
  | (lab, i1, i2, i4, i5, i6, t_lines, t_linesFor, t_numberOf, t_lesser, t_greater, t_tA, t_tB, t_tC, t_from) => if lab = 0 then zg_X11_entriesFrom_0  i1 i2 i4 i5 i6 t_lines t_linesFor t_numberOf t_lesser t_greater t_tA t_tB t_tC t_from else if lab = 9 then zg_X11_entriesFrom_9  i1 i2 i4 i5 i6 t_lines t_linesFor t_numberOf t_lesser t_greater t_tA t_tB t_tC t_from else if lab = 60 then zg_X11_entriesFrom_60  i1 i2 i4 i5 i6 t_lines t_linesFor t_numberOf t_lesser t_greater t_tA t_tB t_tC t_from else if lab = 71 then zg_X11_entriesFrom_71  i1 i2 i4 i5 i6 t_lines t_linesFor t_numberOf t_lesser t_greater t_tA t_tB t_tC t_from else none
noncomputable def zf_X11_entriesFrom  (t_lines : Int) (t_linesFor : Int) (t_numberOf : Nat) (t_lesser : Nat) (t_greater : Nat) (t_tA : Nat) (t_tB : Nat) (t_tC : Nat) (t_from : Nat) (i1 : Int) (i2 : Int) (i4 : Int) : Option (Int × Int × Nat × Nat × Nat × Nat × Nat × Nat × Nat) := jrun (zg_X11_entriesFrom ) jfuel (0, i1, i2, i4, 0, 0, t_lines, t_linesFor, t_numberOf, t_lesser, t_greater, t_tA, t_tB, t_tC, t_from)
noncomputable def zf_X11_entryOf  (t_lines : Int) (t_linesFor : Int) (t_numberOf : Nat) (t_lesser : Nat) (t_greater : Nat) (t_tA : Nat) (t_tB : Nat) (t_tC : Nat) (t_from : Nat) (i1 : Int) (i2 : Int) (i4 : Int) (i5 : Int) : Option (Int × Int × Int × Nat × Nat × Nat × Nat × Nat × Nat × Nat) :=
  Option.bind (zf_X11_entriesFrom t_lines t_linesFor t_numberOf t_lesser t_greater t_tA t_tB t_tC t_from i1 i2 i4) (fun o1 =>
  if i5 < 0 ∨ 10 ≤ i5 then none else
  some ((zget (o1.2.2.2.2.2.2.2.2) (Int.toNat i5)), (o1.1), (o1.2.1), (o1.2.2.1), (o1.2.2.2.1), (o1.2.2.2.2.1), (o1.2.2.2.2.2.1), (o1.2.2.2.2.2.2.1), (o1.2.2.2.2.2.2.2.1), (o1.2.2.2.2.2.2.2.2)))
noncomputable def zf_X11_entry  (t_corners : Int) (t_lines : Int) (t_linesFor : Int) (t_own : Int) (t_numberOf : Nat) (t_lesser : Nat) (t_greater : Nat) (t_tA : Nat) (t_tB : Nat) (t_tC : Nat) (t_from : Nat) (i1 : Int) (i2 : Int) : Option (Int × Int × Int × Nat × Nat × Nat × Nat × Nat × Nat × Nat) :=
  Option.bind (zf_X11_isCorner t_corners i1) (fun o1 =>
  if o1 = false then
  some ((-2 : Int), t_lines, t_linesFor, t_numberOf, t_lesser, t_greater, t_tA, t_tB, t_tC, t_from)
  else
  Option.bind (zf_X11_isCorner t_corners i2) (fun o2 =>
  if o2 = false then
  some ((-2 : Int), t_lines, t_linesFor, t_numberOf, t_lesser, t_greater, t_tA, t_tB, t_tC, t_from)
  else
  Option.bind (zf_X11_entryOf t_lines t_linesFor t_numberOf t_lesser t_greater t_tA t_tB t_tC t_from t_corners t_own i1 i2) (fun o3 =>
  some ((o3.1), (o3.2.1), (o3.2.2.1), (o3.2.2.2.1), (o3.2.2.2.2.1), (o3.2.2.2.2.2.1), (o3.2.2.2.2.2.2.1), (o3.2.2.2.2.2.2.2.1), (o3.2.2.2.2.2.2.2.2.1), (o3.2.2.2.2.2.2.2.2.2)))))
abbrev zS_X11_rowAt : Type := Nat × Int × Int × Int × Int × Int
abbrev zO_X11_rowAt : Type := Int
noncomputable def zg_X11_rowAt_0  (t_numberOf : Nat) (i1 : Int) (i2 : Int) (i4 : Int) (i5 : Int) (i6 : Int) : Option (zO_X11_rowAt ⊕ zS_X11_rowAt) :=
  some (.inr (6, i1, i2, i4, (1 : Int), (0 : Int)))
noncomputable def zg_X11_rowAt_6  (t_numberOf : Nat) (i1 : Int) (i2 : Int) (i4 : Int) (i5 : Int) (i6 : Int) : Option (zO_X11_rowAt ⊕ zS_X11_rowAt) :=
  if zout i6 then none else
  if zout i1 then none else
  if i1 ≤ i6 then
  some (.inl (i5))
  else
  Option.bind (zf_X11_isLine i1 i4 i6) (fun o3 =>
  if o3 = false then
  some (.inr (6, i1, i2, i4, (i5 + (0 : Int)), (i6 + (1 : Int))))
  else
  Option.bind (zf_X11_near t_numberOf i1 i2 i4 i6) (fun o4 =>
  if o4 = false then
  some (.inr (6, i1, i2, i4, (i5 + (0 : Int)), (i6 + (1 : Int))))
  else
  some (.inr (6, i1, i2, i4, (i5 + (1 : Int)), (i6 + (1 : Int))))))
noncomputable def zg_X11_rowAt  (t_numberOf : Nat) (st : zS_X11_rowAt) : Option (zO_X11_rowAt ⊕ zS_X11_rowAt) := match st with
  | (lab, i1, i2, i4, i5, i6) => if lab = 0 then zg_X11_rowAt_0 t_numberOf i1 i2 i4 i5 i6 else if lab = 6 then zg_X11_rowAt_6 t_numberOf i1 i2 i4 i5 i6 else none
noncomputable def zf_X11_rowAt  (t_numberOf : Nat) (i1 : Int) (i2 : Int) (i4 : Int) : Option (Int) := jrun (zg_X11_rowAt t_numberOf) jfuel (0, i1, i2, i4, 0, 0)
noncomputable def zf_X11_row  (t_corners : Int) (t_lines : Int) (t_linesFor : Int) (t_own : Int) (t_numberOf : Nat) (t_lesser : Nat) (t_greater : Nat) (i1 : Int) : Option (Int × Int × Int × Nat × Nat × Nat) :=
  Option.bind (zf_X11_isCorner t_corners i1) (fun o1 =>
  if o1 = false then
  some ((-2 : Int), t_lines, t_linesFor, t_numberOf, t_lesser, t_greater)
  else
  Option.bind (zf_X11_linesOf t_lines t_linesFor t_numberOf t_lesser t_greater t_corners) (fun o2 =>
  Option.bind (zf_X11_rowAt (o2.2.2.1) t_corners t_own i1) (fun o3 =>
  some (o3, (o2.1), (o2.2.1), (o2.2.2.1), (o2.2.2.2.1), (o2.2.2.2.2)))))
abbrev zS_X11_isWay : Type := Nat × Int × Int × Int × Int × Int × Int × Int × Nat
abbrev zO_X11_isWay : Type := Bool × Int × Nat
noncomputable def zg_X11_isWay_0 (rec : Int → Int → Nat → Nat → Nat → Nat → Int → Int → Int → Int → Option (Bool × Int × Nat))  (t_corners : Int) (t_tA : Nat) (t_tB : Nat) (t_tC : Nat) (i1 : Int) (i2 : Int) (i3 : Int) (i4 : Int) (i5 : Int) (i6 : Int) (t_wayLeft : Int) (t_wayAt : Nat) : Option (zO_X11_isWay ⊕ zS_X11_isWay) :=
  if zout (i1 + i3) then none else
  if zout t_corners then none else
  if t_corners = 0 then none else
  if zout (Int.tmod (i1 + i3) t_corners) then none else
  if zout i2 then none else
  if (Int.tmod (i1 + i3) t_corners) = i2 then
  if zout (t_wayLeft - (1 : Int)) then none else
  if 0 ≤ (t_wayLeft - (1 : Int)) then
  some (.inl (false, (t_wayLeft - (1 : Int)), t_wayAt))
  else
  some (.inl (true, (t_wayLeft - (1 : Int)), t_wayAt))
  else
  some (.inr (42, i1, i2, i3, i4, (Int.tmod (i1 + i3) t_corners), (0 : Int), t_wayLeft, t_wayAt))
noncomputable def zg_X11_isWay_42 (rec : Int → Int → Nat → Nat → Nat → Nat → Int → Int → Int → Int → Option (Bool × Int × Nat))  (t_corners : Int) (t_tA : Nat) (t_tB : Nat) (t_tC : Nat) (i1 : Int) (i2 : Int) (i3 : Int) (i4 : Int) (i5 : Int) (i6 : Int) (t_wayLeft : Int) (t_wayAt : Nat) : Option (zO_X11_isWay ⊕ zS_X11_isWay) :=
  if zout i6 then none else
  if zout (t_corners - (2 : Int)) then none else
  if (t_corners - (2 : Int)) ≤ i6 then
  some (.inl (false, t_wayLeft, t_wayAt))
  else
  if (zand (zshr i4 i6) (1 : Int)) = (1 : Int) then
  some (.inr (42, i1, i2, i3, i4, i5, (i6 + (1 : Int)), t_wayLeft, t_wayAt))
  else
  Option.bind (zf_X11_isAt t_tA t_tB t_tC i6 i5) (fun o11 =>
  if o11 = false then
  some (.inr (42, i1, i2, i3, i4, i5, (i6 + (1 : Int)), t_wayLeft, t_wayAt))
  else
  if i5 < 0 ∨ 10 ≤ i5 then none else
  Option.bind (rec t_corners t_wayLeft t_tA t_tB t_tC (zset t_wayAt (Int.toNat i5) i6) i1 i2 (i3 + (1 : Int)) (zor i4 (zshl (1 : Int) i6))) (fun o13 =>
  if (o13.1) = false then
  some (.inr (42, i1, i2, i3, i4, i5, (i6 + (1 : Int)), (o13.2.1), (o13.2.2)))
  else
  some (.inl (true, (o13.2.1), (o13.2.2)))))
noncomputable def zg_X11_isWay (rec : Int → Int → Nat → Nat → Nat → Nat → Int → Int → Int → Int → Option (Bool × Int × Nat))  (t_corners : Int) (t_tA : Nat) (t_tB : Nat) (t_tC : Nat) (st : zS_X11_isWay) : Option (zO_X11_isWay ⊕ zS_X11_isWay) := match st with
  | (lab, i1, i2, i3, i4, i5, i6, t_wayLeft, t_wayAt) => if lab = 0 then zg_X11_isWay_0 rec t_corners t_tA t_tB t_tC i1 i2 i3 i4 i5 i6 t_wayLeft t_wayAt else if lab = 42 then zg_X11_isWay_42 rec t_corners t_tA t_tB t_tC i1 i2 i3 i4 i5 i6 t_wayLeft t_wayAt else none
noncomputable def zf_X11_isWay (d : Nat) : Int → Int → Nat → Nat → Nat → Nat → Int → Int → Int → Int → Option (Bool × Int × Nat) := Nat.rec (fun _ _ _ _ _ _ _ _ _ _ => none) (fun _ rec t_corners t_wayLeft t_tA t_tB t_tC t_wayAt i1 i2 i3 i4 => jrun (zg_X11_isWay rec t_corners t_tA t_tB t_tC) jfuel (0, i1, i2, i3, i4, 0, 0, t_wayLeft, t_wayAt)) d
noncomputable def zf_X11_way  (t_corners : Int) (t_lines : Int) (t_linesFor : Int) (t_own : Int) (t_wayLeft : Int) (t_numberOf : Nat) (t_lesser : Nat) (t_greater : Nat) (t_tA : Nat) (t_tB : Nat) (t_tC : Nat) (t_wayAt : Nat) (i1 : Int) (i2 : Int) (i3 : Int) (i4 : Int) : Option (Int × Int × Int × Int × Nat × Nat × Nat × Nat × Nat × Nat × Nat) :=
  Option.bind (zf_X11_isCorner t_corners i1) (fun o1 =>
  if o1 = false then
  some ((-2 : Int), t_lines, t_linesFor, t_wayLeft, t_numberOf, t_lesser, t_greater, t_tA, t_tB, t_tC, t_wayAt)
  else
  Option.bind (zf_X11_isCorner t_corners i2) (fun o2 =>
  if o2 = false then
  some ((-2 : Int), t_lines, t_linesFor, t_wayLeft, t_numberOf, t_lesser, t_greater, t_tA, t_tB, t_tC, t_wayAt)
  else
  if zout i1 then none else
  if zout i2 then none else
  if i1 = i2 then
  some ((-2 : Int), t_lines, t_linesFor, t_wayLeft, t_numberOf, t_lesser, t_greater, t_tA, t_tB, t_tC, t_wayAt)
  else
  Option.bind (zf_X11_isCorner t_corners i4) (fun o5 =>
  if o5 = false then
  some ((-2 : Int), t_lines, t_linesFor, t_wayLeft, t_numberOf, t_lesser, t_greater, t_tA, t_tB, t_tC, t_wayAt)
  else
  if zout i3 then none else
  if 0 ≤ i3 then
  Option.bind (zf_X11_trianglesOf t_lines t_linesFor t_numberOf t_lesser t_greater t_tA t_tB t_tC t_corners t_own) (fun o7 =>
  Option.bind (zf_X11_isWay 11 t_corners i3 (o7.2.2.2.2.2.1) (o7.2.2.2.2.2.2.1) (o7.2.2.2.2.2.2.2) t_wayAt i1 i2 (1 : Int) (0 : Int)) (fun o8 =>
  if (o8.1) = false then
  some ((-2 : Int), (o7.1), (o7.2.1), (o8.2.1), (o7.2.2.1), (o7.2.2.2.1), (o7.2.2.2.2.1), (o7.2.2.2.2.2.1), (o7.2.2.2.2.2.2.1), (o7.2.2.2.2.2.2.2), (o8.2.2))
  else
  Option.bind (zf_X11_isBetween t_corners i1 i4 i2) (fun o9 =>
  if o9 = false then
  some ((-1 : Int), (o7.1), (o7.2.1), (o8.2.1), (o7.2.2.1), (o7.2.2.2.1), (o7.2.2.2.2.1), (o7.2.2.2.2.2.1), (o7.2.2.2.2.2.2.1), (o7.2.2.2.2.2.2.2), (o8.2.2))
  else
  if i4 < 0 ∨ 10 ≤ i4 then none else
  some ((zget (o8.2.2) (Int.toNat i4)), (o7.1), (o7.2.1), (o8.2.1), (o7.2.2.1), (o7.2.2.2.1), (o7.2.2.2.2.1), (o7.2.2.2.2.2.1), (o7.2.2.2.2.2.2.1), (o7.2.2.2.2.2.2.2), (o8.2.2)))))
  else
  some ((-2 : Int), t_lines, t_linesFor, t_wayLeft, t_numberOf, t_lesser, t_greater, t_tA, t_tB, t_tC, t_wayAt))))
abbrev zS_X11_flipped : Type := Nat × Int × Int × Int × Int × Int × Int × Int
abbrev zO_X11_flipped : Type := Int × Int × Int
noncomputable def zg_X11_flipped_0  (t_numberOf : Nat) (i1 : Int) (i2 : Int) (i4 : Int) (i5 : Int) (i6 : Int) (t_flipOne : Int) (t_flipTwo : Int) : Option (zO_X11_flipped ⊕ zS_X11_flipped) :=
  some (.inr (8, i1, i2, i4, i5, (0 : Int), (-1 : Int), t_flipTwo))
noncomputable def zg_X11_flipped_8  (t_numberOf : Nat) (i1 : Int) (i2 : Int) (i4 : Int) (i5 : Int) (i6 : Int) (t_flipOne : Int) (t_flipTwo : Int) : Option (zO_X11_flipped ⊕ zS_X11_flipped) :=
  if zout i6 then none else
  if zout i1 then none else
  if i1 ≤ i6 then
  if (((10 : Int) * i4) + i5) < 0 ∨ 100 ≤ (((10 : Int) * i4) + i5) then none else
  if (((10 : Int) * t_flipOne) + t_flipTwo) < 0 ∨ 100 ≤ (((10 : Int) * t_flipOne) + t_flipTwo) then none else
  some (.inl ((zorL (zandL i2 (zxorL (zshlL (1 : Int) (zget t_numberOf (Int.toNat (((10 : Int) * i4) + i5)))) (-1 : Int))) (zshlL (1 : Int) (zget t_numberOf (Int.toNat (((10 : Int) * t_flipOne) + t_flipTwo))))), t_flipOne, t_flipTwo))
  else
  if zout i4 then none else
  if i6 = i4 then
  some (.inr (8, i1, i2, i4, i5, (i6 + (1 : Int)), t_flipOne, t_flipTwo))
  else
  if zout i5 then none else
  if i6 = i5 then
  some (.inr (8, i1, i2, i4, i5, (i6 + (1 : Int)), t_flipOne, t_flipTwo))
  else
  Option.bind (zf_X11_near t_numberOf i1 i2 i6 i4) (fun o7 =>
  if o7 = false then
  some (.inr (8, i1, i2, i4, i5, (i6 + (1 : Int)), t_flipOne, t_flipTwo))
  else
  Option.bind (zf_X11_near t_numberOf i1 i2 i6 i5) (fun o8 =>
  if o8 = false then
  some (.inr (8, i1, i2, i4, i5, (i6 + (1 : Int)), t_flipOne, t_flipTwo))
  else
  if zout t_flipOne then none else
  if t_flipOne = (-1 : Int) then
  some (.inr (8, i1, i2, i4, i5, (i6 + (1 : Int)), i6, i6))
  else
  some (.inr (8, i1, i2, i4, i5, (i6 + (1 : Int)), t_flipOne, i6))))
noncomputable def zg_X11_flipped  (t_numberOf : Nat) (st : zS_X11_flipped) : Option (zO_X11_flipped ⊕ zS_X11_flipped) := match st with
  | (lab, i1, i2, i4, i5, i6, t_flipOne, t_flipTwo) => if lab = 0 then zg_X11_flipped_0 t_numberOf i1 i2 i4 i5 i6 t_flipOne t_flipTwo else if lab = 8 then zg_X11_flipped_8 t_numberOf i1 i2 i4 i5 i6 t_flipOne t_flipTwo else none
noncomputable def zf_X11_flipped  (t_flipOne : Int) (t_flipTwo : Int) (t_numberOf : Nat) (i1 : Int) (i2 : Int) (i4 : Int) (i5 : Int) : Option (Int × Int × Int) := jrun (zg_X11_flipped t_numberOf) jfuel (0, i1, i2, i4, i5, 0, t_flipOne, t_flipTwo)
noncomputable def zf_X11_flip  (t_corners : Int) (t_lines : Int) (t_linesFor : Int) (t_own : Int) (t_flipOne : Int) (t_flipTwo : Int) (t_numberOf : Nat) (t_lesser : Nat) (t_greater : Nat) (i1 : Int) (i2 : Int) : Option (Int × Int × Int × Int × Int × Int × Nat × Nat × Nat) :=
  Option.bind (zf_X11_isCorner t_corners i1) (fun o1 =>
  if o1 = false then
  some ((-2 : Int), t_lines, t_linesFor, t_own, t_flipOne, t_flipTwo, t_numberOf, t_lesser, t_greater)
  else
  Option.bind (zf_X11_isCorner t_corners i2) (fun o2 =>
  if o2 = false then
  some ((-2 : Int), t_lines, t_linesFor, t_own, t_flipOne, t_flipTwo, t_numberOf, t_lesser, t_greater)
  else
  Option.bind (zf_X11_linesOf t_lines t_linesFor t_numberOf t_lesser t_greater t_corners) (fun o3 =>
  Option.bind (zf_X11_isLine t_corners i1 i2) (fun o4 =>
  if o4 = false then
  some ((-1 : Int), (o3.1), (o3.2.1), t_own, t_flipOne, t_flipTwo, (o3.2.2.1), (o3.2.2.2.1), (o3.2.2.2.2))
  else
  Option.bind (zf_X11_near (o3.2.2.1) t_corners t_own i1 i2) (fun o5 =>
  if o5 = false then
  some ((-1 : Int), (o3.1), (o3.2.1), t_own, t_flipOne, t_flipTwo, (o3.2.2.1), (o3.2.2.2.1), (o3.2.2.2.2))
  else
  Option.bind (zf_X11_flipped t_flipOne t_flipTwo (o3.2.2.1) t_corners t_own i1 i2) (fun o6 =>
  some ((((16 : Int) * (o6.2.1)) + (o6.2.2)), (o3.1), (o3.2.1), (o6.1), (o6.2.1), (o6.2.2), (o3.2.2.1), (o3.2.2.2.1), (o3.2.2.2.2))))))))
abbrev zS_X11_spreadFrom : Type := Nat × Int × Int × Int × Int × Int × Int × Int × Nat × Nat
abbrev zO_X11_spreadFrom : Type := Int × Int × Nat × Nat
noncomputable def zg_X11_spreadFrom_0  (t_corners : Int) (t_lines : Int) (t_listMany : Int) (t_numberOf : Nat) (t_lesser : Nat) (t_greater : Nat) (t_list : Nat) (i1 : Int) (i2 : Int) (i3 : Int) (i4 : Int) (i6 : Int) (t_flipOne : Int) (t_flipTwo : Int) (t_far : Nat) (t_queue : Nat) : Option (zO_X11_spreadFrom ⊕ zS_X11_spreadFrom) :=
  some (.inr (2, i1, (0 : Int), 0, 0, 0, t_flipOne, t_flipTwo, t_far, t_queue))
noncomputable def zg_X11_spreadFrom_2  (t_corners : Int) (t_lines : Int) (t_listMany : Int) (t_numberOf : Nat) (t_lesser : Nat) (t_greater : Nat) (t_list : Nat) (i1 : Int) (i2 : Int) (i3 : Int) (i4 : Int) (i6 : Int) (t_flipOne : Int) (t_flipTwo : Int) (t_far : Nat) (t_queue : Nat) : Option (zO_X11_spreadFrom ⊕ zS_X11_spreadFrom) :=
  if zout i2 then none else
  if zout t_listMany then none else
  if t_listMany ≤ i2 then
  if i1 < 0 ∨ 429 ≤ i1 then none else
  some (.inr (41, i1, (1 : Int), (0 : Int), 0, 0, t_flipOne, t_flipTwo, (zset t_far (Int.toNat i1) (0 : Int)), (zset t_queue (Int.toNat (0 : Int)) i1)))
  else
  if i2 < 0 ∨ 429 ≤ i2 then none else
  some (.inr (2, i1, (i2 + (1 : Int)), 0, 0, 0, t_flipOne, t_flipTwo, (zset t_far (Int.toNat i2) (-1 : Int)), t_queue))
noncomputable def zg_X11_spreadFrom_41  (t_corners : Int) (t_lines : Int) (t_listMany : Int) (t_numberOf : Nat) (t_lesser : Nat) (t_greater : Nat) (t_list : Nat) (i1 : Int) (i2 : Int) (i3 : Int) (i4 : Int) (i6 : Int) (t_flipOne : Int) (t_flipTwo : Int) (t_far : Nat) (t_queue : Nat) : Option (zO_X11_spreadFrom ⊕ zS_X11_spreadFrom) :=
  if zout i3 then none else
  if zout i2 then none else
  if i2 ≤ i3 then
  some (.inl (t_flipOne, t_flipTwo, t_far, t_queue))
  else
  if i3 < 0 ∨ 429 ≤ i3 then none else
  if (zget t_queue (Int.toNat i3)) < 0 ∨ 429 ≤ (zget t_queue (Int.toNat i3)) then none else
  some (.inr (62, 0, i2, i3, (zgetL t_list (Int.toNat (zget t_queue (Int.toNat i3)))), (0 : Int), t_flipOne, t_flipTwo, t_far, t_queue))
noncomputable def zg_X11_spreadFrom_62  (t_corners : Int) (t_lines : Int) (t_listMany : Int) (t_numberOf : Nat) (t_lesser : Nat) (t_greater : Nat) (t_list : Nat) (i1 : Int) (i2 : Int) (i3 : Int) (i4 : Int) (i6 : Int) (t_flipOne : Int) (t_flipTwo : Int) (t_far : Nat) (t_queue : Nat) : Option (zO_X11_spreadFrom ⊕ zS_X11_spreadFrom) :=
  if zout i6 then none else
  if zout t_lines then none else
  if t_lines ≤ i6 then
  some (.inr (41, 0, i2, (i3 + (1 : Int)), i4, i6, t_flipOne, t_flipTwo, t_far, t_queue))
  else
  if (zandL (zshrL i4 i6) (1 : Int)) = (0 : Int) then
  some (.inr (62, 0, i2, i3, i4, (i6 + (1 : Int)), t_flipOne, t_flipTwo, t_far, t_queue))
  else
  if i6 < 0 ∨ 35 ≤ i6 then none else
  Option.bind (zf_X11_flipped t_flipOne t_flipTwo t_numberOf t_corners i4 (zget t_lesser (Int.toNat i6)) (zget t_greater (Int.toNat i6))) (fun o14 =>
  Option.bind (zf_X11_placeOf t_listMany t_list (o14.1)) (fun o15 =>
  if o15 < 0 ∨ 429 ≤ o15 then none else
  if (zget t_far (Int.toNat o15)) = (-1 : Int) then
  if i3 < 0 ∨ 429 ≤ i3 then none else
  if (zget t_queue (Int.toNat i3)) < 0 ∨ 429 ≤ (zget t_queue (Int.toNat i3)) then none else
  if i2 < 0 ∨ 429 ≤ i2 then none else
  some (.inr (62, 0, (i2 + (1 : Int)), i3, i4, (i6 + (1 : Int)), (o14.2.1), (o14.2.2), (zset t_far (Int.toNat o15) ((zget t_far (Int.toNat (zget t_queue (Int.toNat i3)))) + (1 : Int))), (zset t_queue (Int.toNat i2) o15)))
  else
  some (.inr (62, 0, i2, i3, i4, (i6 + (1 : Int)), (o14.2.1), (o14.2.2), t_far, t_queue))))
noncomputable def zg_X11_spreadFrom  (t_corners : Int) (t_lines : Int) (t_listMany : Int) (t_numberOf : Nat) (t_lesser : Nat) (t_greater : Nat) (t_list : Nat) (st : zS_X11_spreadFrom) : Option (zO_X11_spreadFrom ⊕ zS_X11_spreadFrom) := match st with
  | (lab, i1, i2, i3, i4, i6, t_flipOne, t_flipTwo, t_far, t_queue) => if lab = 0 then zg_X11_spreadFrom_0 t_corners t_lines t_listMany t_numberOf t_lesser t_greater t_list i1 i2 i3 i4 i6 t_flipOne t_flipTwo t_far t_queue else if lab = 2 then zg_X11_spreadFrom_2 t_corners t_lines t_listMany t_numberOf t_lesser t_greater t_list i1 i2 i3 i4 i6 t_flipOne t_flipTwo t_far t_queue else if lab = 41 then zg_X11_spreadFrom_41 t_corners t_lines t_listMany t_numberOf t_lesser t_greater t_list i1 i2 i3 i4 i6 t_flipOne t_flipTwo t_far t_queue else if lab = 62 then zg_X11_spreadFrom_62 t_corners t_lines t_listMany t_numberOf t_lesser t_greater t_list i1 i2 i3 i4 i6 t_flipOne t_flipTwo t_far t_queue else none
noncomputable def zf_X11_spreadFrom  (t_corners : Int) (t_lines : Int) (t_listMany : Int) (t_flipOne : Int) (t_flipTwo : Int) (t_numberOf : Nat) (t_lesser : Nat) (t_greater : Nat) (t_list : Nat) (t_far : Nat) (t_queue : Nat) (i1 : Int) : Option (Int × Int × Nat × Nat) := jrun (zg_X11_spreadFrom t_corners t_lines t_listMany t_numberOf t_lesser t_greater t_list) jfuel (0, i1, 0, 0, 0, 0, t_flipOne, t_flipTwo, t_far, t_queue)
abbrev zS_X11_fewest : Type := Nat × Int × Int × Int × Int × Int × Int × Int × Int × Int × Int × Int × Int × Int × Int × Nat × Nat × Nat × Nat × Nat × Nat × Nat
abbrev zO_X11_fewest : Type := Int × Int × Int × Int × Int × Int × Int × Int × Nat × Nat × Nat × Nat × Nat × Nat × Nat
noncomputable def zg_X11_fewest_0  (t_corners : Int) (t_own : Int) (i1 : Int) (i2 : Int) (i3 : Int) (i4 : Int) (i5 : Int) (i6 : Int) (i8 : Int) (t_lines : Int) (t_linesFor : Int) (t_listMany : Int) (t_listCorners : Int) (t_flipOne : Int) (t_flipTwo : Int) (t_passedMany : Int) (t_numberOf : Nat) (t_lesser : Nat) (t_greater : Nat) (t_list : Nat) (t_far : Nat) (t_queue : Nat) (t_passedBy : Nat) : Option (zO_X11_fewest ⊕ zS_X11_fewest) :=
  Option.bind (zf_X11_listFor t_lines t_linesFor t_listMany t_listCorners t_numberOf t_lesser t_greater t_list t_corners) (fun o1 =>
  Option.bind (zf_X11_in i1 (0 : Int) ((o1.2.2.1) - (1 : Int))) (fun o2 =>
  if o2 = false then
  some (.inl ((-2 : Int), (o1.1), (o1.2.1), (o1.2.2.1), (o1.2.2.2.1), t_flipOne, t_flipTwo, t_passedMany, (o1.2.2.2.2.1), (o1.2.2.2.2.2.1), (o1.2.2.2.2.2.2.1), (o1.2.2.2.2.2.2.2), t_far, t_queue, t_passedBy))
  else
  Option.bind (zf_X11_spreadFrom t_corners (o1.1) (o1.2.2.1) t_flipOne t_flipTwo (o1.2.2.2.2.1) (o1.2.2.2.2.2.1) (o1.2.2.2.2.2.2.1) (o1.2.2.2.2.2.2.2) t_far t_queue i1) (fun o3 =>
  Option.bind (zf_X11_placeOf (o1.2.2.1) (o1.2.2.2.2.2.2.2) t_own) (fun o4 =>
  if o4 < 0 ∨ 429 ≤ o4 then none else
  some (.inr (63, i1, o4, (zget (o3.2.2.1) (Int.toNat o4)), (1 : Int), 0, 0, 0, (o1.1), (o1.2.1), (o1.2.2.1), (o1.2.2.2.1), (o3.1), (o3.2.1), ((zget (o3.2.2.1) (Int.toNat o4)) + (1 : Int)), (o1.2.2.2.2.1), (o1.2.2.2.2.2.1), (o1.2.2.2.2.2.2.1), (o1.2.2.2.2.2.2.2), (o3.2.2.1), (o3.2.2.2), (zset t_passedBy (Int.toNat (0 : Int)) o4)))))))
noncomputable def zg_X11_fewest_63  (t_corners : Int) (t_own : Int) (i1 : Int) (i2 : Int) (i3 : Int) (i4 : Int) (i5 : Int) (i6 : Int) (i8 : Int) (t_lines : Int) (t_linesFor : Int) (t_listMany : Int) (t_listCorners : Int) (t_flipOne : Int) (t_flipTwo : Int) (t_passedMany : Int) (t_numberOf : Nat) (t_lesser : Nat) (t_greater : Nat) (t_list : Nat) (t_far : Nat) (t_queue : Nat) (t_passedBy : Nat) : Option (zO_X11_fewest ⊕ zS_X11_fewest) :=
  if zout i4 then none else
  if zout i3 then none else
  if i3 < i4 then
  some (.inl (i3, t_lines, t_linesFor, t_listMany, t_listCorners, t_flipOne, t_flipTwo, t_passedMany, t_numberOf, t_lesser, t_greater, t_list, t_far, t_queue, t_passedBy))
  else
  if i2 < 0 ∨ 429 ≤ i2 then none else
  some (.inr (83, 0, i2, i3, i4, (-1 : Int), (zgetL t_list (Int.toNat i2)), (0 : Int), t_lines, t_linesFor, t_listMany, t_listCorners, t_flipOne, t_flipTwo, t_passedMany, t_numberOf, t_lesser, t_greater, t_list, t_far, t_queue, t_passedBy))
noncomputable def zg_X11_fewest_83  (t_corners : Int) (t_own : Int) (i1 : Int) (i2 : Int) (i3 : Int) (i4 : Int) (i5 : Int) (i6 : Int) (i8 : Int) (t_lines : Int) (t_linesFor : Int) (t_listMany : Int) (t_listCorners : Int) (t_flipOne : Int) (t_flipTwo : Int) (t_passedMany : Int) (t_numberOf : Nat) (t_lesser : Nat) (t_greater : Nat) (t_list : Nat) (t_far : Nat) (t_queue : Nat) (t_passedBy : Nat) : Option (zO_X11_fewest ⊕ zS_X11_fewest) :=
  if zout i8 then none else
  if zout t_lines then none else
  if t_lines ≤ i8 then
  if i4 < 0 ∨ 64 ≤ i4 then none else
  some (.inr (63, 0, i5, i3, (i4 + (1 : Int)), i5, i6, i8, t_lines, t_linesFor, t_listMany, t_listCorners, t_flipOne, t_flipTwo, t_passedMany, t_numberOf, t_lesser, t_greater, t_list, t_far, t_queue, (zset t_passedBy (Int.toNat i4) i5)))
  else
  if (zandL (zshrL i6 i8) (1 : Int)) = (0 : Int) then
  some (.inr (83, 0, 0, i3, i4, i5, i6, (i8 + (1 : Int)), t_lines, t_linesFor, t_listMany, t_listCorners, t_flipOne, t_flipTwo, t_passedMany, t_numberOf, t_lesser, t_greater, t_list, t_far, t_queue, t_passedBy))
  else
  if i8 < 0 ∨ 35 ≤ i8 then none else
  Option.bind (zf_X11_flipped t_flipOne t_flipTwo t_numberOf t_corners i6 (zget t_lesser (Int.toNat i8)) (zget t_greater (Int.toNat i8))) (fun o15 =>
  Option.bind (zf_X11_placeOf t_listMany t_list (o15.1)) (fun o16 =>
  if o16 < 0 ∨ 429 ≤ o16 then none else
  if zout (i3 - i4) then none else
  if (zget t_far (Int.toNat o16)) = (i3 - i4) then
  if zout i5 then none else
  if i5 = (-1 : Int) then
  some (.inr (83, 0, 0, i3, i4, o16, i6, (i8 + (1 : Int)), t_lines, t_linesFor, t_listMany, t_listCorners, (o15.2.1), (o15.2.2), t_passedMany, t_numberOf, t_lesser, t_greater, t_list, t_far, t_queue, t_passedBy))
  else
  if zout o16 then none else
  if i5 ≤ o16 then
  some (.inr (83, 0, 0, i3, i4, i5, i6, (i8 + (1 : Int)), t_lines, t_linesFor, t_listMany, t_listCorners, (o15.2.1), (o15.2.2), t_passedMany, t_numberOf, t_lesser, t_greater, t_list, t_far, t_queue, t_passedBy))
  else
  some (.inr (83, 0, 0, i3, i4, o16, i6, (i8 + (1 : Int)), t_lines, t_linesFor, t_listMany, t_listCorners, (o15.2.1), (o15.2.2), t_passedMany, t_numberOf, t_lesser, t_greater, t_list, t_far, t_queue, t_passedBy))
  else
  some (.inr (83, 0, 0, i3, i4, i5, i6, (i8 + (1 : Int)), t_lines, t_linesFor, t_listMany, t_listCorners, (o15.2.1), (o15.2.2), t_passedMany, t_numberOf, t_lesser, t_greater, t_list, t_far, t_queue, t_passedBy))))
noncomputable def zg_X11_fewest  (t_corners : Int) (t_own : Int) (st : zS_X11_fewest) : Option (zO_X11_fewest ⊕ zS_X11_fewest) := match st with
  | (lab, i1, i2, i3, i4, i5, i6, i8, t_lines, t_linesFor, t_listMany, t_listCorners, t_flipOne, t_flipTwo, t_passedMany, t_numberOf, t_lesser, t_greater, t_list, t_far, t_queue, t_passedBy) => if lab = 0 then zg_X11_fewest_0 t_corners t_own i1 i2 i3 i4 i5 i6 i8 t_lines t_linesFor t_listMany t_listCorners t_flipOne t_flipTwo t_passedMany t_numberOf t_lesser t_greater t_list t_far t_queue t_passedBy else if lab = 63 then zg_X11_fewest_63 t_corners t_own i1 i2 i3 i4 i5 i6 i8 t_lines t_linesFor t_listMany t_listCorners t_flipOne t_flipTwo t_passedMany t_numberOf t_lesser t_greater t_list t_far t_queue t_passedBy else if lab = 83 then zg_X11_fewest_83 t_corners t_own i1 i2 i3 i4 i5 i6 i8 t_lines t_linesFor t_listMany t_listCorners t_flipOne t_flipTwo t_passedMany t_numberOf t_lesser t_greater t_list t_far t_queue t_passedBy else none
noncomputable def zf_X11_fewest  (t_corners : Int) (t_lines : Int) (t_linesFor : Int) (t_listMany : Int) (t_listCorners : Int) (t_own : Int) (t_flipOne : Int) (t_flipTwo : Int) (t_passedMany : Int) (t_numberOf : Nat) (t_lesser : Nat) (t_greater : Nat) (t_list : Nat) (t_far : Nat) (t_queue : Nat) (t_passedBy : Nat) (i1 : Int) : Option (Int × Int × Int × Int × Int × Int × Int × Int × Nat × Nat × Nat × Nat × Nat × Nat × Nat) := jrun (zg_X11_fewest t_corners t_own) jfuel (0, i1, 0, 0, 0, 0, 0, 0, t_lines, t_linesFor, t_listMany, t_listCorners, t_flipOne, t_flipTwo, t_passedMany, t_numberOf, t_lesser, t_greater, t_list, t_far, t_queue, t_passedBy)
noncomputable def zf_X11_passed  (t_passedMany : Int) (t_passedBy : Nat) (i1 : Int) : Option (Int) :=
  Option.bind (zf_X11_in i1 (0 : Int) (t_passedMany - (1 : Int))) (fun o1 =>
  if o1 = false then
  some ((-1 : Int))
  else
  if i1 < 0 ∨ 64 ≤ i1 then none else
  some ((zget t_passedBy (Int.toNat i1))))
abbrev zS_X11_farthest : Type := Nat × Int × Int × Int × Int × Int × Int × Int × Int × Int × Int × Nat × Nat × Nat × Nat × Nat × Nat
abbrev zO_X11_farthest : Type := Int × Int × Int × Int × Int × Int × Int × Nat × Nat × Nat × Nat × Nat × Nat
noncomputable def zg_X11_farthest_0  (t_corners : Int) (t_own : Int) (i1 : Int) (i2 : Int) (i3 : Int) (i4 : Int) (t_lines : Int) (t_linesFor : Int) (t_listMany : Int) (t_listCorners : Int) (t_flipOne : Int) (t_flipTwo : Int) (t_numberOf : Nat) (t_lesser : Nat) (t_greater : Nat) (t_list : Nat) (t_far : Nat) (t_queue : Nat) : Option (zO_X11_farthest ⊕ zS_X11_farthest) :=
  Option.bind (zf_X11_in i1 (0 : Int) (1 : Int)) (fun o1 =>
  if o1 = false then
  some (.inl ((-1 : Int), t_lines, t_linesFor, t_listMany, t_listCorners, t_flipOne, t_flipTwo, t_numberOf, t_lesser, t_greater, t_list, t_far, t_queue))
  else
  Option.bind (zf_X11_ownNumber t_corners t_lines t_linesFor t_listMany t_listCorners t_own t_numberOf t_lesser t_greater t_list) (fun o2 =>
  Option.bind (zf_X11_spreadFrom t_corners (o2.2.1) (o2.2.2.2.1) t_flipOne t_flipTwo (o2.2.2.2.2.2.1) (o2.2.2.2.2.2.2.1) (o2.2.2.2.2.2.2.2.1) (o2.2.2.2.2.2.2.2.2) t_far t_queue (o2.1)) (fun o3 =>
  some (.inr (23, i1, (0 : Int), (0 : Int), 0, (o2.2.1), (o2.2.2.1), (o2.2.2.2.1), (o2.2.2.2.2.1), (o3.1), (o3.2.1), (o2.2.2.2.2.2.1), (o2.2.2.2.2.2.2.1), (o2.2.2.2.2.2.2.2.1), (o2.2.2.2.2.2.2.2.2), (o3.2.2.1), (o3.2.2.2))))))
noncomputable def zg_X11_farthest_23  (t_corners : Int) (t_own : Int) (i1 : Int) (i2 : Int) (i3 : Int) (i4 : Int) (t_lines : Int) (t_linesFor : Int) (t_listMany : Int) (t_listCorners : Int) (t_flipOne : Int) (t_flipTwo : Int) (t_numberOf : Nat) (t_lesser : Nat) (t_greater : Nat) (t_list : Nat) (t_far : Nat) (t_queue : Nat) : Option (zO_X11_farthest ⊕ zS_X11_farthest) :=
  if zout i3 then none else
  if zout t_listMany then none else
  if t_listMany ≤ i3 then
  some (.inr (63, i1, i2, (0 : Int), (0 : Int), t_lines, t_linesFor, t_listMany, t_listCorners, t_flipOne, t_flipTwo, t_numberOf, t_lesser, t_greater, t_list, t_far, t_queue))
  else
  if i3 < 0 ∨ 429 ≤ i3 then none else
  if zout i2 then none else
  if (zget t_far (Int.toNat i3)) ≤ i2 then
  some (.inr (23, i1, i2, (i3 + (1 : Int)), 0, t_lines, t_linesFor, t_listMany, t_listCorners, t_flipOne, t_flipTwo, t_numberOf, t_lesser, t_greater, t_list, t_far, t_queue))
  else
  some (.inr (23, i1, (zget t_far (Int.toNat i3)), (i3 + (1 : Int)), 0, t_lines, t_linesFor, t_listMany, t_listCorners, t_flipOne, t_flipTwo, t_numberOf, t_lesser, t_greater, t_list, t_far, t_queue))
noncomputable def zg_X11_farthest_63  (t_corners : Int) (t_own : Int) (i1 : Int) (i2 : Int) (i3 : Int) (i4 : Int) (t_lines : Int) (t_linesFor : Int) (t_listMany : Int) (t_listCorners : Int) (t_flipOne : Int) (t_flipTwo : Int) (t_numberOf : Nat) (t_lesser : Nat) (t_greater : Nat) (t_list : Nat) (t_far : Nat) (t_queue : Nat) : Option (zO_X11_farthest ⊕ zS_X11_farthest) :=
  if zout i4 then none else
  if zout t_listMany then none else
  if t_listMany ≤ i4 then
  if zout i1 then none else
  if i1 = 0 then
  some (.inl (i2, t_lines, t_linesFor, t_listMany, t_listCorners, t_flipOne, t_flipTwo, t_numberOf, t_lesser, t_greater, t_list, t_far, t_queue))
  else
  some (.inl (i3, t_lines, t_linesFor, t_listMany, t_listCorners, t_flipOne, t_flipTwo, t_numberOf, t_lesser, t_greater, t_list, t_far, t_queue))
  else
  if i4 < 0 ∨ 429 ≤ i4 then none else
  if zout i2 then none else
  if (zget t_far (Int.toNat i4)) = i2 then
  some (.inr (63, i1, i2, (i3 + (1 : Int)), (i4 + (1 : Int)), t_lines, t_linesFor, t_listMany, t_listCorners, t_flipOne, t_flipTwo, t_numberOf, t_lesser, t_greater, t_list, t_far, t_queue))
  else
  some (.inr (63, i1, i2, (i3 + (0 : Int)), (i4 + (1 : Int)), t_lines, t_linesFor, t_listMany, t_listCorners, t_flipOne, t_flipTwo, t_numberOf, t_lesser, t_greater, t_list, t_far, t_queue))
noncomputable def zg_X11_farthest  (t_corners : Int) (t_own : Int) (st : zS_X11_farthest) : Option (zO_X11_farthest ⊕ zS_X11_farthest) := match st with
  | (lab, i1, i2, i3, i4, t_lines, t_linesFor, t_listMany, t_listCorners, t_flipOne, t_flipTwo, t_numberOf, t_lesser, t_greater, t_list, t_far, t_queue) => if lab = 0 then zg_X11_farthest_0 t_corners t_own i1 i2 i3 i4 t_lines t_linesFor t_listMany t_listCorners t_flipOne t_flipTwo t_numberOf t_lesser t_greater t_list t_far t_queue else if lab = 23 then zg_X11_farthest_23 t_corners t_own i1 i2 i3 i4 t_lines t_linesFor t_listMany t_listCorners t_flipOne t_flipTwo t_numberOf t_lesser t_greater t_list t_far t_queue else if lab = 63 then zg_X11_farthest_63 t_corners t_own i1 i2 i3 i4 t_lines t_linesFor t_listMany t_listCorners t_flipOne t_flipTwo t_numberOf t_lesser t_greater t_list t_far t_queue else none
noncomputable def zf_X11_farthest  (t_corners : Int) (t_lines : Int) (t_linesFor : Int) (t_listMany : Int) (t_listCorners : Int) (t_own : Int) (t_flipOne : Int) (t_flipTwo : Int) (t_numberOf : Nat) (t_lesser : Nat) (t_greater : Nat) (t_list : Nat) (t_far : Nat) (t_queue : Nat) (i1 : Int) : Option (Int × Int × Int × Int × Int × Int × Int × Nat × Nat × Nat × Nat × Nat × Nat) := jrun (zg_X11_farthest t_corners t_own) jfuel (0, i1, 0, 0, 0, t_lines, t_linesFor, t_listMany, t_listCorners, t_flipOne, t_flipTwo, t_numberOf, t_lesser, t_greater, t_list, t_far, t_queue)
abbrev zS_X11_turned : Type := Nat × Int × Int × Int × Bool × Int × Int
abbrev zO_X11_turned : Type := Int
noncomputable def zg_X11_turned_0  (t_lines : Int) (t_numberOf : Nat) (t_lesser : Nat) (t_greater : Nat) (i1 : Int) (i2 : Int) (i4 : Int) (i5 : Bool) (i6 : Int) (i8 : Int) : Option (zO_X11_turned ⊕ zS_X11_turned) :=
  some (.inr (6, i1, i2, i4, i5, (0 : Int), (0 : Int)))
noncomputable def zg_X11_turned_6  (t_lines : Int) (t_numberOf : Nat) (t_lesser : Nat) (t_greater : Nat) (i1 : Int) (i2 : Int) (i4 : Int) (i5 : Bool) (i6 : Int) (i8 : Int) : Option (zO_X11_turned ⊕ zS_X11_turned) :=
  if zout i8 then none else
  if zout t_lines then none else
  if t_lines ≤ i8 then
  some (.inl (i6))
  else
  if (zandL (zshrL i2 i8) (1 : Int)) = (0 : Int) then
  some (.inr (6, i1, i2, i4, i5, i6, (i8 + (1 : Int))))
  else
  if i5 = false then
  if i8 < 0 ∨ 35 ≤ i8 then none else
  if i5 = false then
  if zout ((zget t_lesser (Int.toNat i8)) + i4) then none else
  if zout i1 then none else
  if i1 = 0 then none else
  if zout ((zget t_greater (Int.toNat i8)) + i4) then none else
  if i1 = 0 then none else
  if (((10 : Int) * (Int.tmod ((zget t_lesser (Int.toNat i8)) + i4) i1)) + (Int.tmod ((zget t_greater (Int.toNat i8)) + i4) i1)) < 0 ∨ 100 ≤ (((10 : Int) * (Int.tmod ((zget t_lesser (Int.toNat i8)) + i4) i1)) + (Int.tmod ((zget t_greater (Int.toNat i8)) + i4) i1)) then none else
  some (.inr (6, i1, i2, i4, i5, (zorL i6 (zshlL (1 : Int) (zget t_numberOf (Int.toNat (((10 : Int) * (Int.tmod ((zget t_lesser (Int.toNat i8)) + i4) i1)) + (Int.tmod ((zget t_greater (Int.toNat i8)) + i4) i1)))))), (i8 + (1 : Int))))
  else
  if zout ((zget t_lesser (Int.toNat i8)) + i4) then none else
  if zout i1 then none else
  if i1 = 0 then none else
  if zout (((i1 - (1 : Int)) - (zget t_greater (Int.toNat i8))) + i4) then none else
  if i1 = 0 then none else
  if (((10 : Int) * (Int.tmod ((zget t_lesser (Int.toNat i8)) + i4) i1)) + (Int.tmod (((i1 - (1 : Int)) - (zget t_greater (Int.toNat i8))) + i4) i1)) < 0 ∨ 100 ≤ (((10 : Int) * (Int.tmod ((zget t_lesser (Int.toNat i8)) + i4) i1)) + (Int.tmod (((i1 - (1 : Int)) - (zget t_greater (Int.toNat i8))) + i4) i1)) then none else
  some (.inr (6, i1, i2, i4, i5, (zorL i6 (zshlL (1 : Int) (zget t_numberOf (Int.toNat (((10 : Int) * (Int.tmod ((zget t_lesser (Int.toNat i8)) + i4) i1)) + (Int.tmod (((i1 - (1 : Int)) - (zget t_greater (Int.toNat i8))) + i4) i1)))))), (i8 + (1 : Int))))
  else
  if i8 < 0 ∨ 35 ≤ i8 then none else
  if i5 = false then
  if zout (((i1 - (1 : Int)) - (zget t_lesser (Int.toNat i8))) + i4) then none else
  if zout i1 then none else
  if i1 = 0 then none else
  if zout ((zget t_greater (Int.toNat i8)) + i4) then none else
  if i1 = 0 then none else
  if (((10 : Int) * (Int.tmod (((i1 - (1 : Int)) - (zget t_lesser (Int.toNat i8))) + i4) i1)) + (Int.tmod ((zget t_greater (Int.toNat i8)) + i4) i1)) < 0 ∨ 100 ≤ (((10 : Int) * (Int.tmod (((i1 - (1 : Int)) - (zget t_lesser (Int.toNat i8))) + i4) i1)) + (Int.tmod ((zget t_greater (Int.toNat i8)) + i4) i1)) then none else
  some (.inr (6, i1, i2, i4, i5, (zorL i6 (zshlL (1 : Int) (zget t_numberOf (Int.toNat (((10 : Int) * (Int.tmod (((i1 - (1 : Int)) - (zget t_lesser (Int.toNat i8))) + i4) i1)) + (Int.tmod ((zget t_greater (Int.toNat i8)) + i4) i1)))))), (i8 + (1 : Int))))
  else
  if zout (((i1 - (1 : Int)) - (zget t_lesser (Int.toNat i8))) + i4) then none else
  if zout i1 then none else
  if i1 = 0 then none else
  if zout (((i1 - (1 : Int)) - (zget t_greater (Int.toNat i8))) + i4) then none else
  if i1 = 0 then none else
  if (((10 : Int) * (Int.tmod (((i1 - (1 : Int)) - (zget t_lesser (Int.toNat i8))) + i4) i1)) + (Int.tmod (((i1 - (1 : Int)) - (zget t_greater (Int.toNat i8))) + i4) i1)) < 0 ∨ 100 ≤ (((10 : Int) * (Int.tmod (((i1 - (1 : Int)) - (zget t_lesser (Int.toNat i8))) + i4) i1)) + (Int.tmod (((i1 - (1 : Int)) - (zget t_greater (Int.toNat i8))) + i4) i1)) then none else
  some (.inr (6, i1, i2, i4, i5, (zorL i6 (zshlL (1 : Int) (zget t_numberOf (Int.toNat (((10 : Int) * (Int.tmod (((i1 - (1 : Int)) - (zget t_lesser (Int.toNat i8))) + i4) i1)) + (Int.tmod (((i1 - (1 : Int)) - (zget t_greater (Int.toNat i8))) + i4) i1)))))), (i8 + (1 : Int))))
noncomputable def zg_X11_turned  (t_lines : Int) (t_numberOf : Nat) (t_lesser : Nat) (t_greater : Nat) (st : zS_X11_turned) : Option (zO_X11_turned ⊕ zS_X11_turned) := match st with
  | (lab, i1, i2, i4, i5, i6, i8) => if lab = 0 then zg_X11_turned_0 t_lines t_numberOf t_lesser t_greater i1 i2 i4 i5 i6 i8 else if lab = 6 then zg_X11_turned_6 t_lines t_numberOf t_lesser t_greater i1 i2 i4 i5 i6 i8 else none
noncomputable def zf_X11_turned  (t_lines : Int) (t_numberOf : Nat) (t_lesser : Nat) (t_greater : Nat) (i1 : Int) (i2 : Int) (i4 : Int) (i5 : Bool) : Option (Int) := jrun (zg_X11_turned t_lines t_numberOf t_lesser t_greater) jfuel (0, i1, i2, i4, i5, 0, 0)
abbrev zS_X11_leastOf : Type := Nat × Int × Int × Bool × Int × Int × Int
abbrev zO_X11_leastOf : Type := Int
noncomputable def zg_X11_leastOf_0  (t_lines : Int) (t_numberOf : Nat) (t_lesser : Nat) (t_greater : Nat) (i1 : Int) (i2 : Int) (i4 : Bool) (i5 : Int) (i7 : Int) (i8 : Int) : Option (zO_X11_leastOf ⊕ zS_X11_leastOf) :=
  some (.inr (6, i1, i2, i4, i2, (0 : Int), 0))
noncomputable def zg_X11_leastOf_6  (t_lines : Int) (t_numberOf : Nat) (t_lesser : Nat) (t_greater : Nat) (i1 : Int) (i2 : Int) (i4 : Bool) (i5 : Int) (i7 : Int) (i8 : Int) : Option (zO_X11_leastOf ⊕ zS_X11_leastOf) :=
  if zout i7 then none else
  if zout i1 then none else
  if i1 ≤ i7 then
  some (.inl (i5))
  else
  Option.bind (zf_X11_turned t_lines t_numberOf t_lesser t_greater i1 i2 i7 false) (fun o3 =>
  if zoutL o3 then none else
  if zoutL i5 then none else
  if i5 ≤ o3 then
  some (.inr (35, i1, i2, i4, i5, i7, o3))
  else
  some (.inr (35, i1, i2, i4, o3, i7, o3)))
noncomputable def zg_X11_leastOf_35  (t_lines : Int) (t_numberOf : Nat) (t_lesser : Nat) (t_greater : Nat) (i1 : Int) (i2 : Int) (i4 : Bool) (i5 : Int) (i7 : Int) (i8 : Int) : Option (zO_X11_leastOf ⊕ zS_X11_leastOf) :=
  if i4 = false then
  if zoutL i8 then none else
  if zoutL i5 then none else
  if i5 ≤ i8 then
  some (.inr (6, i1, i2, i4, i5, (i7 + (1 : Int)), i8))
  else
  some (.inr (6, i1, i2, i4, i8, (i7 + (1 : Int)), i8))
  else
  Option.bind (zf_X11_turned t_lines t_numberOf t_lesser t_greater i1 i2 i7 true) (fun o11 =>
  if zoutL o11 then none else
  if zoutL i5 then none else
  if i5 ≤ o11 then
  some (.inr (6, i1, i2, i4, i5, (i7 + (1 : Int)), i8))
  else
  some (.inr (6, i1, i2, i4, o11, (i7 + (1 : Int)), i8)))
noncomputable def zg_X11_leastOf  (t_lines : Int) (t_numberOf : Nat) (t_lesser : Nat) (t_greater : Nat) (st : zS_X11_leastOf) : Option (zO_X11_leastOf ⊕ zS_X11_leastOf) := match st with
  | (lab, i1, i2, i4, i5, i7, i8) => if lab = 0 then zg_X11_leastOf_0 t_lines t_numberOf t_lesser t_greater i1 i2 i4 i5 i7 i8 else if lab = 6 then zg_X11_leastOf_6 t_lines t_numberOf t_lesser t_greater i1 i2 i4 i5 i7 i8 else if lab = 35 then zg_X11_leastOf_35 t_lines t_numberOf t_lesser t_greater i1 i2 i4 i5 i7 i8 else none
noncomputable def zf_X11_leastOf  (t_lines : Int) (t_numberOf : Nat) (t_lesser : Nat) (t_greater : Nat) (i1 : Int) (i2 : Int) (i4 : Bool) : Option (Int) := jrun (zg_X11_leastOf t_lines t_numberOf t_lesser t_greater) jfuel (0, i1, i2, i4, 0, 0, 0)
noncomputable def zf_X11_least  (t_corners : Int) (t_lines : Int) (t_linesFor : Int) (t_listMany : Int) (t_listCorners : Int) (t_own : Int) (t_numberOf : Nat) (t_lesser : Nat) (t_greater : Nat) (t_list : Nat) (i1 : Bool) : Option (Int × Int × Int × Int × Int × Nat × Nat × Nat × Nat) :=
  Option.bind (zf_X11_listFor t_lines t_linesFor t_listMany t_listCorners t_numberOf t_lesser t_greater t_list t_corners) (fun o1 =>
  Option.bind (zf_X11_leastOf (o1.1) (o1.2.2.2.2.1) (o1.2.2.2.2.2.1) (o1.2.2.2.2.2.2.1) t_corners t_own i1) (fun o2 =>
  Option.bind (zf_X11_placeOf (o1.2.2.1) (o1.2.2.2.2.2.2.2) o2) (fun o3 =>
  some (o3, (o1.1), (o1.2.1), (o1.2.2.1), (o1.2.2.2.1), (o1.2.2.2.2.1), (o1.2.2.2.2.2.1), (o1.2.2.2.2.2.2.1), (o1.2.2.2.2.2.2.2)))))
abbrev zS_X11_kinds : Type := Nat × Int × Bool × Int × Int × Int × Int × Int × Int × Nat × Nat × Nat × Nat
abbrev zO_X11_kinds : Type := Int × Int × Int × Int × Int × Nat × Nat × Nat × Nat
noncomputable def zg_X11_kinds_0   (i1 : Int) (i2 : Bool) (i3 : Int) (i4 : Int) (t_lines : Int) (t_linesFor : Int) (t_listMany : Int) (t_listCorners : Int) (t_numberOf : Nat) (t_lesser : Nat) (t_greater : Nat) (t_list : Nat) : Option (zO_X11_kinds ⊕ zS_X11_kinds) :=
  Option.bind (zf_X11_in i1 (4 : Int) (9 : Int)) (fun o1 =>
  if o1 = false then
  some (.inl ((-2 : Int), t_lines, t_linesFor, t_listMany, t_listCorners, t_numberOf, t_lesser, t_greater, t_list))
  else
  Option.bind (zf_X11_listFor t_lines t_linesFor t_listMany t_listCorners t_numberOf t_lesser t_greater t_list i1) (fun o2 =>
  some (.inr (23, i1, i2, (0 : Int), (0 : Int), (o2.1), (o2.2.1), (o2.2.2.1), (o2.2.2.2.1), (o2.2.2.2.2.1), (o2.2.2.2.2.2.1), (o2.2.2.2.2.2.2.1), (o2.2.2.2.2.2.2.2)))))
noncomputable def zg_X11_kinds_23   (i1 : Int) (i2 : Bool) (i3 : Int) (i4 : Int) (t_lines : Int) (t_linesFor : Int) (t_listMany : Int) (t_listCorners : Int) (t_numberOf : Nat) (t_lesser : Nat) (t_greater : Nat) (t_list : Nat) : Option (zO_X11_kinds ⊕ zS_X11_kinds) :=
  if zout i4 then none else
  if zout t_listMany then none else
  if t_listMany ≤ i4 then
  some (.inl (i3, t_lines, t_linesFor, t_listMany, t_listCorners, t_numberOf, t_lesser, t_greater, t_list))
  else
  if i4 < 0 ∨ 429 ≤ i4 then none else
  Option.bind (zf_X11_leastOf t_lines t_numberOf t_lesser t_greater i1 (zgetL t_list (Int.toNat i4)) i2) (fun o7 =>
  if zoutL o7 then none else
  if o7 = (zgetL t_list (Int.toNat i4)) then
  some (.inr (23, i1, i2, (i3 + (1 : Int)), (i4 + (1 : Int)), t_lines, t_linesFor, t_listMany, t_listCorners, t_numberOf, t_lesser, t_greater, t_list))
  else
  some (.inr (23, i1, i2, (i3 + (0 : Int)), (i4 + (1 : Int)), t_lines, t_linesFor, t_listMany, t_listCorners, t_numberOf, t_lesser, t_greater, t_list)))
noncomputable def zg_X11_kinds   (st : zS_X11_kinds) : Option (zO_X11_kinds ⊕ zS_X11_kinds) := match st with
  | (lab, i1, i2, i3, i4, t_lines, t_linesFor, t_listMany, t_listCorners, t_numberOf, t_lesser, t_greater, t_list) => if lab = 0 then zg_X11_kinds_0  i1 i2 i3 i4 t_lines t_linesFor t_listMany t_listCorners t_numberOf t_lesser t_greater t_list else if lab = 23 then zg_X11_kinds_23  i1 i2 i3 i4 t_lines t_linesFor t_listMany t_listCorners t_numberOf t_lesser t_greater t_list else none
noncomputable def zf_X11_kinds  (t_lines : Int) (t_linesFor : Int) (t_listMany : Int) (t_listCorners : Int) (t_numberOf : Nat) (t_lesser : Nat) (t_greater : Nat) (t_list : Nat) (i1 : Int) (i2 : Bool) : Option (Int × Int × Int × Int × Int × Nat × Nat × Nat × Nat) := jrun (zg_X11_kinds ) jfuel (0, i1, i2, 0, 0, t_lines, t_linesFor, t_listMany, t_listCorners, t_numberOf, t_lesser, t_greater, t_list)
abbrev zS_X11_readRow : Type := Nat × Int × Int × Int × Int × Int × Int × Int × Int × Nat
abbrev zO_X11_readRow : Type := Int × Int × Int × Int × Int × Int × Int × Int × Int × Nat
noncomputable def zg_X11_readRow_0  (t_tape : Nat) (t_taped : Int) (t_size : Int) (t_sort : Int) (t_at : Int) (t_end : Int) (t_number : Int) (t_word : Int) (t_rowMany : Int) (t_told : Nat) : Option (zO_X11_readRow ⊕ zS_X11_readRow) :=
  Option.bind (zf_X11_begin t_taped t_size t_sort t_at t_end t_number t_word t_tape) (fun o1 =>
  some (.inr (9, (o1.1), (o1.2.1), (o1.2.2.1), (o1.2.2.2.1), (o1.2.2.2.2.1), (o1.2.2.2.2.2.1), (o1.2.2.2.2.2.2), (0 : Int), t_told)))
noncomputable def zg_X11_readRow_9  (t_tape : Nat) (t_taped : Int) (t_size : Int) (t_sort : Int) (t_at : Int) (t_end : Int) (t_number : Int) (t_word : Int) (t_rowMany : Int) (t_told : Nat) : Option (zO_X11_readRow ⊕ zS_X11_readRow) :=
  if zout t_sort then none else
  if t_sort = (2 : Int) then
  if zout t_rowMany then none else
  if t_rowMany = (10 : Int) then
  some (.inl ((-1 : Int), t_taped, t_size, t_sort, t_at, t_end, t_number, t_word, t_rowMany, t_told))
  else
  if t_rowMany < 0 ∨ 10 ≤ t_rowMany then none else
  Option.bind (zf_X11_scan t_size t_sort t_at t_end t_number t_word t_tape) (fun o6 =>
  some (.inr (9, t_taped, t_size, (o6.1), (o6.2.1), (o6.2.2.1), (o6.2.2.2.1), (o6.2.2.2.2), (t_rowMany + (1 : Int)), (zset t_told (Int.toNat t_rowMany) t_number))))
  else
  if t_sort = (4 : Int) then
  some (.inl (t_rowMany, t_taped, t_size, t_sort, t_at, t_end, t_number, t_word, t_rowMany, t_told))
  else
  some (.inl ((-1 : Int), t_taped, t_size, t_sort, t_at, t_end, t_number, t_word, t_rowMany, t_told))
noncomputable def zg_X11_readRow  (t_tape : Nat) (st : zS_X11_readRow) : Option (zO_X11_readRow ⊕ zS_X11_readRow) := match st with
  | (lab, t_taped, t_size, t_sort, t_at, t_end, t_number, t_word, t_rowMany, t_told) => if lab = 0 then zg_X11_readRow_0 t_tape t_taped t_size t_sort t_at t_end t_number t_word t_rowMany t_told else if lab = 9 then zg_X11_readRow_9 t_tape t_taped t_size t_sort t_at t_end t_number t_word t_rowMany t_told else none
noncomputable def zf_X11_readRow  (t_taped : Int) (t_size : Int) (t_sort : Int) (t_at : Int) (t_end : Int) (t_number : Int) (t_word : Int) (t_rowMany : Int) (t_tape : Nat) (t_told : Nat)  : Option (Int × Int × Int × Int × Int × Int × Int × Int × Int × Nat) := jrun (zg_X11_readRow t_tape) jfuel (0, t_taped, t_size, t_sort, t_at, t_end, t_number, t_word, t_rowMany, t_told)
abbrev zS_X11_apart : Type := Nat × Int × Int × Int
abbrev zO_X11_apart : Type := Int
noncomputable def zg_X11_apart_0  (t_corners : Int) (t_numberOf : Nat) (t_told : Nat) (i1 : Int) (i3 : Int) (i4 : Int) : Option (zO_X11_apart ⊕ zS_X11_apart) :=
  some (.inr (5, i1, (0 : Int), (0 : Int)))
noncomputable def zg_X11_apart_5  (t_corners : Int) (t_numberOf : Nat) (t_told : Nat) (i1 : Int) (i3 : Int) (i4 : Int) : Option (zO_X11_apart ⊕ zS_X11_apart) :=
  if zout i4 then none else
  if zout t_corners then none else
  if t_corners ≤ i4 then
  some (.inl (i3))
  else
  Option.bind (zf_X11_rowAt t_numberOf t_corners i1 i4) (fun o3 =>
  if i4 < 0 ∨ 10 ≤ i4 then none else
  if zout (o3 - (zget t_told (Int.toNat i4))) then none else
  if 0 ≤ (o3 - (zget t_told (Int.toNat i4))) then
  some (.inr (5, i1, (i3 + (o3 - (zget t_told (Int.toNat i4)))), (i4 + (1 : Int))))
  else
  some (.inr (5, i1, (i3 + (-(o3 - (zget t_told (Int.toNat i4))))), (i4 + (1 : Int)))))
noncomputable def zg_X11_apart  (t_corners : Int) (t_numberOf : Nat) (t_told : Nat) (st : zS_X11_apart) : Option (zO_X11_apart ⊕ zS_X11_apart) := match st with
  | (lab, i1, i3, i4) => if lab = 0 then zg_X11_apart_0 t_corners t_numberOf t_told i1 i3 i4 else if lab = 5 then zg_X11_apart_5 t_corners t_numberOf t_told i1 i3 i4 else none
noncomputable def zf_X11_apart  (t_corners : Int) (t_numberOf : Nat) (t_told : Nat) (i1 : Int) : Option (Int) := jrun (zg_X11_apart t_corners t_numberOf t_told) jfuel (0, i1, 0, 0)
abbrev zS_X11_nearest : Type := Nat × Int × Int × Int × Int × Int × Int × Int × Nat × Nat × Nat × Nat
abbrev zO_X11_nearest : Type := Int × Int × Int × Int × Int × Nat × Nat × Nat × Nat
noncomputable def zg_X11_nearest_0  (t_corners : Int) (t_told : Nat) (i1 : Int) (i2 : Int) (i3 : Int) (t_lines : Int) (t_linesFor : Int) (t_listMany : Int) (t_listCorners : Int) (t_numberOf : Nat) (t_lesser : Nat) (t_greater : Nat) (t_list : Nat) : Option (zO_X11_nearest ⊕ zS_X11_nearest) :=
  Option.bind (zf_X11_listFor t_lines t_linesFor t_listMany t_listCorners t_numberOf t_lesser t_greater t_list t_corners) (fun o1 =>
  Option.bind (zf_X11_apart t_corners (o1.2.2.2.2.1) t_told (zgetL (o1.2.2.2.2.2.2.2) (Int.toNat (0 : Int)))) (fun o2 =>
  some (.inr (23, (0 : Int), o2, (1 : Int), (o1.1), (o1.2.1), (o1.2.2.1), (o1.2.2.2.1), (o1.2.2.2.2.1), (o1.2.2.2.2.2.1), (o1.2.2.2.2.2.2.1), (o1.2.2.2.2.2.2.2)))))
noncomputable def zg_X11_nearest_23  (t_corners : Int) (t_told : Nat) (i1 : Int) (i2 : Int) (i3 : Int) (t_lines : Int) (t_linesFor : Int) (t_listMany : Int) (t_listCorners : Int) (t_numberOf : Nat) (t_lesser : Nat) (t_greater : Nat) (t_list : Nat) : Option (zO_X11_nearest ⊕ zS_X11_nearest) :=
  if zout i3 then none else
  if zout t_listMany then none else
  if t_listMany ≤ i3 then
  some (.inl (i1, t_lines, t_linesFor, t_listMany, t_listCorners, t_numberOf, t_lesser, t_greater, t_list))
  else
  if i3 < 0 ∨ 429 ≤ i3 then none else
  Option.bind (zf_X11_apart t_corners t_numberOf t_told (zgetL t_list (Int.toNat i3))) (fun o6 =>
  if zout o6 then none else
  if zout i2 then none else
  if o6 < i2 then
  some (.inr (23, i3, o6, (i3 + (1 : Int)), t_lines, t_linesFor, t_listMany, t_listCorners, t_numberOf, t_lesser, t_greater, t_list))
  else
  some (.inr (23, i1, i2, (i3 + (1 : Int)), t_lines, t_linesFor, t_listMany, t_listCorners, t_numberOf, t_lesser, t_greater, t_list)))
noncomputable def zg_X11_nearest  (t_corners : Int) (t_told : Nat) (st : zS_X11_nearest) : Option (zO_X11_nearest ⊕ zS_X11_nearest) := match st with
  | (lab, i1, i2, i3, t_lines, t_linesFor, t_listMany, t_listCorners, t_numberOf, t_lesser, t_greater, t_list) => if lab = 0 then zg_X11_nearest_0 t_corners t_told i1 i2 i3 t_lines t_linesFor t_listMany t_listCorners t_numberOf t_lesser t_greater t_list else if lab = 23 then zg_X11_nearest_23 t_corners t_told i1 i2 i3 t_lines t_linesFor t_listMany t_listCorners t_numberOf t_lesser t_greater t_list else none
noncomputable def zf_X11_nearest  (t_corners : Int) (t_lines : Int) (t_linesFor : Int) (t_listMany : Int) (t_listCorners : Int) (t_numberOf : Nat) (t_lesser : Nat) (t_greater : Nat) (t_list : Nat) (t_told : Nat)  : Option (Int × Int × Int × Int × Int × Nat × Nat × Nat × Nat) := jrun (zg_X11_nearest t_corners t_told) jfuel (0, 0, 0, 0, t_lines, t_linesFor, t_listMany, t_listCorners, t_numberOf, t_lesser, t_greater, t_list)
noncomputable def zf_X11_read  (t_taped : Int) (t_size : Int) (t_sort : Int) (t_at : Int) (t_end : Int) (t_number : Int) (t_word : Int) (t_corners : Int) (t_lines : Int) (t_linesFor : Int) (t_listMany : Int) (t_listCorners : Int) (t_own : Int) (t_rowMany : Int) (t_tape : Nat) (t_numberOf : Nat) (t_lesser : Nat) (t_greater : Nat) (t_list : Nat) (t_told : Nat)  : Option (Int × Int × Int × Int × Int × Int × Int × Int × Int × Int × Int × Int × Int × Int × Nat × Nat × Nat × Nat × Nat) :=
  Option.bind (zf_X11_readRow t_taped t_size t_sort t_at t_end t_number t_word t_rowMany t_tape t_told) (fun o1 =>
  if zout (o1.1) then none else
  if zout t_corners then none else
  if (o1.1) = t_corners then
  Option.bind (zf_X11_nearest t_corners t_lines t_linesFor t_listMany t_listCorners t_numberOf t_lesser t_greater t_list (o1.2.2.2.2.2.2.2.2.2)) (fun o4 =>
  if (o4.1) < 0 ∨ 429 ≤ (o4.1) then none else
  Option.bind (zf_X11_apart t_corners (o4.2.2.2.2.2.1) (o1.2.2.2.2.2.2.2.2.2) (zgetL (o4.2.2.2.2.2.2.2.2) (Int.toNat (o4.1)))) (fun o6 =>
  if zout o6 then none else
  if o6 = 0 then
  some ((o4.1), (o1.2.1), (o1.2.2.1), (o1.2.2.2.1), (o1.2.2.2.2.1), (o1.2.2.2.2.2.1), (o1.2.2.2.2.2.2.1), (o1.2.2.2.2.2.2.2.1), (o4.2.1), (o4.2.2.1), (o4.2.2.2.1), (o4.2.2.2.2.1), (zgetL (o4.2.2.2.2.2.2.2.2) (Int.toNat (o4.1))), (o1.2.2.2.2.2.2.2.2.1), (o4.2.2.2.2.2.1), (o4.2.2.2.2.2.2.1), (o4.2.2.2.2.2.2.2.1), (o4.2.2.2.2.2.2.2.2), (o1.2.2.2.2.2.2.2.2.2))
  else
  some ((-1 : Int), (o1.2.1), (o1.2.2.1), (o1.2.2.2.1), (o1.2.2.2.2.1), (o1.2.2.2.2.2.1), (o1.2.2.2.2.2.2.1), (o1.2.2.2.2.2.2.2.1), (o4.2.1), (o4.2.2.1), (o4.2.2.2.1), (o4.2.2.2.2.1), t_own, (o1.2.2.2.2.2.2.2.2.1), (o4.2.2.2.2.2.1), (o4.2.2.2.2.2.2.1), (o4.2.2.2.2.2.2.2.1), (o4.2.2.2.2.2.2.2.2), (o1.2.2.2.2.2.2.2.2.2))))
  else
  some ((-2 : Int), (o1.2.1), (o1.2.2.1), (o1.2.2.2.1), (o1.2.2.2.2.1), (o1.2.2.2.2.2.1), (o1.2.2.2.2.2.2.1), (o1.2.2.2.2.2.2.2.1), t_lines, t_linesFor, t_listMany, t_listCorners, t_own, (o1.2.2.2.2.2.2.2.2.1), t_numberOf, t_lesser, t_greater, t_list, (o1.2.2.2.2.2.2.2.2.2)))
noncomputable def zf_X11_mend  (t_taped : Int) (t_size : Int) (t_sort : Int) (t_at : Int) (t_end : Int) (t_number : Int) (t_word : Int) (t_corners : Int) (t_lines : Int) (t_linesFor : Int) (t_listMany : Int) (t_listCorners : Int) (t_rowMany : Int) (t_mendedBy : Int) (t_tape : Nat) (t_numberOf : Nat) (t_lesser : Nat) (t_greater : Nat) (t_list : Nat) (t_told : Nat)  : Option (Int × Int × Int × Int × Int × Int × Int × Int × Int × Int × Int × Int × Int × Int × Nat × Nat × Nat × Nat × Nat) :=
  Option.bind (zf_X11_readRow t_taped t_size t_sort t_at t_end t_number t_word t_rowMany t_tape t_told) (fun o1 =>
  if zout (o1.1) then none else
  if zout t_corners then none else
  if (o1.1) = t_corners then
  Option.bind (zf_X11_nearest t_corners t_lines t_linesFor t_listMany t_listCorners t_numberOf t_lesser t_greater t_list (o1.2.2.2.2.2.2.2.2.2)) (fun o4 =>
  if (o4.1) < 0 ∨ 429 ≤ (o4.1) then none else
  Option.bind (zf_X11_apart t_corners (o4.2.2.2.2.2.1) (o1.2.2.2.2.2.2.2.2.2) (zgetL (o4.2.2.2.2.2.2.2.2) (Int.toNat (o4.1)))) (fun o6 =>
  some (o6, (o1.2.1), (o1.2.2.1), (o1.2.2.2.1), (o1.2.2.2.2.1), (o1.2.2.2.2.2.1), (o1.2.2.2.2.2.2.1), (o1.2.2.2.2.2.2.2.1), (o4.2.1), (o4.2.2.1), (o4.2.2.2.1), (o4.2.2.2.2.1), (o1.2.2.2.2.2.2.2.2.1), (o4.1), (o4.2.2.2.2.2.1), (o4.2.2.2.2.2.2.1), (o4.2.2.2.2.2.2.2.1), (o4.2.2.2.2.2.2.2.2), (o1.2.2.2.2.2.2.2.2.2))))
  else
  some ((-2 : Int), (o1.2.1), (o1.2.2.1), (o1.2.2.2.1), (o1.2.2.2.2.1), (o1.2.2.2.2.2.1), (o1.2.2.2.2.2.2.1), (o1.2.2.2.2.2.2.2.1), t_lines, t_linesFor, t_listMany, t_listCorners, (o1.2.2.2.2.2.2.2.2.1), t_mendedBy, t_numberOf, t_lesser, t_greater, t_list, (o1.2.2.2.2.2.2.2.2.2)))
noncomputable def zf_X11_mended  (t_mendedBy : Int)  : Option (Int) :=
  some (t_mendedBy)
abbrev zS_X11_cross : Type := Nat × Int × Int × Int × Int × Int × Int × Int × Int × Nat × Nat × Nat × Nat × Nat
abbrev zO_X11_cross : Type := Int × Int × Int × Nat × Nat × Nat × Nat × Nat
noncomputable def zg_X11_cross_0  (t_corners : Int) (t_own : Int) (i1 : Int) (i2 : Int) (i3 : Int) (i6 : Int) (i7 : Int) (t_lines : Int) (t_linesFor : Int) (t_crossMany : Int) (t_numberOf : Nat) (t_lesser : Nat) (t_greater : Nat) (t_crossLine : Nat) (t_crossFar : Nat) : Option (zO_X11_cross ⊕ zS_X11_cross) :=
  Option.bind (zf_X11_linesOf t_lines t_linesFor t_numberOf t_lesser t_greater t_corners) (fun o1 =>
  some (.inr (15, i1, i2, (0 : Int), 0, 0, (o1.1), (o1.2.1), (0 : Int), (o1.2.2.1), (o1.2.2.2.1), (o1.2.2.2.2), t_crossLine, t_crossFar)))
noncomputable def zg_X11_cross_15  (t_corners : Int) (t_own : Int) (i1 : Int) (i2 : Int) (i3 : Int) (i6 : Int) (i7 : Int) (t_lines : Int) (t_linesFor : Int) (t_crossMany : Int) (t_numberOf : Nat) (t_lesser : Nat) (t_greater : Nat) (t_crossLine : Nat) (t_crossFar : Nat) : Option (zO_X11_cross ⊕ zS_X11_cross) :=
  if zout i3 then none else
  if zout t_lines then none else
  if t_lines ≤ i3 then
  some (.inl (t_lines, t_linesFor, t_crossMany, t_numberOf, t_lesser, t_greater, t_crossLine, t_crossFar))
  else
  if (zandL (zshrL t_own i3) (1 : Int)) = (0 : Int) then
  some (.inr (15, i1, i2, (i3 + (1 : Int)), 0, 0, t_lines, t_linesFor, t_crossMany, t_numberOf, t_lesser, t_greater, t_crossLine, t_crossFar))
  else
  if i3 < 0 ∨ 35 ≤ i3 then none else
  Option.bind (zf_X11_isCross t_corners i1 i2 (zget t_lesser (Int.toNat i3)) (zget t_greater (Int.toNat i3))) (fun o5 =>
  if o5 = false then
  some (.inr (15, i1, i2, (i3 + (1 : Int)), 0, 0, t_lines, t_linesFor, t_crossMany, t_numberOf, t_lesser, t_greater, t_crossLine, t_crossFar))
  else
  Option.bind (zf_X11_isBetween t_corners i1 (zget t_lesser (Int.toNat i3)) i2) (fun o6 =>
  if o6 = false then
  if zout (((zget t_greater (Int.toNat i3)) - i1) + t_corners) then none else
  if zout t_corners then none else
  if t_corners = 0 then none else
  if zout ((i1 - (((zget t_lesser (Int.toNat i3)) + (zget t_greater (Int.toNat i3))) - (zget t_greater (Int.toNat i3)))) + t_corners) then none else
  if t_corners = 0 then none else
  some (.inr (153, i1, i2, i3, ((Int.tmod (((zget t_greater (Int.toNat i3)) - i1) + t_corners) t_corners) + (Int.tmod ((i1 - (((zget t_lesser (Int.toNat i3)) + (zget t_greater (Int.toNat i3))) - (zget t_greater (Int.toNat i3)))) + t_corners) t_corners)), t_crossMany, t_lines, t_linesFor, t_crossMany, t_numberOf, t_lesser, t_greater, t_crossLine, t_crossFar))
  else
  if zout (((zget t_lesser (Int.toNat i3)) - i1) + t_corners) then none else
  if zout t_corners then none else
  if t_corners = 0 then none else
  if zout ((i1 - (((zget t_lesser (Int.toNat i3)) + (zget t_greater (Int.toNat i3))) - (zget t_lesser (Int.toNat i3)))) + t_corners) then none else
  if t_corners = 0 then none else
  some (.inr (153, i1, i2, i3, ((Int.tmod (((zget t_lesser (Int.toNat i3)) - i1) + t_corners) t_corners) + (Int.tmod ((i1 - (((zget t_lesser (Int.toNat i3)) + (zget t_greater (Int.toNat i3))) - (zget t_lesser (Int.toNat i3)))) + t_corners) t_corners)), t_crossMany, t_lines, t_linesFor, t_crossMany, t_numberOf, t_lesser, t_greater, t_crossLine, t_crossFar))))
noncomputable def zg_X11_cross_153  (t_corners : Int) (t_own : Int) (i1 : Int) (i2 : Int) (i3 : Int) (i6 : Int) (i7 : Int) (t_lines : Int) (t_linesFor : Int) (t_crossMany : Int) (t_numberOf : Nat) (t_lesser : Nat) (t_greater : Nat) (t_crossLine : Nat) (t_crossFar : Nat) : Option (zO_X11_cross ⊕ zS_X11_cross) :=
  if zout i7 then none else
  if i7 ≤ 0 then
  some (.inr (210, i1, i2, i3, i6, i7, t_lines, t_linesFor, t_crossMany, t_numberOf, t_lesser, t_greater, t_crossLine, t_crossFar))
  else
  if (i7 - (1 : Int)) < 0 ∨ 7 ≤ (i7 - (1 : Int)) then none else
  if zout i6 then none else
  if (zget t_crossFar (Int.toNat (i7 - (1 : Int)))) ≤ i6 then
  some (.inr (210, i1, i2, i3, i6, i7, t_lines, t_linesFor, t_crossMany, t_numberOf, t_lesser, t_greater, t_crossLine, t_crossFar))
  else
  if i7 < 0 ∨ 7 ≤ i7 then none else
  some (.inr (153, i1, i2, i3, i6, (i7 + (-1 : Int)), t_lines, t_linesFor, t_crossMany, t_numberOf, t_lesser, t_greater, (zset t_crossLine (Int.toNat i7) (zget t_crossLine (Int.toNat (i7 - (1 : Int))))), (zset t_crossFar (Int.toNat i7) (zget t_crossFar (Int.toNat (i7 - (1 : Int)))))))
noncomputable def zg_X11_cross_210  (t_corners : Int) (t_own : Int) (i1 : Int) (i2 : Int) (i3 : Int) (i6 : Int) (i7 : Int) (t_lines : Int) (t_linesFor : Int) (t_crossMany : Int) (t_numberOf : Nat) (t_lesser : Nat) (t_greater : Nat) (t_crossLine : Nat) (t_crossFar : Nat) : Option (zO_X11_cross ⊕ zS_X11_cross) :=
  if i7 < 0 ∨ 7 ≤ i7 then none else
  some (.inr (15, i1, i2, (i3 + (1 : Int)), i6, i7, t_lines, t_linesFor, (t_crossMany + (1 : Int)), t_numberOf, t_lesser, t_greater, (zset t_crossLine (Int.toNat i7) i3), (zset t_crossFar (Int.toNat i7) i6)))
noncomputable def zg_X11_cross  (t_corners : Int) (t_own : Int) (st : zS_X11_cross) : Option (zO_X11_cross ⊕ zS_X11_cross) := match st with
  | (lab, i1, i2, i3, i6, i7, t_lines, t_linesFor, t_crossMany, t_numberOf, t_lesser, t_greater, t_crossLine, t_crossFar) => if lab = 0 then zg_X11_cross_0 t_corners t_own i1 i2 i3 i6 i7 t_lines t_linesFor t_crossMany t_numberOf t_lesser t_greater t_crossLine t_crossFar else if lab = 15 then zg_X11_cross_15 t_corners t_own i1 i2 i3 i6 i7 t_lines t_linesFor t_crossMany t_numberOf t_lesser t_greater t_crossLine t_crossFar else if lab = 153 then zg_X11_cross_153 t_corners t_own i1 i2 i3 i6 i7 t_lines t_linesFor t_crossMany t_numberOf t_lesser t_greater t_crossLine t_crossFar else if lab = 210 then zg_X11_cross_210 t_corners t_own i1 i2 i3 i6 i7 t_lines t_linesFor t_crossMany t_numberOf t_lesser t_greater t_crossLine t_crossFar else none
noncomputable def zf_X11_cross  (t_corners : Int) (t_lines : Int) (t_linesFor : Int) (t_own : Int) (t_crossMany : Int) (t_numberOf : Nat) (t_lesser : Nat) (t_greater : Nat) (t_crossLine : Nat) (t_crossFar : Nat) (i1 : Int) (i2 : Int) : Option (Int × Int × Int × Nat × Nat × Nat × Nat × Nat) := jrun (zg_X11_cross t_corners t_own) jfuel (0, i1, i2, 0, 0, 0, t_lines, t_linesFor, t_crossMany, t_numberOf, t_lesser, t_greater, t_crossLine, t_crossFar)
noncomputable def zf_X11_crossed  (t_corners : Int) (t_lines : Int) (t_linesFor : Int) (t_own : Int) (t_crossMany : Int) (t_numberOf : Nat) (t_lesser : Nat) (t_greater : Nat) (t_crossLine : Nat) (t_crossFar : Nat) (i1 : Int) (i2 : Int) (i3 : Int) : Option (Int × Int × Int × Int × Nat × Nat × Nat × Nat × Nat) :=
  Option.bind (zf_X11_isCorner t_corners i1) (fun o1 =>
  if o1 = false then
  some ((-2 : Int), t_lines, t_linesFor, t_crossMany, t_numberOf, t_lesser, t_greater, t_crossLine, t_crossFar)
  else
  Option.bind (zf_X11_isCorner t_corners i2) (fun o2 =>
  if o2 = false then
  some ((-2 : Int), t_lines, t_linesFor, t_crossMany, t_numberOf, t_lesser, t_greater, t_crossLine, t_crossFar)
  else
  if zout i1 then none else
  if zout i2 then none else
  if i1 = i2 then
  some ((-2 : Int), t_lines, t_linesFor, t_crossMany, t_numberOf, t_lesser, t_greater, t_crossLine, t_crossFar)
  else
  Option.bind (zf_X11_cross t_corners t_lines t_linesFor t_own t_crossMany t_numberOf t_lesser t_greater t_crossLine t_crossFar i1 i2) (fun o5 =>
  if zout i3 then none else
  if i3 = (-1 : Int) then
  some ((o5.2.2.1), (o5.1), (o5.2.1), (o5.2.2.1), (o5.2.2.2.1), (o5.2.2.2.2.1), (o5.2.2.2.2.2.1), (o5.2.2.2.2.2.2.1), (o5.2.2.2.2.2.2.2))
  else
  Option.bind (zf_X11_in i3 (0 : Int) ((o5.2.2.1) - (1 : Int))) (fun o7 =>
  if o7 = false then
  some ((-1 : Int), (o5.1), (o5.2.1), (o5.2.2.1), (o5.2.2.2.1), (o5.2.2.2.2.1), (o5.2.2.2.2.2.1), (o5.2.2.2.2.2.2.1), (o5.2.2.2.2.2.2.2))
  else
  if i3 < 0 ∨ 7 ≤ i3 then none else
  if (zget (o5.2.2.2.2.2.2.1) (Int.toNat i3)) < 0 ∨ 35 ≤ (zget (o5.2.2.2.2.2.2.1) (Int.toNat i3)) then none else
  some ((((16 : Int) * (zget (o5.2.2.2.2.1) (Int.toNat (zget (o5.2.2.2.2.2.2.1) (Int.toNat i3))))) + (zget (o5.2.2.2.2.2.1) (Int.toNat (zget (o5.2.2.2.2.2.2.1) (Int.toNat i3))))), (o5.1), (o5.2.1), (o5.2.2.1), (o5.2.2.2.1), (o5.2.2.2.2.1), (o5.2.2.2.2.2.1), (o5.2.2.2.2.2.2.1), (o5.2.2.2.2.2.2.2))))))
abbrev zS_X11_side : Type := Nat × Int × Int × Int × Int × Int × Int × Int × Nat × Nat × Nat × Nat × Nat
abbrev zO_X11_side : Type := Int × Int × Int × Int × Nat × Nat × Nat × Nat × Nat
noncomputable def zg_X11_side_0  (t_corners : Int) (t_own : Int) (i1 : Int) (i2 : Int) (i3 : Int) (i4 : Int) (t_lines : Int) (t_linesFor : Int) (t_crossMany : Int) (t_numberOf : Nat) (t_lesser : Nat) (t_greater : Nat) (t_crossLine : Nat) (t_crossFar : Nat) : Option (zO_X11_side ⊕ zS_X11_side) :=
  Option.bind (zf_X11_isCorner t_corners i1) (fun o1 =>
  if o1 = false then
  some (.inl ((-2 : Int), t_lines, t_linesFor, t_crossMany, t_numberOf, t_lesser, t_greater, t_crossLine, t_crossFar))
  else
  Option.bind (zf_X11_isCorner t_corners i2) (fun o2 =>
  if o2 = false then
  some (.inl ((-2 : Int), t_lines, t_linesFor, t_crossMany, t_numberOf, t_lesser, t_greater, t_crossLine, t_crossFar))
  else
  if zout i1 then none else
  if zout i2 then none else
  if i1 = i2 then
  some (.inl ((-2 : Int), t_lines, t_linesFor, t_crossMany, t_numberOf, t_lesser, t_greater, t_crossLine, t_crossFar))
  else
  Option.bind (zf_X11_cross t_corners t_lines t_linesFor t_own t_crossMany t_numberOf t_lesser t_greater t_crossLine t_crossFar i1 i2) (fun o5 =>
  Option.bind (zf_X11_in i3 (0 : Int) ((o5.2.2.1) - (2 : Int))) (fun o6 =>
  if o6 = false then
  some (.inl ((-1 : Int), (o5.1), (o5.2.1), (o5.2.2.1), (o5.2.2.2.1), (o5.2.2.2.2.1), (o5.2.2.2.2.2.1), (o5.2.2.2.2.2.2.1), (o5.2.2.2.2.2.2.2)))
  else
  if i3 < 0 ∨ 7 ≤ i3 then none else
  if (i3 + (1 : Int)) < 0 ∨ 7 ≤ (i3 + (1 : Int)) then none else
  if (zget (o5.2.2.2.2.2.2.1) (Int.toNat i3)) < 0 ∨ 35 ≤ (zget (o5.2.2.2.2.2.2.1) (Int.toNat i3)) then none else
  if (zget (o5.2.2.2.2.2.2.1) (Int.toNat (i3 + (1 : Int)))) < 0 ∨ 35 ≤ (zget (o5.2.2.2.2.2.2.1) (Int.toNat (i3 + (1 : Int)))) then none else
  if (zget (o5.2.2.2.2.1) (Int.toNat (zget (o5.2.2.2.2.2.2.1) (Int.toNat i3)))) = (zget (o5.2.2.2.2.1) (Int.toNat (zget (o5.2.2.2.2.2.2.1) (Int.toNat (i3 + (1 : Int)))))) then
  some (.inr (98, i1, i2, i3, (zget (o5.2.2.2.2.2.2.1) (Int.toNat i3)), (o5.1), (o5.2.1), (o5.2.2.1), (o5.2.2.2.1), (o5.2.2.2.2.1), (o5.2.2.2.2.2.1), (o5.2.2.2.2.2.2.1), (o5.2.2.2.2.2.2.2)))
  else
  if (zget (o5.2.2.2.2.1) (Int.toNat (zget (o5.2.2.2.2.2.2.1) (Int.toNat i3)))) = (zget (o5.2.2.2.2.2.1) (Int.toNat (zget (o5.2.2.2.2.2.2.1) (Int.toNat (i3 + (1 : Int)))))) then
  some (.inr (98, i1, i2, i3, (zget (o5.2.2.2.2.2.2.1) (Int.toNat i3)), (o5.1), (o5.2.1), (o5.2.2.1), (o5.2.2.2.1), (o5.2.2.2.2.1), (o5.2.2.2.2.2.1), (o5.2.2.2.2.2.2.1), (o5.2.2.2.2.2.2.2)))
  else
  Option.bind (zf_X11_isBetween t_corners i1 (zget (o5.2.2.2.2.2.1) (Int.toNat (zget (o5.2.2.2.2.2.2.1) (Int.toNat i3)))) i2) (fun o11 =>
  if o11 = false then
  some (.inl ((1 : Int), (o5.1), (o5.2.1), (o5.2.2.1), (o5.2.2.2.1), (o5.2.2.2.2.1), (o5.2.2.2.2.2.1), (o5.2.2.2.2.2.2.1), (o5.2.2.2.2.2.2.2)))
  else
  some (.inl ((0 : Int), (o5.1), (o5.2.1), (o5.2.2.1), (o5.2.2.2.1), (o5.2.2.2.2.1), (o5.2.2.2.2.2.1), (o5.2.2.2.2.2.2.1), (o5.2.2.2.2.2.2.2))))))))
noncomputable def zg_X11_side_98  (t_corners : Int) (t_own : Int) (i1 : Int) (i2 : Int) (i3 : Int) (i4 : Int) (t_lines : Int) (t_linesFor : Int) (t_crossMany : Int) (t_numberOf : Nat) (t_lesser : Nat) (t_greater : Nat) (t_crossLine : Nat) (t_crossFar : Nat) : Option (zO_X11_side ⊕ zS_X11_side) :=
  if i4 < 0 ∨ 35 ≤ i4 then none else
  Option.bind (zf_X11_isBetween t_corners i1 (zget t_lesser (Int.toNat i4)) i2) (fun o20 =>
  if o20 = false then
  some (.inl ((1 : Int), t_lines, t_linesFor, t_crossMany, t_numberOf, t_lesser, t_greater, t_crossLine, t_crossFar))
  else
  some (.inl ((0 : Int), t_lines, t_linesFor, t_crossMany, t_numberOf, t_lesser, t_greater, t_crossLine, t_crossFar)))
noncomputable def zg_X11_side  (t_corners : Int) (t_own : Int) (st : zS_X11_side) : Option (zO_X11_side ⊕ zS_X11_side) := match st with
  | (lab, i1, i2, i3, i4, t_lines, t_linesFor, t_crossMany, t_numberOf, t_lesser, t_greater, t_crossLine, t_crossFar) => if lab = 0 then zg_X11_side_0 t_corners t_own i1 i2 i3 i4 t_lines t_linesFor t_crossMany t_numberOf t_lesser t_greater t_crossLine t_crossFar else if lab = 98 then zg_X11_side_98 t_corners t_own i1 i2 i3 i4 t_lines t_linesFor t_crossMany t_numberOf t_lesser t_greater t_crossLine t_crossFar else none
noncomputable def zf_X11_side  (t_corners : Int) (t_lines : Int) (t_linesFor : Int) (t_own : Int) (t_crossMany : Int) (t_numberOf : Nat) (t_lesser : Nat) (t_greater : Nat) (t_crossLine : Nat) (t_crossFar : Nat) (i1 : Int) (i2 : Int) (i3 : Int) : Option (Int × Int × Int × Int × Nat × Nat × Nat × Nat × Nat) := jrun (zg_X11_side t_corners t_own) jfuel (0, i1, i2, i3, 0, t_lines, t_linesFor, t_crossMany, t_numberOf, t_lesser, t_greater, t_crossLine, t_crossFar)
abbrev zS_X11_greatest : Type := Nat × Int × Int × Int × Int × Int × Int × Int × Int × Int × Int × Int × Nat × Nat × Nat × Nat × Nat × Nat × Nat × Nat
abbrev zO_X11_greatest : Type := Int × Int × Int × Int × Int × Nat × Nat × Nat × Nat × Nat × Nat × Nat × Nat
noncomputable def zg_X11_greatest_0   (i1 : Int) (i2 : Int) (i3 : Int) (i4 : Int) (i5 : Int) (i6 : Int) (i7 : Int) (t_lines : Int) (t_linesFor : Int) (t_listMany : Int) (t_listCorners : Int) (t_numberOf : Nat) (t_lesser : Nat) (t_greater : Nat) (t_list : Nat) (t_tA : Nat) (t_tB : Nat) (t_tC : Nat) (t_from : Nat) : Option (zO_X11_greatest ⊕ zS_X11_greatest) :=
  Option.bind (zf_X11_in i1 (4 : Int) (9 : Int)) (fun o1 =>
  if o1 = false then
  some (.inl ((-2 : Int), t_lines, t_linesFor, t_listMany, t_listCorners, t_numberOf, t_lesser, t_greater, t_list, t_tA, t_tB, t_tC, t_from))
  else
  Option.bind (zf_X11_in i2 (0 : Int) (1 : Int)) (fun o2 =>
  if o2 = false then
  some (.inl ((-2 : Int), t_lines, t_linesFor, t_listMany, t_listCorners, t_numberOf, t_lesser, t_greater, t_list, t_tA, t_tB, t_tC, t_from))
  else
  Option.bind (zf_X11_listFor t_lines t_linesFor t_listMany t_listCorners t_numberOf t_lesser t_greater t_list i1) (fun o3 =>
  some (.inr (35, i1, i2, (0 : Int), (-1 : Int), (0 : Int), 0, 0, (o3.1), (o3.2.1), (o3.2.2.1), (o3.2.2.2.1), (o3.2.2.2.2.1), (o3.2.2.2.2.2.1), (o3.2.2.2.2.2.2.1), (o3.2.2.2.2.2.2.2), t_tA, t_tB, t_tC, t_from)))))
noncomputable def zg_X11_greatest_35   (i1 : Int) (i2 : Int) (i3 : Int) (i4 : Int) (i5 : Int) (i6 : Int) (i7 : Int) (t_lines : Int) (t_linesFor : Int) (t_listMany : Int) (t_listCorners : Int) (t_numberOf : Nat) (t_lesser : Nat) (t_greater : Nat) (t_list : Nat) (t_tA : Nat) (t_tB : Nat) (t_tC : Nat) (t_from : Nat) : Option (zO_X11_greatest ⊕ zS_X11_greatest) :=
  if zout i5 then none else
  if zout t_listMany then none else
  if t_listMany ≤ i5 then
  if zout i2 then none else
  if i2 = 0 then
  some (.inl (i3, t_lines, t_linesFor, t_listMany, t_listCorners, t_numberOf, t_lesser, t_greater, t_list, t_tA, t_tB, t_tC, t_from))
  else
  some (.inl (i4, t_lines, t_linesFor, t_listMany, t_listCorners, t_numberOf, t_lesser, t_greater, t_list, t_tA, t_tB, t_tC, t_from))
  else
  some (.inr (47, i1, i2, i3, i4, i5, (0 : Int), 0, t_lines, t_linesFor, t_listMany, t_listCorners, t_numberOf, t_lesser, t_greater, t_list, t_tA, t_tB, t_tC, t_from))
noncomputable def zg_X11_greatest_47   (i1 : Int) (i2 : Int) (i3 : Int) (i4 : Int) (i5 : Int) (i6 : Int) (i7 : Int) (t_lines : Int) (t_linesFor : Int) (t_listMany : Int) (t_listCorners : Int) (t_numberOf : Nat) (t_lesser : Nat) (t_greater : Nat) (t_list : Nat) (t_tA : Nat) (t_tB : Nat) (t_tC : Nat) (t_from : Nat) : Option (zO_X11_greatest ⊕ zS_X11_greatest) :=
  if zout i6 then none else
  if zout i1 then none else
  if i1 ≤ i6 then
  some (.inr (35, i1, i2, i3, i4, (i5 + (1 : Int)), i6, 0, t_lines, t_linesFor, t_listMany, t_listCorners, t_numberOf, t_lesser, t_greater, t_list, t_tA, t_tB, t_tC, t_from))
  else
  if i5 < 0 ∨ 429 ≤ i5 then none else
  Option.bind (zf_X11_entriesFrom t_lines t_linesFor t_numberOf t_lesser t_greater t_tA t_tB t_tC t_from i1 (zgetL t_list (Int.toNat i5)) i6) (fun o14 =>
  some (.inr (70, i1, i2, i3, i4, i5, i6, (0 : Int), (o14.1), (o14.2.1), t_listMany, t_listCorners, (o14.2.2.1), (o14.2.2.2.1), (o14.2.2.2.2.1), t_list, (o14.2.2.2.2.2.1), (o14.2.2.2.2.2.2.1), (o14.2.2.2.2.2.2.2.1), (o14.2.2.2.2.2.2.2.2))))
noncomputable def zg_X11_greatest_70   (i1 : Int) (i2 : Int) (i3 : Int) (i4 : Int) (i5 : Int) (i6 : Int) (i7 : Int) (t_lines : Int) (t_linesFor : Int) (t_listMany : Int) (t_listCorners : Int) (t_numberOf : Nat) (t_lesser : Nat) (t_greater : Nat) (t_list : Nat) (t_tA : Nat) (t_tB : Nat) (t_tC : Nat) (t_from : Nat) : Option (zO_X11_greatest ⊕ zS_X11_greatest) :=
  if zout i7 then none else
  if zout i1 then none else
  if i1 ≤ i7 then
  some (.inr (47, i1, i2, i3, i4, i5, (i6 + (1 : Int)), i7, t_lines, t_linesFor, t_listMany, t_listCorners, t_numberOf, t_lesser, t_greater, t_list, t_tA, t_tB, t_tC, t_from))
  else
  if i7 < 0 ∨ 10 ≤ i7 then none else
  if zout i3 then none else
  if i3 < (zget t_from (Int.toNat i7)) then
  some (.inr (70, i1, i2, (zget t_from (Int.toNat i7)), i5, i5, i6, (i7 + (1 : Int)), t_lines, t_linesFor, t_listMany, t_listCorners, t_numberOf, t_lesser, t_greater, t_list, t_tA, t_tB, t_tC, t_from))
  else
  some (.inr (70, i1, i2, i3, i4, i5, i6, (i7 + (1 : Int)), t_lines, t_linesFor, t_listMany, t_listCorners, t_numberOf, t_lesser, t_greater, t_list, t_tA, t_tB, t_tC, t_from))
noncomputable def zg_X11_greatest   (st : zS_X11_greatest) : Option (zO_X11_greatest ⊕ zS_X11_greatest) := match st with
  | (lab, i1, i2, i3, i4, i5, i6, i7, t_lines, t_linesFor, t_listMany, t_listCorners, t_numberOf, t_lesser, t_greater, t_list, t_tA, t_tB, t_tC, t_from) => if lab = 0 then zg_X11_greatest_0  i1 i2 i3 i4 i5 i6 i7 t_lines t_linesFor t_listMany t_listCorners t_numberOf t_lesser t_greater t_list t_tA t_tB t_tC t_from else if lab = 35 then zg_X11_greatest_35  i1 i2 i3 i4 i5 i6 i7 t_lines t_linesFor t_listMany t_listCorners t_numberOf t_lesser t_greater t_list t_tA t_tB t_tC t_from else if lab = 47 then zg_X11_greatest_47  i1 i2 i3 i4 i5 i6 i7 t_lines t_linesFor t_listMany t_listCorners t_numberOf t_lesser t_greater t_list t_tA t_tB t_tC t_from else if lab = 70 then zg_X11_greatest_70  i1 i2 i3 i4 i5 i6 i7 t_lines t_linesFor t_listMany t_listCorners t_numberOf t_lesser t_greater t_list t_tA t_tB t_tC t_from else none
noncomputable def zf_X11_greatest  (t_lines : Int) (t_linesFor : Int) (t_listMany : Int) (t_listCorners : Int) (t_numberOf : Nat) (t_lesser : Nat) (t_greater : Nat) (t_list : Nat) (t_tA : Nat) (t_tB : Nat) (t_tC : Nat) (t_from : Nat) (i1 : Int) (i2 : Int) : Option (Int × Int × Int × Int × Int × Nat × Nat × Nat × Nat × Nat × Nat × Nat × Nat) := jrun (zg_X11_greatest ) jfuel (0, i1, i2, 0, 0, 0, 0, 0, t_lines, t_linesFor, t_listMany, t_listCorners, t_numberOf, t_lesser, t_greater, t_list, t_tA, t_tB, t_tC, t_from)
abbrev zS_X11_spread : Type := Nat × Int × Int × Int × Int × Int × Int × Int × Int × Int × Nat × Nat × Nat × Nat × Nat × Nat × Nat × Nat
abbrev zO_X11_spread : Type := Int × Int × Int × Int × Int × Nat × Nat × Nat × Nat × Nat × Nat × Nat × Nat
noncomputable def zg_X11_spread_0  (t_corners : Int) (i1 : Int) (i2 : Int) (i3 : Int) (i4 : Int) (i5 : Int) (t_lines : Int) (t_linesFor : Int) (t_listMany : Int) (t_listCorners : Int) (t_numberOf : Nat) (t_lesser : Nat) (t_greater : Nat) (t_list : Nat) (t_tA : Nat) (t_tB : Nat) (t_tC : Nat) (t_from : Nat) : Option (zO_X11_spread ⊕ zS_X11_spread) :=
  Option.bind (zf_X11_isCorner t_corners i1) (fun o1 =>
  if o1 = false then
  some (.inl ((-2 : Int), t_lines, t_linesFor, t_listMany, t_listCorners, t_numberOf, t_lesser, t_greater, t_list, t_tA, t_tB, t_tC, t_from))
  else
  Option.bind (zf_X11_isCorner t_corners i2) (fun o2 =>
  if o2 = false then
  some (.inl ((-2 : Int), t_lines, t_linesFor, t_listMany, t_listCorners, t_numberOf, t_lesser, t_greater, t_list, t_tA, t_tB, t_tC, t_from))
  else
  Option.bind (zf_X11_listFor t_lines t_linesFor t_listMany t_listCorners t_numberOf t_lesser t_greater t_list t_corners) (fun o3 =>
  some (.inr (33, i1, i2, i3, (0 : Int), (0 : Int), (o3.1), (o3.2.1), (o3.2.2.1), (o3.2.2.2.1), (o3.2.2.2.2.1), (o3.2.2.2.2.2.1), (o3.2.2.2.2.2.2.1), (o3.2.2.2.2.2.2.2), t_tA, t_tB, t_tC, t_from)))))
noncomputable def zg_X11_spread_33  (t_corners : Int) (i1 : Int) (i2 : Int) (i3 : Int) (i4 : Int) (i5 : Int) (t_lines : Int) (t_linesFor : Int) (t_listMany : Int) (t_listCorners : Int) (t_numberOf : Nat) (t_lesser : Nat) (t_greater : Nat) (t_list : Nat) (t_tA : Nat) (t_tB : Nat) (t_tC : Nat) (t_from : Nat) : Option (zO_X11_spread ⊕ zS_X11_spread) :=
  if zout i5 then none else
  if zout t_listMany then none else
  if t_listMany ≤ i5 then
  some (.inl (i4, t_lines, t_linesFor, t_listMany, t_listCorners, t_numberOf, t_lesser, t_greater, t_list, t_tA, t_tB, t_tC, t_from))
  else
  if i5 < 0 ∨ 429 ≤ i5 then none else
  Option.bind (zf_X11_entryOf t_lines t_linesFor t_numberOf t_lesser t_greater t_tA t_tB t_tC t_from t_corners (zgetL t_list (Int.toNat i5)) i1 i2) (fun o9 =>
  if zout (o9.1) then none else
  if zout i3 then none else
  if (o9.1) = i3 then
  some (.inr (33, i1, i2, i3, (i4 + (1 : Int)), (i5 + (1 : Int)), (o9.2.1), (o9.2.2.1), t_listMany, t_listCorners, (o9.2.2.2.1), (o9.2.2.2.2.1), (o9.2.2.2.2.2.1), t_list, (o9.2.2.2.2.2.2.1), (o9.2.2.2.2.2.2.2.1), (o9.2.2.2.2.2.2.2.2.1), (o9.2.2.2.2.2.2.2.2.2)))
  else
  some (.inr (33, i1, i2, i3, (i4 + (0 : Int)), (i5 + (1 : Int)), (o9.2.1), (o9.2.2.1), t_listMany, t_listCorners, (o9.2.2.2.1), (o9.2.2.2.2.1), (o9.2.2.2.2.2.1), t_list, (o9.2.2.2.2.2.2.1), (o9.2.2.2.2.2.2.2.1), (o9.2.2.2.2.2.2.2.2.1), (o9.2.2.2.2.2.2.2.2.2))))
noncomputable def zg_X11_spread  (t_corners : Int) (st : zS_X11_spread) : Option (zO_X11_spread ⊕ zS_X11_spread) := match st with
  | (lab, i1, i2, i3, i4, i5, t_lines, t_linesFor, t_listMany, t_listCorners, t_numberOf, t_lesser, t_greater, t_list, t_tA, t_tB, t_tC, t_from) => if lab = 0 then zg_X11_spread_0 t_corners i1 i2 i3 i4 i5 t_lines t_linesFor t_listMany t_listCorners t_numberOf t_lesser t_greater t_list t_tA t_tB t_tC t_from else if lab = 33 then zg_X11_spread_33 t_corners i1 i2 i3 i4 i5 t_lines t_linesFor t_listMany t_listCorners t_numberOf t_lesser t_greater t_list t_tA t_tB t_tC t_from else none
noncomputable def zf_X11_spread  (t_corners : Int) (t_lines : Int) (t_linesFor : Int) (t_listMany : Int) (t_listCorners : Int) (t_numberOf : Nat) (t_lesser : Nat) (t_greater : Nat) (t_list : Nat) (t_tA : Nat) (t_tB : Nat) (t_tC : Nat) (t_from : Nat) (i1 : Int) (i2 : Int) (i3 : Int) : Option (Int × Int × Int × Int × Int × Nat × Nat × Nat × Nat × Nat × Nat × Nat × Nat) := jrun (zg_X11_spread t_corners) jfuel (0, i1, i2, i3, 0, 0, t_lines, t_linesFor, t_listMany, t_listCorners, t_numberOf, t_lesser, t_greater, t_list, t_tA, t_tB, t_tC, t_from)
abbrev zS_X11_period : Type := Nat × Int × Int × Int × Int × Int × Int × Int × Int × Int × Int × Int × Nat × Nat
abbrev zO_X11_period : Type := Int × Int × Int × Int × Int × Int × Int × Int × Int × Int × Nat × Nat
noncomputable def zg_X11_period_0  (t_tape : Nat) (i1 : Int) (i2 : Int) (t_taped : Int) (t_size : Int) (t_sort : Int) (t_at : Int) (t_end : Int) (t_number : Int) (t_word : Int) (t_rowMany : Int) (t_periodMany : Int) (t_told : Nat) (t_period : Nat) : Option (zO_X11_period ⊕ zS_X11_period) :=
  Option.bind (zf_X11_readRow t_taped t_size t_sort t_at t_end t_number t_word t_rowMany t_tape t_told) (fun o1 =>
  Option.bind (zf_X11_in (o1.1) (1 : Int) (10 : Int)) (fun o2 =>
  if o2 = false then
  some (.inl ((-2 : Int), (o1.2.1), (o1.2.2.1), (o1.2.2.2.1), (o1.2.2.2.2.1), (o1.2.2.2.2.2.1), (o1.2.2.2.2.2.2.1), (o1.2.2.2.2.2.2.2.1), (o1.2.2.2.2.2.2.2.2.1), t_periodMany, (o1.2.2.2.2.2.2.2.2.2), t_period))
  else
  some (.inr (20, (o1.1), (0 : Int), (o1.2.1), (o1.2.2.1), (o1.2.2.2.1), (o1.2.2.2.2.1), (o1.2.2.2.2.2.1), (o1.2.2.2.2.2.2.1), (o1.2.2.2.2.2.2.2.1), (o1.2.2.2.2.2.2.2.2.1), t_periodMany, (o1.2.2.2.2.2.2.2.2.2), t_period))))
noncomputable def zg_X11_period_20  (t_tape : Nat) (i1 : Int) (i2 : Int) (t_taped : Int) (t_size : Int) (t_sort : Int) (t_at : Int) (t_end : Int) (t_number : Int) (t_word : Int) (t_rowMany : Int) (t_periodMany : Int) (t_told : Nat) (t_period : Nat) : Option (zO_X11_period ⊕ zS_X11_period) :=
  if zout i2 then none else
  if zout i1 then none else
  if i1 ≤ i2 then
  some (.inr (56, i1, (0 : Int), t_taped, t_size, t_sort, t_at, t_end, t_number, t_word, t_rowMany, i1, t_told, t_period))
  else
  if i2 < 0 ∨ 10 ≤ i2 then none else
  Option.bind (zf_X11_in (zget t_told (Int.toNat i2)) (1 : Int) (20 : Int)) (fun o7 =>
  if o7 = false then
  some (.inl ((-2 : Int), t_taped, t_size, t_sort, t_at, t_end, t_number, t_word, t_rowMany, t_periodMany, t_told, t_period))
  else
  some (.inr (20, i1, (i2 + (1 : Int)), t_taped, t_size, t_sort, t_at, t_end, t_number, t_word, t_rowMany, t_periodMany, t_told, t_period)))
noncomputable def zg_X11_period_56  (t_tape : Nat) (i1 : Int) (i2 : Int) (t_taped : Int) (t_size : Int) (t_sort : Int) (t_at : Int) (t_end : Int) (t_number : Int) (t_word : Int) (t_rowMany : Int) (t_periodMany : Int) (t_told : Nat) (t_period : Nat) : Option (zO_X11_period ⊕ zS_X11_period) :=
  if zout i2 then none else
  if zout i1 then none else
  if i1 ≤ i2 then
  some (.inl (i1, t_taped, t_size, t_sort, t_at, t_end, t_number, t_word, t_rowMany, t_periodMany, t_told, t_period))
  else
  if i2 < 0 ∨ 10 ≤ i2 then none else
  if i2 < 0 ∨ 11 ≤ i2 then none else
  some (.inr (56, i1, (i2 + (1 : Int)), t_taped, t_size, t_sort, t_at, t_end, t_number, t_word, t_rowMany, t_periodMany, t_told, (zset t_period (Int.toNat i2) (zget t_told (Int.toNat i2)))))
noncomputable def zg_X11_period  (t_tape : Nat) (st : zS_X11_period) : Option (zO_X11_period ⊕ zS_X11_period) := match st with
  | (lab, i1, i2, t_taped, t_size, t_sort, t_at, t_end, t_number, t_word, t_rowMany, t_periodMany, t_told, t_period) => if lab = 0 then zg_X11_period_0 t_tape i1 i2 t_taped t_size t_sort t_at t_end t_number t_word t_rowMany t_periodMany t_told t_period else if lab = 20 then zg_X11_period_20 t_tape i1 i2 t_taped t_size t_sort t_at t_end t_number t_word t_rowMany t_periodMany t_told t_period else if lab = 56 then zg_X11_period_56 t_tape i1 i2 t_taped t_size t_sort t_at t_end t_number t_word t_rowMany t_periodMany t_told t_period else none
noncomputable def zf_X11_period  (t_taped : Int) (t_size : Int) (t_sort : Int) (t_at : Int) (t_end : Int) (t_number : Int) (t_word : Int) (t_rowMany : Int) (t_periodMany : Int) (t_tape : Nat) (t_told : Nat) (t_period : Nat)  : Option (Int × Int × Int × Int × Int × Int × Int × Int × Int × Int × Nat × Nat) := jrun (zg_X11_period t_tape) jfuel (0, 0, 0, t_taped, t_size, t_sort, t_at, t_end, t_number, t_word, t_rowMany, t_periodMany, t_told, t_period)
abbrev zS_X11_ofCut : Type := Nat × Int × Int × Int × Int × Nat × Nat × Nat × Nat
abbrev zO_X11_ofCut : Type := Int × Int × Int × Int × Nat × Nat × Nat × Nat
noncomputable def zg_X11_ofCut_0  (t_corners : Int) (t_own : Int) (i1 : Int) (t_lines : Int) (t_linesFor : Int) (t_periodMany : Int) (t_numberOf : Nat) (t_lesser : Nat) (t_greater : Nat) (t_period : Nat) : Option (zO_X11_ofCut ⊕ zS_X11_ofCut) :=
  Option.bind (zf_X11_linesOf t_lines t_linesFor t_numberOf t_lesser t_greater t_corners) (fun o1 =>
  some (.inr (18, (0 : Int), (o1.1), (o1.2.1), t_corners, (o1.2.2.1), (o1.2.2.2.1), (o1.2.2.2.2), t_period)))
noncomputable def zg_X11_ofCut_18  (t_corners : Int) (t_own : Int) (i1 : Int) (t_lines : Int) (t_linesFor : Int) (t_periodMany : Int) (t_numberOf : Nat) (t_lesser : Nat) (t_greater : Nat) (t_period : Nat) : Option (zO_X11_ofCut ⊕ zS_X11_ofCut) :=
  if zout i1 then none else
  if zout t_corners then none else
  if t_corners ≤ i1 then
  some (.inl (t_corners, t_lines, t_linesFor, t_periodMany, t_numberOf, t_lesser, t_greater, t_period))
  else
  Option.bind (zf_X11_rowAt t_numberOf t_corners t_own i1) (fun o4 =>
  if i1 < 0 ∨ 11 ≤ i1 then none else
  some (.inr (18, (i1 + (1 : Int)), t_lines, t_linesFor, t_periodMany, t_numberOf, t_lesser, t_greater, (zset t_period (Int.toNat i1) o4))))
noncomputable def zg_X11_ofCut  (t_corners : Int) (t_own : Int) (st : zS_X11_ofCut) : Option (zO_X11_ofCut ⊕ zS_X11_ofCut) := match st with
  | (lab, i1, t_lines, t_linesFor, t_periodMany, t_numberOf, t_lesser, t_greater, t_period) => if lab = 0 then zg_X11_ofCut_0 t_corners t_own i1 t_lines t_linesFor t_periodMany t_numberOf t_lesser t_greater t_period else if lab = 18 then zg_X11_ofCut_18 t_corners t_own i1 t_lines t_linesFor t_periodMany t_numberOf t_lesser t_greater t_period else none
noncomputable def zf_X11_ofCut  (t_corners : Int) (t_lines : Int) (t_linesFor : Int) (t_own : Int) (t_periodMany : Int) (t_numberOf : Nat) (t_lesser : Nat) (t_greater : Nat) (t_period : Nat)  : Option (Int × Int × Int × Int × Nat × Nat × Nat × Nat) := jrun (zg_X11_ofCut t_corners t_own) jfuel (0, 0, t_lines, t_linesFor, t_periodMany, t_numberOf, t_lesser, t_greater, t_period)
noncomputable def zf_X11_of  (t_periodMany : Int) (t_period : Nat) (i1 : Int) : Option (Int) :=
  Option.bind (zf_X11_in i1 (0 : Int) (t_periodMany - (1 : Int))) (fun o1 =>
  if o1 = false then
  some ((-2 : Int))
  else
  if i1 < 0 ∨ 11 ≤ i1 then none else
  some ((zget t_period (Int.toNat i1))))
abbrev zS_X11_alongOf : Type := Nat × Int × Int × Int × Int × Int
abbrev zO_X11_alongOf : Type := Int
noncomputable def zg_X11_alongOf_0  (t_periodMany : Int) (t_period : Nat) (i1 : Int) (i2 : Int) (i3 : Int) (i5 : Int) (i7 : Int) : Option (zO_X11_alongOf ⊕ zS_X11_alongOf) :=
  if zout i2 then none else
  if i2 = 0 then
  some (.inl ((0 : Int)))
  else
  some (.inr (14, i1, i2, (0 : Int), (1 : Int), (1 : Int)))
noncomputable def zg_X11_alongOf_14  (t_periodMany : Int) (t_period : Nat) (i1 : Int) (i2 : Int) (i3 : Int) (i5 : Int) (i7 : Int) : Option (zO_X11_alongOf ⊕ zS_X11_alongOf) :=
  if zout i7 then none else
  if zout i2 then none else
  if i2 ≤ i7 then
  some (.inl (i5))
  else
  if zout (i1 + i7) then none else
  if zout t_periodMany then none else
  if t_periodMany = 0 then none else
  if (Int.tmod (i1 + i7) t_periodMany) < 0 ∨ 11 ≤ (Int.tmod (i1 + i7) t_periodMany) then none else
  some (.inr (14, i1, i2, i5, (((zget t_period (Int.toNat (Int.tmod (i1 + i7) t_periodMany))) * i5) - i3), (i7 + (1 : Int))))
noncomputable def zg_X11_alongOf  (t_periodMany : Int) (t_period : Nat) (st : zS_X11_alongOf) : Option (zO_X11_alongOf ⊕ zS_X11_alongOf) := match st with
  | (lab, i1, i2, i3, i5, i7) => if lab = 0 then zg_X11_alongOf_0 t_periodMany t_period i1 i2 i3 i5 i7 else if lab = 14 then zg_X11_alongOf_14 t_periodMany t_period i1 i2 i3 i5 i7 else none
noncomputable def zf_X11_alongOf  (t_periodMany : Int) (t_period : Nat) (i1 : Int) (i2 : Int) : Option (Int) := jrun (zg_X11_alongOf t_periodMany t_period) jfuel (0, i1, i2, 0, 0, 0)
noncomputable def zf_X11_along  (t_periodMany : Int) (t_period : Nat) (i1 : Int) (i2 : Int) : Option (Int) :=
  Option.bind (zf_X11_in i1 (0 : Int) (t_periodMany - (1 : Int))) (fun o1 =>
  if o1 = false then
  some ((-9000000000000000000 : Int))
  else
  Option.bind (zf_X11_in i2 (0 : Int) (12 : Int)) (fun o2 =>
  if o2 = false then
  some ((-9000000000000000000 : Int))
  else
  Option.bind (zf_X11_alongOf t_periodMany t_period i1 i2) (fun o3 =>
  some (o3))))
abbrev zS_X11_isAll : Type := Nat × Int × Int × Int
abbrev zO_X11_isAll : Type := Bool
noncomputable def zg_X11_isAll_0  (t_periodMany : Int) (t_period : Nat) (i1 : Int) (i2 : Int) (i4 : Int) : Option (zO_X11_isAll ⊕ zS_X11_isAll) :=
  some (.inr (3, i1, i2, (0 : Int)))
noncomputable def zg_X11_isAll_3  (t_periodMany : Int) (t_period : Nat) (i1 : Int) (i2 : Int) (i4 : Int) : Option (zO_X11_isAll ⊕ zS_X11_isAll) :=
  if zout i4 then none else
  if zout t_periodMany then none else
  if t_periodMany ≤ i4 then
  some (.inl (true))
  else
  Option.bind (zf_X11_alongOf t_periodMany t_period i4 i1) (fun o3 =>
  if zoutL o3 then none else
  if zoutL i2 then none else
  if o3 = i2 then
  some (.inr (3, i1, i2, (i4 + (1 : Int))))
  else
  some (.inl (false)))
noncomputable def zg_X11_isAll  (t_periodMany : Int) (t_period : Nat) (st : zS_X11_isAll) : Option (zO_X11_isAll ⊕ zS_X11_isAll) := match st with
  | (lab, i1, i2, i4) => if lab = 0 then zg_X11_isAll_0 t_periodMany t_period i1 i2 i4 else if lab = 3 then zg_X11_isAll_3 t_periodMany t_period i1 i2 i4 else none
noncomputable def zf_X11_isAll  (t_periodMany : Int) (t_period : Nat) (i1 : Int) (i2 : Int) : Option (Bool) := jrun (zg_X11_isAll t_periodMany t_period) jfuel (0, i1, i2, 0)
abbrev zS_X11_breaks : Type := Nat × Int × Int × Int
abbrev zO_X11_breaks : Type := Int
noncomputable def zg_X11_breaks_0  (t_periodMany : Int) (t_period : Nat) (i1 : Int) (i2 : Int) (i3 : Int) : Option (zO_X11_breaks ⊕ zS_X11_breaks) :=
  Option.bind (zf_X11_in i1 (0 : Int) (2 : Int)) (fun o1 =>
  if o1 = false then
  some (.inl ((-1 : Int)))
  else
  some (.inr (13, i1, (2 : Int), 0)))
noncomputable def zg_X11_breaks_13  (t_periodMany : Int) (t_period : Nat) (i1 : Int) (i2 : Int) (i3 : Int) : Option (zO_X11_breaks ⊕ zS_X11_breaks) :=
  if zout i2 then none else
  if (12 : Int) < i2 then
  some (.inl ((-1 : Int)))
  else
  some (.inr (21, i1, i2, (0 : Int)))
noncomputable def zg_X11_breaks_21  (t_periodMany : Int) (t_period : Nat) (i1 : Int) (i2 : Int) (i3 : Int) : Option (zO_X11_breaks ⊕ zS_X11_breaks) :=
  if zout i3 then none else
  if zout t_periodMany then none else
  if t_periodMany ≤ i3 then
  some (.inr (13, i1, (i2 + (1 : Int)), i3))
  else
  Option.bind (zf_X11_alongOf t_periodMany t_period i3 i2) (fun o7 =>
  if zoutL o7 then none else
  if o7 ≤ (0 : Int) then
  if zout i1 then none else
  if i1 = 0 then
  some (.inl (i2))
  else
  if i1 = (1 : Int) then
  some (.inl (i3))
  else
  Option.bind (zf_X11_isAll t_periodMany t_period i2 (0 : Int)) (fun o10 =>
  if o10 = false then
  some (.inl ((0 : Int)))
  else
  if zout i2 then none else
  if i2 = (12 : Int) then
  some (.inl ((1 : Int)))
  else
  Option.bind (zf_X11_isAll t_periodMany t_period (i2 + (1 : Int)) (-1 : Int)) (fun o12 =>
  if o12 = false then
  some (.inl ((0 : Int)))
  else
  some (.inl ((1 : Int)))))
  else
  some (.inr (21, i1, i2, (i3 + (1 : Int)))))
noncomputable def zg_X11_breaks  (t_periodMany : Int) (t_period : Nat) (st : zS_X11_breaks) : Option (zO_X11_breaks ⊕ zS_X11_breaks) := match st with
  | (lab, i1, i2, i3) => if lab = 0 then zg_X11_breaks_0 t_periodMany t_period i1 i2 i3 else if lab = 13 then zg_X11_breaks_13 t_periodMany t_period i1 i2 i3 else if lab = 21 then zg_X11_breaks_21 t_periodMany t_period i1 i2 i3 else none
noncomputable def zf_X11_breaks  (t_periodMany : Int) (t_period : Nat) (i1 : Int) : Option (Int) := jrun (zg_X11_breaks t_periodMany t_period) jfuel (0, i1, 0, 0)
noncomputable def zf_X11_growth  (t_periodMany : Int) (t_period : Nat)  : Option (Int) :=
  Option.bind (zf_X11_alongOf t_periodMany t_period (0 : Int) (t_periodMany + (1 : Int))) (fun o1 =>
  if zout t_periodMany then none else
  if t_periodMany = 0 then none else
  Option.bind (zf_X11_alongOf t_periodMany t_period (Int.tmod (1 : Int) t_periodMany) (t_periodMany - (1 : Int))) (fun o4 =>
  some ((o1 - o4))))
abbrev zS_X11_glue : Type := Nat × Int × Int × Int × Int × Nat
abbrev zO_X11_glue : Type := Int × Int × Nat
noncomputable def zg_X11_glue_0   (i1 : Int) (i2 : Int) (i3 : Int) (t_periodMany : Int) (t_period : Nat) : Option (zO_X11_glue ⊕ zS_X11_glue) :=
  Option.bind (zf_X11_in i1 (0 : Int) (t_periodMany - (1 : Int))) (fun o1 =>
  if o1 = false then
  some (.inl ((-2 : Int), t_periodMany, t_period))
  else
  if zout t_periodMany then none else
  if t_periodMany = (10 : Int) then
  some (.inl ((-3 : Int), t_periodMany, t_period))
  else
  if zout (i1 + (1 : Int)) then none else
  if t_periodMany = 0 then none else
  if t_periodMany = (1 : Int) then
  if (zget t_period (Int.toNat (0 : Int))) ≤ (18 : Int) then
  some (.inr (85, i1, (Int.tmod (i1 + (1 : Int)) t_periodMany), 0, t_periodMany, t_period))
  else
  some (.inl ((-3 : Int), t_periodMany, t_period))
  else
  if i1 < 0 ∨ 11 ≤ i1 then none else
  if (19 : Int) < (zget t_period (Int.toNat i1)) then
  some (.inl ((-3 : Int), t_periodMany, t_period))
  else
  if (Int.tmod (i1 + (1 : Int)) t_periodMany) < 0 ∨ 11 ≤ (Int.tmod (i1 + (1 : Int)) t_periodMany) then none else
  if (zget t_period (Int.toNat (Int.tmod (i1 + (1 : Int)) t_periodMany))) ≤ (19 : Int) then
  some (.inr (85, i1, (Int.tmod (i1 + (1 : Int)) t_periodMany), 0, t_periodMany, t_period))
  else
  some (.inl ((-3 : Int), t_periodMany, t_period)))
noncomputable def zg_X11_glue_85   (i1 : Int) (i2 : Int) (i3 : Int) (t_periodMany : Int) (t_period : Nat) : Option (zO_X11_glue ⊕ zS_X11_glue) :=
  if i1 < 0 ∨ 11 ≤ i1 then none else
  if i2 < 0 ∨ 11 ≤ i2 then none else
  some (.inr (110, i1, i2, t_periodMany, t_periodMany, (zset (zset t_period (Int.toNat i1) ((zget t_period (Int.toNat i1)) + (1 : Int))) (Int.toNat i2) ((zget (zset t_period (Int.toNat i1) ((zget t_period (Int.toNat i1)) + (1 : Int))) (Int.toNat i2)) + (1 : Int)))))
noncomputable def zg_X11_glue_110   (i1 : Int) (i2 : Int) (i3 : Int) (t_periodMany : Int) (t_period : Nat) : Option (zO_X11_glue ⊕ zS_X11_glue) :=
  if zout i3 then none else
  if zout (i1 + (1 : Int)) then none else
  if i3 ≤ (i1 + (1 : Int)) then
  if (i1 + (1 : Int)) < 0 ∨ 11 ≤ (i1 + (1 : Int)) then none else
  some (.inl ((t_periodMany + (1 : Int)), (t_periodMany + (1 : Int)), (zset t_period (Int.toNat (i1 + (1 : Int))) (1 : Int))))
  else
  if (i3 - (1 : Int)) < 0 ∨ 11 ≤ (i3 - (1 : Int)) then none else
  if i3 < 0 ∨ 11 ≤ i3 then none else
  some (.inr (110, i1, 0, (i3 + (-1 : Int)), t_periodMany, (zset t_period (Int.toNat i3) (zget t_period (Int.toNat (i3 - (1 : Int)))))))
noncomputable def zg_X11_glue   (st : zS_X11_glue) : Option (zO_X11_glue ⊕ zS_X11_glue) := match st with
  | (lab, i1, i2, i3, t_periodMany, t_period) => if lab = 0 then zg_X11_glue_0  i1 i2 i3 t_periodMany t_period else if lab = 85 then zg_X11_glue_85  i1 i2 i3 t_periodMany t_period else if lab = 110 then zg_X11_glue_110  i1 i2 i3 t_periodMany t_period else none
noncomputable def zf_X11_glue  (t_periodMany : Int) (t_period : Nat) (i1 : Int) : Option (Int × Int × Nat) := jrun (zg_X11_glue ) jfuel (0, i1, 0, 0, t_periodMany, t_period)
noncomputable def zf_X11_isOff  (t_periodMany : Int) (t_period : Nat) (i1 : Int) : Option (Bool) :=
  if zout t_periodMany then none else
  if t_periodMany ≤ (2 : Int) then
  some (false)
  else
  if i1 < 0 ∨ 11 ≤ i1 then none else
  if (zget t_period (Int.toNat i1)) = (1 : Int) then
  if zout (i1 + (1 : Int)) then none else
  if t_periodMany = 0 then none else
  if (Int.tmod (i1 + (1 : Int)) t_periodMany) < 0 ∨ 11 ≤ (Int.tmod (i1 + (1 : Int)) t_periodMany) then none else
  if (zget t_period (Int.toNat (Int.tmod (i1 + (1 : Int)) t_periodMany))) ≤ (1 : Int) then
  some (false)
  else
  if zout ((i1 + t_periodMany) - (1 : Int)) then none else
  if t_periodMany = 0 then none else
  if (Int.tmod ((i1 + t_periodMany) - (1 : Int)) t_periodMany) < 0 ∨ 11 ≤ (Int.tmod ((i1 + t_periodMany) - (1 : Int)) t_periodMany) then none else
  if (zget t_period (Int.toNat (Int.tmod ((i1 + t_periodMany) - (1 : Int)) t_periodMany))) ≤ (1 : Int) then
  some (false)
  else
  some (true)
  else
  some (false)
abbrev zS_X11_off : Type := Nat × Int × Int × Int × Int × Nat
abbrev zO_X11_off : Type := Int × Nat
noncomputable def zg_X11_off_0   (i1 : Int) (i2 : Int) (i3 : Int) (t_periodMany : Int) (t_period : Nat) : Option (zO_X11_off ⊕ zS_X11_off) :=
  if zout (i1 + (1 : Int)) then none else
  if zout t_periodMany then none else
  if t_periodMany = 0 then none else
  if (Int.tmod (i1 + (1 : Int)) t_periodMany) < 0 ∨ 11 ≤ (Int.tmod (i1 + (1 : Int)) t_periodMany) then none else
  if zout ((i1 + t_periodMany) - (1 : Int)) then none else
  if t_periodMany = 0 then none else
  if (Int.tmod ((i1 + t_periodMany) - (1 : Int)) t_periodMany) < 0 ∨ 11 ≤ (Int.tmod ((i1 + t_periodMany) - (1 : Int)) t_periodMany) then none else
  some (.inr (37, i1, t_periodMany, i1, t_periodMany, (zset (zset t_period (Int.toNat (Int.tmod (i1 + (1 : Int)) t_periodMany)) ((zget t_period (Int.toNat (Int.tmod (i1 + (1 : Int)) t_periodMany))) - (1 : Int))) (Int.toNat (Int.tmod ((i1 + t_periodMany) - (1 : Int)) t_periodMany)) ((zget (zset t_period (Int.toNat (Int.tmod (i1 + (1 : Int)) t_periodMany)) ((zget t_period (Int.toNat (Int.tmod (i1 + (1 : Int)) t_periodMany))) - (1 : Int))) (Int.toNat (Int.tmod ((i1 + t_periodMany) - (1 : Int)) t_periodMany))) - (1 : Int)))))
noncomputable def zg_X11_off_37   (i1 : Int) (i2 : Int) (i3 : Int) (t_periodMany : Int) (t_period : Nat) : Option (zO_X11_off ⊕ zS_X11_off) :=
  if zout (i3 + (1 : Int)) then none else
  if zout i2 then none else
  if i2 ≤ (i3 + (1 : Int)) then
  some (.inl ((t_periodMany - (1 : Int)), t_period))
  else
  if (i3 + (1 : Int)) < 0 ∨ 11 ≤ (i3 + (1 : Int)) then none else
  if i3 < 0 ∨ 11 ≤ i3 then none else
  some (.inr (37, 0, i2, (i3 + (1 : Int)), t_periodMany, (zset t_period (Int.toNat i3) (zget t_period (Int.toNat (i3 + (1 : Int)))))))
noncomputable def zg_X11_off   (st : zS_X11_off) : Option (zO_X11_off ⊕ zS_X11_off) := match st with
  | (lab, i1, i2, i3, t_periodMany, t_period) => if lab = 0 then zg_X11_off_0  i1 i2 i3 t_periodMany t_period else if lab = 37 then zg_X11_off_37  i1 i2 i3 t_periodMany t_period else none
noncomputable def zf_X11_off  (t_periodMany : Int) (t_period : Nat) (i1 : Int) : Option (Int × Nat) := jrun (zg_X11_off ) jfuel (0, i1, 0, 0, t_periodMany, t_period)
noncomputable def zf_X11_cutOff  (t_periodMany : Int) (t_period : Nat) (i1 : Int) : Option (Int × Int × Nat) :=
  Option.bind (zf_X11_in i1 (0 : Int) (t_periodMany - (1 : Int))) (fun o1 =>
  if o1 = false then
  some ((-2 : Int), t_periodMany, t_period)
  else
  Option.bind (zf_X11_isOff t_periodMany t_period i1) (fun o2 =>
  if o2 = false then
  some ((-4 : Int), t_periodMany, t_period)
  else
  Option.bind (zf_X11_off t_periodMany t_period i1) (fun o3 =>
  some ((o3.1), (o3.1), (o3.2)))))
abbrev zS_X11_core : Type := Nat × Int × Int × Int × Nat
abbrev zO_X11_core : Type := Int × Int × Nat
noncomputable def zg_X11_core_0   (i1 : Int) (i2 : Int) (t_periodMany : Int) (t_period : Nat) : Option (zO_X11_core ⊕ zS_X11_core) :=
  some (.inr (2, (0 : Int), 0, t_periodMany, t_period))
noncomputable def zg_X11_core_2   (i1 : Int) (i2 : Int) (t_periodMany : Int) (t_period : Nat) : Option (zO_X11_core ⊕ zS_X11_core) :=
  some (.inr (4, i1, (0 : Int), t_periodMany, t_period))
noncomputable def zg_X11_core_4   (i1 : Int) (i2 : Int) (t_periodMany : Int) (t_period : Nat) : Option (zO_X11_core ⊕ zS_X11_core) :=
  if zout i2 then none else
  if zout t_periodMany then none else
  if t_periodMany ≤ i2 then
  some (.inr (28, i1, i2, t_periodMany, t_period))
  else
  if i2 < 0 ∨ 11 ≤ i2 then none else
  if (zget t_period (Int.toNat i2)) = (1 : Int) then
  some (.inr (28, i1, i2, t_periodMany, t_period))
  else
  some (.inr (4, i1, (i2 + (1 : Int)), t_periodMany, t_period))
noncomputable def zg_X11_core_28   (i1 : Int) (i2 : Int) (t_periodMany : Int) (t_period : Nat) : Option (zO_X11_core ⊕ zS_X11_core) :=
  if zout i2 then none else
  if zout t_periodMany then none else
  if i2 = t_periodMany then
  some (.inl (i1, t_periodMany, t_period))
  else
  Option.bind (zf_X11_isOff t_periodMany t_period i2) (fun o8 =>
  if o8 = false then
  some (.inl (i1, t_periodMany, t_period))
  else
  Option.bind (zf_X11_off t_periodMany t_period i2) (fun o9 =>
  some (.inr (2, (i1 + (1 : Int)), i2, (o9.1), (o9.2)))))
noncomputable def zg_X11_core   (st : zS_X11_core) : Option (zO_X11_core ⊕ zS_X11_core) := match st with
  | (lab, i1, i2, t_periodMany, t_period) => if lab = 0 then zg_X11_core_0  i1 i2 t_periodMany t_period else if lab = 2 then zg_X11_core_2  i1 i2 t_periodMany t_period else if lab = 4 then zg_X11_core_4  i1 i2 t_periodMany t_period else if lab = 28 then zg_X11_core_28  i1 i2 t_periodMany t_period else none
noncomputable def zf_X11_core  (t_periodMany : Int) (t_period : Nat)  : Option (Int × Int × Nat) := jrun (zg_X11_core ) jfuel (0, 0, 0, t_periodMany, t_period)
noncomputable def zf_X11_see  (t_corners : Int) (t_seenMany : Int) (t_lastTold : Int) (t_sTold : Nat) (t_sOne : Nat) (t_sTwo : Nat) (t_sEntry : Nat) (i1 : Int) (i2 : Int) (i3 : Int) (i4 : Int) : Option (Int × Int × Int × Nat × Nat × Nat × Nat) :=
  Option.bind (zf_X11_in i1 t_lastTold (999 : Int)) (fun o1 =>
  if o1 = false then
  some ((-2 : Int), t_seenMany, t_lastTold, t_sTold, t_sOne, t_sTwo, t_sEntry)
  else
  Option.bind (zf_X11_isCorner t_corners i2) (fun o2 =>
  if o2 = false then
  some ((-2 : Int), t_seenMany, t_lastTold, t_sTold, t_sOne, t_sTwo, t_sEntry)
  else
  Option.bind (zf_X11_isCorner t_corners i3) (fun o3 =>
  if o3 = false then
  some ((-2 : Int), t_seenMany, t_lastTold, t_sTold, t_sOne, t_sTwo, t_sEntry)
  else
  if zout i2 then none else
  if zout i3 then none else
  if i2 = i3 then
  some ((-2 : Int), t_seenMany, t_lastTold, t_sTold, t_sOne, t_sTwo, t_sEntry)
  else
  Option.bind (zf_X11_in i4 (0 : Int) (9999 : Int)) (fun o6 =>
  if o6 = false then
  some ((-2 : Int), t_seenMany, t_lastTold, t_sTold, t_sOne, t_sTwo, t_sEntry)
  else
  if zout t_seenMany then none else
  if t_seenMany = (20 : Int) then
  some ((-3 : Int), t_seenMany, t_lastTold, t_sTold, t_sOne, t_sTwo, t_sEntry)
  else
  if t_seenMany < 0 ∨ 20 ≤ t_seenMany then none else
  some (((t_seenMany + (1 : Int)) - (1 : Int)), (t_seenMany + (1 : Int)), i1, (zset t_sTold (Int.toNat t_seenMany) i1), (zset t_sOne (Int.toNat t_seenMany) i2), (zset t_sTwo (Int.toNat t_seenMany) i3), (zset t_sEntry (Int.toNat t_seenMany) i4))))))
abbrev zS_X11_right : Type := Nat × Int × Int × Int × Int × Int × Int × Int × Nat × Nat × Nat
abbrev zO_X11_right : Type := Int × Int × Int × Nat × Nat × Nat
noncomputable def zg_X11_right_0  (t_seenMany : Int) (i1 : Int) (i2 : Int) (i3 : Int) (i4 : Int) (i5 : Int) (t_rightMany : Int) (t_lastTold : Int) (t_rTold : Nat) (t_rOf : Nat) (t_rEntry : Nat) : Option (zO_X11_right ⊕ zS_X11_right) :=
  Option.bind (zf_X11_in i1 t_lastTold (999 : Int)) (fun o1 =>
  if o1 = false then
  some (.inl ((-2 : Int), t_rightMany, t_lastTold, t_rTold, t_rOf, t_rEntry))
  else
  Option.bind (zf_X11_in i2 (0 : Int) (t_seenMany - (1 : Int))) (fun o2 =>
  if o2 = false then
  some (.inl ((-2 : Int), t_rightMany, t_lastTold, t_rTold, t_rOf, t_rEntry))
  else
  Option.bind (zf_X11_in i3 (0 : Int) (9999 : Int)) (fun o3 =>
  if o3 = false then
  some (.inl ((-2 : Int), t_rightMany, t_lastTold, t_rTold, t_rOf, t_rEntry))
  else
  if zout t_rightMany then none else
  if t_rightMany = (20 : Int) then
  some (.inl ((-3 : Int), t_rightMany, t_lastTold, t_rTold, t_rOf, t_rEntry))
  else
  if t_rightMany < 0 ∨ 20 ≤ t_rightMany then none else
  some (.inr (105, i1, i2, i3, (0 : Int), (0 : Int), (t_rightMany + (1 : Int)), i1, (zset t_rTold (Int.toNat t_rightMany) i1), (zset t_rOf (Int.toNat t_rightMany) i2), (zset t_rEntry (Int.toNat t_rightMany) i3))))))
noncomputable def zg_X11_right_105  (t_seenMany : Int) (i1 : Int) (i2 : Int) (i3 : Int) (i4 : Int) (i5 : Int) (t_rightMany : Int) (t_lastTold : Int) (t_rTold : Nat) (t_rOf : Nat) (t_rEntry : Nat) : Option (zO_X11_right ⊕ zS_X11_right) :=
  if zout i5 then none else
  if zout t_rightMany then none else
  if t_rightMany ≤ i5 then
  some (.inl (i4, t_rightMany, t_lastTold, t_rTold, t_rOf, t_rEntry))
  else
  if i5 < 0 ∨ 20 ≤ i5 then none else
  if zout i2 then none else
  if (zget t_rOf (Int.toNat i5)) = i2 then
  some (.inr (105, 0, i2, 0, (i4 + (1 : Int)), (i5 + (1 : Int)), t_rightMany, t_lastTold, t_rTold, t_rOf, t_rEntry))
  else
  some (.inr (105, 0, i2, 0, (i4 + (0 : Int)), (i5 + (1 : Int)), t_rightMany, t_lastTold, t_rTold, t_rOf, t_rEntry))
noncomputable def zg_X11_right  (t_seenMany : Int) (st : zS_X11_right) : Option (zO_X11_right ⊕ zS_X11_right) := match st with
  | (lab, i1, i2, i3, i4, i5, t_rightMany, t_lastTold, t_rTold, t_rOf, t_rEntry) => if lab = 0 then zg_X11_right_0 t_seenMany i1 i2 i3 i4 i5 t_rightMany t_lastTold t_rTold t_rOf t_rEntry else if lab = 105 then zg_X11_right_105 t_seenMany i1 i2 i3 i4 i5 t_rightMany t_lastTold t_rTold t_rOf t_rEntry else none
noncomputable def zf_X11_right  (t_seenMany : Int) (t_rightMany : Int) (t_lastTold : Int) (t_rTold : Nat) (t_rOf : Nat) (t_rEntry : Nat) (i1 : Int) (i2 : Int) (i3 : Int) : Option (Int × Int × Int × Nat × Nat × Nat) := jrun (zg_X11_right t_seenMany) jfuel (0, i1, i2, i3, 0, 0, t_rightMany, t_lastTold, t_rTold, t_rOf, t_rEntry)
abbrev zS_X11_isFit : Type := Nat × Int × Int × Int × Int × Int × Int × Int × Nat × Nat × Nat × Nat × Nat × Nat × Nat
abbrev zO_X11_isFit : Type := Bool × Int × Int × Nat × Nat × Nat × Nat × Nat × Nat × Nat
noncomputable def zg_X11_isFit_0  (t_corners : Int) (t_seenMany : Int) (t_rightMany : Int) (t_sTold : Nat) (t_sOne : Nat) (t_sTwo : Nat) (t_sEntry : Nat) (t_rTold : Nat) (t_rOf : Nat) (t_rEntry : Nat) (i1 : Int) (i3 : Int) (i4 : Int) (i5 : Int) (i6 : Int) (t_lines : Int) (t_linesFor : Int) (t_numberOf : Nat) (t_lesser : Nat) (t_greater : Nat) (t_tA : Nat) (t_tB : Nat) (t_tC : Nat) (t_from : Nat) : Option (zO_X11_isFit ⊕ zS_X11_isFit) :=
  some (.inr (3, i1, i3, (0 : Int), 0, 0, t_lines, t_linesFor, t_numberOf, t_lesser, t_greater, t_tA, t_tB, t_tC, t_from))
noncomputable def zg_X11_isFit_3  (t_corners : Int) (t_seenMany : Int) (t_rightMany : Int) (t_sTold : Nat) (t_sOne : Nat) (t_sTwo : Nat) (t_sEntry : Nat) (t_rTold : Nat) (t_rOf : Nat) (t_rEntry : Nat) (i1 : Int) (i3 : Int) (i4 : Int) (i5 : Int) (i6 : Int) (t_lines : Int) (t_linesFor : Int) (t_numberOf : Nat) (t_lesser : Nat) (t_greater : Nat) (t_tA : Nat) (t_tB : Nat) (t_tC : Nat) (t_from : Nat) : Option (zO_X11_isFit ⊕ zS_X11_isFit) :=
  if zout i4 then none else
  if zout t_seenMany then none else
  if t_seenMany ≤ i4 then
  some (.inl (true, t_lines, t_linesFor, t_numberOf, t_lesser, t_greater, t_tA, t_tB, t_tC, t_from))
  else
  if i4 < 0 ∨ 20 ≤ i4 then none else
  if zout i3 then none else
  if (zget t_sTold (Int.toNat i4)) ≤ i3 then
  some (.inr (38, i1, i3, i4, (zget t_sEntry (Int.toNat i4)), (0 : Int), t_lines, t_linesFor, t_numberOf, t_lesser, t_greater, t_tA, t_tB, t_tC, t_from))
  else
  some (.inr (3, i1, i3, (i4 + (1 : Int)), 0, 0, t_lines, t_linesFor, t_numberOf, t_lesser, t_greater, t_tA, t_tB, t_tC, t_from))
noncomputable def zg_X11_isFit_38  (t_corners : Int) (t_seenMany : Int) (t_rightMany : Int) (t_sTold : Nat) (t_sOne : Nat) (t_sTwo : Nat) (t_sEntry : Nat) (t_rTold : Nat) (t_rOf : Nat) (t_rEntry : Nat) (i1 : Int) (i3 : Int) (i4 : Int) (i5 : Int) (i6 : Int) (t_lines : Int) (t_linesFor : Int) (t_numberOf : Nat) (t_lesser : Nat) (t_greater : Nat) (t_tA : Nat) (t_tB : Nat) (t_tC : Nat) (t_from : Nat) : Option (zO_X11_isFit ⊕ zS_X11_isFit) :=
  if zout i6 then none else
  if zout t_rightMany then none else
  if t_rightMany ≤ i6 then
  if i4 < 0 ∨ 20 ≤ i4 then none else
  Option.bind (zf_X11_entryOf t_lines t_linesFor t_numberOf t_lesser t_greater t_tA t_tB t_tC t_from t_corners i1 (zget t_sOne (Int.toNat i4)) (zget t_sTwo (Int.toNat i4))) (fun o10 =>
  if zout (o10.1) then none else
  if zout i5 then none else
  if (o10.1) = i5 then
  some (.inr (3, i1, i3, (i4 + (1 : Int)), i5, i6, (o10.2.1), (o10.2.2.1), (o10.2.2.2.1), (o10.2.2.2.2.1), (o10.2.2.2.2.2.1), (o10.2.2.2.2.2.2.1), (o10.2.2.2.2.2.2.2.1), (o10.2.2.2.2.2.2.2.2.1), (o10.2.2.2.2.2.2.2.2.2)))
  else
  some (.inl (false, (o10.2.1), (o10.2.2.1), (o10.2.2.2.1), (o10.2.2.2.2.1), (o10.2.2.2.2.2.1), (o10.2.2.2.2.2.2.1), (o10.2.2.2.2.2.2.2.1), (o10.2.2.2.2.2.2.2.2.1), (o10.2.2.2.2.2.2.2.2.2))))
  else
  if i6 < 0 ∨ 20 ≤ i6 then none else
  if zout i4 then none else
  if (zget t_rOf (Int.toNat i6)) = i4 then
  if zout i3 then none else
  if i3 < (zget t_rTold (Int.toNat i6)) then
  some (.inr (38, i1, i3, i4, i5, (i6 + (1 : Int)), t_lines, t_linesFor, t_numberOf, t_lesser, t_greater, t_tA, t_tB, t_tC, t_from))
  else
  some (.inr (38, i1, i3, i4, (zget t_rEntry (Int.toNat i6)), (i6 + (1 : Int)), t_lines, t_linesFor, t_numberOf, t_lesser, t_greater, t_tA, t_tB, t_tC, t_from))
  else
  some (.inr (38, i1, i3, i4, i5, (i6 + (1 : Int)), t_lines, t_linesFor, t_numberOf, t_lesser, t_greater, t_tA, t_tB, t_tC, t_from))
noncomputable def zg_X11_isFit  (t_corners : Int) (t_seenMany : Int) (t_rightMany : Int) (t_sTold : Nat) (t_sOne : Nat) (t_sTwo : Nat) (t_sEntry : Nat) (t_rTold : Nat) (t_rOf : Nat) (t_rEntry : Nat) (st : zS_X11_isFit) : Option (zO_X11_isFit ⊕ zS_X11_isFit) := match st with
  | (lab, i1, i3, i4, i5, i6, t_lines, t_linesFor, t_numberOf, t_lesser, t_greater, t_tA, t_tB, t_tC, t_from) => if lab = 0 then zg_X11_isFit_0 t_corners t_seenMany t_rightMany t_sTold t_sOne t_sTwo t_sEntry t_rTold t_rOf t_rEntry i1 i3 i4 i5 i6 t_lines t_linesFor t_numberOf t_lesser t_greater t_tA t_tB t_tC t_from else if lab = 3 then zg_X11_isFit_3 t_corners t_seenMany t_rightMany t_sTold t_sOne t_sTwo t_sEntry t_rTold t_rOf t_rEntry i1 i3 i4 i5 i6 t_lines t_linesFor t_numberOf t_lesser t_greater t_tA t_tB t_tC t_from else if lab = 38 then zg_X11_isFit_38 t_corners t_seenMany t_rightMany t_sTold t_sOne t_sTwo t_sEntry t_rTold t_rOf t_rEntry i1 i3 i4 i5 i6 t_lines t_linesFor t_numberOf t_lesser t_greater t_tA t_tB t_tC t_from else none
noncomputable def zf_X11_isFit  (t_corners : Int) (t_lines : Int) (t_linesFor : Int) (t_seenMany : Int) (t_rightMany : Int) (t_numberOf : Nat) (t_lesser : Nat) (t_greater : Nat) (t_tA : Nat) (t_tB : Nat) (t_tC : Nat) (t_from : Nat) (t_sTold : Nat) (t_sOne : Nat) (t_sTwo : Nat) (t_sEntry : Nat) (t_rTold : Nat) (t_rOf : Nat) (t_rEntry : Nat) (i1 : Int) (i3 : Int) : Option (Bool × Int × Int × Nat × Nat × Nat × Nat × Nat × Nat × Nat) := jrun (zg_X11_isFit t_corners t_seenMany t_rightMany t_sTold t_sOne t_sTwo t_sEntry t_rTold t_rOf t_rEntry) jfuel (0, i1, i3, 0, 0, 0, t_lines, t_linesFor, t_numberOf, t_lesser, t_greater, t_tA, t_tB, t_tC, t_from)
abbrev zS_X11_makeFits : Type := Nat × Int × Int × Int × Int × Int × Int × Int × Nat × Nat × Nat × Nat × Nat × Nat × Nat × Nat × Nat
abbrev zO_X11_makeFits : Type := Int × Int × Int × Int × Int × Nat × Nat × Nat × Nat × Nat × Nat × Nat × Nat × Nat
noncomputable def zg_X11_makeFits_0  (t_corners : Int) (t_seenMany : Int) (t_rightMany : Int) (t_sTold : Nat) (t_sOne : Nat) (t_sTwo : Nat) (t_sEntry : Nat) (t_rTold : Nat) (t_rOf : Nat) (t_rEntry : Nat) (i1 : Int) (i2 : Int) (i3 : Int) (t_lines : Int) (t_linesFor : Int) (t_listMany : Int) (t_listCorners : Int) (t_numberOf : Nat) (t_lesser : Nat) (t_greater : Nat) (t_list : Nat) (t_tA : Nat) (t_tB : Nat) (t_tC : Nat) (t_from : Nat) (t_fits : Nat) : Option (zO_X11_makeFits ⊕ zS_X11_makeFits) :=
  Option.bind (zf_X11_listFor t_lines t_linesFor t_listMany t_listCorners t_numberOf t_lesser t_greater t_list t_corners) (fun o1 =>
  some (.inr (12, i1, (0 : Int), (0 : Int), (o1.1), (o1.2.1), (o1.2.2.1), (o1.2.2.2.1), (o1.2.2.2.2.1), (o1.2.2.2.2.2.1), (o1.2.2.2.2.2.2.1), (o1.2.2.2.2.2.2.2), t_tA, t_tB, t_tC, t_from, t_fits)))
noncomputable def zg_X11_makeFits_12  (t_corners : Int) (t_seenMany : Int) (t_rightMany : Int) (t_sTold : Nat) (t_sOne : Nat) (t_sTwo : Nat) (t_sEntry : Nat) (t_rTold : Nat) (t_rOf : Nat) (t_rEntry : Nat) (i1 : Int) (i2 : Int) (i3 : Int) (t_lines : Int) (t_linesFor : Int) (t_listMany : Int) (t_listCorners : Int) (t_numberOf : Nat) (t_lesser : Nat) (t_greater : Nat) (t_list : Nat) (t_tA : Nat) (t_tB : Nat) (t_tC : Nat) (t_from : Nat) (t_fits : Nat) : Option (zO_X11_makeFits ⊕ zS_X11_makeFits) :=
  if zout i3 then none else
  if zout t_listMany then none else
  if t_listMany ≤ i3 then
  some (.inl (i2, t_lines, t_linesFor, t_listMany, t_listCorners, t_numberOf, t_lesser, t_greater, t_list, t_tA, t_tB, t_tC, t_from, t_fits))
  else
  if i3 < 0 ∨ 429 ≤ i3 then none else
  Option.bind (zf_X11_isFit t_corners t_lines t_linesFor t_seenMany t_rightMany t_numberOf t_lesser t_greater t_tA t_tB t_tC t_from t_sTold t_sOne t_sTwo t_sEntry t_rTold t_rOf t_rEntry (zgetL t_list (Int.toNat i3)) i1) (fun o5 =>
  if (zget (zset t_fits (Int.toNat i3) (bI (o5.1))) (Int.toNat i3)) = 0 then
  some (.inr (12, i1, (i2 + (0 : Int)), (i3 + (1 : Int)), (o5.2.1), (o5.2.2.1), t_listMany, t_listCorners, (o5.2.2.2.1), (o5.2.2.2.2.1), (o5.2.2.2.2.2.1), t_list, (o5.2.2.2.2.2.2.1), (o5.2.2.2.2.2.2.2.1), (o5.2.2.2.2.2.2.2.2.1), (o5.2.2.2.2.2.2.2.2.2), (zset t_fits (Int.toNat i3) (bI (o5.1)))))
  else
  some (.inr (12, i1, (i2 + (1 : Int)), (i3 + (1 : Int)), (o5.2.1), (o5.2.2.1), t_listMany, t_listCorners, (o5.2.2.2.1), (o5.2.2.2.2.1), (o5.2.2.2.2.2.1), t_list, (o5.2.2.2.2.2.2.1), (o5.2.2.2.2.2.2.2.1), (o5.2.2.2.2.2.2.2.2.1), (o5.2.2.2.2.2.2.2.2.2), (zset t_fits (Int.toNat i3) (bI (o5.1))))))
noncomputable def zg_X11_makeFits  (t_corners : Int) (t_seenMany : Int) (t_rightMany : Int) (t_sTold : Nat) (t_sOne : Nat) (t_sTwo : Nat) (t_sEntry : Nat) (t_rTold : Nat) (t_rOf : Nat) (t_rEntry : Nat) (st : zS_X11_makeFits) : Option (zO_X11_makeFits ⊕ zS_X11_makeFits) := match st with
  | (lab, i1, i2, i3, t_lines, t_linesFor, t_listMany, t_listCorners, t_numberOf, t_lesser, t_greater, t_list, t_tA, t_tB, t_tC, t_from, t_fits) => if lab = 0 then zg_X11_makeFits_0 t_corners t_seenMany t_rightMany t_sTold t_sOne t_sTwo t_sEntry t_rTold t_rOf t_rEntry i1 i2 i3 t_lines t_linesFor t_listMany t_listCorners t_numberOf t_lesser t_greater t_list t_tA t_tB t_tC t_from t_fits else if lab = 12 then zg_X11_makeFits_12 t_corners t_seenMany t_rightMany t_sTold t_sOne t_sTwo t_sEntry t_rTold t_rOf t_rEntry i1 i2 i3 t_lines t_linesFor t_listMany t_listCorners t_numberOf t_lesser t_greater t_list t_tA t_tB t_tC t_from t_fits else none
noncomputable def zf_X11_makeFits  (t_corners : Int) (t_lines : Int) (t_linesFor : Int) (t_listMany : Int) (t_listCorners : Int) (t_seenMany : Int) (t_rightMany : Int) (t_numberOf : Nat) (t_lesser : Nat) (t_greater : Nat) (t_list : Nat) (t_tA : Nat) (t_tB : Nat) (t_tC : Nat) (t_from : Nat) (t_sTold : Nat) (t_sOne : Nat) (t_sTwo : Nat) (t_sEntry : Nat) (t_rTold : Nat) (t_rOf : Nat) (t_rEntry : Nat) (t_fits : Nat) (i1 : Int) : Option (Int × Int × Int × Int × Int × Nat × Nat × Nat × Nat × Nat × Nat × Nat × Nat × Nat) := jrun (zg_X11_makeFits t_corners t_seenMany t_rightMany t_sTold t_sOne t_sTwo t_sEntry t_rTold t_rOf t_rEntry) jfuel (0, i1, 0, 0, t_lines, t_linesFor, t_listMany, t_listCorners, t_numberOf, t_lesser, t_greater, t_list, t_tA, t_tB, t_tC, t_from, t_fits)
abbrev zS_X11_fit : Type := Nat × Int × Int × Int × Int × Int × Int × Int × Nat × Nat × Nat × Nat × Nat × Nat × Nat × Nat × Nat
abbrev zO_X11_fit : Type := Int × Int × Int × Int × Int × Nat × Nat × Nat × Nat × Nat × Nat × Nat × Nat × Nat
noncomputable def zg_X11_fit_0  (t_corners : Int) (t_seenMany : Int) (t_rightMany : Int) (t_sTold : Nat) (t_sOne : Nat) (t_sTwo : Nat) (t_sEntry : Nat) (t_rTold : Nat) (t_rOf : Nat) (t_rEntry : Nat) (i1 : Int) (i2 : Int) (i4 : Int) (t_lines : Int) (t_linesFor : Int) (t_listMany : Int) (t_listCorners : Int) (t_numberOf : Nat) (t_lesser : Nat) (t_greater : Nat) (t_list : Nat) (t_tA : Nat) (t_tB : Nat) (t_tC : Nat) (t_from : Nat) (t_fits : Nat) : Option (zO_X11_fit ⊕ zS_X11_fit) :=
  Option.bind (zf_X11_in i1 (0 : Int) (999 : Int)) (fun o1 =>
  if o1 = false then
  some (.inl ((-2 : Int), t_lines, t_linesFor, t_listMany, t_listCorners, t_numberOf, t_lesser, t_greater, t_list, t_tA, t_tB, t_tC, t_from, t_fits))
  else
  Option.bind (zf_X11_in i2 (0 : Int) (1 : Int)) (fun o2 =>
  if o2 = false then
  some (.inl ((-2 : Int), t_lines, t_linesFor, t_listMany, t_listCorners, t_numberOf, t_lesser, t_greater, t_list, t_tA, t_tB, t_tC, t_from, t_fits))
  else
  Option.bind (zf_X11_makeFits t_corners t_lines t_linesFor t_listMany t_listCorners t_seenMany t_rightMany t_numberOf t_lesser t_greater t_list t_tA t_tB t_tC t_from t_sTold t_sOne t_sTwo t_sEntry t_rTold t_rOf t_rEntry t_fits i1) (fun o3 =>
  if zout i2 then none else
  if i2 = 0 then
  some (.inl ((o3.1), (o3.2.1), (o3.2.2.1), (o3.2.2.2.1), (o3.2.2.2.2.1), (o3.2.2.2.2.2.1), (o3.2.2.2.2.2.2.1), (o3.2.2.2.2.2.2.2.1), (o3.2.2.2.2.2.2.2.2.1), (o3.2.2.2.2.2.2.2.2.2.1), (o3.2.2.2.2.2.2.2.2.2.2.1), (o3.2.2.2.2.2.2.2.2.2.2.2.1), (o3.2.2.2.2.2.2.2.2.2.2.2.2.1), (o3.2.2.2.2.2.2.2.2.2.2.2.2.2)))
  else
  some (.inr (38, i1, i2, (0 : Int), (o3.2.1), (o3.2.2.1), (o3.2.2.2.1), (o3.2.2.2.2.1), (o3.2.2.2.2.2.1), (o3.2.2.2.2.2.2.1), (o3.2.2.2.2.2.2.2.1), (o3.2.2.2.2.2.2.2.2.1), (o3.2.2.2.2.2.2.2.2.2.1), (o3.2.2.2.2.2.2.2.2.2.2.1), (o3.2.2.2.2.2.2.2.2.2.2.2.1), (o3.2.2.2.2.2.2.2.2.2.2.2.2.1), (o3.2.2.2.2.2.2.2.2.2.2.2.2.2))))))
noncomputable def zg_X11_fit_38  (t_corners : Int) (t_seenMany : Int) (t_rightMany : Int) (t_sTold : Nat) (t_sOne : Nat) (t_sTwo : Nat) (t_sEntry : Nat) (t_rTold : Nat) (t_rOf : Nat) (t_rEntry : Nat) (i1 : Int) (i2 : Int) (i4 : Int) (t_lines : Int) (t_linesFor : Int) (t_listMany : Int) (t_listCorners : Int) (t_numberOf : Nat) (t_lesser : Nat) (t_greater : Nat) (t_list : Nat) (t_tA : Nat) (t_tB : Nat) (t_tC : Nat) (t_from : Nat) (t_fits : Nat) : Option (zO_X11_fit ⊕ zS_X11_fit) :=
  if zout i4 then none else
  if zout t_listMany then none else
  if t_listMany ≤ i4 then
  some (.inl ((-1 : Int), t_lines, t_linesFor, t_listMany, t_listCorners, t_numberOf, t_lesser, t_greater, t_list, t_tA, t_tB, t_tC, t_from, t_fits))
  else
  if i4 < 0 ∨ 429 ≤ i4 then none else
  if (zget t_fits (Int.toNat i4)) = 0 then
  some (.inr (38, 0, 0, (i4 + (1 : Int)), t_lines, t_linesFor, t_listMany, t_listCorners, t_numberOf, t_lesser, t_greater, t_list, t_tA, t_tB, t_tC, t_from, t_fits))
  else
  some (.inl (i4, t_lines, t_linesFor, t_listMany, t_listCorners, t_numberOf, t_lesser, t_greater, t_list, t_tA, t_tB, t_tC, t_from, t_fits))
noncomputable def zg_X11_fit  (t_corners : Int) (t_seenMany : Int) (t_rightMany : Int) (t_sTold : Nat) (t_sOne : Nat) (t_sTwo : Nat) (t_sEntry : Nat) (t_rTold : Nat) (t_rOf : Nat) (t_rEntry : Nat) (st : zS_X11_fit) : Option (zO_X11_fit ⊕ zS_X11_fit) := match st with
  | (lab, i1, i2, i4, t_lines, t_linesFor, t_listMany, t_listCorners, t_numberOf, t_lesser, t_greater, t_list, t_tA, t_tB, t_tC, t_from, t_fits) => if lab = 0 then zg_X11_fit_0 t_corners t_seenMany t_rightMany t_sTold t_sOne t_sTwo t_sEntry t_rTold t_rOf t_rEntry i1 i2 i4 t_lines t_linesFor t_listMany t_listCorners t_numberOf t_lesser t_greater t_list t_tA t_tB t_tC t_from t_fits else if lab = 38 then zg_X11_fit_38 t_corners t_seenMany t_rightMany t_sTold t_sOne t_sTwo t_sEntry t_rTold t_rOf t_rEntry i1 i2 i4 t_lines t_linesFor t_listMany t_listCorners t_numberOf t_lesser t_greater t_list t_tA t_tB t_tC t_from t_fits else none
noncomputable def zf_X11_fit  (t_corners : Int) (t_lines : Int) (t_linesFor : Int) (t_listMany : Int) (t_listCorners : Int) (t_seenMany : Int) (t_rightMany : Int) (t_numberOf : Nat) (t_lesser : Nat) (t_greater : Nat) (t_list : Nat) (t_tA : Nat) (t_tB : Nat) (t_tC : Nat) (t_from : Nat) (t_sTold : Nat) (t_sOne : Nat) (t_sTwo : Nat) (t_sEntry : Nat) (t_rTold : Nat) (t_rOf : Nat) (t_rEntry : Nat) (t_fits : Nat) (i1 : Int) (i2 : Int) : Option (Int × Int × Int × Int × Int × Nat × Nat × Nat × Nat × Nat × Nat × Nat × Nat × Nat) := jrun (zg_X11_fit t_corners t_seenMany t_rightMany t_sTold t_sOne t_sTwo t_sEntry t_rTold t_rOf t_rEntry) jfuel (0, i1, i2, 0, t_lines, t_linesFor, t_listMany, t_listCorners, t_numberOf, t_lesser, t_greater, t_list, t_tA, t_tB, t_tC, t_from, t_fits)
abbrev zS_X11_surely : Type := Nat × Int × Int × Int × Int × Int × Int × Int × Int × Int × Int × Nat × Nat × Nat × Nat × Nat × Nat × Nat × Nat × Nat
abbrev zO_X11_surely : Type := Int × Int × Int × Int × Int × Nat × Nat × Nat × Nat × Nat × Nat × Nat × Nat × Nat
noncomputable def zg_X11_surely_0  (t_corners : Int) (t_seenMany : Int) (t_rightMany : Int) (t_sTold : Nat) (t_sOne : Nat) (t_sTwo : Nat) (t_sEntry : Nat) (t_rTold : Nat) (t_rOf : Nat) (t_rEntry : Nat) (i1 : Int) (i2 : Int) (i3 : Int) (i4 : Int) (i5 : Int) (i6 : Int) (t_lines : Int) (t_linesFor : Int) (t_listMany : Int) (t_listCorners : Int) (t_numberOf : Nat) (t_lesser : Nat) (t_greater : Nat) (t_list : Nat) (t_tA : Nat) (t_tB : Nat) (t_tC : Nat) (t_from : Nat) (t_fits : Nat) : Option (zO_X11_surely ⊕ zS_X11_surely) :=
  Option.bind (zf_X11_isCorner t_corners i1) (fun o1 =>
  if o1 = false then
  some (.inl ((-2 : Int), t_lines, t_linesFor, t_listMany, t_listCorners, t_numberOf, t_lesser, t_greater, t_list, t_tA, t_tB, t_tC, t_from, t_fits))
  else
  Option.bind (zf_X11_isCorner t_corners i2) (fun o2 =>
  if o2 = false then
  some (.inl ((-2 : Int), t_lines, t_linesFor, t_listMany, t_listCorners, t_numberOf, t_lesser, t_greater, t_list, t_tA, t_tB, t_tC, t_from, t_fits))
  else
  Option.bind (zf_X11_isLine t_corners i1 i2) (fun o3 =>
  if o3 = false then
  some (.inl ((-2 : Int), t_lines, t_linesFor, t_listMany, t_listCorners, t_numberOf, t_lesser, t_greater, t_list, t_tA, t_tB, t_tC, t_from, t_fits))
  else
  Option.bind (zf_X11_in i3 (0 : Int) (999 : Int)) (fun o4 =>
  if o4 = false then
  some (.inl ((-2 : Int), t_lines, t_linesFor, t_listMany, t_listCorners, t_numberOf, t_lesser, t_greater, t_list, t_tA, t_tB, t_tC, t_from, t_fits))
  else
  Option.bind (zf_X11_makeFits t_corners t_lines t_linesFor t_listMany t_listCorners t_seenMany t_rightMany t_numberOf t_lesser t_greater t_list t_tA t_tB t_tC t_from t_sTold t_sOne t_sTwo t_sEntry t_rTold t_rOf t_rEntry t_fits i3) (fun o5 =>
  some (.inr (55, i1, i2, i3, (o5.1), (0 : Int), (0 : Int), (o5.2.1), (o5.2.2.1), (o5.2.2.2.1), (o5.2.2.2.2.1), (o5.2.2.2.2.2.1), (o5.2.2.2.2.2.2.1), (o5.2.2.2.2.2.2.2.1), (o5.2.2.2.2.2.2.2.2.1), (o5.2.2.2.2.2.2.2.2.2.1), (o5.2.2.2.2.2.2.2.2.2.2.1), (o5.2.2.2.2.2.2.2.2.2.2.2.1), (o5.2.2.2.2.2.2.2.2.2.2.2.2.1), (o5.2.2.2.2.2.2.2.2.2.2.2.2.2))))))))
noncomputable def zg_X11_surely_55  (t_corners : Int) (t_seenMany : Int) (t_rightMany : Int) (t_sTold : Nat) (t_sOne : Nat) (t_sTwo : Nat) (t_sEntry : Nat) (t_rTold : Nat) (t_rOf : Nat) (t_rEntry : Nat) (i1 : Int) (i2 : Int) (i3 : Int) (i4 : Int) (i5 : Int) (i6 : Int) (t_lines : Int) (t_linesFor : Int) (t_listMany : Int) (t_listCorners : Int) (t_numberOf : Nat) (t_lesser : Nat) (t_greater : Nat) (t_list : Nat) (t_tA : Nat) (t_tB : Nat) (t_tC : Nat) (t_from : Nat) (t_fits : Nat) : Option (zO_X11_surely ⊕ zS_X11_surely) :=
  if zout i6 then none else
  if zout t_listMany then none else
  if t_listMany ≤ i6 then
  if zout i4 then none else
  if i4 = 0 then
  some (.inl ((-1 : Int), t_lines, t_linesFor, t_listMany, t_listCorners, t_numberOf, t_lesser, t_greater, t_list, t_tA, t_tB, t_tC, t_from, t_fits))
  else
  if zout i5 then none else
  if i5 = i4 then
  some (.inl ((1 : Int), t_lines, t_linesFor, t_listMany, t_listCorners, t_numberOf, t_lesser, t_greater, t_list, t_tA, t_tB, t_tC, t_from, t_fits))
  else
  if i5 = 0 then
  some (.inl ((0 : Int), t_lines, t_linesFor, t_listMany, t_listCorners, t_numberOf, t_lesser, t_greater, t_list, t_tA, t_tB, t_tC, t_from, t_fits))
  else
  some (.inl ((2 : Int), t_lines, t_linesFor, t_listMany, t_listCorners, t_numberOf, t_lesser, t_greater, t_list, t_tA, t_tB, t_tC, t_from, t_fits))
  else
  if i6 < 0 ∨ 429 ≤ i6 then none else
  if (zget t_fits (Int.toNat i6)) = 0 then
  some (.inr (55, i1, i2, 0, i4, (i5 + (0 : Int)), (i6 + (1 : Int)), t_lines, t_linesFor, t_listMany, t_listCorners, t_numberOf, t_lesser, t_greater, t_list, t_tA, t_tB, t_tC, t_from, t_fits))
  else
  Option.bind (zf_X11_near t_numberOf t_corners (zgetL t_list (Int.toNat i6)) i1 i2) (fun o18 =>
  if o18 = false then
  some (.inr (55, i1, i2, 0, i4, (i5 + (0 : Int)), (i6 + (1 : Int)), t_lines, t_linesFor, t_listMany, t_listCorners, t_numberOf, t_lesser, t_greater, t_list, t_tA, t_tB, t_tC, t_from, t_fits))
  else
  some (.inr (55, i1, i2, 0, i4, (i5 + (1 : Int)), (i6 + (1 : Int)), t_lines, t_linesFor, t_listMany, t_listCorners, t_numberOf, t_lesser, t_greater, t_list, t_tA, t_tB, t_tC, t_from, t_fits)))
noncomputable def zg_X11_surely  (t_corners : Int) (t_seenMany : Int) (t_rightMany : Int) (t_sTold : Nat) (t_sOne : Nat) (t_sTwo : Nat) (t_sEntry : Nat) (t_rTold : Nat) (t_rOf : Nat) (t_rEntry : Nat) (st : zS_X11_surely) : Option (zO_X11_surely ⊕ zS_X11_surely) := match st with
  | (lab, i1, i2, i3, i4, i5, i6, t_lines, t_linesFor, t_listMany, t_listCorners, t_numberOf, t_lesser, t_greater, t_list, t_tA, t_tB, t_tC, t_from, t_fits) => if lab = 0 then zg_X11_surely_0 t_corners t_seenMany t_rightMany t_sTold t_sOne t_sTwo t_sEntry t_rTold t_rOf t_rEntry i1 i2 i3 i4 i5 i6 t_lines t_linesFor t_listMany t_listCorners t_numberOf t_lesser t_greater t_list t_tA t_tB t_tC t_from t_fits else if lab = 55 then zg_X11_surely_55 t_corners t_seenMany t_rightMany t_sTold t_sOne t_sTwo t_sEntry t_rTold t_rOf t_rEntry i1 i2 i3 i4 i5 i6 t_lines t_linesFor t_listMany t_listCorners t_numberOf t_lesser t_greater t_list t_tA t_tB t_tC t_from t_fits else none
noncomputable def zf_X11_surely  (t_corners : Int) (t_lines : Int) (t_linesFor : Int) (t_listMany : Int) (t_listCorners : Int) (t_seenMany : Int) (t_rightMany : Int) (t_numberOf : Nat) (t_lesser : Nat) (t_greater : Nat) (t_list : Nat) (t_tA : Nat) (t_tB : Nat) (t_tC : Nat) (t_from : Nat) (t_sTold : Nat) (t_sOne : Nat) (t_sTwo : Nat) (t_sEntry : Nat) (t_rTold : Nat) (t_rOf : Nat) (t_rEntry : Nat) (t_fits : Nat) (i1 : Int) (i2 : Int) (i3 : Int) : Option (Int × Int × Int × Int × Int × Nat × Nat × Nat × Nat × Nat × Nat × Nat × Nat × Nat) := jrun (zg_X11_surely t_corners t_seenMany t_rightMany t_sTold t_sOne t_sTwo t_sEntry t_rTold t_rOf t_rEntry) jfuel (0, i1, i2, i3, 0, 0, 0, t_lines, t_linesFor, t_listMany, t_listCorners, t_numberOf, t_lesser, t_greater, t_list, t_tA, t_tB, t_tC, t_from, t_fits)
abbrev zS_X11_ask : Type := Nat × Int × Int × Int × Int × Int × Int × Int × Int × Int × Int × Int × Int × Nat × Nat × Nat × Nat × Nat × Nat × Nat × Nat × Nat × Nat
abbrev zO_X11_ask : Type := Int × Int × Int × Int × Int × Nat × Nat × Nat × Nat × Nat × Nat × Nat × Nat × Nat × Nat
noncomputable def zg_X11_ask_0  (t_corners : Int) (t_seenMany : Int) (t_rightMany : Int) (t_sTold : Nat) (t_sOne : Nat) (t_sTwo : Nat) (t_sEntry : Nat) (t_rTold : Nat) (t_rOf : Nat) (t_rEntry : Nat) (i1 : Int) (i2 : Int) (i3 : Int) (i4 : Int) (i5 : Int) (i6 : Int) (i7 : Int) (i8 : Int) (t_lines : Int) (t_linesFor : Int) (t_listMany : Int) (t_listCorners : Int) (t_numberOf : Nat) (t_lesser : Nat) (t_greater : Nat) (t_list : Nat) (t_tA : Nat) (t_tB : Nat) (t_tC : Nat) (t_from : Nat) (t_fits : Nat) (t_heaps : Nat) : Option (zO_X11_ask ⊕ zS_X11_ask) :=
  Option.bind (zf_X11_in i1 (0 : Int) (999 : Int)) (fun o1 =>
  if o1 = false then
  some (.inl ((-2 : Int), t_lines, t_linesFor, t_listMany, t_listCorners, t_numberOf, t_lesser, t_greater, t_list, t_tA, t_tB, t_tC, t_from, t_fits, t_heaps))
  else
  Option.bind (zf_X11_makeFits t_corners t_lines t_linesFor t_listMany t_listCorners t_seenMany t_rightMany t_numberOf t_lesser t_greater t_list t_tA t_tB t_tC t_from t_sTold t_sOne t_sTwo t_sEntry t_rTold t_rOf t_rEntry t_fits i1) (fun o2 =>
  some (.inr (22, i1, (o2.1), (0 : Int), 0, 0, 0, 0, 0, (o2.2.1), (o2.2.2.1), (o2.2.2.2.1), (o2.2.2.2.2.1), (o2.2.2.2.2.2.1), (o2.2.2.2.2.2.2.1), (o2.2.2.2.2.2.2.2.1), (o2.2.2.2.2.2.2.2.2.1), (o2.2.2.2.2.2.2.2.2.2.1), (o2.2.2.2.2.2.2.2.2.2.2.1), (o2.2.2.2.2.2.2.2.2.2.2.2.1), (o2.2.2.2.2.2.2.2.2.2.2.2.2.1), (o2.2.2.2.2.2.2.2.2.2.2.2.2.2), t_heaps))))
noncomputable def zg_X11_ask_22  (t_corners : Int) (t_seenMany : Int) (t_rightMany : Int) (t_sTold : Nat) (t_sOne : Nat) (t_sTwo : Nat) (t_sEntry : Nat) (t_rTold : Nat) (t_rOf : Nat) (t_rEntry : Nat) (i1 : Int) (i2 : Int) (i3 : Int) (i4 : Int) (i5 : Int) (i6 : Int) (i7 : Int) (i8 : Int) (t_lines : Int) (t_linesFor : Int) (t_listMany : Int) (t_listCorners : Int) (t_numberOf : Nat) (t_lesser : Nat) (t_greater : Nat) (t_list : Nat) (t_tA : Nat) (t_tB : Nat) (t_tC : Nat) (t_from : Nat) (t_fits : Nat) (t_heaps : Nat) : Option (zO_X11_ask ⊕ zS_X11_ask) :=
  if zout i3 then none else
  if (6400 : Int) ≤ i3 then
  some (.inr (44, 0, i2, (0 : Int), 0, 0, 0, 0, 0, t_lines, t_linesFor, t_listMany, t_listCorners, t_numberOf, t_lesser, t_greater, t_list, t_tA, t_tB, t_tC, t_from, t_fits, t_heaps))
  else
  if i3 < 0 ∨ 6400 ≤ i3 then none else
  some (.inr (22, 0, i2, (i3 + (1 : Int)), 0, 0, 0, 0, 0, t_lines, t_linesFor, t_listMany, t_listCorners, t_numberOf, t_lesser, t_greater, t_list, t_tA, t_tB, t_tC, t_from, t_fits, (zset t_heaps (Int.toNat i3) (0 : Int))))
noncomputable def zg_X11_ask_44  (t_corners : Int) (t_seenMany : Int) (t_rightMany : Int) (t_sTold : Nat) (t_sOne : Nat) (t_sTwo : Nat) (t_sEntry : Nat) (t_rTold : Nat) (t_rOf : Nat) (t_rEntry : Nat) (i1 : Int) (i2 : Int) (i3 : Int) (i4 : Int) (i5 : Int) (i6 : Int) (i7 : Int) (i8 : Int) (t_lines : Int) (t_linesFor : Int) (t_listMany : Int) (t_listCorners : Int) (t_numberOf : Nat) (t_lesser : Nat) (t_greater : Nat) (t_list : Nat) (t_tA : Nat) (t_tB : Nat) (t_tC : Nat) (t_from : Nat) (t_fits : Nat) (t_heaps : Nat) : Option (zO_X11_ask ⊕ zS_X11_ask) :=
  if zout i3 then none else
  if zout t_listMany then none else
  if t_listMany ≤ i3 then
  some (.inr (161, 0, i2, (-1 : Int), i2, (0 : Int), 0, 0, 0, t_lines, t_linesFor, t_listMany, t_listCorners, t_numberOf, t_lesser, t_greater, t_list, t_tA, t_tB, t_tC, t_from, t_fits, t_heaps))
  else
  if i3 < 0 ∨ 429 ≤ i3 then none else
  if (zget t_fits (Int.toNat i3)) = 0 then
  some (.inr (44, 0, i2, (i3 + (1 : Int)), 0, 0, 0, 0, 0, t_lines, t_linesFor, t_listMany, t_listCorners, t_numberOf, t_lesser, t_greater, t_list, t_tA, t_tB, t_tC, t_from, t_fits, t_heaps))
  else
  some (.inr (67, 0, i2, i3, (0 : Int), 0, 0, 0, 0, t_lines, t_linesFor, t_listMany, t_listCorners, t_numberOf, t_lesser, t_greater, t_list, t_tA, t_tB, t_tC, t_from, t_fits, t_heaps))
noncomputable def zg_X11_ask_67  (t_corners : Int) (t_seenMany : Int) (t_rightMany : Int) (t_sTold : Nat) (t_sOne : Nat) (t_sTwo : Nat) (t_sEntry : Nat) (t_rTold : Nat) (t_rOf : Nat) (t_rEntry : Nat) (i1 : Int) (i2 : Int) (i3 : Int) (i4 : Int) (i5 : Int) (i6 : Int) (i7 : Int) (i8 : Int) (t_lines : Int) (t_linesFor : Int) (t_listMany : Int) (t_listCorners : Int) (t_numberOf : Nat) (t_lesser : Nat) (t_greater : Nat) (t_list : Nat) (t_tA : Nat) (t_tB : Nat) (t_tC : Nat) (t_from : Nat) (t_fits : Nat) (t_heaps : Nat) : Option (zO_X11_ask ⊕ zS_X11_ask) :=
  if zout i4 then none else
  if zout t_corners then none else
  if t_corners ≤ i4 then
  some (.inr (44, 0, i2, (i3 + (1 : Int)), i4, 0, 0, 0, 0, t_lines, t_linesFor, t_listMany, t_listCorners, t_numberOf, t_lesser, t_greater, t_list, t_tA, t_tB, t_tC, t_from, t_fits, t_heaps))
  else
  if i3 < 0 ∨ 429 ≤ i3 then none else
  Option.bind (zf_X11_entriesFrom t_lines t_linesFor t_numberOf t_lesser t_greater t_tA t_tB t_tC t_from t_corners (zgetL t_list (Int.toNat i3)) i4) (fun o15 =>
  some (.inr (98, 0, i2, i3, i4, (i4 + (1 : Int)), 0, 0, 0, (o15.1), (o15.2.1), t_listMany, t_listCorners, (o15.2.2.1), (o15.2.2.2.1), (o15.2.2.2.2.1), t_list, (o15.2.2.2.2.2.1), (o15.2.2.2.2.2.2.1), (o15.2.2.2.2.2.2.2.1), (o15.2.2.2.2.2.2.2.2), t_fits, t_heaps)))
noncomputable def zg_X11_ask_98  (t_corners : Int) (t_seenMany : Int) (t_rightMany : Int) (t_sTold : Nat) (t_sOne : Nat) (t_sTwo : Nat) (t_sEntry : Nat) (t_rTold : Nat) (t_rOf : Nat) (t_rEntry : Nat) (i1 : Int) (i2 : Int) (i3 : Int) (i4 : Int) (i5 : Int) (i6 : Int) (i7 : Int) (i8 : Int) (t_lines : Int) (t_linesFor : Int) (t_listMany : Int) (t_listCorners : Int) (t_numberOf : Nat) (t_lesser : Nat) (t_greater : Nat) (t_list : Nat) (t_tA : Nat) (t_tB : Nat) (t_tC : Nat) (t_from : Nat) (t_fits : Nat) (t_heaps : Nat) : Option (zO_X11_ask ⊕ zS_X11_ask) :=
  if zout i5 then none else
  if zout t_corners then none else
  if t_corners ≤ i5 then
  some (.inr (67, 0, i2, i3, (i4 + (1 : Int)), i5, 0, 0, 0, t_lines, t_linesFor, t_listMany, t_listCorners, t_numberOf, t_lesser, t_greater, t_list, t_tA, t_tB, t_tC, t_from, t_fits, t_heaps))
  else
  if i5 < 0 ∨ 10 ≤ i5 then none else
  if (((64 : Int) * (((10 : Int) * i4) + i5)) + (zget t_from (Int.toNat i5))) < 0 ∨ 6400 ≤ (((64 : Int) * (((10 : Int) * i4) + i5)) + (zget t_from (Int.toNat i5))) then none else
  some (.inr (98, 0, i2, i3, i4, (i5 + (1 : Int)), 0, 0, 0, t_lines, t_linesFor, t_listMany, t_listCorners, t_numberOf, t_lesser, t_greater, t_list, t_tA, t_tB, t_tC, t_from, t_fits, (zset t_heaps (Int.toNat (((64 : Int) * (((10 : Int) * i4) + i5)) + (zget t_from (Int.toNat i5)))) ((zget t_heaps (Int.toNat (((64 : Int) * (((10 : Int) * i4) + i5)) + (zget t_from (Int.toNat i5))))) + (1 : Int)))))
noncomputable def zg_X11_ask_161  (t_corners : Int) (t_seenMany : Int) (t_rightMany : Int) (t_sTold : Nat) (t_sOne : Nat) (t_sTwo : Nat) (t_sEntry : Nat) (t_rTold : Nat) (t_rOf : Nat) (t_rEntry : Nat) (i1 : Int) (i2 : Int) (i3 : Int) (i4 : Int) (i5 : Int) (i6 : Int) (i7 : Int) (i8 : Int) (t_lines : Int) (t_linesFor : Int) (t_listMany : Int) (t_listCorners : Int) (t_numberOf : Nat) (t_lesser : Nat) (t_greater : Nat) (t_list : Nat) (t_tA : Nat) (t_tB : Nat) (t_tC : Nat) (t_from : Nat) (t_fits : Nat) (t_heaps : Nat) : Option (zO_X11_ask ⊕ zS_X11_ask) :=
  if zout i5 then none else
  if zout t_corners then none else
  if t_corners ≤ i5 then
  some (.inl (i3, t_lines, t_linesFor, t_listMany, t_listCorners, t_numberOf, t_lesser, t_greater, t_list, t_tA, t_tB, t_tC, t_from, t_fits, t_heaps))
  else
  some (.inr (176, 0, 0, i3, i4, i5, (i5 + (1 : Int)), 0, 0, t_lines, t_linesFor, t_listMany, t_listCorners, t_numberOf, t_lesser, t_greater, t_list, t_tA, t_tB, t_tC, t_from, t_fits, t_heaps))
noncomputable def zg_X11_ask_176  (t_corners : Int) (t_seenMany : Int) (t_rightMany : Int) (t_sTold : Nat) (t_sOne : Nat) (t_sTwo : Nat) (t_sEntry : Nat) (t_rTold : Nat) (t_rOf : Nat) (t_rEntry : Nat) (i1 : Int) (i2 : Int) (i3 : Int) (i4 : Int) (i5 : Int) (i6 : Int) (i7 : Int) (i8 : Int) (t_lines : Int) (t_linesFor : Int) (t_listMany : Int) (t_listCorners : Int) (t_numberOf : Nat) (t_lesser : Nat) (t_greater : Nat) (t_list : Nat) (t_tA : Nat) (t_tB : Nat) (t_tC : Nat) (t_from : Nat) (t_fits : Nat) (t_heaps : Nat) : Option (zO_X11_ask ⊕ zS_X11_ask) :=
  if zout i6 then none else
  if zout t_corners then none else
  if t_corners ≤ i6 then
  some (.inr (161, 0, 0, i3, i4, (i5 + (1 : Int)), i6, 0, 0, t_lines, t_linesFor, t_listMany, t_listCorners, t_numberOf, t_lesser, t_greater, t_list, t_tA, t_tB, t_tC, t_from, t_fits, t_heaps))
  else
  some (.inr (191, 0, 0, i3, i4, i5, i6, (0 : Int), (0 : Int), t_lines, t_linesFor, t_listMany, t_listCorners, t_numberOf, t_lesser, t_greater, t_list, t_tA, t_tB, t_tC, t_from, t_fits, t_heaps))
noncomputable def zg_X11_ask_191  (t_corners : Int) (t_seenMany : Int) (t_rightMany : Int) (t_sTold : Nat) (t_sOne : Nat) (t_sTwo : Nat) (t_sEntry : Nat) (t_rTold : Nat) (t_rOf : Nat) (t_rEntry : Nat) (i1 : Int) (i2 : Int) (i3 : Int) (i4 : Int) (i5 : Int) (i6 : Int) (i7 : Int) (i8 : Int) (t_lines : Int) (t_linesFor : Int) (t_listMany : Int) (t_listCorners : Int) (t_numberOf : Nat) (t_lesser : Nat) (t_greater : Nat) (t_list : Nat) (t_tA : Nat) (t_tB : Nat) (t_tC : Nat) (t_from : Nat) (t_fits : Nat) (t_heaps : Nat) : Option (zO_X11_ask ⊕ zS_X11_ask) :=
  if zout i8 then none else
  if (64 : Int) ≤ i8 then
  if zout i7 then none else
  if zout i4 then none else
  if i7 < i4 then
  some (.inr (176, 0, 0, (((16 : Int) * i5) + i6), i7, i5, (i6 + (1 : Int)), i7, i8, t_lines, t_linesFor, t_listMany, t_listCorners, t_numberOf, t_lesser, t_greater, t_list, t_tA, t_tB, t_tC, t_from, t_fits, t_heaps))
  else
  some (.inr (176, 0, 0, i3, i4, i5, (i6 + (1 : Int)), i7, i8, t_lines, t_linesFor, t_listMany, t_listCorners, t_numberOf, t_lesser, t_greater, t_list, t_tA, t_tB, t_tC, t_from, t_fits, t_heaps))
  else
  if (((64 : Int) * (((10 : Int) * i5) + i6)) + i8) < 0 ∨ 6400 ≤ (((64 : Int) * (((10 : Int) * i5) + i6)) + i8) then none else
  if zout i7 then none else
  if (zget t_heaps (Int.toNat (((64 : Int) * (((10 : Int) * i5) + i6)) + i8))) ≤ i7 then
  some (.inr (191, 0, 0, i3, i4, i5, i6, i7, (i8 + (1 : Int)), t_lines, t_linesFor, t_listMany, t_listCorners, t_numberOf, t_lesser, t_greater, t_list, t_tA, t_tB, t_tC, t_from, t_fits, t_heaps))
  else
  some (.inr (191, 0, 0, i3, i4, i5, i6, (zget t_heaps (Int.toNat (((64 : Int) * (((10 : Int) * i5) + i6)) + i8))), (i8 + (1 : Int)), t_lines, t_linesFor, t_listMany, t_listCorners, t_numberOf, t_lesser, t_greater, t_list, t_tA, t_tB, t_tC, t_from, t_fits, t_heaps))
noncomputable def zg_X11_ask  (t_corners : Int) (t_seenMany : Int) (t_rightMany : Int) (t_sTold : Nat) (t_sOne : Nat) (t_sTwo : Nat) (t_sEntry : Nat) (t_rTold : Nat) (t_rOf : Nat) (t_rEntry : Nat) (st : zS_X11_ask) : Option (zO_X11_ask ⊕ zS_X11_ask) := match st with
  | (lab, i1, i2, i3, i4, i5, i6, i7, i8, t_lines, t_linesFor, t_listMany, t_listCorners, t_numberOf, t_lesser, t_greater, t_list, t_tA, t_tB, t_tC, t_from, t_fits, t_heaps) => if lab = 0 then zg_X11_ask_0 t_corners t_seenMany t_rightMany t_sTold t_sOne t_sTwo t_sEntry t_rTold t_rOf t_rEntry i1 i2 i3 i4 i5 i6 i7 i8 t_lines t_linesFor t_listMany t_listCorners t_numberOf t_lesser t_greater t_list t_tA t_tB t_tC t_from t_fits t_heaps else if lab = 22 then zg_X11_ask_22 t_corners t_seenMany t_rightMany t_sTold t_sOne t_sTwo t_sEntry t_rTold t_rOf t_rEntry i1 i2 i3 i4 i5 i6 i7 i8 t_lines t_linesFor t_listMany t_listCorners t_numberOf t_lesser t_greater t_list t_tA t_tB t_tC t_from t_fits t_heaps else if lab = 44 then zg_X11_ask_44 t_corners t_seenMany t_rightMany t_sTold t_sOne t_sTwo t_sEntry t_rTold t_rOf t_rEntry i1 i2 i3 i4 i5 i6 i7 i8 t_lines t_linesFor t_listMany t_listCorners t_numberOf t_lesser t_greater t_list t_tA t_tB t_tC t_from t_fits t_heaps else if lab = 67 then zg_X11_ask_67 t_corners t_seenMany t_rightMany t_sTold t_sOne t_sTwo t_sEntry t_rTold t_rOf t_rEntry i1 i2 i3 i4 i5 i6 i7 i8 t_lines t_linesFor t_listMany t_listCorners t_numberOf t_lesser t_greater t_list t_tA t_tB t_tC t_from t_fits t_heaps else if lab = 98 then zg_X11_ask_98 t_corners t_seenMany t_rightMany t_sTold t_sOne t_sTwo t_sEntry t_rTold t_rOf t_rEntry i1 i2 i3 i4 i5 i6 i7 i8 t_lines t_linesFor t_listMany t_listCorners t_numberOf t_lesser t_greater t_list t_tA t_tB t_tC t_from t_fits t_heaps else if lab = 161 then zg_X11_ask_161 t_corners t_seenMany t_rightMany t_sTold t_sOne t_sTwo t_sEntry t_rTold t_rOf t_rEntry i1 i2 i3 i4 i5 i6 i7 i8 t_lines t_linesFor t_listMany t_listCorners t_numberOf t_lesser t_greater t_list t_tA t_tB t_tC t_from t_fits t_heaps else if lab = 176 then zg_X11_ask_176 t_corners t_seenMany t_rightMany t_sTold t_sOne t_sTwo t_sEntry t_rTold t_rOf t_rEntry i1 i2 i3 i4 i5 i6 i7 i8 t_lines t_linesFor t_listMany t_listCorners t_numberOf t_lesser t_greater t_list t_tA t_tB t_tC t_from t_fits t_heaps else if lab = 191 then zg_X11_ask_191 t_corners t_seenMany t_rightMany t_sTold t_sOne t_sTwo t_sEntry t_rTold t_rOf t_rEntry i1 i2 i3 i4 i5 i6 i7 i8 t_lines t_linesFor t_listMany t_listCorners t_numberOf t_lesser t_greater t_list t_tA t_tB t_tC t_from t_fits t_heaps else none
noncomputable def zf_X11_ask  (t_corners : Int) (t_lines : Int) (t_linesFor : Int) (t_listMany : Int) (t_listCorners : Int) (t_seenMany : Int) (t_rightMany : Int) (t_numberOf : Nat) (t_lesser : Nat) (t_greater : Nat) (t_list : Nat) (t_tA : Nat) (t_tB : Nat) (t_tC : Nat) (t_from : Nat) (t_sTold : Nat) (t_sOne : Nat) (t_sTwo : Nat) (t_sEntry : Nat) (t_rTold : Nat) (t_rOf : Nat) (t_rEntry : Nat) (t_fits : Nat) (t_heaps : Nat) (i1 : Int) : Option (Int × Int × Int × Int × Int × Nat × Nat × Nat × Nat × Nat × Nat × Nat × Nat × Nat × Nat) := jrun (zg_X11_ask t_corners t_seenMany t_rightMany t_sTold t_sOne t_sTwo t_sEntry t_rTold t_rOf t_rEntry) jfuel (0, i1, 0, 0, 0, 0, 0, 0, 0, t_lines, t_linesFor, t_listMany, t_listCorners, t_numberOf, t_lesser, t_greater, t_list, t_tA, t_tB, t_tC, t_from, t_fits, t_heaps)
noncomputable def zf_X11_count  (t_taped : Int) (t_seenMany : Int) (t_rightMany : Int) (i1 : Int) : Option (Int) :=
  if zout i1 then none else
  if i1 = 0 then
  some (t_seenMany)
  else
  if i1 = (1 : Int) then
  some (t_rightMany)
  else
  if i1 = (2 : Int) then
  some (t_taped)
  else
  some ((-1 : Int))
noncomputable def zf_X8_isWord  (t_next : Int) (t_kind : Int) (t_place : Int)  : Option (Bool) :=
  if zout t_kind then none else
  if t_kind = (1 : Int) then
  none
  else
  some (false)
noncomputable def zf_X1_takeToken (mk : Nat) (t_expected : Int) (t_first : Int) (t_polygon : Nat) (t_bits : Int) (q1_next : Int) (q1_kind : Int) (q1_place : Int) (q1_value : Int)  : Option (Int × Int × Int × Int) :=
  if zout t_expected then none else
  if t_expected = (0 : Int) then
  Option.bind (zf_X8_isWord q1_next q1_kind q1_place) (fun o3 =>
  if o3 = false then
  some ((1 : Int), (1 : Int), t_first, t_bits)
  else
  some ((0 : Int), (1 : Int), t_first, t_bits))
  else
  if t_expected = (1 : Int) then
  Option.bind (zf_X8_kind q1_kind) (fun o6 =>
  if zout o6 then none else
  if o6 = (2 : Int) then
  Option.bind (zf_X8_value q1_value) (fun o8 =>
  none)
  else
  some ((1 : Int), (4 : Int), t_first, t_bits))
  else
  if t_expected = (2 : Int) then
  Option.bind (zf_X1_takeFirst mk t_first t_polygon t_bits q1_kind q1_value) (fun o11 =>
  some ((o11.1), (3 : Int), (o11.2), t_bits))
  else
  if t_expected = (3 : Int) then
  Option.bind (zf_X8_kind q1_kind) (fun o13 =>
  if zout o13 then none else
  if o13 = (2 : Int) then
  Option.bind (zf_X8_value q1_value) (fun o15 =>
  Option.bind (zf_X1_takeSecond mk t_first t_polygon t_bits o15) (fun o16 =>
  some ((o16.1), (4 : Int), t_first, (o16.2))))
  else
  some ((1 : Int), (4 : Int), t_first, t_bits))
  else
  Option.bind (zf_X8_kind q1_kind) (fun o19 =>
  if zout o19 then none else
  if o19 = (3 : Int) then
  some ((0 : Int), (2 : Int), t_first, t_bits)
  else
  some ((1 : Int), (2 : Int), t_first, t_bits))
abbrev zS_X1_understand : Type := Nat × Int × Int × Int × Int × Int × Nat × Int × Int × Int × Int × Int
abbrev zO_X1_understand : Type := Bool × Int × Int × Int × Int × Nat × Int × Int × Int × Int × Int
noncomputable def zg_X1_understand_0 (mk : Nat) (q1_length : Int) (q1_bytes : Nat) (i3 : Int) (t_faultKind : Int) (t_faultPlace : Int) (t_expected : Int) (t_first : Int) (t_polygon : Nat) (t_bits : Int) (q1_next : Int) (q1_kind : Int) (q1_place : Int) (q1_value : Int) : Option (zO_X1_understand ⊕ zS_X1_understand) :=
  Option.bind (zf_X8_rewind q1_next) (fun o1 =>
  some (.inr (31, (0 : Int), (0 : Int), (-1 : Int), (0 : Int), t_first, 0, (0 : Int), o1, q1_kind, q1_place, q1_value)))
noncomputable def zg_X1_understand_31 (mk : Nat) (q1_length : Int) (q1_bytes : Nat) (i3 : Int) (t_faultKind : Int) (t_faultPlace : Int) (t_expected : Int) (t_first : Int) (t_polygon : Nat) (t_bits : Int) (q1_next : Int) (q1_kind : Int) (q1_place : Int) (q1_value : Int) : Option (zO_X1_understand ⊕ zS_X1_understand) :=
  if zout i3 then none else
  if (300 : Int) < i3 then
  if t_polygon = 0 then
  some (.inl (false, t_faultKind, t_faultPlace, t_expected, t_first, t_polygon, t_bits, q1_next, q1_kind, q1_place, q1_value))
  else
  some (.inl (true, t_faultKind, t_faultPlace, t_expected, t_first, t_polygon, t_bits, q1_next, q1_kind, q1_place, q1_value))
  else
  Option.bind (zf_X8_readToken q1_length q1_next q1_kind q1_place q1_value q1_bytes) (fun o4 =>
  Option.bind (zf_X1_takeToken mk t_expected t_first t_polygon t_bits (o4.1) (o4.2.1) (o4.2.2.1) (o4.2.2.2)) (fun o5 =>
  if zout (o5.1) then none else
  if (o5.1) = 0 then
  Option.bind (zf_X8_kind (o4.2.1)) (fun o7 =>
  if zout o7 then none else
  if o7 = 0 then
  if t_polygon = 0 then
  some (.inl (false, (o5.1), t_faultPlace, (o5.2.1), (o5.2.2.1), t_polygon, (o5.2.2.2), (o4.1), (o4.2.1), (o4.2.2.1), (o4.2.2.2)))
  else
  some (.inl (true, (o5.1), t_faultPlace, (o5.2.1), (o5.2.2.1), t_polygon, (o5.2.2.2), (o4.1), (o4.2.1), (o4.2.2.1), (o4.2.2.2)))
  else
  some (.inr (31, (i3 + (1 : Int)), (o5.1), t_faultPlace, (o5.2.1), (o5.2.2.1), t_polygon, (o5.2.2.2), (o4.1), (o4.2.1), (o4.2.2.1), (o4.2.2.2))))
  else
  Option.bind (zf_X8_place (o4.2.2.1)) (fun o11 =>
  some (.inl (false, (o5.1), o11, (o5.2.1), (o5.2.2.1), t_polygon, (o5.2.2.2), (o4.1), (o4.2.1), (o4.2.2.1), (o4.2.2.2))))))
noncomputable def zg_X1_understand (mk : Nat) (q1_length : Int) (q1_bytes : Nat) (st : zS_X1_understand) : Option (zO_X1_understand ⊕ zS_X1_understand) := match st with
  | (lab, i3, t_faultKind, t_faultPlace, t_expected, t_first, t_polygon, t_bits, q1_next, q1_kind, q1_place, q1_value) => if lab = 0 then zg_X1_understand_0 mk q1_length q1_bytes i3 t_faultKind t_faultPlace t_expected t_first t_polygon t_bits q1_next q1_kind q1_place q1_value else if lab = 31 then zg_X1_understand_31 mk q1_length q1_bytes i3 t_faultKind t_faultPlace t_expected t_first t_polygon t_bits q1_next q1_kind q1_place q1_value else none
noncomputable def zf_X1_understand (mk : Nat) (t_faultKind : Int) (t_faultPlace : Int) (t_expected : Int) (t_first : Int) (t_polygon : Nat) (t_bits : Int) (q1_length : Int) (q1_next : Int) (q1_kind : Int) (q1_place : Int) (q1_value : Int) (q1_bytes : Nat)  : Option (Bool × Int × Int × Int × Int × Nat × Int × Int × Int × Int × Int) := jrun (zg_X1_understand mk q1_length q1_bytes) jfuel (0, 0, t_faultKind, t_faultPlace, t_expected, t_first, t_polygon, t_bits, q1_next, q1_kind, q1_place, q1_value)
noncomputable def zf_X10_cut (mk : Nat) (tape_length : Int) (tape_next : Int) (tape_kind : Int) (tape_place : Int) (tape_value : Int) (tape_bytes : Nat) (text_faultKind : Int) (text_faultPlace : Int) (text_expected : Int) (text_first : Int) (text_polygon : Nat) (text_bits : Int)  : Option (Int × Int × Int × Int × Int × Int × Int × Int × Int × Int × Nat × Int) :=
  Option.bind (zf_X1_understand mk text_faultKind text_faultPlace text_expected text_first text_polygon text_bits tape_length tape_next tape_kind tape_place tape_value tape_bytes) (fun o1 =>
  Option.bind (zf_X8_shorten tape_length (0 : Int)) (fun o2 =>
  if (o1.1) = false then
  some ((-1 : Int), o2, (o1.2.2.2.2.2.2.2.1), (o1.2.2.2.2.2.2.2.2.1), (o1.2.2.2.2.2.2.2.2.2.1), (o1.2.2.2.2.2.2.2.2.2.2), (o1.2.1), (o1.2.2.1), (o1.2.2.2.1), (o1.2.2.2.2.1), (o1.2.2.2.2.2.1), (o1.2.2.2.2.2.2.1))
  else
  none))
