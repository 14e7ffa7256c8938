theorem us_1c {x : Int} : us_ x 1 = x % 4294967296 / 2 := by
  have a : ((Int32.ofInt x).toUInt32.toBitVec).toNat = (x % 4294967296).toNat := by
    show (BitVec.ofInt 32 x).toNat = _
    rw [BitVec.toNat_ofInt]; rfl
  have s : ((Int32.ofInt 1).toUInt32 &&& Int32.toUInt32 31) = 1 := by decide
  unfold us_
  rw [s]
  have b : (((Int32.ofInt x).toUInt32 >>> (1 : UInt32)).toBitVec).toNat = (x % 4294967296).toNat / 2 := by
    show ((Int32.ofInt x).toUInt32.toBitVec >>> (1 : BitVec 32)).toNat = _
    rw [BitVec.ushiftRight_eq', BitVec.toNat_ushiftRight, a]
    show (x % 4294967296).toNat >>> 1 = _
    rw [Nat.shiftRight_eq_div_pow]
  show (((Int32.ofInt x).toUInt32 >>> (1 : UInt32)).toBitVec).toInt = _
  rw [BitVec.toInt_eq_toNat_cond, b]
  split <;> omega
abbrev cX1_openNew : ByteArray := prog_3_method_2_code
def yX1_openNew : MethodName := ⟨RX1, "openNew", "(II)V"⟩
def zX1_openNew : Zm := (RX1, cX1_openNew, 3, none, { frames := 1, cells := 0, slots := 0, locals := 23 })
set_option maxRecDepth 100000 in
theorem cl_X1_54 : cs_ RX1 54 yJ7_fill_53178 zJ7_fill_53178 2 := ⟨gi_S (lw_b6 129 (by decide +kernel) rfl : Cond.methodLink RX1 54 yJ7_fill_53178 ∈ lw_g) (lw_b2 26 (by decide +kernel) rfl : Cond.static yJ7_fill_53178 ∈ lw_g) (lw_b1 7 (by decide +kernel) rfl : Cond.initialized yJ7_fill_53178.cls ∈ lw_g) (lw_b2 27 rfl rfl : Cond.code yJ7_fill_53178 cJ7_fill_53178 4 none ∈ lw_g), ⟨by decide, by decide, by decide +kernel⟩⟩
abbrev cX10_drawing : ByteArray := prog_1_method_36_code
def yX10_drawing : MethodName := ⟨RX10, "drawing", "(II)I"⟩
def zX10_drawing : Zm := (RX10, cX10_drawing, 3, (some .int), { frames := 2, cells := 0, slots := 0, locals := 45 })
set_option maxRecDepth 100000 in
theorem cl_X10_380 : cv_ RX10 380 yX1_openNew zX1_openNew 1 2 := ⟨gi_V (lw_b6 125 (by decide +kernel) rfl : Cond.methodLink RX10 380 yX1_openNew ∈ lw_g) (lw_b6 126 (by decide +kernel) rfl : Cond.instanceMethod yX1_openNew ∈ lw_g) (lw_b6 127 (by decide +kernel) rfl : Cond.selects yX1_openNew.cls yX1_openNew yX1_openNew ∈ lw_g) (lw_b1 8 (by decide +kernel) rfl : Cond.initialized yX1_openNew.cls ∈ lw_g) (lw_b6 128 rfl rfl : Cond.code yX1_openNew cX1_openNew 3 none ∈ lw_g), ⟨by decide, by decide, by decide +kernel⟩, ⟨_, _, rfl⟩⟩
abbrev po_X10_drawing (T : Zt) (g l : Int) : Zt → Option Zv → Prop := fun T' r => ∃ x : Int, r = some (vI x) ∧ fr_ [(101, [1, 2, 3, 4, 7]), (428, []), (429, []), (430, [])] T T' ∧ ((x = -3 ∧ ¬ (1 ≤ g ∧ g ≤ 4 ∧ 1 ≤ l ∧ l ≤ 3)) ∨ (x = 1 ∧ 1 ≤ g ∧ g ≤ 4 ∧ 1 ≤ l ∧ l ≤ 3))
abbrev cX1_putIn : ByteArray := prog_3_method_3_code
def yX1_putIn : MethodName := ⟨RX1, "putIn", "(II)V"⟩
def zX1_putIn : Zm := (RX1, cX1_putIn, 3, none, { frames := 0, cells := 0, slots := 0, locals := 0 })
abbrev cX10_pot : ByteArray := prog_1_method_37_code
def yX10_pot : MethodName := ⟨RX10, "pot", "(II)I"⟩
def zX10_pot : Zm := (RX10, cX10_pot, 3, (some .int), { frames := 2, cells := 0, slots := 0, locals := 42 })
set_option maxRecDepth 100000 in
theorem cl_X10_396 : cv_ RX10 396 yX1_putIn zX1_putIn 1 2 := ⟨gi_V (lw_b6 134 (by decide +kernel) rfl : Cond.methodLink RX10 396 yX1_putIn ∈ lw_g) (lw_b6 135 (by decide +kernel) rfl : Cond.instanceMethod yX1_putIn ∈ lw_g) (lw_b6 136 (by decide +kernel) rfl : Cond.selects yX1_putIn.cls yX1_putIn yX1_putIn ∈ lw_g) (lw_b1 8 (by decide +kernel) rfl : Cond.initialized yX1_putIn.cls ∈ lw_g) (lw_b6 137 rfl rfl : Cond.code yX1_putIn cX1_putIn 3 none ∈ lw_g), ⟨by decide, by decide, by decide +kernel⟩, ⟨_, _, rfl⟩⟩
abbrev po_X10_pot (T : Zt) (c k : Int) : Zt → Option Zv → Prop := fun T' r => ∃ x : Int, r = some (vI x) ∧ fr_ [(428, []), (430, []), (101, [3, 7])] T T' ∧ (x = x)
abbrev cX1_waysWith : ByteArray := prog_3_method_6_code
def yX1_waysWith : MethodName := ⟨RX1, "waysWith", "(II)I"⟩
def zX1_waysWith : Zm := (RX1, cX1_waysWith, 3, (some .int), { frames := 0, cells := 0, slots := 0, locals := 0 })
abbrev cX1_takeBelow : ByteArray := prog_3_method_9_code
def yX1_takeBelow : MethodName := ⟨RX1, "takeBelow", "(I)I"⟩
def zX1_takeBelow : Zm := (RX1, cX1_takeBelow, 8, (some .int), { frames := 0, cells := 0, slots := 0, locals := 0 })
abbrev cX1_takeClub : ByteArray := prog_3_method_7_code
def yX1_takeClub : MethodName := ⟨RX1, "takeClub", "()I"⟩
def zX1_takeClub : Zm := (RX1, cX1_takeClub, 4, (some .int), { frames := 1, cells := 0, slots := 0, locals := 27 })
set_option maxRecDepth 100000 in
theorem cl_X1_75 : cv_ RX1 75 yX1_takeBelow zX1_takeBelow 1 1 := ⟨gi_V (lw_b6 166 (by decide +kernel) rfl : Cond.methodLink RX1 75 yX1_takeBelow ∈ lw_g) (lw_b6 168 (by decide +kernel) rfl : Cond.instanceMethod yX1_takeBelow ∈ lw_g) (lw_sel 82 rfl : Cond.selects yX1_takeBelow.cls yX1_takeBelow yX1_takeBelow ∈ lw_g) (lw_b1 8 (by decide +kernel) rfl : Cond.initialized yX1_takeBelow.cls ∈ lw_g) (lw_b6 169 rfl rfl : Cond.code yX1_takeBelow cX1_takeBelow 8 (some .int) ∈ lw_g), ⟨by decide, by decide, by decide +kernel⟩, ⟨_, _, rfl⟩⟩
abbrev cX1_place : ByteArray := prog_3_method_8_code
def yX1_place : MethodName := ⟨RX1, "place", "(I)V"⟩
def zX1_place : Zm := (RX1, cX1_place, 5, none, { frames := 1, cells := 0, slots := 0, locals := 27 })
