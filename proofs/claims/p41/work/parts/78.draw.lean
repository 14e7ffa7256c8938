abbrev cX1_countFrom : ByteArray := prog_3_method_5_code
def yX1_countFrom : MethodName := ⟨RX1, "countFrom", "(I)I"⟩
abbrev cX1_refresh : ByteArray := prog_3_method_4_code
def yX1_refresh : MethodName := ⟨RX1, "refresh", "()V"⟩
def zX1_refresh : Zm := (RX1, cX1_refresh, 3, none, { frames := 14, cells := 0, slots := 0, locals := 378 })
abbrev cX10_ways : ByteArray := prog_1_method_38_code
def yX10_ways : MethodName := ⟨RX10, "ways", "()I"⟩
def zX10_ways : Zm := (RX10, cX10_ways, 1, (some .int), { frames := 15, cells := 0, slots := 0, locals := 400 })
set_option maxRecDepth 100000 in
theorem cl_X10_399 : cv_ RX10 399 yX1_refresh zX1_refresh 1 0 := ⟨gi_V (lw_b6 142 (by decide +kernel) rfl : Cond.methodLink RX10 399 yX1_refresh ∈ lw_g) (lw_b6 143 (by decide +kernel) rfl : Cond.instanceMethod yX1_refresh ∈ lw_g) (lw_b6 144 (by decide +kernel) rfl : Cond.selects yX1_refresh.cls yX1_refresh yX1_refresh ∈ lw_g) (lw_b1 8 (by decide +kernel) rfl : Cond.initialized yX1_refresh.cls ∈ lw_g) (lw_b6 145 rfl rfl : Cond.code yX1_refresh cX1_refresh 3 none ∈ lw_g), ⟨by decide, by decide, by decide +kernel⟩, ⟨_, _, rfl⟩⟩
abbrev po_X10_ways (T : Zt) : Zt → Option Zv → Prop := fun T' r => ∃ x : Int, r = some (vI x) ∧ fr_ [(101, [13, 6, 7]), (434, []), (435, []), (431, []), (432, [])] T T' ∧ (x = x)
abbrev cX10_chance : ByteArray := prog_1_method_39_code
def yX10_chance : MethodName := ⟨RX10, "chance", "(II)I"⟩
def zX10_chance : Zm := (RX10, cX10_chance, 3, (some .int), { frames := 15, cells := 0, slots := 0, locals := 400 })
set_option maxRecDepth 100000 in
theorem cl_X10_405 : cv_ RX10 405 yX1_waysWith zX1_waysWith 1 2 := ⟨gi_V (lw_b6 154 (by decide +kernel) rfl : Cond.methodLink RX10 405 yX1_waysWith ∈ lw_g) (lw_b6 155 (by decide +kernel) rfl : Cond.instanceMethod yX1_waysWith ∈ lw_g) (lw_b6 156 (by decide +kernel) rfl : Cond.selects yX1_waysWith.cls yX1_waysWith yX1_waysWith ∈ lw_g) (lw_b1 8 (by decide +kernel) rfl : Cond.initialized yX1_waysWith.cls ∈ lw_g) (lw_b6 157 rfl rfl : Cond.code yX1_waysWith cX1_waysWith 3 (some .int) ∈ lw_g), ⟨by decide, by decide, by decide +kernel⟩, ⟨_, _, rfl⟩⟩
abbrev po_X10_chance (T : Zt) (c g : Int) : Zt → Option Zv → Prop := fun T' r => ∃ x : Int, r = some (vI x) ∧ fr_ [(101, [13, 6, 7]), (434, []), (435, []), (431, []), (432, [])] T T' ∧ (x = x)
abbrev cX10_ball : ByteArray := prog_1_method_40_code
def yX10_ball : MethodName := ⟨RX10, "ball", "(IZ)I"⟩
def zX10_ball : Zm := (RX10, cX10_ball, 4, (some .int), { frames := 15, cells := 0, slots := 0, locals := 400 })
set_option maxRecDepth 100000 in
theorem cl_X10_414 : cv_ RX10 414 yX1_takeClub zX1_takeClub 1 0 := ⟨gi_V (lw_b6 162 (by decide +kernel) rfl : Cond.methodLink RX10 414 yX1_takeClub ∈ lw_g) (lw_b6 163 (by decide +kernel) rfl : Cond.instanceMethod yX1_takeClub ∈ lw_g) (lw_b6 164 (by decide +kernel) rfl : Cond.selects yX1_takeClub.cls yX1_takeClub yX1_takeClub ∈ lw_g) (lw_b1 8 (by decide +kernel) rfl : Cond.initialized yX1_takeClub.cls ∈ lw_g) (lw_b6 165 rfl rfl : Cond.code yX1_takeClub cX1_takeClub 4 (some .int) ∈ lw_g), ⟨by decide, by decide, by decide +kernel⟩, ⟨_, _, rfl⟩⟩
set_option maxRecDepth 100000 in
theorem cl_X10_417 : cv_ RX10 417 yX1_place zX1_place 1 1 := ⟨gi_V (lw_b6 174 (by decide +kernel) rfl : Cond.methodLink RX10 417 yX1_place ∈ lw_g) (lw_b6 175 (by decide +kernel) rfl : Cond.instanceMethod yX1_place ∈ lw_g) (lw_b6 176 (by decide +kernel) rfl : Cond.selects yX1_place.cls yX1_place yX1_place ∈ lw_g) (lw_b1 8 (by decide +kernel) rfl : Cond.initialized yX1_place.cls ∈ lw_g) (lw_b6 177 rfl rfl : Cond.code yX1_place cX1_place 5 none ∈ lw_g), ⟨by decide, by decide, by decide +kernel⟩, ⟨_, _, rfl⟩⟩
abbrev po_X10_ball (T : Zt) (s b : Int) : Zt → Option Zv → Prop := fun T' r => ∃ x : Int, r = some (vI x) ∧ fr_ [(101, [13, 6, 7, 5, 4]), (434, []), (435, []), (431, []), (432, []), (429, [])] T T' ∧ (x = x)
