abbrev cX11_competition : ByteArray := prog_13_method_18_code
def yX11_competition : MethodName := ⟨RX11, "competition", "()I"⟩
def zX11_competition : Zm := (RX11, cX11_competition, 3, (some .int), { frames := 5, cells := 0, slots := 0, locals := 107 })
set_option maxRecDepth 100000 in
theorem cl_X11_314 : cv_ RX11 314 yX11_readStatement zX11_readStatement 11 0 := ⟨gi_V (lw_b8 124 (by decide +kernel) rfl : Cond.methodLink RX11 314 yX11_readStatement ∈ lw_g) (lw_b8 126 (by decide +kernel) rfl : Cond.instanceMethod yX11_readStatement ∈ lw_g) (lw_sel 56 rfl : Cond.selects yX11_readStatement.cls yX11_readStatement yX11_readStatement ∈ lw_g) (lw_b1 10 (by decide +kernel) rfl : Cond.initialized yX11_readStatement.cls ∈ lw_g) (lw_b8 127 rfl rfl : Cond.code yX11_readStatement cX11_readStatement 2 none ∈ lw_g), ⟨by decide, by decide, by decide +kernel⟩, ⟨_, _, rfl⟩⟩
set_option maxRecDepth 100000 in
theorem cl_X11_311 : cv_ RX11 311 yX11_layDefaults zX11_layDefaults 11 0 := ⟨gi_V (lw_b8 106 (by decide +kernel) rfl : Cond.methodLink RX11 311 yX11_layDefaults ∈ lw_g) (lw_b8 108 (by decide +kernel) rfl : Cond.instanceMethod yX11_layDefaults ∈ lw_g) (lw_sel 33 rfl : Cond.selects yX11_layDefaults.cls yX11_layDefaults yX11_layDefaults ∈ lw_g) (lw_b1 10 (by decide +kernel) rfl : Cond.initialized yX11_layDefaults.cls ∈ lw_g) (lw_b8 109 rfl rfl : Cond.code yX11_layDefaults cX11_layDefaults 2 none ∈ lw_g), ⟨by decide, by decide, by decide +kernel⟩, ⟨_, _, rfl⟩⟩
abbrev cX11_fault : ByteArray := prog_13_method_19_code
def yX11_fault : MethodName := ⟨RX11, "fault", "()I"⟩
def zX11_fault : Zm := (RX11, cX11_fault, 1, (some .int), { frames := 0, cells := 0, slots := 0, locals := 0 })
abbrev cX11_rule : ByteArray := prog_13_method_20_code
def yX11_rule : MethodName := ⟨RX11, "rule", "(II)I"⟩
def zX11_rule : Zm := (RX11, cX11_rule, 3, (some .int), { frames := 2, cells := 0, slots := 0, locals := 43 })
set_option maxRecDepth 100000 in
theorem cl_X11_317 : cs_ RX11 317 yX11_isOf zX11_isOf 2 := ⟨gi_S (lw_b8 152 (by decide +kernel) rfl : Cond.methodLink RX11 317 yX11_isOf ∈ lw_g) (lw_b8 153 (by decide +kernel) rfl : Cond.static yX11_isOf ∈ lw_g) (lw_b1 10 (by decide +kernel) rfl : Cond.initialized yX11_isOf.cls ∈ lw_g) (lw_b8 154 rfl rfl : Cond.code yX11_isOf cX11_isOf 2 (some .boolean) ∈ lw_g), ⟨by decide, by decide, by decide +kernel⟩⟩
set_option maxRecDepth 100000 in
theorem cl_X11_321 : cv_ RX11 321 yX11_rule0 zX11_rule0 11 2 := ⟨gi_V (lw_b8 155 (by decide +kernel) rfl : Cond.methodLink RX11 321 yX11_rule0 ∈ lw_g) (lw_b8 157 (by decide +kernel) rfl : Cond.instanceMethod yX11_rule0 ∈ lw_g) (lw_sel 59 rfl : Cond.selects yX11_rule0.cls yX11_rule0 yX11_rule0 ∈ lw_g) (lw_b1 10 (by decide +kernel) rfl : Cond.initialized yX11_rule0.cls ∈ lw_g) (lw_b8 158 rfl rfl : Cond.code yX11_rule0 cX11_rule0 3 (some .int) ∈ lw_g), ⟨by decide, by decide, by decide +kernel⟩, ⟨_, _, rfl⟩⟩
