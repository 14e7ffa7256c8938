abbrev cX11_readSport : ByteArray := prog_13_method_15_code
def yX11_readSport : MethodName := ⟨RX11, "readSport", "()V"⟩
def zX11_readSport : Zm := (RX11, cX11_readSport, 2, none, { frames := 3, cells := 0, slots := 0, locals := 63 })
set_option maxRecDepth 100000 in
theorem cl_X11_294 : cv_ RX11 294 yX11_whichOf zX11_whichOf 11 1 := ⟨gi_V (lw_b8 128 (by decide +kernel) rfl : Cond.methodLink RX11 294 yX11_whichOf ∈ lw_g) (lw_b8 130 (by decide +kernel) rfl : Cond.instanceMethod yX11_whichOf ∈ lw_g) (lw_sel 79 rfl : Cond.selects yX11_whichOf.cls yX11_whichOf yX11_whichOf ∈ lw_g) (lw_b1 10 (by decide +kernel) rfl : Cond.initialized yX11_whichOf.cls ∈ lw_g) (lw_b8 131 rfl rfl : Cond.code yX11_whichOf cX11_whichOf 7 (some .int) ∈ lw_g), ⟨by decide, by decide, by decide +kernel⟩, ⟨_, _, rfl⟩⟩
abbrev cX11_readOrder : ByteArray := prog_13_method_16_code
def yX11_readOrder : MethodName := ⟨RX11, "readOrder", "()V"⟩
def zX11_readOrder : Zm := (RX11, cX11_readOrder, 3, none, { frames := 3, cells := 0, slots := 0, locals := 63 })
