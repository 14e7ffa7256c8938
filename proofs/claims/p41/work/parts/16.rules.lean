def rb_l : List (Int × Int) := [(0, 3), (0, 9), (0, 9), (0, 9), (0, 7), (0, 1), (1, 4), (1, 30), (1, 9), (1, 6), (0, 5), (2, 25), (1, 9), (1, 9), (1, 9), (0, 999), ((-1), 6), ((-1), 6), ((-1), 6), ((-1), 6), ((-1), 6), ((-1), 6), ((-1), 6)]
/-- the bounds of a rule -/
def rb_ (w : Int) : Int × Int := rb_l.getD w.toNat (-1, 999)
def RI_ (T : Zt) : Prop := ∀ c w : Int, 0 ≤ c → c < T 111 0 6 → 0 ≤ w → w < 23 → (rb_ w).1 ≤ T 205 0 (23 * c + w) ∧ T 205 0 (23 * c + w) ≤ (rb_ w).2
theorem RI__f {ws : List (Nat × List Int)} {T T' : Zt} (h : RI_ T) (f : fr_ ws T T') (w : (∀ j, fw_ ws 205 j = false) ∧ fw_ ws 111 6 = false ∧ True) : RI_ T' := by
  have e0 : ∀ i j, T' 205 i j = T 205 i j := fun i j => f 205 i j (w.1 j)
  have e1 : ∀ i, T' 111 i 6 = T 111 i 6 := fun i => f 111 i 6 w.2.1
  simp only [RI_, e0, e1] at h ⊢
  exact h
def RW_ (T : Zt) : Prop := ∀ c : Int, 0 ≤ c → c < T 111 0 6 → T 205 0 (23 * c + 2) ≤ T 205 0 (23 * c + 1) ∧ T 205 0 (23 * c + 3) ≤ T 205 0 (23 * c + 2)
theorem RW__f {ws : List (Nat × List Int)} {T T' : Zt} (h : RW_ T) (f : fr_ ws T T') (w : (∀ j, fw_ ws 205 j = false) ∧ fw_ ws 111 6 = false ∧ True) : RW_ T' := by
  have e0 : ∀ i j, T' 205 i j = T 205 i j := fun i j => f 205 i j (w.1 j)
  have e1 : ∀ i, T' 111 i 6 = T 111 i 6 := fun i => f 111 i 6 w.2.1
  simp only [RW_, e0, e1] at h ⊢
  exact h
theorem CX_f {ws : List (Nat × List Int)} {T T' : Zt} (h : CW_ T) (f : fr_ ws T T') (w : (∀ j, fw_ ws 264 j = false) ∧ (∀ j, fw_ ws 265 j = false) ∧ (∀ j, fw_ ws 266 j = false) ∧ (∀ j, fw_ ws 267 j = false) ∧ (∀ j, fw_ ws 268 j = false) ∧ True) : CW_ T' := CW_f h f ⟨w.1, w.2.1, w.2.2.1, w.2.2.2.1, w.2.2.2.2.1⟩
abbrev cX11_layDefaults : ByteArray := prog_13_method_13_code
def yX11_layDefaults : MethodName := ⟨RX11, "layDefaults", "()V"⟩
def zX11_layDefaults : Zm := (RX11, cX11_layDefaults, 2, none, { frames := 0, cells := 0, slots := 0, locals := 0 })
abbrev cX11_wantNumber : ByteArray := prog_13_method_14_code
def yX11_wantNumber : MethodName := ⟨RX11, "wantNumber", "(III)V"⟩
def zX11_wantNumber : Zm := (RX11, cX11_wantNumber, 4, none, { frames := 3, cells := 0, slots := 0, locals := 63 })
set_option maxRecDepth 100000 in
theorem cl_X11_291 : cv_ RX11 291 yX11_take zX11_take 11 0 := ⟨gi_V (lw_b8 110 (by decide +kernel) rfl : Cond.methodLink RX11 291 yX11_take ∈ lw_g) (lw_b8 112 (by decide +kernel) rfl : Cond.instanceMethod yX11_take ∈ lw_g) (lw_sel 72 rfl : Cond.selects yX11_take.cls yX11_take yX11_take ∈ lw_g) (lw_b1 10 (by decide +kernel) rfl : Cond.initialized yX11_take.cls ∈ lw_g) (lw_b8 113 rfl rfl : Cond.code yX11_take cX11_take 2 none ∈ lw_g), ⟨by decide, by decide, by decide +kernel⟩, ⟨_, _, rfl⟩⟩
