/-- a match is added -/
def am1_ (T T' : Zt) (c : Int) : Prop := T' 111 0 29 = T 111 0 29 + 1 ∧ (∀ j, j ≠ T 111 0 29 → T' 230 0 j = T 230 0 j ∧ T' 231 0 j = T 231 0 j ∧ T' 232 0 j = T 232 0 j ∧ T' 233 0 j = T 233 0 j ∧ T' 234 0 j = T 234 0 j ∧ T' 235 0 j = T 235 0 j ∧ T' 238 0 j = T 238 0 j ∧ T' 253 0 j = T 253 0 j ∧ T' 255 0 j = T 255 0 j) ∧ T' 230 0 (T 111 0 29) = c ∧ T' 235 0 (T 111 0 29) = 0 ∧ T' 253 0 (T 111 0 29) = -1 ∧ T' 255 0 (T 111 0 29) = -1
/-- matches of c are added -/
def am_ (T T' : Zt) (c : Int) : Prop := T 111 0 29 ≤ T' 111 0 29 ∧ (∀ j, j < T 111 0 29 → T' 230 0 j = T 230 0 j ∧ T' 231 0 j = T 231 0 j ∧ T' 232 0 j = T 232 0 j ∧ T' 233 0 j = T 233 0 j ∧ T' 234 0 j = T 234 0 j ∧ T' 235 0 j = T 235 0 j ∧ T' 238 0 j = T 238 0 j ∧ T' 253 0 j = T 253 0 j ∧ T' 255 0 j = T 255 0 j) ∧ (∀ j, T 111 0 29 ≤ j → j < T' 111 0 29 → T' 230 0 j = c ∧ T' 235 0 j = 0 ∧ T' 253 0 j = -1 ∧ T' 255 0 j = -1)
theorem am_s {T T1 T2 : Zt} {c : Int} (h : am_ T T1 c) (g : am1_ T1 T2 c) : am_ T T2 c := by
  obtain ⟨h1, h2, h3⟩ := h
  obtain ⟨g1, g2, g3, g4, g5, g6⟩ := g
  refine ⟨by omega, fun j a => ?_, fun j a b => ?_⟩
  · have x := g2 j (by omega)
    have y := h2 j a
    exact ⟨x.1.trans y.1, x.2.1.trans y.2.1, x.2.2.1.trans y.2.2.1, x.2.2.2.1.trans y.2.2.2.1, x.2.2.2.2.1.trans y.2.2.2.2.1, x.2.2.2.2.2.1.trans y.2.2.2.2.2.1, x.2.2.2.2.2.2.1.trans y.2.2.2.2.2.2.1, x.2.2.2.2.2.2.2.1.trans y.2.2.2.2.2.2.2.1, x.2.2.2.2.2.2.2.2.trans y.2.2.2.2.2.2.2.2⟩
  · by_cases z : j = T1 111 0 29
    · subst z; exact ⟨g3, g4, g5, g6⟩
    · have x := g2 j z
      have y := h3 j a (by omega)
      exact ⟨x.1.trans y.1, x.2.2.2.2.2.1.trans y.2.1, x.2.2.2.2.2.2.2.1.trans y.2.2.1, x.2.2.2.2.2.2.2.2.trans y.2.2.2⟩
theorem mb_ {a b A B : Int} (h1 : 0 ≤ a) (h2 : a ≤ A) (h3 : 0 ≤ b) (h4 : b ≤ B) : 0 ≤ a * b ∧ a * b ≤ A * B := ⟨Int.mul_nonneg h1 h3, Int.mul_le_mul h2 h4 h3 (by omega)⟩
theorem pl_1 {e : Int} (h1 : 2 ≤ e) (h2 : e ≤ 12) : (e + e % 2 - 1) * ((e + e % 2) / 2 - e % 2) = e * (e - 1) / 2 := by
  rcases (by omega : e = 2 ∨ e = 3 ∨ e = 4 ∨ e = 5 ∨ e = 6 ∨ e = 7 ∨ e = 8 ∨ e = 9 ∨ e = 10 ∨ e = 11 ∨ e = 12) with rfl | rfl | rfl | rfl | rfl | rfl | rfl | rfl | rfl | rfl | rfl <;> rfl
abbrev cX11_addMatch : ByteArray := prog_13_method_29_code
def yX11_addMatch : MethodName := ⟨RX11, "addMatch", "(IIIII)V"⟩
def zX11_addMatch : Zm := (RX11, cX11_addMatch, 7, none, { frames := 0, cells := 0, slots := 0, locals := 0 })
abbrev cX11_plan : ByteArray := prog_13_method_30_code
def yX11_plan : MethodName := ⟨RX11, "plan", "(II)I"⟩
def zX11_plan : Zm := (RX11, cX11_plan, 15, (some .int), { frames := 2, cells := 0, slots := 0, locals := 43 })
set_option maxRecDepth 100000 in
theorem cl_X11_346 : cv_ RX11 346 yX11_addMatch zX11_addMatch 11 5 := ⟨gi_V (lw_b8 191 (by decide +kernel) rfl : Cond.methodLink RX11 346 yX11_addMatch ∈ lw_g) (lw_b8 193 (by decide +kernel) rfl : Cond.instanceMethod yX11_addMatch ∈ lw_g) (lw_sel 4 rfl : Cond.selects yX11_addMatch.cls yX11_addMatch yX11_addMatch ∈ lw_g) (lw_b1 10 (by decide +kernel) rfl : Cond.initialized yX11_addMatch.cls ∈ lw_g) (lw_b8 194 rfl rfl : Cond.code yX11_addMatch cX11_addMatch 7 none ∈ lw_g), ⟨by decide, by decide, by decide +kernel⟩, ⟨_, _, rfl⟩⟩
def ML_ (T : Zt) : Prop := ∀ c : Int, 0 ≤ c → c < 4 → T 210 0 c + T 211 0 c ≤ T 111 0 29
theorem ML__f {ws : List (Nat × List Int)} {T T' : Zt} (h : ML_ T) (f : fr_ ws T T') (w : (∀ j, fw_ ws 210 j = false) ∧ (∀ j, fw_ ws 211 j = false) ∧ fw_ ws 111 29 = false ∧ True) : ML_ T' := by
  have e0 : ∀ i j, T' 210 i j = T 210 i j := fun i j => f 210 i j (w.1 j)
  have e1 : ∀ i j, T' 211 i j = T 211 i j := fun i j => f 211 i j (w.2.1 j)
  have e2 : ∀ i, T' 111 i 29 = T 111 i 29 := fun i => f 111 i 29 w.2.2.1
  simp only [ML_, e0, e1, e2] at h ⊢
  exact h

