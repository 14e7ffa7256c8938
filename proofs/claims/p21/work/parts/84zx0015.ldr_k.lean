theorem ldr_k {T T' : Zt} (h : LDR_ T) (e : T' 104 0 4 = T 104 0 4 ∧ T' 109 0 15 = T 109 0 15 ∧ T' 191 0 0 = T 191 0 0 ∧ T' 106 0 4 = T 106 0 4) (g : ∀ m, T' 102 m 10 = T 102 m 10 ∧ T' 103 m 14 = T 103 m 14 ∧ T' 103 m 16 = T 103 m 16) : LDR_ T' := by
  obtain ⟨e1, e2, e3, e4⟩ := e
  refine ⟨by have := h.1; omega, fun m m0 m1 mp => ?_⟩
  have gm := g m
  have y := h.2 m m0 (by omega) (by omega)
  refine ⟨by have := y.1; omega, fun j j0 j1 jp n => ?_⟩
  have gj := g j
  have w := y.2 j j0 (by omega) (by omega) n
  omega
