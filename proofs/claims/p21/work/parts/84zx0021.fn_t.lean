/-- one who stands on each field -/
theorem fn_t {a : Sg_} (h : FN_ a) (h3 : a 103 3 = 0) : ∀ t, 0 ≤ t → t ≤ 1 → 1 ≤ a 470 t := fun t t0 t1 => by
  have y := h h3
  rcases (by omega : t = 0 ∨ t = 1) with c | c
  · rw [c]; exact y.1
  · rw [c]; exact y.2
