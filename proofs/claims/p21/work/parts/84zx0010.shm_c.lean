theorem shm_c {T T' : Zt} {m : Int} (h : SHM_ T m) (e49 : ∀ t, T' 449 m t = T 449 m t) (e48 : ∀ t, T' 448 m t = T 448 m t) (e39 : ∀ t, 0 ≤ t → t ≤ 1 → T' 239 0 (2 * m + t) = T 239 0 (2 * m + t)) (e40 : ∀ x, 0 ≤ x → x ≤ 19 → T' 240 0 (20 * m + x) = T 240 0 (20 * m + x)) : SHM_ T' m := by
  obtain ⟨h1, h2, h3⟩ := h
  refine ⟨fun t t0 t1 => ?_, fun t x t0 t1 x0 x1 => ?_, fun t x y t0 t1 x0 x1 y0 y1 e => ?_⟩
  · rw [e49, e39 t t0 t1]
    exact h1 t t0 t1
  · rw [e49] at x1
    have g := h1 t t0 t1
    rw [e48, e40 x (by omega) (by omega)]
    exact h2 t x t0 t1 x0 x1
  · rw [e49] at x1 y1
    rw [e48, e48] at e
    exact h3 t x y t0 t1 x0 x1 y0 y1 e
