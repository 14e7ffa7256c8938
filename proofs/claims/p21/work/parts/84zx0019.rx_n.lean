theorem rx_n {T : Zt} (h : RX_ T []) {m : Int} (h0 : 0 ≤ m) (h1 : m < T 111 0 29) : 0 ≤ T 254 0 m := by
  obtain ⟨L, hB, -⟩ := h
  have y : lk_ T (T 253 0 m) (L m 0) ∧ T 254 0 m = ((L m 0).length : Int) := hB.1 m 0 h0 h1 (by decide) (by decide)
  omega
