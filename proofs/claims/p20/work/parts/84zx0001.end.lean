theorem rx_n {T : Zt} (h : RX_ T []) {m : Int} (h0 : 0 ≤ m) (h1 : m < T 111 0 29) : 0 ≤ T 254 0 m := by
  obtain ⟨L, hB, -⟩ := h
  have y : lk_ T (T 253 0 m) (L m 0) ∧ T 254 0 m = ((L m 0).length : Int) := hB.1 m 0 h0 h1 (by decide) (by decide)
  omega
theorem pcc_n {T : Zt} {m : Int} (h : PCC_ T m) (i : 0 ≤ T 103 m 15) (j : 0 ≤ T 254 0 m) : T 103 m 15 = T 254 0 m := by
  have e := congrArg List.length h.2.2.2.2.2.2.1
  rw [hrw_l, rw_n] at e
  omega
/-- one who stands on each field -/
theorem fn_t {a : Sg_} (h : FN_ a) (h3 : a 103 3 = 0) : ∀ t, 0 ≤ t → t ≤ 1 → 1 ≤ a 470 t := fun t t0 t1 => by
  have y := h h3
  rcases (by omega : t = 0 ∨ t = 1) with c | c
  · rw [c]; exact y.1
  · rw [c]; exact y.2
/-- the reference's rows and matches under an event or a review of another -/
theorem kqm_o {T1 T2 : Zt} {m j : Int} (o : OMR_ T1 T2 m) (n : j ≠ m) (j0 : 0 ≤ j) (j1 : j < T1 111 0 29) : KRM_ T1 T2 j := ⟨o.1 j n, (o.2 j n j0 j1).1, (o.2 j n j0 j1).2.1, (o.2 j n j0 j1).2.2⟩
theorem lwR_1 {r : Int → Int} {b : Sg_} {k s q o : Int} (h : b 103 3 ≠ 1) : lwR_ r b k s q o = 1 := by
  unfold lwR_
  exact cz_t h
