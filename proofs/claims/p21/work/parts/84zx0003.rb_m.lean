abbrev ruH_ (T : Zt) (m : Int) : Int → Int := rlm_ (fun w => T 401 (T 102 m 0) w)
theorem rb_m {T : Zt} {m : Int} (hri : RI_ T) (hx : TXR_ T) (hc : 0 ≤ T 102 m 0 ∧ T 102 m 0 < T 106 0 2) : RB9_ (ruH_ T m) := by
  have e := hx.2.2.1
  have v : ∀ w, 0 ≤ w → w < 16 → (rb_ w).1 ≤ ruH_ T m w ∧ ruH_ T m w ≤ (rb_ w).2 := fun w a b => by
    rw [show ruH_ T m w = T 401 (T 102 m 0) w from rlm_v (f := fun w => T 401 (T 102 m 0) w) a b, (hx.2.2.2.2 _ hc.1 hc.2).1 w a b]
    exact hri (T 102 m 0) w hc.1 (by omega) a (by omega)
  have v0 : 0 ≤ ruH_ T m 0 ∧ ruH_ T m 0 ≤ 3 := v 0 (by decide) (by decide)
  have v9 : 1 ≤ ruH_ T m 9 ∧ ruH_ T m 9 ≤ 6 := v 9 (by decide) (by decide)
  have v10 : 0 ≤ ruH_ T m 10 ∧ ruH_ T m 10 ≤ 5 := v 10 (by decide) (by decide)
  have v11 : 2 ≤ ruH_ T m 11 ∧ ruH_ T m 11 ≤ 25 := v 11 (by decide) (by decide)
  have v12 : 1 ≤ ruH_ T m 12 ∧ ruH_ T m 12 ≤ 9 := v 12 (by decide) (by decide)
  exact ⟨v0, v9, v10, v11, v12⟩
