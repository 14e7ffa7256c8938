/-- who sits on the bench -/
theorem k_b {m : Int} {b a : Sg_} (h : EQP_ m b a) (w : WS_ a) {s q : Int} (h0 : 0 ≤ s) (h1 : s ≤ 1) : (bq9_ a s q = -1 ∧ ¬ (slR_ b s q ≠ -1 ∧ b 472 (slR_ b s q) = 0)) ∨ (s * 10 ≤ bq9_ a s q ∧ bq9_ a s q < s * 10 + a 449 s ∧ slR_ b s q = bq9_ a s q ∧ b 472 (slR_ b s q) = 0 ∧ a 472 (bq9_ a s q) = 0) := by
  obtain ⟨w1, w2, w3, w4, w5⟩ := w
  have e := eq_j h h0 h1
  have v := w1 s h0 h1
  obtain ⟨_, _, _, e4, e5⟩ := h
  rcases bq9_b (a := a) (s := s) (q := q) with z | z
  · refine Or.inl ⟨z, fun y => ?_⟩
    rcases sln_b (a := b) (s := s) (q := q) (b 449 s).toNat with c | c
    · exact y.1 c
    · have c1 : s * 10 ≤ slR_ b s q := by have := c.1; show s * 10 ≤ sln_ b s q (b 449 s).toNat; omega
      have c2 : slR_ b s q < s * 10 + a 449 s := by have := c.2.1; show sln_ b s q (b 449 s).toNat < _; omega
      have c3 : b 448 (slR_ b s q) = q := c.2.2
      have d := e5 s _ h0 h1 c1 c2
      have f : a 472 (slR_ b s q) = 0 := by have := y.2; omega
      refine bp_n (a := a) (s := s) (q := q) (a 449 s).toNat 0 z (by omega) h0 (slR_ b s q - s * 10) (by omega) (by omega) ?_
      rw [show s * 10 + (slR_ b s q - s * 10) = slR_ b s q by omega]
      exact ⟨d.1.symm.trans c3, f⟩
  · have d := e5 s _ h0 h1 z.1 z.2.1
    have u : slR_ b s q = bq9_ a s q := by
      refine sl_u (b 449 s).toNat z.1 (by omega) (d.1.trans z.2.2.1) (fun y c1 c2 c3 => ?_)
      have dy := e5 s y h0 h1 c1 (by omega)
      refine w5 s y _ h0 h1 c1 (by omega) z.1 z.2.1 ?_
      rw [← dy.1, c3, z.2.2.1]
    refine Or.inr ⟨z.1, z.2.1, u, ?_, z.2.2.2⟩
    rw [u]
    have := z.2.2.2
    omega
