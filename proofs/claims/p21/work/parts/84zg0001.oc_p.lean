theorem oc_p {T T' : Zt} {E E2 C f : Int → Int} {x p0 g0 : Int} (h : OCW_ T E C f) (hx : 0 ≤ x ∧ x < 12) (e1 : E x = -1) (e2 : E2 x = p0) (e3 : ∀ k, k ≠ x → E2 k = E k) (hf : f x = g0) (hp : 0 ≤ p0 ∧ p0 ≤ 2) (hg : 0 ≤ g0 ∧ g0 < 4) (hc : 0 ≤ C x ∧ C x < 8) (t1 : T' 434 0 (p0 * 4 + g0) ≠ 0) (t2 : ∀ j, j ≠ p0 * 4 + g0 → T' 434 0 j = T 434 0 j) (c1 : T' 435 0 (g0 * 8 + C x) = T 435 0 (g0 * 8 + C x) + 1) (c2 : ∀ j, j ≠ g0 * 8 + C x → T' 435 0 j = T 435 0 j) : OCW_ T' E2 C f := by
  refine ⟨fun p g a b c d => ?_, fun g cc a b c d => ?_⟩
  · have n1 : OX_ E2 f p g ↔ OX_ E f p g ∨ (p = p0 ∧ g = g0) := by
      constructor
      · rintro ⟨k, q1, q2, q3, q4⟩
        by_cases z : k = x
        · rw [z] at q3 q4
          exact Or.inr ⟨by omega, by omega⟩
        · rw [e3 k z] at q3
          exact Or.inl ⟨k, q1, q2, q3, q4⟩
      · rintro (⟨k, q1, q2, q3, q4⟩ | ⟨q1, q2⟩)
        · exact ⟨k, q1, q2, by rw [e3 k (fun z => by rw [z] at q3; omega)]; exact q3, q4⟩
        · exact ⟨x, hx.1, hx.2, by omega, by omega⟩
    rw [n1]
    by_cases z : p * 4 + g = p0 * 4 + g0
    · have z1 : p = p0 ∧ g = g0 := by omega
      rw [z]
      exact ⟨fun q => absurd q t1, fun q => absurd (Or.inr z1) q⟩
    · rw [t2 _ z, h.1 p g a b c d]
      exact ⟨fun q r => r.elim q (fun y => z (by rw [y.1, y.2])), fun q r => q (Or.inl r)⟩
  · rw [cmk_p hx.1 e1 (by omega) e3 hf g cc 12]
    by_cases z : g * 8 + cc = g0 * 8 + C x
    · have z1 : g = g0 ∧ cc = C x := by omega
      have z2 : x < ((12 : Nat) : Int) ∧ g = g0 ∧ C x = cc := ⟨by have := hx.2; omega, z1.1, z1.2.symm⟩
      rw [z, c1, if_pos z2, h.2 g0 (C x) hg.1 hg.2 hc.1 hc.2, z1.1, z1.2]
    · have z2 : ¬ (x < ((12 : Nat) : Int) ∧ g = g0 ∧ C x = cc) := fun q => z (by rw [q.2.1, q.2.2])
      rw [c2 _ z, if_neg z2, h.2 g cc a b c d]; omega
