/-- sent off -/
theorem si_so {m n : Int} {r : Int → Int} {b a : Sg_} {s k : Int} (h : SI_ m n r b a) (q : RB9_ r) (h0 : 0 ≤ s) (h1 : s ≤ 1) (k0 : 0 ≤ k) (k1 : k < a 470 s) (g : n + 1 ≤ 1000000) : SI_ m (n + 1) r (soR_ r b m s (20 * m + a 471 (s * 6 + k))) (so9_ r a s k) := by
  have n0 := h.2.2.1
  have q5 := q.2.2.2.2
  obtain ⟨v2, hB0⟩ := si_of h h0 h1 k0 k1
  have hB := si_m (n' := n + 1) hB0 (by omega) g
  have ex : 20 * m + a 471 (s * 6 + k) - 20 * m = a 471 (s * 6 + k) := by omega
  by_cases c : 2 * (a 470 s - 1) < r 9
  · rw [so9__2 (r := r) (a := a) (s := s) (k := k) (by omega) c]
    have hw := si_w hB (v := 1) (w := 2) (Or.inr ⟨rfl, rfl⟩)
    rcases (by omega : s = 0 ∨ s = 1) with z | z
    · rw [soR__1 (r := r) (a := b) (m := m) (s := s) (x := 20 * m + a 471 (s * 6 + k)) (by rw [ex, v2]; exact c) z, ex]
      have s1 := si_u hw (k := 468) (j := 0) (v := 0) (Or.inl (by decide)) (by omega) (fun y => absurd y (by decide)) (fun y => absurd y (by decide)) (fun y => absurd y (by decide))
      have s2 := si_u s1 (k := 468) (j := 1) (v := r 12) (Or.inl (by decide)) (by omega) (fun y => absurd y (by decide)) (fun y => absurd y (by decide)) (fun y => absurd y (by decide))
      rw [show (1 : Int) - s = 1 by omega]
      have e0 : ∀ y : Sg_, u2_ y 468 s 0 = u2_ y 468 0 0 := fun y => by rw [z]
      rw [e0]
      exact s2
    · rw [soR__2 (r := r) (a := b) (m := m) (s := s) (x := 20 * m + a 471 (s * 6 + k)) (by rw [ex, v2]; exact c) (by omega), ex]
      have s1 := si_u hw (k := 468) (j := 1) (v := 0) (Or.inl (by decide)) (by omega) (fun y => absurd y (by decide)) (fun y => absurd y (by decide)) (fun y => absurd y (by decide))
      have s2 := si_u s1 (k := 468) (j := 0) (v := r 12) (Or.inl (by decide)) (by omega) (fun y => absurd y (by decide)) (fun y => absurd y (by decide)) (fun y => absurd y (by decide))
      rw [show (1 : Int) - s = 0 by omega, u2_c (k := 468) (j := 0) (k' := 468) (j' := 1) (by decide)]
      have e0 : ∀ y : Sg_, u2_ y 468 s 0 = u2_ y 468 1 0 := fun y => by rw [z]
      rw [e0]
      exact s2
  · rw [so9__3 (r := r) (a := a) (s := s) (k := k) (by omega) c, soR__3 (r := r) (a := b) (m := m) (s := s) (x := 20 * m + a 471 (s * 6 + k)) (by rw [ex, v2]; exact c), ex]
    exact hB
