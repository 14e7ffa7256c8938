theorem wr_9 {x : Int} (h : -2147483648 ≤ x ∧ x ≤ 2147483647) : wr_ x = x := by
  unfold wr_
  omega
theorem u2_e {b a : Sg_} {k K : Nat} {j J v : Int} (h : b K J = a K J) : u2_ b k j v K J = u2_ a k j v K J := by
  by_cases z : K = k ∧ J = j
  · rw [z.1, z.2, u2_s, u2_s]
  · rw [u2_n z, u2_n z]; exact h
theorem u2_m {a : Sg_} {k : Nat} {j v : Int} (h : a k j = v) : u2_ a k j v = a := by
  funext K J
  by_cases z : K = k ∧ J = j
  · rw [z.1, z.2, u2_s]; exact h.symm
  · exact u2_n z
theorem eq_u {m : Int} {b a : Sg_} (h : EQP_ m b a) {k : Nat} {j v : Int} (c : (k = 466 ∨ k = 467 ∨ k = 468 ∨ k = 469) ∨ (k = 103 ∧ (j = 4 ∨ j = 5))) : EQP_ m (u2_ b k j v) (u2_ a k j v) := by
  obtain ⟨⟨a1, a2, a3, a4⟩, ⟨b1, b2, b3, b4, b5, b6, b7, b8⟩, ⟨p4, p5, p3⟩, e4, e5⟩ := h
  have n : ∀ K : Nat, (K = 448 ∨ K = 449 ∨ K = 470 ∨ K = 471 ∨ K = 472 ∨ K = 473 ∨ K = 474) → ∀ (g : Sg_) (J : Int), u2_ g k j v K J = g K J := fun K hK g J => u2_k (by omega) J
  have n3 : ¬ ((103 : Nat) = k ∧ (3 : Int) = j) := by omega
  refine ⟨⟨u2_e a1, u2_e a2, u2_e a3, u2_e a4⟩, ⟨u2_e b1, u2_e b2, u2_e b3, u2_e b4, u2_e b5, u2_e b6, u2_e b7, u2_e b8⟩, ⟨u2_e p4, u2_e p5, ?_⟩, fun s x s0 s1 h0 h1 => ?_, fun s x s0 s1 h0 h1 => ?_⟩
  · rw [u2_n n3, u2_n n3]; exact p3
  · simp only [n 470 (by decide), n 471 (by decide)] at h1 ⊢
    exact e4 s x s0 s1 h0 h1
  · simp only [n 449 (by decide), n 448 (by decide), n 472 (by decide), n 473 (by decide), n 474 (by decide)] at h1 ⊢
    exact e5 s x s0 s1 h0 h1
theorem eq_w {m : Int} {b a : Sg_} (h : EQP_ m b a) {v w : Int} (c : (v = 0 ∧ w = 1) ∨ (v = 1 ∧ w = 2)) : EQP_ m (u2_ b 103 3 w) (u2_ a 103 3 v) := by
  obtain ⟨⟨a1, a2, a3, a4⟩, ⟨b1, b2, b3, b4, b5, b6, b7, b8⟩, ⟨p4, p5, p3⟩, e4, e5⟩ := h
  have n : ∀ K : Nat, K ≠ 103 → ∀ (g : Sg_) (y J : Int), u2_ g 103 3 y K J = g K J := fun K hK g y J => u2_k hK J
  have n4 : ¬ ((103 : Nat) = 103 ∧ (4 : Int) = 3) := by decide
  have n5 : ¬ ((103 : Nat) = 103 ∧ (5 : Int) = 3) := by decide
  refine ⟨?_, ?_, ⟨?_, ?_, ?_⟩, fun s x s0 s1 h0 h1 => ?_, fun s x s0 s1 h0 h1 => ?_⟩
  · simp only [n 449 (by decide), n 470 (by decide)]
    exact ⟨a1, a2, a3, a4⟩
  · simp only [n 466 (by decide), n 467 (by decide), n 468 (by decide), n 469 (by decide)]
    exact ⟨b1, b2, b3, b4, b5, b6, b7, b8⟩
  · rw [u2_n n4, u2_n n4]; exact p4
  · rw [u2_n n5, u2_n n5]; exact p5
  · rw [u2_s, u2_s]; exact c
  · simp only [n 470 (by decide), n 471 (by decide)] at h1 ⊢
    exact e4 s x s0 s1 h0 h1
  · simp only [n 449 (by decide), n 448 (by decide), n 472 (by decide), n 473 (by decide), n 474 (by decide)] at h1 ⊢
    exact e5 s x s0 s1 h0 h1
theorem fy2_2 {a : Sg_} {k : Nat} : fy2_ a k 2 0 = u2_ (u2_ a k 0 0) k 1 0 := by
  funext K J
  by_cases z : K = k
  · subst z
    by_cases y : J = 1
    · rw [y, u2_s]; exact fy2_s (by decide)
    · rw [u2_n (fun q => y q.2)]
      by_cases x : J = 0
      · rw [x, u2_s]; exact fy2_s (by decide)
      · rw [u2_n (fun q => x q.2)]; exact fy2_o (by omega)
  · rw [u2_k z, u2_k z]; exact fy2_k z J
theorem eq_ad {m : Int} {b a : Sg_} {s v w : Int} (h : EQP_ m b a) (h0 : 0 ≤ s) (h1 : s ≤ 1) (g0 : -2147483648 ≤ a 468 0 ∧ a 468 0 ≤ 2147483647) (g1 : -2147483648 ≤ a 468 1 ∧ a 468 1 ≤ 2147483647) (e : w = wr_ (a 468 s + v)) : EQP_ m (adR_ b s v) (u2_ a 468 s w) := by
  have b5 := h.2.1.2.2.2.2.1
  have b6 := h.2.1.2.2.2.2.2.1
  have i0 : wr_ (a 468 0 + 0) = a 468 0 := (wr_9 (by omega)).trans (by omega)
  have i1 : wr_ (a 468 1 + 0) = a 468 1 := (wr_9 (by omega)).trans (by omega)
  rcases (by omega : s = 0 ∨ s = 1) with z | z
  · subst z
    rw [adR__1 (a := b) (s := 0) (v := v) rfl, b5, b6, ← e, i1]
    have x := eq_u (eq_u h (k := 468) (j := 0) (v := w) (Or.inl (by decide))) (k := 468) (j := 1) (v := a 468 1) (Or.inl (by decide))
    rw [u2_m (a := u2_ a 468 0 w) (k := 468) (j := 1) (v := a 468 1) (u2_n (fun q => absurd q.2 (by decide)))] at x
    exact x
  · subst z
    rw [adR__2 (a := b) (s := 1) (v := v) (by decide) rfl, b5, b6, ← e, i0]
    have x := eq_u h (k := 468) (j := 0) (v := a 468 0) (Or.inl (by decide))
    rw [u2_m (a := a) (k := 468) (j := 0) (v := a 468 0) rfl] at x
    exact eq_u x (Or.inl (by decide))
/-- who stands where doesn't hang on plain cells -/
theorem ws_k {a : Sg_} (h : WS_ a) {k : Nat} {j v : Int} (c : k ≠ 448 ∧ k ≠ 449 ∧ k ≠ 470 ∧ k ≠ 471 ∧ k ≠ 472) : WS_ (u2_ a k j v) := by
  have n : ∀ K : Nat, K ≠ k → ∀ (J : Int), u2_ a k j v K J = a K J := fun K hK J => u2_k hK J
  unfold WS_ at h ⊢
  simp only [n 448 c.1.symm, n 449 c.2.1.symm, n 470 c.2.2.1.symm, n 471 c.2.2.2.1.symm, n 472 c.2.2.2.2.symm]
  exact h
/-- bounds of the plain cells -/
def WBP_ (n : Int) (r : Int → Int) (a : Sg_) : Prop :=
  (0 ≤ n ∧ n ≤ 1000000) ∧ (∀ (k : Nat) (j : Int), k = 466 ∨ k = 467 ∨ k = 468 ∨ k = 469 → 0 ≤ j → j ≤ 1 → 0 ≤ a k j ∧ a k j ≤ 8 * n + 20) ∧
  (0 ≤ a 103 4 ∧ a 103 4 ≤ 8 * n + 20) ∧ (0 ≤ a 103 5 ∧ a 103 5 ≤ 1) ∧
  (∀ s x, 0 ≤ s → s ≤ 1 → s * 10 ≤ x → x < s * 10 + a 449 s → 0 ≤ a 473 x ∧ a 473 x ≤ 8 * n + 20) ∧
  (r 0 = 3 → a 467 1 ≤ 7) ∧ (r 0 = 2 → ∀ j, 0 ≤ j → j ≤ 1 → a 467 j ≤ r 11) ∧ (∀ j, 0 ≤ j → j ≤ 1 → a 469 j ≤ r 10)
/-- bounds of the rules -/
def RB9_ (r : Int → Int) : Prop := (0 ≤ r 0 ∧ r 0 ≤ 3) ∧ (1 ≤ r 9 ∧ r 9 ≤ 6) ∧ (0 ≤ r 10 ∧ r 10 ≤ 5) ∧ (2 ≤ r 11 ∧ r 11 ≤ 25) ∧ (1 ≤ r 12 ∧ r 12 ≤ 9)
theorem wbp_m {n n' : Int} {r : Int → Int} {a : Sg_} (h : WBP_ n r a) (e : n ≤ n') (g : n' ≤ 1000000) : WBP_ n' r a := by
  obtain ⟨h0, h1, h2, h3, h4, h5, h6, h7⟩ := h
  refine ⟨by omega, fun k j c j0 j1 => ?_, by omega, h3, fun s x s0 s1 x0 x1 => ?_, h5, h6, h7⟩
  · have := h1 k j c j0 j1
    omega
  · have := h4 s x s0 s1 x0 x1
    omega
theorem wbp_u {n : Int} {r : Int → Int} {a : Sg_} (h : WBP_ n r a) {k : Nat} {j v : Int} (c : (k = 466 ∨ k = 467 ∨ k = 468 ∨ k = 469) ∨ (k = 103 ∧ (j = 4 ∨ j = 5))) (hv : 0 ≤ v ∧ v ≤ 8 * n + 20) (g5 : k = 103 → j = 5 → v ≤ 1) (g7 : k = 467 → (r 0 = 3 → j = 1 → v ≤ 7) ∧ (r 0 = 2 → v ≤ r 11)) (g9 : k = 469 → v ≤ r 10) : WBP_ n r (u2_ a k j v) := by
  obtain ⟨h0, h1, h2, h3, h4, h5, h6, h7⟩ := h
  have w : ∀ (K : Nat) (J : Int), (K = k ∧ J = j ∧ u2_ a k j v K J = v) ∨ (¬ (K = k ∧ J = j) ∧ u2_ a k j v K J = a K J) := fun K J => by
    by_cases z : K = k ∧ J = j
    · exact Or.inl ⟨z.1, z.2, by rw [z.1, z.2, u2_s]⟩
    · exact Or.inr ⟨z, u2_n z⟩
  refine ⟨h0, fun K J q j0 j1 => ?_, ?_, ?_, fun s x s0 s1 x0 x1 => ?_, fun e => ?_, fun e J j0 j1 => ?_, fun J j0 j1 => ?_⟩
  · have y := h1 K J q j0 j1
    rcases w K J with z | z
    · rw [z.2.2]; exact hv
    · rw [z.2]; exact y
  · rcases w 103 4 with z | z
    · rw [z.2.2]; exact hv
    · rw [z.2]; exact h2
  · rcases w 103 5 with z | z
    · rw [z.2.2]
      have := g5 z.1.symm z.2.1.symm
      omega
    · rw [z.2]; exact h3
  · have e1 : u2_ a k j v 449 s = a 449 s := u2_k (by omega) s
    have e2 : u2_ a k j v 473 x = a 473 x := u2_k (by omega) x
    rw [e1] at x1
    rw [e2]
    exact h4 s x s0 s1 x0 x1
  · rcases w 467 1 with z | z
    · rw [z.2.2]
      exact (g7 z.1.symm).1 e z.2.1.symm
    · rw [z.2]; exact h5 e
  · rcases w 467 J with z | z
    · rw [z.2.2]
      exact (g7 z.1.symm).2 e
    · rw [z.2]; exact h6 e J j0 j1
  · rcases w 469 J with z | z
    · rw [z.2.2]
      exact g9 z.1.symm
    · rw [z.2]; exact h7 J j0 j1
