/-- a yellow card is written -/
theorem si_y {m n : Int} {r : Int → Int} {b a : Sg_} {s x v : Int} (h : SI_ m n r b a) (h0 : 0 ≤ s) (h1 : s ≤ 1) (x0 : s * 10 ≤ x) (x1 : x < s * 10 + a 449 s) (hv : 0 ≤ v ∧ v ≤ 8 * n + 20) : SI_ m n r (u2_ b 473 x v) (u2_ a 473 x v) := by
  have na : ∀ (K : Nat) (J : Int), K ≠ 473 → u2_ a 473 x v K J = a K J := fun K J d => u2_k d J
  have nb : ∀ (K : Nat) (J : Int), K ≠ 473 → u2_ b 473 x v K J = b K J := fun K J d => u2_k d J
  refine ⟨?_, ws_k h.2.1 (by decide), ?_⟩
  · have h9 := h.1
    obtain ⟨a1, a2, a3, e4, e5⟩ := h9
    unfold EQP_
    simp only [na 449 _ (by decide), na 470 _ (by decide), na 466 _ (by decide), na 467 _ (by decide), na 468 _ (by decide), na 469 _ (by decide), na 103 _ (by decide), na 471 _ (by decide), na 448 _ (by decide), na 472 _ (by decide), nb 449 _ (by decide), nb 470 _ (by decide), nb 466 _ (by decide), nb 467 _ (by decide), nb 468 _ (by decide), nb 469 _ (by decide), nb 103 _ (by decide), nb 471 _ (by decide), nb 448 _ (by decide), nb 472 _ (by decide), nb 474 _ (by decide)]
    refine ⟨a1, a2, a3, e4, fun t z t0 t1 z0 z1 => ?_⟩
    have f := e5 t z t0 t1 z0 z1
    exact ⟨f.1, u2_e f.2.1, f.2.2⟩
  · obtain ⟨g0, g1, g2, g3, g4, g5, g6, g7⟩ := h.2.2
    unfold WBP_
    simp only [na 449 _ (by decide), na 467 _ (by decide), na 469 _ (by decide), na 103 _ (by decide)]
    refine ⟨g0, fun K J c j0 j1 => ?_, g2, g3, fun t z t0 t1 z0 z1 => ?_, g5, g6, g7⟩
    · rw [na K J (by omega)]; exact g1 K J c j0 j1
    · by_cases d : z = x
      · rw [d, u2_s]; exact hv
      · rw [u2_n (fun e => d e.2)]; exact g4 t z t0 t1 z0 z1
