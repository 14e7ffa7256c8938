/-- the first pot that waits, how many are in it, and its w-th club -/
theorem who_n {N : Nat} {T : Zt} {E b : Int → Int} {p : Int} (hE : ∀ k, T 428 0 k = E k) (hw : WL_ T (lq_ E b N 3) 0) (hp : 0 ≤ p ∧ p ≤ 2) (hl : ∀ q, 0 ≤ q → q < p → lpk_ E b q N = []) (hn : 0 < (lpk_ E b p N).length) : T 428 0 (T 432 0 0) = p ∧ cpw_ T p (T 101 0 13).toNat = ((lpk_ E b p N).length : Int) ∧ ∀ w, 0 ≤ w → w < ((lpk_ E b p N).length : Int) → (0 ≤ T 432 0 w ∧ T 432 0 w < (N : Int) ∧ E (T 432 0 w) = p ∧ b (T 432 0 w) = -1) ∧ ((lpk_ E b p (T 432 0 w).toNat).length : Int) = w := by
  have wc := wl_c hw
  obtain ⟨R, e, hR⟩ := lq_p hp hl
  rw [e] at hw wc
  obtain ⟨g1, g2⟩ := wl_a hw
  rw [List.length_append] at wc
  have m1 : ∀ w, 0 ≤ w → w < ((lpk_ E b p N).length : Int) → T 432 0 w ∈ lpk_ E b p N := fun w a c => by
    have q := wb_i g1 a c
    rwa [show (0 : Int) + w = w by omega] at q
  refine ⟨?_, ?_, fun w a c => ⟨?_, lpk_w N g1 w a c⟩⟩
  · rw [hE]
    exact (lpk_m (m1 0 (by decide) (by omega))).2.2.1
  · refine cnz_m _ (by omega) (fun k a c => ?_) (fun k a c => ?_)
    · show T 428 0 (T 432 0 k) = p
      rw [hE]
      exact (lpk_m (m1 k a c)).2.2.1
    · show T 428 0 (T 432 0 k) ≠ p
      rw [hE]
      have q := wl_i (i := k - ((lpk_ E b p N).length : Int)) g2 (by omega) (by omega)
      rw [show (0 : Int) + ((lpk_ E b p N).length : Int) + (k - ((lpk_ E b p N).length : Int)) = k by omega] at q
      exact hR _ q
  · have q := lpk_m (m1 w a c)
    have q2 := q.2.1
    exact ⟨q.1, q2, q.2.2.1, q.2.2.2⟩
