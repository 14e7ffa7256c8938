theorem pm_k {T T' : Zt} {m : Int} (h : PM_ T m) (a : KHM_ T T' m) (b : KRM_ T T' m) : PM_ T' m := by
  obtain ⟨a1, ⟨a2, a3, a4⟩, ⟨a5, a6, a7, a8⟩, a9, a0⟩ := a
  obtain ⟨b1, b2, b3, b4⟩ := b
  obtain ⟨c35, c36, c37⟩ := rpe_ b1
  have es : rs9_ T' m = rs9_ T m := rs_n a1
  have er : ruH_ T' m = ruH_ T m := rlm_e (fun w _ _ => by
    show T' 401 (T' 102 m 0) w = T 401 (T 102 m 0) w
    rw [a2, a9])
  rcases h with h | h | h
  · refine Or.inl ?_
    unfold PAA_ at h ⊢
    omega
  · refine Or.inr (Or.inl ?_)
    unfold PBB_ at h ⊢
    rw [a2, a9]
    omega
  · obtain ⟨h1, h2, h3, ⟨n, hn, hs⟩, h5, h6, h7, h8⟩ := h
    refine Or.inr (Or.inr ⟨by omega, by omega, by omega, ⟨n, by omega, ?_⟩, ?_, fun t t0 t1 => ?_, ?_, by omega⟩)
    · rw [er, b1, es]
      exact hs
    · rw [es]
      exact h5
    · rw [a2, a9, show T' 449 m t = T 449 m t from a1 449 t rfl]
      exact h6 t t0 t1
    · rw [a6, a7, b2, ← h7]
      exact hrw_e (fun j j0 j1 => a0 h2 j j0 (by omega))
