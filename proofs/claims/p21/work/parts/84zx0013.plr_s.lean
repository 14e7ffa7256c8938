/-- one match changes -/
theorem plr_s {T T2 : Zt} {m : Int} (h : PLR_ T) (c1 : T2 106 0 4 = T 106 0 4) (c2 : T2 111 0 29 = T 111 0 29) (hm : 0 ≤ m → m < T 106 0 4 → SHM_ T2 m ∧ PM_ T2 m) (ho : ∀ j, 0 ≤ j → j < T 106 0 4 → j ≠ m → KHM_ T T2 j ∧ KRM_ T T2 j) (hz : ∀ j, T 111 0 29 ≤ j → j < 400 → T2 236 0 j = T 236 0 j ∧ T2 237 0 j = T 237 0 j) : PLR_ T2 := by
  refine ⟨fun j j0 j1 => ?_, fun j j0 j1 => ?_⟩
  · rw [c1] at j1
    by_cases z : j = m
    · rw [z]
      exact hm (by omega) (by omega)
    · have g := h.1 j j0 j1
      have k := ho j j0 j1 z
      exact ⟨shm_k g.1 k.1 k.2, pm_k g.2 k.1 k.2⟩
  · rw [c2] at j0
    have g := h.2 j j0 j1
    have k := hz j j0 j1
    omega
