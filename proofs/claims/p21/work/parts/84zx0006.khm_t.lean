-- what a match's state hangs on
def KHM_ (T T' : Zt) (m : Int) : Prop := (∀ (k : Nat) (j : Int), dk_ k j = true → T' k m j = T k m j) ∧ (T' 102 m 0 = T 102 m 0 ∧ T' 102 m 6 = T 102 m 6 ∧ T' 102 m 10 = T 102 m 10) ∧ (T' 103 m 0 = T 103 m 0 ∧ T' 103 m 14 = T 103 m 14 ∧ T' 103 m 15 = T 103 m 15 ∧ T' 103 m 17 = T 103 m 17) ∧ (∀ w, T' 401 (T 102 m 0) w = T 401 (T 102 m 0) w) ∧ (T 102 m 10 ≠ 0 → ∀ j, 0 ≤ j → j < 4 * T 103 m 15 → T' 190 (T 103 m 14) j = T 190 (T 103 m 14) j)
def KRM_ (T T' : Zt) (m : Int) : Prop := rp9_ T' m = rp9_ T m ∧ rw9_ T' m = rw9_ T m ∧ T' 254 0 m = T 254 0 m ∧ T' 256 0 m = T 256 0 m
theorem khm_t {T T1 T2 : Zt} {m : Int} (a : KHM_ T T1 m) (b : KHM_ T1 T2 m) : KHM_ T T2 m := by
  obtain ⟨a1, ⟨a2, a3, a4⟩, ⟨a5, a6, a7, a8⟩, a9, a0⟩ := a
  obtain ⟨b1, ⟨b2, b3, b4⟩, ⟨b5, b6, b7, b8⟩, b9, b0⟩ := b
  refine ⟨fun k j d => (b1 k j d).trans (a1 k j d), ⟨by omega, by omega, by omega⟩, ⟨by omega, by omega, by omega, by omega⟩, fun w => ?_, fun h j j0 j1 => ?_⟩
  · rw [a2] at b9
    exact (b9 w).trans (a9 w)
  · rw [a6] at b0
    exact (b0 (by omega) j j0 (by omega)).trans (a0 h j j0 j1)
