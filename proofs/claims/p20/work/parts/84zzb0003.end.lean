theorem pl_moved {T : Zt} {k x1 x2 : Int} (hV : MVR_ T) (d1 : ((0 ≤ k ∧ k < T 106 0 12 ∧ x1 = T 531 0 k) ∨ (¬ (0 ≤ k ∧ k < T 106 0 12) ∧ x1 = -1))) (d2 : ((0 ≤ k ∧ k < T 111 0 75 ∧ x2 = T 274 0 k) ∨ (¬ (0 ≤ k ∧ k < T 111 0 75) ∧ x2 = -1))) : x1 = x2 := by
  have h := hV.1
  rcases d1 with ⟨a, b, rfl⟩ | ⟨a, rfl⟩
  · rcases d2 with ⟨-, -, rfl⟩ | ⟨y, -⟩
    · exact hV.2 k a b
    · exact absurd ⟨a, by omega⟩ y
  · rcases d2 with ⟨y1, y2, -⟩ | ⟨-, rfl⟩
    · exact absurd ⟨y1, by omega⟩ a
    · rfl
theorem pl_count {T : Zt} {w x1 x2 : Int} (hN : CNR_ T) (hS : SPR_ T) (hX : TXR_ T) (hM : MAR_ T) (hC : RCR_ T) (d1 : ((w = 0 ∧ x1 = T 108 0 2) ∨ (w = 1 ∧ x1 = T 108 0 3) ∨ (w = 2 ∧ x1 = T 108 0 5) ∨ (w = 3 ∧ x1 = T 108 0 12) ∨ (w = 4 ∧ x1 = T 106 0 2) ∨ (w = 5 ∧ x1 = T 106 0 4) ∨ (w = 6 ∧ x1 = T 106 0 5) ∨ (w = 7 ∧ x1 = T 108 0 13) ∨ (¬ (0 ≤ w ∧ w ≤ 7) ∧ x1 = -3))) (d2 : ((w = 0 ∧ x2 = T 111 0 12) ∨ (w = 1 ∧ x2 = T 111 0 15) ∨ (w = 2 ∧ x2 = T 111 0 16) ∨ (w = 3 ∧ x2 = T 111 0 21) ∨ (w = 4 ∧ x2 = T 111 0 6) ∨ (w = 5 ∧ x2 = T 111 0 29) ∨ (w = 6 ∧ x2 = T 111 0 47) ∨ (w = 7 ∧ x2 = T 111 0 3) ∨ (¬ (0 ≤ w ∧ w ≤ 7) ∧ x2 = -3))) : x1 = x2 := by
  have a1 := hN.1
  have a2 := hN.2.1
  have a3 := hN.2.2.1
  have a4 := hN.2.2.2
  have a5 := hS.1
  have a6 := hX.2.2.1
  have a7 := hM.1
  have a8 : T 106 0 5 = T 111 0 47 := hC
  omega
/-- a walkover takes no match back -/
theorem wo_k {T T1 : Zt} {m d x : Int} (h : ((x = -2 ∧ ¬ (0 ≤ m ∧ m < T 106 0 4) ∧ T = T1) ∨ ((0 ≤ m ∧ m < T 106 0 4) ∧ ((x = -3 ∧ ¬ (0 ≤ d ∧ d ≤ 1) ∧ T = T1) ∨ ((0 ≤ d ∧ d ≤ 1) ∧ ((x = -4 ∧ ¬ ((T 102 m 6 = -1 ∧ T 102 m 10 = 0) ∧ T 102 m 5 ≤ T 108 0 13) ∧ T = T1) ∨ (x = 1 ∧ ((T 102 m 6 = -1 ∧ T 102 m 10 = 0) ∧ T 102 m 5 ≤ T 108 0 13) ∧ T1 = up_ T 102 m 6 d))))))) : ∀ i, T1 102 i 6 = T 102 i 6 ∨ T1 102 i 6 ≠ -1 := by
  rcases h with ⟨-, -, rfl⟩ | ⟨-, h⟩
  · exact fun i => Or.inl rfl
  · rcases h with ⟨-, -, rfl⟩ | ⟨a, h⟩
    · exact fun i => Or.inl rfl
    · rcases h with ⟨-, -, rfl⟩ | ⟨-, -, u⟩
      · exact fun i => Or.inl rfl
      · intro i
        by_cases z : i = m
        · exact Or.inr (by rw [z, up_f u]; omega)
        · exact Or.inl (up_g u (fun y => z y.2.1))
