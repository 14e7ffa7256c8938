theorem dd_q {T T1 : Zt} {m d x : Int} (hd : DD_ T) (e4 : T1 106 0 4 = T 106 0 4) (m4 : 0 ≤ T 106 0 4) (h : ((x = -2 ∧ ¬ (0 ≤ m ∧ m < T 106 0 4) ∧ T = T1) ∨ ((0 ≤ m ∧ m < T 106 0 4) ∧ ((x = -3 ∧ ¬ (T 108 0 13 < d ∧ d ≤ 999 ∧ 0 ≤ d) ∧ T = T1) ∨ ((T 108 0 13 < d ∧ d ≤ 999 ∧ 0 ≤ d) ∧ ((x = -4 ∧ ¬ ((T 102 m 6 = -1 ∧ T 102 m 10 = 0) ∧ T 102 m 5 ≠ d) ∧ T = T1) ∨ (((T 102 m 6 = -1 ∧ T 102 m 10 = 0) ∧ T 102 m 5 ≠ d) ∧ PTO_ T T1 m d x))))))) : DD_ T1 := by
  rcases h with ⟨-, -, rfl⟩ | ⟨-, h⟩
  · exact hd
  · rcases h with ⟨-, -, rfl⟩ | ⟨-, h⟩
    · exact hd
    · rcases h with ⟨-, -, rfl⟩ | ⟨-, h⟩
      · exact hd
      · exact dd_p hd e4 m4 h
