theorem dk_n {k : Nat} {j : Int} (d : dk_ k j = true) : k ≠ 190 ∧ k ≠ 191 ∧ k ≠ 106 := by
  rcases dk_c d with y | y | y | y | y | y | y | y | y | y | ⟨y, _⟩ <;> omega
