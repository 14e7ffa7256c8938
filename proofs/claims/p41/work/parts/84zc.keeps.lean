def ENA_ (T : Zt) : Prop := ENR_ T ∧ MAR_ T ∧ DER_ T
section WEZ
variable {ws : List (Nat × List Int)} {T T' : Zt}
end WEZ
theorem ch9_s {T T' : Zt} {x : Int} (h : CH9_ T T' x) (n : nc_ T T') (j : Int) (a : 0 ≤ j) (b : j < 12) : T' 404 (T 106 0 2) j = -1 := by
  have n1 := n.2.1
  rcases h with ⟨-, -, -, -, h⟩ | ⟨-, -, ⟨h, -⟩ | ⟨-, -, -, -, h, -⟩⟩
  · omega
  · omega
  · exact h j a b

