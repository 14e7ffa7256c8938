theorem fw_4 {k : Nat} {j : Int} (n : k ≠ 302) (m : ¬ (k = 111 ∧ j = 103)) (h : fw_ [(304, []), (305, [])] k j = false) : fw_ [(304, []), (305, []), (302, []), (111, [103])] k j = false := by
  simp [fw_] at h ⊢
  omega
