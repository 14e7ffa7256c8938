theorem fw_4 {k : Nat} {j : Int} (n : k ≠ 302) (m : ¬ (k = 111 ∧ j = 103)) (h : fw_ [(304, []), (305, [])] k j = false) : fw_ [(304, []), (305, []), (302, []), (111, [103])] k j = false := by
  simp [fw_] at h ⊢
  omega
theorem kz_4 {F : List (Nat × List Int)} {T T' : Zt} (f : fr_ [(304, []), (305, []), (302, []), (111, [103])] T T') (e : ∀ j, T' 302 0 j = T 302 0 j) (e2 : T' 111 0 103 = T 111 0 103) (d : dj_ [(304, []), (305, [])] F = true) : kz_ F T T' := fun k j w => by
  by_cases z : k = 302
  · rw [z]; exact e j
  · by_cases y : k = 111 ∧ j = 103
    · rw [y.1, y.2]; exact e2
    · refine f k 0 j (fw_4 z y ?_)
      cases y : fw_ [(304, []), (305, [])] k j
      · rfl
      · rw [dj_s d y] at w
        cases w
