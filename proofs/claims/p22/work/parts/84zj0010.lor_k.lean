theorem lor_k {T : Zt} {T' : Zt} (h : LOR_ T) (k : kz_ [(101, [1, 2, 3, 4, 5, 6, 7, 13]), (108, [2]), (428, []), (429, []), (430, []), (431, []), (432, []), (561, []), (111, [98, 99, 100, 103]), (301, []), (302, [])] T T') : LOR_ T' := by
  obtain ⟨⟨h1, h2, h3, h4⟩, h5, h6⟩ := h
  have e1 := k 101 1 rfl
  have e2 := k 101 2 rfl
  have e5 := k 101 5 rfl
  have f1 := k 111 98 rfl
  have f2 := k 111 99 rfl
  have f3 := k 111 100 rfl
  have f4 := k 111 103 rfl
  refine ⟨⟨by omega, by omega, by omega, by omega⟩, fun j a b => ?_, ?_⟩
  · rw [k 428 j rfl, k 429 j rfl, k 301 j rfl, k 302 j rfl]
    exact h5 j a b
  · rcases h6 with h6 | h6
    · exact Or.inl (by omega)
    · exact Or.inr (lhw_k h6 (kz_s k (by decide +kernel)))
