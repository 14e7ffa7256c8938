/-- the house's own words under a frame -/
theorem lhw_k {T : Zt} {T' : Zt} (h : LH_ T) (k : kz_ [(101, [1, 2, 3, 4, 6, 7, 13]), (108, [2]), (428, []), (429, []), (430, []), (431, []), (432, []), (561, [])] T T') : LH_ T' := by
  obtain ⟨h1, h2, h3, h4, h5, h6⟩ := h
  have eE : (fun j => T' 428 0 j) = (fun j => T 428 0 j) := funext (fun j => k 428 j rfl)
  have eG : (fun j => T' 429 0 j) = (fun j => T 429 0 j) := funext (fun j => k 429 j rfl)
  refine ⟨by rw [k 101 3 rfl, eE]; exact h1, by rw [k 101 4 rfl, eG]; exact h2, fun p a b => by rw [k 430 p rfl, eE, k 101 1 rfl]; exact h3 p a b, fun j a b => by rw [k 428 j rfl, k 429 j rfl]; exact h4 j a b, fun j a b => by rw [k 108 2 rfl] at a; rw [k 428 j rfl]; exact h5 j a b, ?_⟩
  rcases h6 with h6 | h6
  · exact Or.inl (by rw [k 101 7 rfl]; exact h6)
  · refine Or.inr ?_
    unfold FV_
    rw [dh_e (fun j => k 428 j rfl) (fun j => k 561 j rfl) (k 101 1 rfl) (k 101 2 rfl), lhw_e (fun j => k 428 j rfl) (fun j => k 429 j rfl), ghw_e (fun j => k 429 j rfl), k 101 6 rfl]
    exact ⟨h6.1, fun c hc u a b => by rw [k 431 _ rfl]; exact h6.2.1 c hc u a b, wl_e (fun j => k 432 j rfl) (k 101 13 rfl) h6.2.2⟩
