/-- the counts are fresh -/
theorem lor_r {T : Zt} {T1 : Zt} (h : LOR_ T) (hg : T 101 0 1 ≠ 0) (f : fr_ [(101, [13, 6, 7]), (434, []), (435, []), (431, []), (432, [])] T T1) (r : RFP_ T T1) : LOR_ T1 ∧ LH_ T1 ∧ FV_ T1 := by
  have hl := h.2.2.resolve_left hg
  have q : LH_ T1 ∧ FV_ T1 := by
    rcases r with ⟨r1, r2⟩ | ⟨r1, r2, r3⟩
    · rw [r2]
      exact ⟨hl, hl.2.2.2.2.2.resolve_left r1⟩
    · obtain ⟨h1, h2, h3, h4, h5, h6⟩ := hl
      refine ⟨⟨by rw [f 101 0 3 rfl, show (fun k => T1 428 0 k) = (fun k => T 428 0 k) from funext (fun k => f 428 0 k rfl)]; exact h1, by rw [f 101 0 4 rfl, show (fun k => T1 429 0 k) = (fun k => T 429 0 k) from funext (fun k => f 429 0 k rfl)]; exact h2, fun p a b => by rw [f 430 0 p rfl, f 101 0 1 rfl, show (fun k => T1 428 0 k) = (fun k => T 428 0 k) from funext (fun k => f 428 0 k rfl)]; exact h3 p a b, fun k a b => by rw [f 428 0 k rfl, f 429 0 k rfl]; exact h4 k a b, fun k a b => by rw [f 108 0 2 rfl] at a; rw [f 428 0 k rfl]; exact h5 k a b, Or.inr r3⟩, r3⟩
  refine ⟨⟨⟨?_, ?_, ?_, ?_⟩, fun k a b => ?_, Or.inr q.1⟩, q.1, q.2⟩
  · rw [f 101 0 1 rfl, f 111 0 99 rfl]; exact h.1.1
  · rw [f 101 0 2 rfl, f 111 0 100 rfl]; exact h.1.2.1
  · rw [f 101 0 5 rfl, f 111 0 103 rfl]; exact h.1.2.2.1
  · rw [f 101 0 1 rfl, f 111 0 98 rfl]; exact h.1.2.2.2
  · rw [f 428 0 k rfl, f 429 0 k rfl, f 301 0 k rfl, f 302 0 k rfl]; exact h.2.1 k a b
