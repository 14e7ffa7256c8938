theorem lor_3 {T : Zt} {T' : Zt} (h : LOR_ T) (f : fr_ [(304, []), (305, []), (302, [])] T T') (e : ∀ j, T' 302 0 j = T 302 0 j) : LOR_ T' := lor_k h (kz_3 f e (by decide +kernel))
/-- a new draw, both sides -/
theorem lor_d {T T1 T2 : Zt} {g l x1 x2 : Int} (h : LOR_ T) (hc : 0 ≤ T 108 0 2) (d1 : NDH_ T T1 g l x1) (f1 : fr_ [(101, [1, 2, 3, 4, 7]), (428, []), (429, []), (430, [])] T T1) (d2 : NDR_ T1 T2 g l x2) (f2 : fr_ [(111, [98, 99, 100]), (301, []), (302, [])] T1 T2) : x1 = x2 ∧ LOR_ T2 := by
  rcases d1 with ⟨a1, a2, a3⟩ | ⟨a1, a2, a3, a4, a5, a6, a7, a8, a9⟩
  · rcases d2 with ⟨b1, b2, b3⟩ | ⟨b1, b2⟩
    · rw [b1, a1]
      exact ⟨by omega, h⟩
    · exact absurd b1 a3
  · rcases d2 with ⟨b1, b2, b3⟩ | ⟨b1, b2, b3, b4, b5, b6⟩
    · exact absurd a1 b3
    · have e1 := f2 101 0 1 rfl
      have e2 := f2 101 0 2 rfl
      have e5 := f2 101 0 5 rfl
      have e6 := f1 101 0 5 rfl
      have g5 := f2 111 0 103 rfl
      have g6 := f1 111 0 103 rfl
      have h5 := h.1.2.2.1
      refine ⟨by omega, ⟨by omega, by omega, by omega, by omega⟩, fun k p q => ?_, Or.inr ⟨?_, ?_, fun p p1 p2 => ?_, fun k p q r => ?_, fun k p q => ?_, Or.inl ?_⟩⟩
      · rw [f2 428 0 k rfl, f2 429 0 k rfl, (a8 k p q).1, (a8 k p q).2, (b6 k p q).1, (b6 k p q).2]
        exact ⟨rfl, rfl⟩
      · rw [f2 101 0 3 rfl, a5, cnz_a 12 (fun k p q => by rw [f2 428 0 k rfl]; exact (a8 k p (by omega)).1)]
        rfl
      · rw [f2 101 0 4 rfl, a6, cnz_a 12 (fun k p q => by rw [f2 429 0 k rfl]; exact (a8 k p (by omega)).2)]
        rfl
      · rw [f2 430 0 p rfl, a9 p p1 (by omega), cnz_n 12 (fun k u v => by rw [f2 428 0 k rfl, (a8 k u (by omega)).1]; omega)]
        exact ⟨rfl, by omega⟩
      · rw [f2 429 0 k rfl]; exact (a8 k p q).2
      · rw [f2 428 0 k rfl]; exact (a8 k (by rw [f2 108 0 2 rfl, f1 108 0 2 rfl] at p; omega) q).1
      · rw [f2 101 0 7 rfl]; exact a7
