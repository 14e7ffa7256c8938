/-- ways, both sides -/
theorem lor_w {T T1 T2 : Zt} {x1 x2 : Int} (h : LOR_ T) (hn : T 108 0 2 = T 111 0 12) (hb : 0 ≤ T 108 0 2 ∧ T 108 0 2 ≤ 12) (d1 : WYH_ T T1 x1) (f1 : fr_ [(101, [13, 6, 7]), (434, []), (435, []), (431, []), (432, [])] T T1) (th : THR_ T1) (d2 : WYR_ T1 T2 x2) (f2 : fr_ [(304, []), (305, []), (302, [])] T1 T2) : x1 = x2 ∧ LOR_ T2 := by
  have g98 := f1 111 0 98 rfl
  have k := h.1.2.2.2
  rcases d1 with ⟨rfl, a2, a3⟩ | ⟨a1, a2, a3⟩
  · rcases d2 with ⟨rfl, b2, b3⟩ | ⟨b1, b2, b3⟩
    · exact ⟨by omega, h⟩
    · exfalso; omega
  · obtain ⟨r1, r2, r3⟩ := lor_r h a1 f1 a2
    rcases d2 with ⟨e2, b2, b3⟩ | ⟨b1, b2, b3⟩
    · exfalso; omega
    · refine ⟨?_, lor_3 r1 f2 b2⟩
      have y := lor_n r1 r2 th (by rw [f1 108 0 2 rfl, f1 111 0 12 rfl]; exact hn) (by rw [f1 108 0 2 rfl]; exact hb) (-1) (-1)
      rw [a3, r3.1, b3, y]
