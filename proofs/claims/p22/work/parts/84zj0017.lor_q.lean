/-- drawn, both sides -/
theorem lor_q {T : Zt} {c x1 x2 : Int} (h : LOR_ T) (hn : T 108 0 2 = T 111 0 12) (hb : T 108 0 2 ≤ 12) (d1 : DWH_ T c x1) (d2 : DWR_ T c x2) : x1 = x2 := by
  have k := h.1.2.2.2
  rcases d1 with ⟨a1, a2⟩ | ⟨a1, a2⟩
  · rcases d2 with ⟨b1, b2⟩ | ⟨b1, b2⟩
    · omega
    · exact absurd (by omega) a2
  · have z := (h.2.1 c a1.1 (by omega)).2
    rcases d2 with ⟨b1, b2⟩ | ⟨b1, b2⟩
    · exact absurd (by omega) b2
    · omega
