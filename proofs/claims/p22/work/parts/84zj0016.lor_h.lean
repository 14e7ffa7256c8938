/-- chance, both sides -/
theorem lor_h {T T1 T2 : Zt} {c g x1 x2 : Int} (h : LOR_ T) (hn : T 108 0 2 = T 111 0 12) (hb : 0 ≤ T 108 0 2 ∧ T 108 0 2 ≤ 12) (hE : ∀ j, 0 ≤ j → -1 ≤ T 428 0 j ∧ T 428 0 j ≤ 2) (hG : T 101 0 1 ≤ 4) (d1 : CHH_ T T1 c g x1) (f1 : fr_ [(101, [13, 6, 7]), (434, []), (435, []), (431, []), (432, [])] T T1) (th : THR_ T1) (d2 : CHR_ T1 T2 c g x2) (f2 : fr_ [(304, []), (305, []), (302, [])] T1 T2) : x1 = x2 ∧ LOR_ T2 := by
  have g98 := f1 111 0 98 rfl
  have g12 := f1 111 0 12 rfl
  have g99 := f1 111 0 99 rfl
  have g301 := f1 301 0 c rfl
  have k := h.1.2.2.2
  have k1 := h.1.1
  have kc : (0 ≤ c ∧ c < T 108 0 2) → T 428 0 c = T 301 0 c := fun z => (h.2.1 c z.1 (by omega)).1
  unfold CHR_ at d2
  rw [g98, g12, g99, g301] at d2
  have kk : ((0 ≤ c ∧ c < T 108 0 2) ∧ T 101 0 1 ≠ 0 ∧ T 428 0 c ≠ -1) ↔ ((0 ≤ c ∧ c < T 111 0 12) ∧ T 111 0 98 ≠ 0 ∧ T 301 0 c ≠ -1) := by
    constructor
    · rintro ⟨u, v, w⟩
      have := kc u
      exact ⟨by omega, by omega, by omega⟩
    · rintro ⟨u, v, w⟩
      have := kc (by omega)
      exact ⟨by omega, by omega, by omega⟩
  rcases d1 with ⟨rfl, a⟩ | ⟨a1, a2, a3, a4⟩
  · rcases d2 with ⟨rfl, b⟩ | ⟨b1, b2, b3⟩
    · refine ⟨?_, h⟩
      rcases a with ⟨u1, u2⟩ | ⟨u1, u2, u3⟩
      · rcases b with ⟨v1, v2⟩ | ⟨v1, v2, v3⟩
        · omega
        · exact absurd (kk.mpr v1) u2
      · rcases b with ⟨v1, v2⟩ | ⟨v1, v2, v3⟩
        · exact absurd (kk.mp u1) v2
        · omega
    · exfalso
      rcases a with ⟨u1, u2⟩ | ⟨u1, u2, u3⟩
      · exact u2 (kk.mpr b1)
      · exact u3 (by omega)
  · rcases d2 with ⟨e2, b⟩ | ⟨b1, b2, b3, b4⟩
    · exfalso
      rcases b with ⟨v1, v2⟩ | ⟨v1, v2, v3⟩
      · exact v2 (kk.mp a1)
      · exact v3 (by omega)
    · obtain ⟨r1, r2, r3⟩ := lor_r h a1.2.1 f1 a3
      refine ⟨?_, lor_3 r1 f2 b3⟩
      have y := lor_n r1 r2 th (by rw [f1 108 0 2 rfl, f1 111 0 12 rfl]; exact hn) (by rw [f1 108 0 2 rfl]; exact hb)
      have ef : T1 429 0 c = T1 302 0 c := (r1.2.1 c a1.1.1 (by omega)).2
      rcases a4 with ⟨a4, a5⟩ | ⟨a4, a5⟩
      · have w := y (-1) (-1)
        have w2 := r3.1
        rw [w] at w2
        rcases b4 with ⟨b4, b5⟩ | ⟨b4, b5⟩
        · omega
        · exfalso; omega
      · rcases b4 with ⟨b4, b5⟩ | ⟨b4, b5⟩
        · exfalso; omega
        · have e1 := f1 428 0 c rfl
          have e2 := hE c a1.1.1
          have m : c ∈ lhw_ T1 := lhw_i a1.1.1 (by omega) a4 (by omega) (by omega)
          rw [a5, r3.2.1 c m g a2.1 (by omega), b5, y]
