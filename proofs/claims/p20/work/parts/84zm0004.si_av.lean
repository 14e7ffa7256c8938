/-- an out -/
theorem si_ot {m n : Int} {r : Int → Int} {b a : Sg_} (h : SI_ m n r b a) (q : RB9_ r) (r3 : r 0 = 3) (g : n + 2 ≤ 1000000) : SI_ m (n + 2) r (otR_ r b) (co9_ r a) := by
  have n0 := h.2.2.1
  have q4 := q.2.2.2.1
  have d7 : b 467 0 = a 467 0 := h.1.2.1.2.2.1
  have b7 := h.2.2.2.1 467 0 (by decide) (by decide) (by decide)
  have w1 : wr_ (a 467 0 + 1) = a 467 0 + 1 := wr_9 (by omega)
  have w2 : wr_ (b 467 0 + 1) = a 467 0 + 1 := by
    rw [d7]
    exact w1
  have hz := si_m (n' := n + 1) (si_z h q (k := 466) (Or.inl rfl)) (by omega) (by omega)
  have ho : SI_ m (n + 1) r (u2_ (u2_ (u2_ b 466 0 0) 466 1 0) 467 0 (a 467 0 + 1)) (u2_ (fy2_ a 466 2 0) 467 0 (a 467 0 + 1)) := si_u hz (Or.inl (by decide)) (by omega) (fun z => absurd z (by decide)) (fun _ => ⟨fun _ z => absurd z (by decide), fun z => by omega⟩) (fun z => absurd z (by decide))
  by_cases c : a 467 0 + 1 = 3
  · rw [co9__1 (r := r) (a := a) (by omega), otR__1 (r := r) (a := b) (by omega), w1, w2]
    have := si_ts ho q (by omega)
    rw [show n + 1 + 1 = n + 2 by omega] at this
    exact this
  · rw [co9__2 (r := r) (a := a) (by omega), otR__2 (r := r) (a := b) (by omega), w1, w2]
    exact si_m ho (by omega) g
/-- men go on -/
theorem si_av {m n : Int} {r : Int → Int} {b a : Sg_} {s x v : Int} (h : SI_ m n r b a) (q : RB9_ r) (h0 : 0 ≤ s) (h1 : s ≤ 1) (hx : 0 ≤ x ∧ x ≤ 7) (hv : 0 ≤ v ∧ v ≤ 4) (r3 : r 0 = 3) (g : n + 1 ≤ 1000000) : SI_ m (n + 1) r (avR_ r b s x v) (gb9_ r (u2_ a 467 1 x) s v) := by
  have n0 := h.2.2.1
  have q4 := q.2.2.2.1
  have d4 : b 103 4 = a 103 4 := h.1.2.2.1.1
  have s0 : b 468 0 = a 468 0 := h.1.2.1.2.2.2.2.1
  have s1 : b 468 1 = a 468 1 := h.1.2.1.2.2.2.2.2.1
  have f4 : u2_ a 467 1 x 103 4 = a 103 4 := u2_k (by decide) 4
  have f8 : ∀ j, u2_ a 467 1 x 468 j = a 468 j := fun j => u2_k (by decide) j
  have b80 := h.2.2.2.1 468 0 (by decide) (by decide) (by decide)
  have b81 := h.2.2.2.1 468 1 (by decide) (by decide) (by decide)
  have b8 := h.2.2.2.1 468 s (by decide) h0 h1
  have w0 : wr_ (b 468 1 + 0) = a 468 1 := by
    rw [s1]
    exact (wr_9 (by omega)).trans (by omega)
  have w1 : wr_ (b 468 0 + v) = a 468 0 + v := by
    rw [s0]
    exact wr_9 (by omega)
  have w2 : wr_ (u2_ a 467 1 x 468 0 + v) = a 468 0 + v := by
    rw [f8]
    exact wr_9 (by omega)
  have f80 := f8 0
  have f81 := f8 1
  have w3 : wr_ (r 11 - 1) = r 11 - 1 := wr_9 (by omega)
  have hu : SI_ m (n + 1) r (u2_ b 467 1 x) (u2_ a 467 1 x) := si_u (si_m h (by omega) g) (Or.inl (by decide)) (by omega) (fun z => absurd z (by decide)) (fun _ => ⟨fun _ _ => by omega, fun z => by omega⟩) (fun z => absurd z (by decide))
  have hz := si_z hu q (k := 466) (Or.inl rfl)
  have e1 : u2_ (u2_ (u2_ b 466 0 0) 466 1 0) 467 1 x = u2_ (u2_ (u2_ b 467 1 x) 466 0 0) 466 1 0 := by
    rw [u2_c (a := u2_ b 466 0 0) (by decide), u2_c (a := b) (k := 466) (j := 0) (k' := 467) (j' := 1) (by decide)]
  have e2 : fy2_ (u2_ a 467 1 x) 466 2 0 468 s = a 468 s := (fy2_k (by decide) s).trans (f8 s)
  have e3 : wr_ (u2_ a 467 1 x 468 s + v) = a 468 s + v := by
    rw [f8]
    exact wr_9 (by omega)
  have ha : SI_ m (n + 1) r (adR_ (u2_ (u2_ (u2_ b 466 0 0) 466 1 0) 467 1 x) s v) (u2_ (fy2_ (u2_ a 467 1 x) 466 2 0) 468 s (wr_ (u2_ a 467 1 x 468 s + v))) := by
    rw [e1]
    exact si_ad hz h0 h1 (by rw [e2, f8]) (by omega)
  by_cases c : wr_ (r 11 - 1) ≤ a 103 4 ∧ s = 0 ∧ a 468 1 < a 468 0 + v
  · rw [gb9__1 (r := r) (a := u2_ a 467 1 x) (s := s) (v := v) (by omega), avR__1 (r := r) (a := b) (s := s) (b := x) (v := v) (by omega)]
    exact si_w ha (Or.inr ⟨rfl, rfl⟩)
  · rw [gb9__2 (r := r) (a := u2_ a 467 1 x) (s := s) (v := v) (by omega), avR__2 (r := r) (a := b) (s := s) (b := x) (v := v) (by omega)]
    exact ha
