/-- the laws are the same -/
theorem lw_q {m : Int} {r : Int → Int} {b a : Sg_} {k s q o : Int} (h : EQP_ m b a) (w : WS_ a) (v8 : ∀ s, 0 ≤ s → s ≤ 1 → a 469 s ≤ r 10) : lwR_ r b k s q o = lw9_ r a k s q o := by
  have hh := h
  obtain ⟨_, _, ⟨p4, p5, p3⟩, _, _⟩ := hh
  by_cases c1 : a 103 3 ≠ 0
  · rw [lw9__1 (r := r) (a := a) (k := k) (s := s) (q := q) (o := o) c1, lwR__1 (r := r) (a := b) (k := k) (s := s) (q := q) (o := o) (show b 103 3 ≠ 1 by omega)]
  have d1 : ¬ (b 103 3 ≠ 1) := by omega
  by_cases c2 : ¬ ((k = 0 ∨ (0 ≤ s ∧ s ≤ 1)) ∧ ((r 0 = 0 ∧ 0 ≤ k ∧ k ≤ 5) ∨ (r 0 = 1 ∧ (k = 1 ∨ k = 5)) ∨ (r 0 = 2 ∧ (k = 1 ∨ k = 6)) ∨ (¬ r 0 = 0 ∧ ¬ r 0 = 1 ∧ ¬ r 0 = 2 ∧ 1 ≤ k ∧ k ≤ 4)))
  · rw [lw9__2 (r := r) (a := a) (k := k) (s := s) (q := q) (o := o) c1 c2, lwR__2 (r := r) (a := b) (k := k) (s := s) (q := q) (o := o) d1 (fun t => c2 ⟨t.2.elim (fun y => Or.inl y.2) Or.inr, t.1⟩)]
  have f2 : (k = 0 ∨ (0 ≤ s ∧ s ≤ 1)) ∧ ((r 0 = 0 ∧ 0 ≤ k ∧ k ≤ 5) ∨ (r 0 = 1 ∧ (k = 1 ∨ k = 5)) ∨ (r 0 = 2 ∧ (k = 1 ∨ k = 6)) ∨ (¬ r 0 = 0 ∧ ¬ r 0 = 1 ∧ ¬ r 0 = 2 ∧ 1 ≤ k ∧ k ≤ 4)) := Classical.byContradiction c2
  have f3 : (r 0 = 0 ∧ k = 0) ∨ (0 ≤ s ∧ s ≤ 1) := by
    rcases f2.1 with z | z
    · rcases f2.2 with y | y | y | y
      · exact Or.inl ⟨y.1, z⟩
      · clear c2 f2; exfalso; omega
      · clear c2 f2; exfalso; omega
      · clear c2 f2; exfalso; omega
    · exact Or.inr z
  have d2 : ¬ (¬ (((r 0 = 0 ∧ 0 ≤ k ∧ k ≤ 5) ∨ (r 0 = 1 ∧ (k = 1 ∨ k = 5)) ∨ (r 0 = 2 ∧ (k = 1 ∨ k = 6)) ∨ (¬ r 0 = 0 ∧ ¬ r 0 = 1 ∧ ¬ r 0 = 2 ∧ 1 ≤ k ∧ k ≤ 4)) ∧ ((r 0 = 0 ∧ k = 0) ∨ (0 ≤ s ∧ s ≤ 1)))) := fun t => t ⟨f2.2, f3⟩
  by_cases c3 : ¬ ((r 0 = 0 ∧ (a 103 4 ≠ 1 ∨ (k ≠ 1 ∧ k ≠ 2))) ∨ (r 0 ≠ 0 ∧ (r 0 ≠ 3 ∨ s = a 103 5)))
  · rw [lw9__3 (r := r) (a := a) (k := k) (s := s) (q := q) (o := o) c1 c2 c3, lwR__3 (r := r) (a := b) (k := k) (s := s) (q := q) (o := o) d1 d2 (show (r 0 = 0 ∧ (k = 1 ∨ k = 2) ∧ b 103 4 = 1) ∨ (r 0 = 3 ∧ b 103 5 ≠ s) by clear c2 f2 f3 d2; omega)]
  have d3 : ¬ ((r 0 = 0 ∧ (k = 1 ∨ k = 2) ∧ b 103 4 = 1) ∨ (r 0 = 3 ∧ b 103 5 ≠ s)) := by clear c2 f2 f3 d2; omega
  by_cases c5 : k = 5 ∨ (r 0 = 0 ∧ k ≠ 0)
  · have hs : 0 ≤ s ∧ s ≤ 1 := by
      rcases f3 with z | z
      · exfalso
        rcases c5 with y | y
        · omega
        · exact y.2 z.2
      · exact z
    have d5 : (r 0 = 0 ∧ 0 < k) ∨ (r 0 = 1 ∧ k = 5) := by
      obtain ⟨fa, fb⟩ := f2
      clear c2 c3 d2 d3 f3 fa
      rcases fb with y | y | y | y
      · exact Or.inl ⟨y.1, by omega⟩
      · exact Or.inr ⟨y.1, by omega⟩
      · exfalso; omega
      · exfalso; omega
    rcases k_f (q := q) h w hs.1 hs.2 with z | z
    · rw [lw9__4 (r := r) (a := a) (k := k) (s := s) (q := q) (o := o) c1 c2 c3 ⟨c5, z.1⟩, lwR__4 (r := r) (a := b) (k := k) (s := s) (q := q) (o := o) d1 d2 d3 d5 z.2]
    · have z4 : ¬ ((k = 5 ∨ (r 0 = 0 ∧ k ≠ 0)) ∧ fp9_ a s q = -1) := fun y => by have y2 := y.2; clear y; omega
      have z5 : ¬ (¬ (slR_ b s q ≠ -1 ∧ b 472 (slR_ b s q) = 1)) := fun y => y ⟨fun t => by have g := w.2.1 s _ hs.1 hs.2 (show s * 6 ≤ s * 6 + fp9_ a s q by omega) (by omega); omega, z.2.2.2⟩
      by_cases c6 : k = 5
      · rcases k_b (q := o) h w hs.1 hs.2 with y | y
        · rw [lw9__5 (r := r) (a := a) (k := k) (s := s) (q := q) (o := o) c1 c2 c3 z4 c6 y.1, lwR__5 (r := r) (a := b) (k := k) (s := s) (q := q) (o := o) d1 d2 d3 d5 z5 c6 y.2]
        · have y5 : ¬ (bq9_ a s o = -1) := by omega
          have y6 : ¬ (¬ (slR_ b s o ≠ -1 ∧ b 472 (slR_ b s o) = 0)) := fun t => t ⟨by omega, y.2.2.2.1⟩
          have e9 := (eq_j h hs.1 hs.2).2.2.2.2.2
          have v9 := v8 s hs.1 hs.2
          by_cases c8 : r 10 ≤ a 469 s
          · rw [lw9__6 (r := r) (a := a) (k := k) (s := s) (q := q) (o := o) c1 c2 c3 z4 c6 y5 c8, lwR__6 (r := r) (a := b) (k := k) (s := s) (q := q) (o := o) d1 d2 d3 d5 z5 c6 y6 (by omega)]
          · have c7 : ¬ (b 469 s = r 10) := by omega
            by_cases c9 : r 0 ≠ 3 ∨ k ≠ 1 ∨ (1 ≤ o ∧ o ≤ 4)
            · rw [lw9__7 (r := r) (a := a) (k := k) (s := s) (q := q) (o := o) c1 c2 c3 z4 c6 y5 c8 c9, lwR__7 (r := r) (a := b) (k := k) (s := s) (q := q) (o := o) d1 d2 d3 d5 z5 c6 y6 c7 c9]
            · rw [lw9__8 (r := r) (a := a) (k := k) (s := s) (q := q) (o := o) c1 c2 c3 z4 c6 y5 c8 c9, lwR__8 (r := r) (a := b) (k := k) (s := s) (q := q) (o := o) d1 d2 d3 d5 z5 c6 y6 c7 c9]
      · have c7 : k ≠ 5 := c6
        by_cases c9 : r 0 ≠ 3 ∨ k ≠ 1 ∨ (1 ≤ o ∧ o ≤ 4)
        · rw [lw9__9 (r := r) (a := a) (k := k) (s := s) (q := q) (o := o) c1 c2 c3 z4 c6 c9, lwR__9 (r := r) (a := b) (k := k) (s := s) (q := q) (o := o) d1 d2 d3 d5 z5 c6 c9]
        · rw [lw9__10 (r := r) (a := a) (k := k) (s := s) (q := q) (o := o) c1 c2 c3 z4 c6 c9, lwR__10 (r := r) (a := b) (k := k) (s := s) (q := q) (o := o) d1 d2 d3 d5 z5 c6 c9]
  · have z4 : ¬ ((k = 5 ∨ (r 0 = 0 ∧ k ≠ 0)) ∧ fp9_ a s q = -1) := fun y => c5 y.1
    have c6 : ¬ (k = 5) := fun z => c5 (Or.inl z)
    have d5 : ¬ ((r 0 = 0 ∧ 0 < k) ∨ (r 0 = 1 ∧ k = 5)) := fun t => c5 (t.elim (fun t => Or.inr ⟨t.1, fun z => by have t2 := t.2; omega⟩) (fun t => Or.inl t.2))
    by_cases c9 : r 0 ≠ 3 ∨ k ≠ 1 ∨ (1 ≤ o ∧ o ≤ 4)
    · rw [lw9__9 (r := r) (a := a) (k := k) (s := s) (q := q) (o := o) c1 c2 c3 z4 c6 c9, lwR__11 (r := r) (a := b) (k := k) (s := s) (q := q) (o := o) d1 d2 d3 d5 c9]
    · rw [lw9__10 (r := r) (a := a) (k := k) (s := s) (q := q) (o := o) c1 c2 c3 z4 c6 c9, lwR__12 (r := r) (a := b) (k := k) (s := s) (q := q) (o := o) d1 d2 d3 d5 c9]
