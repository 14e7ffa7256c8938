/-- what the laws have asked -/
theorem lw_0 {r : Int → Int} {a : Sg_} {k s q o : Int} (h : lw9_ r a k s q o = 0) : a 103 3 = 0 ∧ ((k = 0 ∨ (0 ≤ s ∧ s ≤ 1)) ∧ ((r 0 = 0 ∧ 0 ≤ k ∧ k ≤ 5) ∨ (r 0 = 1 ∧ (k = 1 ∨ k = 5)) ∨ (r 0 = 2 ∧ (k = 1 ∨ k = 6)) ∨ (¬ r 0 = 0 ∧ ¬ r 0 = 1 ∧ ¬ r 0 = 2 ∧ 1 ≤ k ∧ k ≤ 4))) ∧ ((r 0 = 0 ∧ (a 103 4 ≠ 1 ∨ (k ≠ 1 ∧ k ≠ 2))) ∨ (r 0 ≠ 0 ∧ (r 0 ≠ 3 ∨ s = a 103 5))) ∧ ((k = 5 ∨ (r 0 = 0 ∧ k ≠ 0)) → fp9_ a s q ≠ -1) ∧ (k = 5 → bq9_ a s o ≠ -1 ∧ a 469 s < r 10) ∧ (r 0 ≠ 3 ∨ k ≠ 1 ∨ (1 ≤ o ∧ o ≤ 4)) := by
  by_cases c1 : a 103 3 ≠ 0
  · rw [lw9__1 (r := r) (a := a) (k := k) (s := s) (q := q) (o := o) c1] at h; exact absurd h (by decide)
  by_cases c2 : ¬ ((k = 0 ∨ (0 ≤ s ∧ s ≤ 1)) ∧ ((r 0 = 0 ∧ 0 ≤ k ∧ k ≤ 5) ∨ (r 0 = 1 ∧ (k = 1 ∨ k = 5)) ∨ (r 0 = 2 ∧ (k = 1 ∨ k = 6)) ∨ (¬ r 0 = 0 ∧ ¬ r 0 = 1 ∧ ¬ r 0 = 2 ∧ 1 ≤ k ∧ k ≤ 4)))
  · rw [lw9__2 (r := r) (a := a) (k := k) (s := s) (q := q) (o := o) c1 c2] at h; exact absurd h (by decide)
  by_cases c3 : ¬ ((r 0 = 0 ∧ (a 103 4 ≠ 1 ∨ (k ≠ 1 ∧ k ≠ 2))) ∨ (r 0 ≠ 0 ∧ (r 0 ≠ 3 ∨ s = a 103 5)))
  · rw [lw9__3 (r := r) (a := a) (k := k) (s := s) (q := q) (o := o) c1 c2 c3] at h; exact absurd h (by decide)
  by_cases c4 : (k = 5 ∨ (r 0 = 0 ∧ k ≠ 0)) ∧ fp9_ a s q = -1
  · rw [lw9__4 (r := r) (a := a) (k := k) (s := s) (q := q) (o := o) c1 c2 c3 c4] at h; exact absurd h (by decide)
  have y1 : a 103 3 = 0 := by omega
  have y2 : (k = 0 ∨ (0 ≤ s ∧ s ≤ 1)) ∧ ((r 0 = 0 ∧ 0 ≤ k ∧ k ≤ 5) ∨ (r 0 = 1 ∧ (k = 1 ∨ k = 5)) ∨ (r 0 = 2 ∧ (k = 1 ∨ k = 6)) ∨ (¬ r 0 = 0 ∧ ¬ r 0 = 1 ∧ ¬ r 0 = 2 ∧ 1 ≤ k ∧ k ≤ 4)) := Classical.byContradiction c2
  have y3 : (r 0 = 0 ∧ (a 103 4 ≠ 1 ∨ (k ≠ 1 ∧ k ≠ 2))) ∨ (r 0 ≠ 0 ∧ (r 0 ≠ 3 ∨ s = a 103 5)) := Classical.byContradiction c3
  have y4 : (k = 5 ∨ (r 0 = 0 ∧ k ≠ 0)) → fp9_ a s q ≠ -1 := fun d e => c4 ⟨d, e⟩
  by_cases c5 : k = 5
  · by_cases c6 : bq9_ a s o = -1
    · rw [lw9__5 (r := r) (a := a) (k := k) (s := s) (q := q) (o := o) c1 c2 c3 c4 c5 c6] at h; exact absurd h (by decide)
    by_cases c7 : r 10 ≤ a 469 s
    · rw [lw9__6 (r := r) (a := a) (k := k) (s := s) (q := q) (o := o) c1 c2 c3 c4 c5 c6 c7] at h; exact absurd h (by decide)
    by_cases c8 : r 0 ≠ 3 ∨ k ≠ 1 ∨ (1 ≤ o ∧ o ≤ 4)
    · exact ⟨y1, y2, y3, y4, fun _ => ⟨c6, by omega⟩, c8⟩
    · rw [lw9__8 (r := r) (a := a) (k := k) (s := s) (q := q) (o := o) c1 c2 c3 c4 c5 c6 c7 c8] at h; exact absurd h (by decide)
  · by_cases c8 : r 0 ≠ 3 ∨ k ≠ 1 ∨ (1 ≤ o ∧ o ≤ 4)
    · exact ⟨y1, y2, y3, y4, fun e => absurd e c5, c8⟩
    · rw [lw9__10 (r := r) (a := a) (k := k) (s := s) (q := q) (o := o) c1 c2 c3 c4 c5 c8] at h; exact absurd h (by decide)
