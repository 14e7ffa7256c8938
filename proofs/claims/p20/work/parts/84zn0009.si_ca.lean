/-- an event, whole -/
theorem si_ca {m n : Int} {r : Int → Int} {b a : Sg_} {k s q o : Int} (h : SI_ m n r b a) (w : RB9_ r) (hl : lw9_ r a k s q o = 0) (hf : ∀ t, 0 ≤ t → t ≤ 1 → 1 ≤ a 470 t) (g : n + 3 ≤ 1000000) : SI_ m (n + 3) r (plR_ r b m k s q o) (ca9_ r a k s q o) := by
  have n0 := h.2.2.1
  have w0 := w.1
  obtain ⟨l1, l2, l3, l4, l5, l6⟩ := lw_0 hl
  by_cases k5 : k = 5
  · have hs : 0 ≤ s ∧ s ≤ 1 := by omega
    have hu := si_m (n' := n + 3) (si_su h hs.1 hs.2 (l4 (Or.inl k5)) (l5 k5).1 (l5 k5).2 (by omega)) (by omega) g
    rw [ca9__1 (r := r) (a := a) (k := k) (s := s) (q := q) (o := o) k5]
    by_cases r0 : r 0 = 0
    · rw [plR__1 (r := r) (a := b) (m := m) (k := k) (s := s) (q := q) (o := o) r0, pfR__8 (r := r) (a := b) (m := m) (k := k) (s := s) (q := q) (o := o) (by omega) (by omega) (by omega) (by omega) (by omega)]
      exact hu
    · have r1 : r 0 = 1 := by omega
      rw [plR__2 (r := r) (a := b) (m := m) (k := k) (s := s) (q := q) (o := o) r0 r1, pvR__1 (r := r) (a := b) (m := m) (k := k) (s := s) (q := q) (o := o) k5]
      exact hu
  by_cases r0 : r 0 = 0
  · rw [ca9__2 (r := r) (a := a) (k := k) (s := s) (q := q) (o := o) k5 r0, plR__1 (r := r) (a := b) (m := m) (k := k) (s := s) (q := q) (o := o) r0]
    exact si_m (si_pf h w (by omega) (by omega) (fun e => l4 (Or.inr ⟨r0, e⟩)) (by omega)) (by omega) g
  have hs : 0 ≤ s ∧ s ≤ 1 := by omega
  by_cases r1 : r 0 = 1
  · rw [ca9__3 (r := r) (a := a) (k := k) (s := s) (q := q) (o := o) k5 r0 r1, plR__2 (r := r) (a := b) (m := m) (k := k) (s := s) (q := q) (o := o) r0 r1]
    exact si_m (si_pv h (si_rt h hs.1 hs.2 (hf s hs.1 hs.2)) w hs.1 hs.2 (by omega) r1 (by omega)) (by omega) g
  by_cases r2 : r 0 = 2
  · rw [ca9__4 (r := r) (a := a) (k := k) (s := s) (q := q) (o := o) k5 r0 r1 r2, plR__3 (r := r) (a := b) (m := m) (k := k) (s := s) (q := q) (o := o) r0 r1 r2]
    exact si_m (si_pt h w hs.1 hs.2 r2 (by omega)) (by omega) g
  · rw [ca9__5 (r := r) (a := a) (k := k) (s := s) (q := q) (o := o) k5 r0 r1 r2, plR__4 (r := r) (a := b) (m := m) (k := k) (s := s) (q := q) (o := o) r0 r1 r2]
    exact si_pb h w hs.1 hs.2 (by omega) (by omega) g
