theorem wk_t : ∀ n : Nat, n < 8 → (n = 7 ∨ an_ (n : Int) 1 = 0 ∨ an_ (n : Int) 2 = 0 ∨ n = 3) ∧ (0 ≤ or_ (n : Int) 1 ∧ or_ (n : Int) 1 ≤ 7) ∧ (0 ≤ or_ (n : Int) 2 ∧ or_ (n : Int) 2 ≤ 7) := by decide +kernel
/-- a walk -/
theorem si_wk {m n : Int} {r : Int → Int} {b a : Sg_} {s : Int} (h : SI_ m n r b a) (q : RB9_ r) (h0 : 0 ≤ s) (h1 : s ≤ 1) (r3 : r 0 = 3) (g : n + 1 ≤ 1000000) : SI_ m (n + 1) r (wkR_ r b s) (wk9_ r a s) := by
  have d7 : b 467 1 = a 467 1 := h.1.2.1.2.2.2.1
  have b7 := h.2.2.2.1 467 1 (by decide) (by decide) (by decide)
  have b9 := h.2.2.2.2.2.2.2.1 r3
  have t := wk_t (a 467 1).toNat (by omega)
  rw [show (((a 467 1).toNat : Nat) : Int) = a 467 1 by omega] at t
  obtain ⟨t1, t2, t3⟩ := t
  by_cases c1 : an_ (a 467 1) 1 = 0
  · have n7 : ¬ (a 467 1 = 7) := fun e => by rw [e] at c1; exact absurd c1 (by decide +kernel)
    rw [wk9__2 (r := r) (a := a) (s := s) c1 n7, wkR__1 (r := r) (a := b) (s := s) (by rw [d7]; exact c1), d7]
    exact si_av h q h0 h1 t2 (by omega) r3 g
  · by_cases c2 : an_ (a 467 1) 2 = 0
    · have n7 : ¬ (a 467 1 = 7) := fun e => by rw [e] at c2; exact absurd c2 (by decide +kernel)
      rw [wk9__4 (r := r) (a := a) (s := s) c1 c2 n7, wkR__2 (r := r) (a := b) (s := s) (by rw [d7]; exact c1) (by rw [d7]; exact c2), d7]
      exact si_av h q h0 h1 t3 (by omega) r3 g
    · by_cases c3 : a 467 1 = 7
      · have c4 : ¬ (an_ (a 467 1) 4 = 0) := by rw [c3]; decide +kernel
        rw [wk9__5 (r := r) (a := a) (s := s) c1 c2 c3, wkR__4 (r := r) (a := b) (s := s) (by rw [d7]; exact c1) (by rw [d7]; exact c2) (by rw [d7]; exact c4), d7, c3]
        exact si_av h q h0 h1 (by omega) (by omega) r3 g
      · have e3 : a 467 1 = 3 := by omega
        have c4 : an_ (a 467 1) 4 = 0 := by rw [e3]; decide +kernel
        rw [wk9__6 (r := r) (a := a) (s := s) c1 c2 c3, wkR__3 (r := r) (a := b) (s := s) (by rw [d7]; exact c1) (by rw [d7]; exact c2) (by rw [d7]; exact c4), d7, e3, show or_ 3 4 = 7 by decide +kernel]
        exact si_av h q h0 h1 (by omega) (by omega) r3 g
