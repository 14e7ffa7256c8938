theorem ht_t : ∀ o : Nat, o < 8 → ∀ v : Nat, v < 4 → (hbR_ (o : Int) ((v : Int) + 1) 4).1 = an_ (or_ (sl_ (o : Int) ((v : Int) + 1)) (sl_ 1 (wr_ ((v : Int) + 1 - 1)))) 7 ∧ (hbR_ (o : Int) ((v : Int) + 1) 4).2 = bc9_ (sr_ (or_ (sl_ (o : Int) ((v : Int) + 1)) (sl_ 1 (wr_ ((v : Int) + 1 - 1)))) 3) ∧ (0 ≤ (hbR_ (o : Int) ((v : Int) + 1) 4).1 ∧ (hbR_ (o : Int) ((v : Int) + 1) 4).1 ≤ 7) ∧ (0 ≤ (hbR_ (o : Int) ((v : Int) + 1) 4).2 ∧ (hbR_ (o : Int) ((v : Int) + 1) 4).2 ≤ 4) := by decide +kernel
/-- a hit -/
theorem si_ht {m n : Int} {r : Int → Int} {b a : Sg_} {s v : Int} (h : SI_ m n r b a) (q : RB9_ r) (h0 : 0 ≤ s) (h1 : s ≤ 1) (hv : 1 ≤ v ∧ v ≤ 4) (r3 : r 0 = 3) (g : n + 1 ≤ 1000000) : SI_ m (n + 1) r (htR_ r b s v) (ht9_ r a s v) := by
  have d7 : b 467 1 = a 467 1 := h.1.2.1.2.2.2.1
  have b7 := h.2.2.2.1 467 1 (by decide) (by decide) (by decide)
  have b9 := h.2.2.2.2.2.2.2.1 r3
  have t := ht_t (a 467 1).toNat (by omega) (v - 1).toNat (by omega)
  rw [show (((a 467 1).toNat : Nat) : Int) = a 467 1 by omega, show (((v - 1).toNat : Nat) : Int) + 1 = v by omega] at t
  obtain ⟨t1, t2, t3, t4⟩ := t
  rw [ht9__1 (r := r) (a := a) (s := s) (v := v), htR__1 (r := r) (a := b) (s := s) (v := v), d7, ← t1, ← t2]
  exact si_av h q h0 h1 t3 t4 r3 g
/-- baseball -/
theorem si_pb {m n : Int} {r : Int → Int} {b a : Sg_} {k s v : Int} (h : SI_ m n r b a) (q : RB9_ r) (h0 : 0 ≤ s) (h1 : s ≤ 1) (hv : k = 1 → 1 ≤ v ∧ v ≤ 4) (r3 : r 0 = 3) (g : n + 3 ≤ 1000000) : SI_ m (n + 3) r (pbR_ r b k s v) (pbb9_ r a k s v) := by
  have n0 := h.2.2.1
  have d0 : b 466 0 = a 466 0 := h.1.2.1.1
  have d1 : b 466 1 = a 466 1 := h.1.2.1.2.1
  have b0 := h.2.2.2.1 466 0 (by decide) (by decide) (by decide)
  have b1 := h.2.2.2.1 466 1 (by decide) (by decide) (by decide)
  have w0 : wr_ (a 466 0 + 1) = a 466 0 + 1 := wr_9 (by omega)
  have w1 : wr_ (a 466 1 + 1) = a 466 1 + 1 := wr_9 (by omega)
  by_cases k1 : k = 1
  · rw [pbb9__1 (r := r) (a := a) (k := k) (s := s) (v := v) k1, pbR__1 (r := r) (a := b) (k := k) (s := s) (v := v) k1]
    exact si_m (si_ht h q h0 h1 (hv k1) r3 (by omega)) (by omega) g
  by_cases k2 : k = 2
  · have hu : SI_ m (n + 1) r (u2_ b 466 0 (wr_ (a 466 0 + 1))) (u2_ a 466 0 (wr_ (a 466 0 + 1))) := si_u (si_m h (by omega) (by omega)) (Or.inl (by decide)) (by omega) (fun z => absurd z (by decide)) (fun z => absurd z (by decide)) (fun z => absurd z (by decide))
    by_cases c : wr_ (a 466 0 + 1) = 4
    · rw [pbb9__2 (r := r) (a := a) (k := k) (s := s) (v := v) k1 k2 c, pbR__2 (r := r) (a := b) (k := k) (s := s) (v := v) k1 k2 (by rw [d0]; exact c), d0]
      exact si_m (si_wk hu q h0 h1 r3 (by omega)) (by omega) g
    · rw [pbb9__3 (r := r) (a := a) (k := k) (s := s) (v := v) k1 k2 c, pbR__3 (r := r) (a := b) (k := k) (s := s) (v := v) k1 k2 (by rw [d0]; exact c), d0]
      exact si_m hu (by omega) g
  by_cases k3 : k = 3
  · have hu : SI_ m (n + 1) r (u2_ b 466 1 (wr_ (a 466 1 + 1))) (u2_ a 466 1 (wr_ (a 466 1 + 1))) := si_u (si_m h (by omega) (by omega)) (Or.inl (by decide)) (by omega) (fun z => absurd z (by decide)) (fun z => absurd z (by decide)) (fun z => absurd z (by decide))
    by_cases c : wr_ (a 466 1 + 1) = 3
    · rw [pbb9__4 (r := r) (a := a) (k := k) (s := s) (v := v) k1 k2 k3 c, pbR__4 (r := r) (a := b) (k := k) (s := s) (v := v) k1 k2 k3 (by rw [d1]; exact c), d1]
      have := si_ot hu q r3 (by omega)
      rw [show n + 1 + 2 = n + 3 by omega] at this
      exact this
    · rw [pbb9__5 (r := r) (a := a) (k := k) (s := s) (v := v) k1 k2 k3 c, pbR__5 (r := r) (a := b) (k := k) (s := s) (v := v) k1 k2 k3 (by rw [d1]; exact c), d1]
      exact si_m hu (by omega) g
  rw [pbb9__6 (r := r) (a := a) (k := k) (s := s) (v := v) k1 k2 k3, pbR__6 (r := r) (a := b) (k := k) (s := s) (v := v) k1 k2 k3]
  exact si_m (si_ot h q r3 (by omega)) (by omega) g
