theorem fy2_u {a : Sg_} {k : Nat} {s v : Int} (h0 : 0 ≤ s) (h1 : s ≤ 1) : fy2_ (u2_ a k s v) k 2 0 = fy2_ a k 2 0 := by
  funext K J
  by_cases z : K = k
  · subst z
    by_cases y : 0 ≤ J ∧ J < 2
    · rw [fy2_s y, fy2_s y]
    · rw [fy2_o y, fy2_o y]
      exact u2_n (fun q => by omega)
  · rw [fy2_k z, fy2_k z]
    exact u2_k z J
theorem u2_o2 {a : Sg_} {k : Nat} {s v : Int} (h0 : 0 ≤ s) (h1 : s ≤ 1) : u2_ (u2_ (u2_ a k s v) k 0 0) k 1 0 = u2_ (u2_ a k 0 0) k 1 0 := by
  rw [← fy2_2, ← fy2_2]
  exact fy2_u h0 h1
/-- tennis -/
theorem si_pt {m n : Int} {r : Int → Int} {b a : Sg_} {k s : Int} (h : SI_ m n r b a) (q : RB9_ r) (h0 : 0 ≤ s) (h1 : s ≤ 1) (r2 : r 0 = 2) (g : n + 1 ≤ 1000000) : SI_ m (n + 1) r (ptR_ r b k s) (pt9_ r a k s) := by
  have n0 := h.2.2.1
  have q4 := q.2.2.2.1
  have h9 := si_m (n' := n + 1) h (by omega) g
  have ej := eq_j h.1 h0 h1
  have et := eq_j h.1 (s := 1 - s) (by omega) (by omega)
  have d66 : b 466 s = a 466 s := ej.2.2.1
  have d66t : b 466 (1 - s) = a 466 (1 - s) := et.2.2.1
  have d67 : b 467 s = a 467 s := ej.2.2.2.1
  have d67t : b 467 (1 - s) = a 467 (1 - s) := et.2.2.2.1
  have d670 : b 467 0 = a 467 0 := h.1.2.1.2.2.1
  have d671 : b 467 1 = a 467 1 := h.1.2.1.2.2.2.1
  have d680 : b 468 0 = a 468 0 := h.1.2.1.2.2.2.2.1
  have d681 : b 468 1 = a 468 1 := h.1.2.1.2.2.2.2.2.1
  have d4 : b 103 4 = a 103 4 := h.1.2.2.1.1
  have d5 : b 103 5 = a 103 5 := h.1.2.2.1.2.1
  have b66 := h.2.2.2.1 466 s (by decide) h0 h1
  have b66t := h.2.2.2.1 466 (1 - s) (by decide) (by omega) (by omega)
  have b67 := h.2.2.2.1 467 s (by decide) h0 h1
  have b67t := h.2.2.2.1 467 (1 - s) (by decide) (by omega) (by omega)
  have b68 := h.2.2.2.1 468 s (by decide) h0 h1
  have b680 := h.2.2.2.1 468 0 (by decide) (by decide) (by decide)
  have b681 := h.2.2.2.1 468 1 (by decide) (by decide) (by decide)
  have c67 := h.2.2.2.2.2.2.2.2.1 r2 s h0 h1
  have b4 := h.2.2.2.2.1
  have b5 := h.2.2.2.2.2.1
  have t0 : s = 0 → a 468 s = a 468 0 := fun e => by rw [e]
  have t1 : s = 1 → a 468 s = a 468 1 := fun e => by rw [e]
  have w1 : wr_ (a 466 s + 1) = a 466 s + 1 := wr_9 (by omega)
  have w1b : wr_ (b 466 s + 1) = a 466 s + 1 := by rw [d66]; exact w1
  have w2 : wr_ (wr_ (a 466 s + 1) - a 466 (1 - s)) = a 466 s + 1 - a 466 (1 - s) := by rw [w1]; exact wr_9 (by omega)
  have w3 : wr_ (b 466 (1 - s) + 2) = a 466 (1 - s) + 2 := by rw [d66t]; exact wr_9 (by omega)
  have w4 : wr_ (a 467 s + 1) = a 467 s + 1 := wr_9 (by omega)
  have w4b : wr_ (b 467 s + 1) = a 467 s + 1 := by rw [d67]; exact w4
  have w5 : wr_ (wr_ (a 467 s + 1) - a 467 (1 - s)) = a 467 s + 1 - a 467 (1 - s) := by rw [w4]; exact wr_9 (by omega)
  have w6 : wr_ (b 467 (1 - s) + 2) = a 467 (1 - s) + 2 := by rw [d67t]; exact wr_9 (by omega)
  have w7 : wr_ (r 11 + 1) = r 11 + 1 := wr_9 (by omega)
  have w8 : wr_ (a 103 4 + 1) = a 103 4 + 1 := wr_9 (by omega)
  have w8b : wr_ (b 103 4 + 1) = a 103 4 + 1 := by rw [d4]; exact w8
  have w9 : wr_ (1 - b 103 5) = 1 - a 103 5 := by rw [d5]; exact wr_9 (by omega)
  have ws : wr_ (a 468 s + 1) = a 468 s + 1 := wr_9 (by omega)
  have ws0 : wr_ (b 468 0 + 1) = a 468 0 + 1 := by rw [d680]; exact wr_9 (by omega)
  have ws1 : wr_ (b 468 1 + 1) = a 468 1 + 1 := by rw [d681]; exact wr_9 (by omega)
  by_cases k6 : k = 6
  · rw [pt9__1 (r := r) (a := a) (k := k) (s := s) k6]
    rcases (by omega : s = 0 ∨ s = 1) with z | z
    · subst z
      rw [ptR__2 (r := r) (a := b) (k := k) (s := 0) k6 (by decide), u2_m (a := u2_ b 103 3 2) (k := 468) (j := 0) (v := b 468 0) (u2_k (by decide) 0), u2_c (a := b) (k := 103) (j := 3) (k' := 468) (j' := 1) (by decide), show (1 : Int) - 0 = 1 by decide]
      exact si_w (si_u h9 (Or.inl (by decide)) (by omega) (fun z => absurd z (by decide)) (fun z => absurd z (by decide)) (fun z => absurd z (by decide))) (Or.inr ⟨rfl, rfl⟩)
    · subst z
      rw [ptR__1 (r := r) (a := b) (k := k) (s := 1) k6 rfl, u2_m (a := u2_ (u2_ b 103 3 2) 468 0 2) (k := 468) (j := 1) (v := b 468 1) ((u2_n (fun e => absurd e.2 (by decide))).trans (u2_k (by decide) 1)), u2_c (a := b) (k := 103) (j := 3) (k' := 468) (j' := 0) (by decide), show (1 : Int) - 1 = 0 by decide]
      exact si_w (si_u h9 (Or.inl (by decide)) (by omega) (fun z => absurd z (by decide)) (fun z => absurd z (by decide)) (fun z => absurd z (by decide))) (Or.inr ⟨rfl, rfl⟩)
  have hp : SI_ m (n + 1) r (u2_ b 466 s (a 466 s + 1)) (u2_ a 466 s (a 466 s + 1)) := si_u h9 (Or.inl (by decide)) (by omega) (fun z => absurd z (by decide)) (fun z => absurd z (by decide)) (fun z => absurd z (by decide))
  have hq := si_z hp q (k := 466) (Or.inl rfl)
  have hg : a 467 s + 1 ≤ r 11 → SI_ m (n + 1) r (u2_ (u2_ (u2_ (u2_ b 466 s (a 466 s + 1)) 466 0 0) 466 1 0) 467 s (a 467 s + 1)) (u2_ (fy2_ (u2_ a 466 s (a 466 s + 1)) 466 2 0) 467 s (a 467 s + 1)) := fun y => si_u hq (Or.inl (by decide)) (by omega) (fun z => absurd z (by decide)) (fun _ => ⟨fun z => by omega, fun _ => y⟩) (fun z => absurd z (by decide))
  have hs : SI_ m (n + 1) r (adR_ (u2_ (u2_ (u2_ (u2_ (u2_ (u2_ b 466 s (a 466 s + 1)) 466 0 0) 466 1 0) 467 s (a 467 s + 1)) 467 0 0) 467 1 0) s 1) (u2_ (fy2_ (u2_ (fy2_ (u2_ a 466 s (a 466 s + 1)) 466 2 0) 467 s (a 467 s + 1)) 467 2 0) 468 s (a 468 s + 1)) := by
    rw [fy2_u h0 h1, u2_o2 h0 h1]
    refine si_ad (si_z hq q (k := 467) (Or.inr rfl)) h0 h1 ?_ (by omega)
    rw [fy2_k (by decide), fy2_k (by decide), u2_k (by decide)]
    exact ws.symm
  by_cases c1 : a 467 0 = r 11 ∧ a 467 1 = r 11
  · by_cases c2 : 7 ≤ a 466 s + 1 ∧ 2 ≤ a 466 s + 1 - a 466 (1 - s)
    · by_cases c3 : (r 11 ≤ a 467 s + 1 ∧ 2 ≤ a 467 s + 1 - a 467 (1 - s)) ∨ r 11 < a 467 s + 1
      · by_cases c4 : a 468 s + 1 = 2
        · rw [pt9__2 (r := r) (a := a) (k := k) (s := s) k6 c1 (by omega) (by omega) (by omega), ptR__3 (r := r) (a := b) (k := k) (s := s) k6 (by omega) (by omega) (by omega) (by omega), w1, w1b, w4, w4b, ws]
          exact si_w hs (Or.inr ⟨rfl, rfl⟩)
        · rw [pt9__3 (r := r) (a := a) (k := k) (s := s) k6 c1 (by omega) (by omega) (by omega), ptR__4 (r := r) (a := b) (k := k) (s := s) k6 (by omega) (by omega) (by omega) (by omega), w1, w1b, w4, w4b, ws, w8, w8b, w9]
          exact si_u (si_u hs (Or.inr ⟨rfl, Or.inl rfl⟩) (by omega) (fun _ z => absurd z (by decide)) (fun z => absurd z (by decide)) (fun z => absurd z (by decide))) (Or.inr ⟨rfl, Or.inr rfl⟩) (by omega) (fun _ _ => by omega) (fun z => absurd z (by decide)) (fun z => absurd z (by decide))
      · rw [pt9__4 (r := r) (a := a) (k := k) (s := s) k6 c1 (by omega) (by omega), ptR__5 (r := r) (a := b) (k := k) (s := s) k6 (by omega) (by omega) (by omega), w1, w1b, w4, w4b, w9]
        exact si_u (hg (by omega)) (Or.inr ⟨rfl, Or.inr rfl⟩) (by omega) (fun _ _ => by omega) (fun z => absurd z (by decide)) (fun z => absurd z (by decide))
    · rw [pt9__5 (r := r) (a := a) (k := k) (s := s) k6 c1 (by omega), ptR__6 (r := r) (a := b) (k := k) (s := s) k6 (by omega) (by omega), w1, w1b]
      exact hp
  · by_cases c2 : 4 ≤ a 466 s + 1 ∧ 2 ≤ a 466 s + 1 - a 466 (1 - s)
    · by_cases c3 : (r 11 ≤ a 467 s + 1 ∧ 2 ≤ a 467 s + 1 - a 467 (1 - s)) ∨ r 11 < a 467 s + 1
      · by_cases c4 : a 468 s + 1 = 2
        · rw [pt9__6 (r := r) (a := a) (k := k) (s := s) k6 c1 (by omega) (by omega) (by omega), ptR__7 (r := r) (a := b) (k := k) (s := s) k6 (by omega) (by omega) (by omega) (by omega), w1, w1b, w4, w4b, ws]
          exact si_w hs (Or.inr ⟨rfl, rfl⟩)
        · rw [pt9__7 (r := r) (a := a) (k := k) (s := s) k6 c1 (by omega) (by omega) (by omega), ptR__8 (r := r) (a := b) (k := k) (s := s) k6 (by omega) (by omega) (by omega) (by omega), w1, w1b, w4, w4b, ws, w8, w8b, w9]
          exact si_u (si_u hs (Or.inr ⟨rfl, Or.inl rfl⟩) (by omega) (fun _ z => absurd z (by decide)) (fun z => absurd z (by decide)) (fun z => absurd z (by decide))) (Or.inr ⟨rfl, Or.inr rfl⟩) (by omega) (fun _ _ => by omega) (fun z => absurd z (by decide)) (fun z => absurd z (by decide))
      · rw [pt9__8 (r := r) (a := a) (k := k) (s := s) k6 c1 (by omega) (by omega), ptR__9 (r := r) (a := b) (k := k) (s := s) k6 (by omega) (by omega) (by omega), w1, w1b, w4, w4b, w9]
        exact si_u (hg (by omega)) (Or.inr ⟨rfl, Or.inr rfl⟩) (by omega) (fun _ _ => by omega) (fun z => absurd z (by decide)) (fun z => absurd z (by decide))
    · rw [pt9__9 (r := r) (a := a) (k := k) (s := s) k6 c1 (by omega), ptR__10 (r := r) (a := b) (k := k) (s := s) k6 (by omega) (by omega), w1, w1b]
      exact hp
