theorem dr_2 {x : Int} (h : 0 ≤ x ∧ x ≤ 2147483647) : dr_ x 2 = an_ x 1 := by
  have e1 : an_ x 1 = x % 2 := by
    rw [an_n h (by decide), show (1 : Int).toNat = 1 by decide, Nat.and_one_is_mod]
    omega
  rw [e1]
  unfold dr_
  have e2 : (Int32.ofInt x).toInt = x := by
    rw [Int32.toInt_ofInt_of_le (by omega) (by omega)]
  have e3 : (Int32.ofInt x / Int32.ofInt 2).toInt = x / 2 := by
    rw [Int32.toInt_div_of_ne_right (Int32.ofInt x) (Int32.ofInt 2) (by decide), e2]
    show Int.tdiv x 2 = x / 2
    rw [Int.tdiv_eq_ediv_of_nonneg (by omega)]
  rw [Int32.toInt_sub, Int32.toInt_mul, e2, e3]
  show Int.bmod (x - Int.bmod (x / 2 * 2) _) _ = x % 2
  rw [show Int.bmod (x / 2 * 2) (2 ^ 32) = x / 2 * 2 from Int.bmod_eq_of_le (by omega) (by omega), Int.bmod_eq_of_le (by omega) (by omega)]
  omega
/-- volleyball, a point, when the server is settled -/
theorem si_vo {m n : Int} {r : Int → Int} {b a b1 a1 : Sg_} {s : Int} (h : SI_ m n r b a) (hh : SI_ m n r b1 a1) (e8 : ∀ j, a1 468 j = a 468 j) (q : RB9_ r) (h0 : 0 ≤ s) (h1 : s ≤ 1) (r2 : r 0 = 1) (g : n + 1 ≤ 1000000) :
    SI_ m (n + 1) r (u2_ (u2_ b1 103 5 s) 466 s (a 466 s + 1)) (u2_ (u2_ a1 103 5 s) 466 s (a 466 s + 1)) ∧
    SI_ m (n + 1) r (adR_ (u2_ (u2_ (u2_ (u2_ b1 103 5 s) 466 s (a 466 s + 1)) 466 0 0) 466 1 0) s 1) (u2_ (fy2_ (u2_ (u2_ a1 103 5 s) 466 s (a 466 s + 1)) 466 2 0) 468 s (a 468 s + 1)) := by
  have n0 := h.2.2.1
  have b66 := h.2.2.2.1 466 s (by decide) h0 h1
  have b68 := h.2.2.2.1 468 s (by decide) h0 h1
  have ws : wr_ (a 468 s + 1) = a 468 s + 1 := wr_9 (by omega)
  have hc : SI_ m (n + 1) r (u2_ (u2_ b1 103 5 s) 466 s (a 466 s + 1)) (u2_ (u2_ a1 103 5 s) 466 s (a 466 s + 1)) := si_u (si_u (si_m hh (by omega) g) (Or.inr ⟨rfl, Or.inr rfl⟩) (by omega) (fun _ _ => by omega) (fun z => absurd z (by decide)) (fun z => absurd z (by decide))) (Or.inl (by decide)) (by omega) (fun z => absurd z (by decide)) (fun z => absurd z (by decide)) (fun z => absurd z (by decide))
  refine ⟨hc, si_ad (si_z hc q (k := 466) (Or.inl rfl)) h0 h1 ?_ (by omega)⟩
  rw [fy2_k (by decide), u2_k (by decide), u2_k (by decide), e8]
  exact ws.symm
theorem si_pv {m n : Int} {r : Int → Int} {b a : Sg_} {k s x y : Int} (h : SI_ m n r b a) (hr : SI_ m n r (rtR_ b s) (rt9_ a s)) (q : RB9_ r) (h0 : 0 ≤ s) (h1 : s ≤ 1) (k1 : k = 1) (r2 : r 0 = 1) (g : n + 1 ≤ 1000000) : SI_ m (n + 1) r (pvR_ r b m k s x y) (pv9_ r a s) := by
  have n0 := h.2.2.1
  have q4 := q.2.2.2.1
  have ej := eq_j h.1 h0 h1
  have et := eq_j h.1 (s := 1 - s) (by omega) (by omega)
  have d66 : b 466 s = a 466 s := ej.2.2.1
  have d66t : b 466 (1 - s) = a 466 (1 - s) := et.2.2.1
  have d680 : b 468 0 = a 468 0 := h.1.2.1.2.2.2.2.1
  have d681 : b 468 1 = a 468 1 := h.1.2.1.2.2.2.2.2.1
  have d4 : b 103 4 = a 103 4 := h.1.2.2.1.1
  have d5 : b 103 5 = a 103 5 := h.1.2.2.1.2.1
  have b66 := h.2.2.2.1 466 s (by decide) h0 h1
  have b66t := h.2.2.2.1 466 (1 - s) (by decide) (by omega) (by omega)
  have b68 := h.2.2.2.1 468 s (by decide) h0 h1
  have b680 := h.2.2.2.1 468 0 (by decide) (by decide) (by decide)
  have b681 := h.2.2.2.1 468 1 (by decide) (by decide) (by decide)
  have b4 := h.2.2.2.2.1
  have t0 : s = 0 → a 468 s = a 468 0 := fun e => by rw [e]
  have t1 : s = 1 → a 468 s = a 468 1 := fun e => by rw [e]
  have w1 : wr_ (a 466 s + 1) = a 466 s + 1 := wr_9 (by omega)
  have w1b : wr_ (b 466 s + 1) = a 466 s + 1 := by rw [d66]; exact w1
  have w2 : wr_ (wr_ (a 466 s + 1) - a 466 (1 - s)) = a 466 s + 1 - a 466 (1 - s) := by rw [w1]; exact wr_9 (by omega)
  have w3 : wr_ (b 466 (1 - s) + 2) = a 466 (1 - s) + 2 := by rw [d66t]; exact wr_9 (by omega)
  have w8 : wr_ (a 103 4 + 1) = a 103 4 + 1 := wr_9 (by omega)
  have w8b : wr_ (b 103 4 + 1) = a 103 4 + 1 := by rw [d4]; exact w8
  have ws : wr_ (a 468 s + 1) = a 468 s + 1 := wr_9 (by omega)
  have ws0 : wr_ (b 468 0 + 1) = a 468 0 + 1 := by rw [d680]; exact wr_9 (by omega)
  have ws1 : wr_ (b 468 1 + 1) = a 468 1 + 1 := by rw [d681]; exact wr_9 (by omega)
  have dd : dr_ (a 103 4 + 1) 2 = an_ (a 103 4 + 1) 1 := dr_2 (by omega)
  have ab := an_1b (a 103 4 + 1)
  have k5 : ¬ (k = 5) := by omega
  have e8 : ∀ j, rt9_ a s 468 j = a 468 j := fun j => (u2_k (by decide) j).trans (cg9_k (by decide) j)
  by_cases c1 : a 103 5 = s
  · obtain ⟨hc, hs⟩ := si_vo h h (fun _ => rfl) q h0 h1 r2 g
    by_cases c2 : a 103 4 = 4
    · by_cases c3 : (3 * r 11 + 4) / 5 ≤ a 466 s + 1 ∧ 2 ≤ a 466 s + 1 - a 466 (1 - s)
      · by_cases c4 : a 468 s + 1 = 3
        · rw [pv9__1 (r := r) (a := a) (s := s) c1 c2 (by omega) (by omega), pvR__2 (r := r) (a := b) (m := m) (k := k) (s := s) (q := x) (o := y) k5 (by omega) (by omega) (by omega) (by omega), w1, w1b, ws]
          exact si_w hs (Or.inr ⟨rfl, rfl⟩)
        · rw [pv9__2 (r := r) (a := a) (s := s) c1 c2 (by omega) (by omega), pvR__3 (r := r) (a := b) (m := m) (k := k) (s := s) (q := x) (o := y) k5 (by omega) (by omega) (by omega) (by omega), w1, w1b, ws, w8, w8b, dd]
          exact si_u (si_u hs (Or.inr ⟨rfl, Or.inl rfl⟩) (by omega) (fun _ z => absurd z (by decide)) (fun z => absurd z (by decide)) (fun z => absurd z (by decide))) (Or.inr ⟨rfl, Or.inr rfl⟩) (by omega) (fun _ _ => by omega) (fun z => absurd z (by decide)) (fun z => absurd z (by decide))
      · rw [pv9__3 (r := r) (a := a) (s := s) c1 c2 (by omega), pvR__4 (r := r) (a := b) (m := m) (k := k) (s := s) (q := x) (o := y) k5 (by omega) (by omega) (by omega), w1, w1b]
        exact hc
    · by_cases c3 : r 11 ≤ a 466 s + 1 ∧ 2 ≤ a 466 s + 1 - a 466 (1 - s)
      · by_cases c4 : a 468 s + 1 = 3
        · rw [pv9__4 (r := r) (a := a) (s := s) c1 c2 (by omega) (by omega), pvR__5 (r := r) (a := b) (m := m) (k := k) (s := s) (q := x) (o := y) k5 (by omega) (by omega) (by omega) (by omega), w1, w1b, ws]
          exact si_w hs (Or.inr ⟨rfl, rfl⟩)
        · rw [pv9__5 (r := r) (a := a) (s := s) c1 c2 (by omega) (by omega), pvR__6 (r := r) (a := b) (m := m) (k := k) (s := s) (q := x) (o := y) k5 (by omega) (by omega) (by omega) (by omega), w1, w1b, ws, w8, w8b, dd]
          exact si_u (si_u hs (Or.inr ⟨rfl, Or.inl rfl⟩) (by omega) (fun _ z => absurd z (by decide)) (fun z => absurd z (by decide)) (fun z => absurd z (by decide))) (Or.inr ⟨rfl, Or.inr rfl⟩) (by omega) (fun _ _ => by omega) (fun z => absurd z (by decide)) (fun z => absurd z (by decide))
      · rw [pv9__6 (r := r) (a := a) (s := s) c1 c2 (by omega), pvR__7 (r := r) (a := b) (m := m) (k := k) (s := s) (q := x) (o := y) k5 (by omega) (by omega) (by omega), w1, w1b]
        exact hc
  · obtain ⟨hc, hs⟩ := si_vo h hr e8 q h0 h1 r2 g
    by_cases c2 : a 103 4 = 4
    · by_cases c3 : (3 * r 11 + 4) / 5 ≤ a 466 s + 1 ∧ 2 ≤ a 466 s + 1 - a 466 (1 - s)
      · by_cases c4 : a 468 s + 1 = 3
        · rw [pv9__7 (r := r) (a := a) (s := s) c1 c2 (by omega) (by omega), pvR__8 (r := r) (a := b) (m := m) (k := k) (s := s) (q := x) (o := y) k5 (by omega) (by omega) (by omega) (by omega), w1, w1b, ws]
          exact si_w hs (Or.inr ⟨rfl, rfl⟩)
        · rw [pv9__8 (r := r) (a := a) (s := s) c1 c2 (by omega) (by omega), pvR__9 (r := r) (a := b) (m := m) (k := k) (s := s) (q := x) (o := y) k5 (by omega) (by omega) (by omega) (by omega), w1, w1b, ws, w8, w8b, dd]
          exact si_u (si_u hs (Or.inr ⟨rfl, Or.inl rfl⟩) (by omega) (fun _ z => absurd z (by decide)) (fun z => absurd z (by decide)) (fun z => absurd z (by decide))) (Or.inr ⟨rfl, Or.inr rfl⟩) (by omega) (fun _ _ => by omega) (fun z => absurd z (by decide)) (fun z => absurd z (by decide))
      · rw [pv9__9 (r := r) (a := a) (s := s) c1 c2 (by omega), pvR__10 (r := r) (a := b) (m := m) (k := k) (s := s) (q := x) (o := y) k5 (by omega) (by omega) (by omega), w1, w1b]
        exact hc
    · by_cases c3 : r 11 ≤ a 466 s + 1 ∧ 2 ≤ a 466 s + 1 - a 466 (1 - s)
      · by_cases c4 : a 468 s + 1 = 3
        · rw [pv9__10 (r := r) (a := a) (s := s) c1 c2 (by omega) (by omega), pvR__11 (r := r) (a := b) (m := m) (k := k) (s := s) (q := x) (o := y) k5 (by omega) (by omega) (by omega) (by omega), w1, w1b, ws]
          exact si_w hs (Or.inr ⟨rfl, rfl⟩)
        · rw [pv9__11 (r := r) (a := a) (s := s) c1 c2 (by omega) (by omega), pvR__12 (r := r) (a := b) (m := m) (k := k) (s := s) (q := x) (o := y) k5 (by omega) (by omega) (by omega) (by omega), w1, w1b, ws, w8, w8b, dd]
          exact si_u (si_u hs (Or.inr ⟨rfl, Or.inl rfl⟩) (by omega) (fun _ z => absurd z (by decide)) (fun z => absurd z (by decide)) (fun z => absurd z (by decide))) (Or.inr ⟨rfl, Or.inr rfl⟩) (by omega) (fun _ _ => by omega) (fun z => absurd z (by decide)) (fun z => absurd z (by decide))
      · rw [pv9__12 (r := r) (a := a) (s := s) c1 c2 (by omega), pvR__13 (r := r) (a := b) (m := m) (k := k) (s := s) (q := x) (o := y) k5 (by omega) (by omega) (by omega), w1, w1b]
        exact hc
