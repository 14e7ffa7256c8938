/-- a change of men -/
theorem si_su {m n : Int} {r : Int → Int} {b a : Sg_} {s q o : Int} (h : SI_ m n r b a) (h0 : 0 ≤ s) (h1 : s ≤ 1) (hp : fp9_ a s q ≠ -1) (hb : bq9_ a s o ≠ -1) (hc : a 469 s < r 10) (g : n + 1 ≤ 1000000) : SI_ m (n + 1) r (suR_ b m s q o) (su9_ r a s q o) := by
  have n0 := h.2.2.1
  have d70 : b 469 s = a 469 s := (eq_j h.1 h0 h1).2.2.2.2.2
  have b69 := h.2.2.2.1 469 s (by decide) h0 h1
  have v1 := h.2.1.1 s h0 h1
  rcases k_f (q := q) h.1 h.2.1 h0 h1 with z | z
  · exact absurd z.1 hp
  rcases k_b (q := o) h.1 h.2.1 h0 h1 with y | y
  · exact absurd y.1 hb
  have gx := h.2.1.2.1 s (s * 6 + fp9_ a s q) h0 h1 (by omega) (by omega)
  have h9 := si_on (si_m (n' := n + 1) h (by omega) g) h0 h1 z.1 z.2.1 y.1 y.2.1 y.2.2.2.2
  rw [su9__2 (r := r) (a := a) (s := s) (q := q) (o := o) (by omega), suR__1 (a := b) (m := m) (s := s) (q := q) (o := o), z.2.2.1, y.2.2.1, ab_2 (x := a 471 (s * 6 + fp9_ a s q)) (by omega), ab_2 (x := bq9_ a s o) (by omega), show 20 * m + a 471 (s * 6 + fp9_ a s q) - 20 * m = a 471 (s * 6 + fp9_ a s q) by omega, show 20 * m + bq9_ a s o - 20 * m = bq9_ a s o by omega, d70]
  have w1 : wr_ (a 469 s + 1) = a 469 s + 1 := wr_9 (by omega)
  exact si_u h9 (Or.inl (by decide)) (by omega) (fun c => absurd c (by decide)) (fun c => absurd c (by decide)) (fun _ => by omega)
/-- football -/
theorem si_pf {m n : Int} {r : Int → Int} {b a : Sg_} {k s q o : Int} (h : SI_ m n r b a) (w : RB9_ r) (hk : 0 ≤ k ∧ k ≤ 4) (hs : k = 0 ∨ (0 ≤ s ∧ s ≤ 1)) (hp : k ≠ 0 → fp9_ a s q ≠ -1) (g : n + 2 ≤ 1000000) : SI_ m (n + 2) r (pfR_ r b m k s q o) (pf9_ r a k s q) := by
  have n0 := h.2.2.1
  have d4 : b 103 4 = a 103 4 := h.1.2.2.1.1
  have b4 := h.2.2.2.2.1
  have w4 : wr_ (a 103 4 + 1) = a 103 4 + 1 := wr_9 (by omega)
  have h9 := si_m (n' := n + 2) h (by omega) g
  by_cases k0 : k = 0
  · have hu : SI_ m (n + 2) r (u2_ b 103 4 (a 103 4 + 1)) (u2_ a 103 4 (a 103 4 + 1)) := si_u h9 (Or.inr ⟨rfl, Or.inl rfl⟩) (by omega) (fun _ z => absurd z (by decide)) (fun z => absurd z (by decide)) (fun z => absurd z (by decide))
    by_cases c : wr_ (a 103 4 + 1) = 3
    · rw [pf9__5 (r := r) (a := a) (k := k) (s := s) (q := q) (by omega) (by omega) (by omega) (by omega) c, pfR__1 (r := r) (a := b) (m := m) (k := k) (s := s) (q := q) (o := o) k0 (by rw [d4]; exact c), d4, w4]
      exact si_w hu (Or.inr ⟨rfl, rfl⟩)
    · rw [pf9__6 (r := r) (a := a) (k := k) (s := s) (q := q) (by omega) (by omega) (by omega) (by omega) c, pfR__2 (r := r) (a := b) (m := m) (k := k) (s := s) (q := q) (o := o) k0 (by rw [d4]; exact c), d4, w4]
      exact si_w hu (Or.inl ⟨rfl, rfl⟩)
  have h0 : 0 ≤ s := by omega
  have h1 : s ≤ 1 := by omega
  by_cases k1 : k = 1
  · have b68 := h.2.2.2.1 468 s (by decide) h0 h1
    have w8 : wr_ (a 468 s + 1) = a 468 s + 1 := wr_9 (by omega)
    rw [pf9__1 (r := r) (a := a) (k := k) (s := s) (q := q) k1, pfR__3 (r := r) (a := b) (m := m) (k := k) (s := s) (q := q) (o := o) k0 k1]
    exact si_ad h9 h0 h1 rfl (by omega)
  by_cases k2 : k = 2
  · have b68 := h.2.2.2.1 468 (1 - s) (by decide) (by omega) (by omega)
    have w8 : wr_ (a 468 (1 - s) + 1) = a 468 (1 - s) + 1 := wr_9 (by omega)
    rw [pf9__2 (r := r) (a := a) (k := k) (s := s) (q := q) k1 k2, pfR__4 (r := r) (a := b) (m := m) (k := k) (s := s) (q := q) (o := o) k0 k1 k2]
    exact si_ad h9 (by omega) (by omega) rfl (by omega)
  -- a person on the field
  rcases k_f (q := q) h.1 h.2.1 h0 h1 with z | z
  · exact absurd z.1 (hp k0)
  have v1 := h.2.1.1 s h0 h1
  have gx := h.2.1.2.1 s (s * 6 + fp9_ a s q) h0 h1 (by omega) (by omega)
  have ea : ab9_ m (slR_ b s q) = 20 * m + a 471 (s * 6 + fp9_ a s q) := by
    rw [z.2.2.1]
    exact ab_2 (by omega)
  have ex : 20 * m + a 471 (s * 6 + fp9_ a s q) - 20 * m = a 471 (s * 6 + fp9_ a s q) := by omega
  have d73 : b 473 (a 471 (s * 6 + fp9_ a s q)) = a 473 (a 471 (s * 6 + fp9_ a s q)) := (h.1.2.2.2.2 s _ h0 h1 gx.1 gx.2.1).2.1
  have b73 := h.2.2.2.2.2.2.1 s _ h0 h1 gx.1 gx.2.1
  have w7 : wr_ (a 473 (a 471 (s * 6 + fp9_ a s q)) + 1) = a 473 (a 471 (s * 6 + fp9_ a s q)) + 1 := wr_9 (by omega)
  by_cases k3 : k = 3
  · have hy := si_y (si_m (n' := n + 1) h (by omega) (by omega)) h0 h1 gx.1 gx.2.1 (v := wr_ (a 473 (a 471 (s * 6 + fp9_ a s q)) + 1)) (by omega)
    by_cases c : wr_ (a 473 (a 471 (s * 6 + fp9_ a s q)) + 1) = 2
    · rw [pf9__3 (r := r) (a := a) (k := k) (s := s) (q := q) k1 k2 k3, yl9__2 (r := r) (a := a) (s := s) (k := fp9_ a s q) (by omega) c, pfR__5 (r := r) (a := b) (m := m) (k := k) (s := s) (q := q) (o := o) k0 k1 k2 k3 (by rw [ea, ex, d73]; exact c), ea, ex, d73]
      have e70 : u2_ a 473 (a 471 (s * 6 + fp9_ a s q)) (wr_ (a 473 (a 471 (s * 6 + fp9_ a s q)) + 1)) 470 s = a 470 s := u2_k (by decide) s
      have e71 : u2_ a 473 (a 471 (s * 6 + fp9_ a s q)) (wr_ (a 473 (a 471 (s * 6 + fp9_ a s q)) + 1)) 471 (s * 6 + fp9_ a s q) = a 471 (s * 6 + fp9_ a s q) := u2_k (by decide) _
      have f := si_so hy w h0 h1 z.1 (by rw [e70]; exact z.2.1) (by omega)
      rw [e71, show n + 1 + 1 = n + 2 by omega] at f
      exact f
    · rw [pf9__3 (r := r) (a := a) (k := k) (s := s) (q := q) k1 k2 k3, yl9__3 (r := r) (a := a) (s := s) (k := fp9_ a s q) (by omega) c, pfR__6 (r := r) (a := b) (m := m) (k := k) (s := s) (q := q) (o := o) k0 k1 k2 k3 (by rw [ea, ex, d73]; exact c), ea, ex, d73]
      exact si_m hy (by omega) g
  have k4 : k = 4 := by omega
  rw [pf9__4 (r := r) (a := a) (k := k) (s := s) (q := q) k1 k2 k3 k4, pfR__7 (r := r) (a := b) (m := m) (k := k) (s := s) (q := q) (o := o) k0 k1 k2 k3 k4, ea]
  exact si_m (si_so h w h0 h1 z.1 z.2.1 (by omega)) (by omega) g
