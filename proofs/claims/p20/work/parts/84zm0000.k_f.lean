-- the play of both sides alike: pure words
/-- the cells of the reference's match and of the house's play tell the same -/
def EQP_ (m : Int) (b a : Sg_) : Prop :=
  (b 449 0 = a 449 0 ∧ b 449 1 = a 449 1 ∧ b 470 0 = a 470 0 ∧ b 470 1 = a 470 1) ∧
  (b 466 0 = a 466 0 ∧ b 466 1 = a 466 1 ∧ b 467 0 = a 467 0 ∧ b 467 1 = a 467 1 ∧ b 468 0 = a 468 0 ∧ b 468 1 = a 468 1 ∧ b 469 0 = a 469 0 ∧ b 469 1 = a 469 1) ∧
  (b 103 4 = a 103 4 ∧ b 103 5 = a 103 5 ∧ ((a 103 3 = 0 ∧ b 103 3 = 1) ∨ (a 103 3 = 1 ∧ b 103 3 = 2))) ∧
  (∀ s x, 0 ≤ s → s ≤ 1 → s * 6 ≤ x → x < s * 6 + a 470 s → b 471 x = 20 * m + a 471 x) ∧
  (∀ s x, 0 ≤ s → s ≤ 1 → s * 10 ≤ x → x < s * 10 + a 449 s → b 448 x = a 448 x ∧ b 473 x = a 473 x ∧ ((a 472 x = 3 ∧ b 472 x = 2 ∧ b 474 x = 1) ∨ (a 472 x ≠ 3 ∧ b 472 x = a 472 x ∧ b 474 x = 0)))
/-- who stands on the field, in its order -/
def WS_ (a : Sg_) : Prop :=
  (∀ s, 0 ≤ s → s ≤ 1 → 0 ≤ a 449 s ∧ a 449 s ≤ 10 ∧ 0 ≤ a 470 s ∧ a 470 s ≤ 6) ∧
  (∀ s x, 0 ≤ s → s ≤ 1 → s * 6 ≤ x → x < s * 6 + a 470 s → s * 10 ≤ a 471 x ∧ a 471 x < s * 10 + a 449 s ∧ a 472 (a 471 x) = 1) ∧
  (∀ s x, 0 ≤ s → s ≤ 1 → s * 10 ≤ x → x < s * 10 + a 449 s → a 472 x = 1 → ∃ k, s * 6 ≤ k ∧ k < s * 6 + a 470 s ∧ a 471 k = x) ∧
  (∀ s x y, 0 ≤ s → s ≤ 1 → s * 6 ≤ x → x < s * 6 + a 470 s → s * 6 ≤ y → y < s * 6 + a 470 s → a 471 x = a 471 y → x = y) ∧
  (∀ s x y, 0 ≤ s → s ≤ 1 → s * 10 ≤ x → x < s * 10 + a 449 s → s * 10 ≤ y → y < s * 10 + a 449 s → a 448 x = a 448 y → x = y)
theorem eq_j {m : Int} {b a : Sg_} (h : EQP_ m b a) {s : Int} (h0 : 0 ≤ s) (h1 : s ≤ 1) : b 449 s = a 449 s ∧ b 470 s = a 470 s ∧ b 466 s = a 466 s ∧ b 467 s = a 467 s ∧ b 468 s = a 468 s ∧ b 469 s = a 469 s := by
  obtain ⟨⟨a1, a2, a3, a4⟩, ⟨b1, b2, b3, b4, b5, b6, b7, b8⟩, _⟩ := h
  rcases (by omega : s = 0 ∨ s = 1) with z | z
  · subst z; exact ⟨a1, a3, b1, b3, b5, b7⟩
  · subst z; exact ⟨a2, a4, b2, b4, b6, b8⟩
/-- the place on the sheet, where the names differ -/
theorem sl_u {b : Sg_} {s q x : Int} : ∀ (n : Nat), s * 10 ≤ x → x < s * 10 + (n : Int) → b 448 x = q → (∀ y, s * 10 ≤ y → y < s * 10 + (n : Int) → b 448 y = q → y = x) → sln_ b s q n = x
  | 0, _, _, _, _ => by omega
  | n + 1, h0, h1, h2, h3 => by
    by_cases z : b 448 (10 * s + (n : Int)) = q
    · rw [sln_t z]
      exact h3 _ (by omega) (by omega) z
    · rw [sln_f z]
      have w : x ≠ 10 * s + (n : Int) := fun e => z (by rw [← e]; exact h2)
      exact sl_u n h0 (by omega) h2 (fun y a c d => h3 y a (by omega) d)
theorem fp_n {a : Sg_} {s q : Int} : ∀ (n : Nat) (i : Int), fpn_ a s q n i = -1 → 0 ≤ i → ∀ k, i ≤ k → k < i + (n : Int) → a 448 (a 471 (s * 6 + k)) ≠ q
  | 0, _, _, _, _, _, _ => by omega
  | n + 1, i, h, h0, k, h1, h2 => by
    by_cases z : a 448 (a 471 (s * 6 + i)) = q
    · rw [fpn_t z] at h; omega
    · rw [fpn_f z] at h
      by_cases w : k = i
      · rw [w]; exact z
      · exact fp_n n (i + 1) h (by omega) k (by omega) (by omega)
theorem bp_n {a : Sg_} {s q : Int} : ∀ (n : Nat) (i : Int), bpn_ a s q n i = -1 → 0 ≤ i → 0 ≤ s → ∀ k, i ≤ k → k < i + (n : Int) → ¬ (a 448 (s * 10 + k) = q ∧ a 472 (s * 10 + k) = 0)
  | 0, _, _, _, _, _, _, _ => by omega
  | n + 1, i, h, h0, hs, k, h1, h2 => by
    by_cases z : a 448 (s * 10 + i) = q ∧ a 472 (s * 10 + i) = 0
    · rw [bpn_t z] at h; omega
    · rw [bpn_f z] at h
      by_cases w : k = i
      · rw [w]; exact z
      · exact bp_n n (i + 1) h (by omega) hs k (by omega) (by omega)
/-- who stands on the field -/
theorem k_f {m : Int} {b a : Sg_} (h : EQP_ m b a) (w : WS_ a) {s q : Int} (h0 : 0 ≤ s) (h1 : s ≤ 1) : (fp9_ a s q = -1 ∧ ¬ (slR_ b s q ≠ -1 ∧ b 472 (slR_ b s q) = 1)) ∨ (0 ≤ fp9_ a s q ∧ fp9_ a s q < a 470 s ∧ slR_ b s q = a 471 (s * 6 + fp9_ a s q) ∧ b 472 (slR_ b s q) = 1) := by
  obtain ⟨w1, w2, w3, w4, w5⟩ := w
  have e := eq_j h h0 h1
  have v := w1 s h0 h1
  obtain ⟨_, _, _, e4, e5⟩ := h
  rcases fp9_b (a := a) (s := s) (q := q) with z | z
  · refine Or.inl ⟨z, fun y => ?_⟩
    rcases sln_b (a := b) (s := s) (q := q) (b 449 s).toNat with c | c
    · exact y.1 c
    · have c1 : s * 10 ≤ slR_ b s q := by have := c.1; show s * 10 ≤ sln_ b s q (b 449 s).toNat; omega
      have c2 : slR_ b s q < s * 10 + a 449 s := by have := c.2.1; show sln_ b s q (b 449 s).toNat < _; omega
      have c3 : b 448 (slR_ b s q) = q := c.2.2
      have d := e5 s _ h0 h1 c1 c2
      have f : a 472 (slR_ b s q) = 1 := by have := y.2; omega
      obtain ⟨k, k0, k1, k2⟩ := w3 s _ h0 h1 c1 c2 f
      refine fp_n (a := a) (s := s) (q := q) (a 470 s).toNat 0 z (by omega) (k - s * 6) (by omega) (by omega) ?_
      rw [show s * 6 + (k - s * 6) = k by omega, k2, ← d.1]
      exact c3
  · have g := w2 s (s * 6 + fp9_ a s q) h0 h1 (by omega) (by omega)
    have d := e5 s _ h0 h1 g.1 g.2.1
    have u : slR_ b s q = a 471 (s * 6 + fp9_ a s q) := by
      refine sl_u (b 449 s).toNat g.1 (by omega) (d.1.trans z.2.2) (fun y c1 c2 c3 => ?_)
      have dy := e5 s y h0 h1 c1 (by omega)
      refine w5 s y _ h0 h1 c1 (by omega) g.1 g.2.1 ?_
      rw [← dy.1, c3, z.2.2]
    refine Or.inr ⟨z.1, z.2.1, u, ?_⟩
    rw [u]
    have := g.2.2
    omega
