-- the play of both sides alike: pure words
/-- the cells of the reference's match and of the house's play tell the same -/
def EQP_ (m : Int) (b a : Sg_) : Prop :=
  (b 449 0 = a 449 0 ∧ b 449 1 = a 449 1 ∧ b 470 0 = a 470 0 ∧ b 470 1 = a 470 1) ∧
  (b 466 0 = a 466 0 ∧ b 466 1 = a 466 1 ∧ b 467 0 = a 467 0 ∧ b 467 1 = a 467 1 ∧ b 468 0 = a 468 0 ∧ b 468 1 = a 468 1 ∧ b 469 0 = a 469 0 ∧ b 469 1 = a 469 1) ∧
  (b 103 4 = a 103 4 ∧ b 103 5 = a 103 5 ∧ ((a 103 3 = 0 ∧ b 103 3 = 1) ∨ (a 103 3 = 1 ∧ b 103 3 = 2))) ∧
  (∀ s x, 0 ≤ s → s ≤ 1 → s * 6 ≤ x → x < s * 6 + a 470 s → b 471 x = 20 * m + a 471 x) ∧
  (∀ s x, 0 ≤ s → s ≤ 1 → s * 10 ≤ x → x < s * 10 + a 449 s → b 448 x = a 448 x ∧ b 473 x = a 473 x ∧ ((a 472 x = 3 ∧ b 472 x = 2 ∧ b 474 x = 1) ∨ (a 472 x ≠ 3 ∧ b 472 x = a 472 x ∧ b 474 x = 0)))
/-- who stands on the field, in its order -/
def WS_ (a : Sg_) : Prop :=
  (∀ s, 0 ≤ s → s ≤ 1 → 0 ≤ a 449 s ∧ a 449 s ≤ 10 ∧ 0 ≤ a 470 s ∧ a 470 s ≤ 6) ∧
  (∀ s x, 0 ≤ s → s ≤ 1 → s * 6 ≤ x → x < s * 6 + a 470 s → s * 10 ≤ a 471 x ∧ a 471 x < s * 10 + a 449 s ∧ a 472 (a 471 x) = 1) ∧
  (∀ s x, 0 ≤ s → s ≤ 1 → s * 10 ≤ x → x < s * 10 + a 449 s → a 472 x = 1 → ∃ k, s * 6 ≤ k ∧ k < s * 6 + a 470 s ∧ a 471 k = x) ∧
  (∀ s x y, 0 ≤ s → s ≤ 1 → s * 6 ≤ x → x < s * 6 + a 470 s → s * 6 ≤ y → y < s * 6 + a 470 s → a 471 x = a 471 y → x = y) ∧
  (∀ s x y, 0 ≤ s → s ≤ 1 → s * 10 ≤ x → x < s * 10 + a 449 s → s * 10 ≤ y → y < s * 10 + a 449 s → a 448 x = a 448 y → x = y)
theorem eq_j {m : Int} {b a : Sg_} (h : EQP_ m b a) {s : Int} (h0 : 0 ≤ s) (h1 : s ≤ 1) : b 449 s = a 449 s ∧ b 470 s = a 470 s ∧ b 466 s = a 466 s ∧ b 467 s = a 467 s ∧ b 468 s = a 468 s ∧ b 469 s = a 469 s := by
  obtain ⟨⟨a1, a2, a3, a4⟩, ⟨b1, b2, b3, b4, b5, b6, b7, b8⟩, _⟩ := h
  rcases (by omega : s = 0 ∨ s = 1) with z | z
  · subst z; exact ⟨a1, a3, b1, b3, b5, b7⟩
  · subst z; exact ⟨a2, a4, b2, b4, b6, b8⟩
/-- the place on the sheet, where the names differ -/
theorem sl_u {b : Sg_} {s q x : Int} : ∀ (n : Nat), s * 10 ≤ x → x < s * 10 + (n : Int) → b 448 x = q → (∀ y, s * 10 ≤ y → y < s * 10 + (n : Int) → b 448 y = q → y = x) → sln_ b s q n = x
  | 0, _, _, _, _ => by omega
  | n + 1, h0, h1, h2, h3 => by
    by_cases z : b 448 (10 * s + (n : Int)) = q
    · rw [sln_t z]
      exact h3 _ (by omega) (by omega) z
    · rw [sln_f z]
      have w : x ≠ 10 * s + (n : Int) := fun e => z (by rw [← e]; exact h2)
      exact sl_u n h0 (by omega) h2 (fun y a c d => h3 y a (by omega) d)
theorem fp_n {a : Sg_} {s q : Int} : ∀ (n : Nat) (i : Int), fpn_ a s q n i = -1 → 0 ≤ i → ∀ k, i ≤ k → k < i + (n : Int) → a 448 (a 471 (s * 6 + k)) ≠ q
  | 0, _, _, _, _, _, _ => by omega
  | n + 1, i, h, h0, k, h1, h2 => by
    by_cases z : a 448 (a 471 (s * 6 + i)) = q
    · rw [fpn_t z] at h; omega
    · rw [fpn_f z] at h
      by_cases w : k = i
      · rw [w]; exact z
      · exact fp_n n (i + 1) h (by omega) k (by omega) (by omega)
theorem bp_n {a : Sg_} {s q : Int} : ∀ (n : Nat) (i : Int), bpn_ a s q n i = -1 → 0 ≤ i → 0 ≤ s → ∀ k, i ≤ k → k < i + (n : Int) → ¬ (a 448 (s * 10 + k) = q ∧ a 472 (s * 10 + k) = 0)
  | 0, _, _, _, _, _, _, _ => by omega
  | n + 1, i, h, h0, hs, k, h1, h2 => by
    by_cases z : a 448 (s * 10 + i) = q ∧ a 472 (s * 10 + i) = 0
    · rw [bpn_t z] at h; omega
    · rw [bpn_f z] at h
      by_cases w : k = i
      · rw [w]; exact z
      · exact bp_n n (i + 1) h (by omega) hs k (by omega) (by omega)
/-- who stands on the field -/
theorem k_f {m : Int} {b a : Sg_} (h : EQP_ m b a) (w : WS_ a) {s q : Int} (h0 : 0 ≤ s) (h1 : s ≤ 1) : (fp9_ a s q = -1 ∧ ¬ (slR_ b s q ≠ -1 ∧ b 472 (slR_ b s q) = 1)) ∨ (0 ≤ fp9_ a s q ∧ fp9_ a s q < a 470 s ∧ slR_ b s q = a 471 (s * 6 + fp9_ a s q) ∧ b 472 (slR_ b s q) = 1) := by
  obtain ⟨w1, w2, w3, w4, w5⟩ := w
  have e := eq_j h h0 h1
  have v := w1 s h0 h1
  obtain ⟨_, _, _, e4, e5⟩ := h
  rcases fp9_b (a := a) (s := s) (q := q) with z | z
  · refine Or.inl ⟨z, fun y => ?_⟩
    rcases sln_b (a := b) (s := s) (q := q) (b 449 s).toNat with c | c
    · exact y.1 c
    · have c1 : s * 10 ≤ slR_ b s q := by have := c.1; show s * 10 ≤ sln_ b s q (b 449 s).toNat; omega
      have c2 : slR_ b s q < s * 10 + a 449 s := by have := c.2.1; show sln_ b s q (b 449 s).toNat < _; omega
      have c3 : b 448 (slR_ b s q) = q := c.2.2
      have d := e5 s _ h0 h1 c1 c2
      have f : a 472 (slR_ b s q) = 1 := by have := y.2; omega
      obtain ⟨k, k0, k1, k2⟩ := w3 s _ h0 h1 c1 c2 f
      refine fp_n (a := a) (s := s) (q := q) (a 470 s).toNat 0 z (by omega) (k - s * 6) (by omega) (by omega) ?_
      rw [show s * 6 + (k - s * 6) = k by omega, k2, ← d.1]
      exact c3
  · have g := w2 s (s * 6 + fp9_ a s q) h0 h1 (by omega) (by omega)
    have d := e5 s _ h0 h1 g.1 g.2.1
    have u : slR_ b s q = a 471 (s * 6 + fp9_ a s q) := by
      refine sl_u (b 449 s).toNat g.1 (by omega) (d.1.trans z.2.2) (fun y c1 c2 c3 => ?_)
      have dy := e5 s y h0 h1 c1 (by omega)
      refine w5 s y _ h0 h1 c1 (by omega) g.1 g.2.1 ?_
      rw [← dy.1, c3, z.2.2]
    refine Or.inr ⟨z.1, z.2.1, u, ?_⟩
    rw [u]
    have := g.2.2
    omega
/-- who sits on the bench -/
theorem k_b {m : Int} {b a : Sg_} (h : EQP_ m b a) (w : WS_ a) {s q : Int} (h0 : 0 ≤ s) (h1 : s ≤ 1) : (bq9_ a s q = -1 ∧ ¬ (slR_ b s q ≠ -1 ∧ b 472 (slR_ b s q) = 0)) ∨ (s * 10 ≤ bq9_ a s q ∧ bq9_ a s q < s * 10 + a 449 s ∧ slR_ b s q = bq9_ a s q ∧ b 472 (slR_ b s q) = 0 ∧ a 472 (bq9_ a s q) = 0) := by
  obtain ⟨w1, w2, w3, w4, w5⟩ := w
  have e := eq_j h h0 h1
  have v := w1 s h0 h1
  obtain ⟨_, _, _, e4, e5⟩ := h
  rcases bq9_b (a := a) (s := s) (q := q) with z | z
  · refine Or.inl ⟨z, fun y => ?_⟩
    rcases sln_b (a := b) (s := s) (q := q) (b 449 s).toNat with c | c
    · exact y.1 c
    · have c1 : s * 10 ≤ slR_ b s q := by have := c.1; show s * 10 ≤ sln_ b s q (b 449 s).toNat; omega
      have c2 : slR_ b s q < s * 10 + a 449 s := by have := c.2.1; show sln_ b s q (b 449 s).toNat < _; omega
      have c3 : b 448 (slR_ b s q) = q := c.2.2
      have d := e5 s _ h0 h1 c1 c2
      have f : a 472 (slR_ b s q) = 0 := by have := y.2; omega
      refine bp_n (a := a) (s := s) (q := q) (a 449 s).toNat 0 z (by omega) h0 (slR_ b s q - s * 10) (by omega) (by omega) ?_
      rw [show s * 10 + (slR_ b s q - s * 10) = slR_ b s q by omega]
      exact ⟨d.1.symm.trans c3, f⟩
  · have d := e5 s _ h0 h1 z.1 z.2.1
    have u : slR_ b s q = bq9_ a s q := by
      refine sl_u (b 449 s).toNat z.1 (by omega) (d.1.trans z.2.2.1) (fun y c1 c2 c3 => ?_)
      have dy := e5 s y h0 h1 c1 (by omega)
      refine w5 s y _ h0 h1 c1 (by omega) z.1 z.2.1 ?_
      rw [← dy.1, c3, z.2.2.1]
    refine Or.inr ⟨z.1, z.2.1, u, ?_, z.2.2.2⟩
    rw [u]
    have := z.2.2.2
    omega
theorem wr_9 {x : Int} (h : -2147483648 ≤ x ∧ x ≤ 2147483647) : wr_ x = x := by
  unfold wr_
  omega
theorem u2_e {b a : Sg_} {k K : Nat} {j J v : Int} (h : b K J = a K J) : u2_ b k j v K J = u2_ a k j v K J := by
  by_cases z : K = k ∧ J = j
  · rw [z.1, z.2, u2_s, u2_s]
  · rw [u2_n z, u2_n z]; exact h
theorem u2_m {a : Sg_} {k : Nat} {j v : Int} (h : a k j = v) : u2_ a k j v = a := by
  funext K J
  by_cases z : K = k ∧ J = j
  · rw [z.1, z.2, u2_s]; exact h.symm
  · exact u2_n z
theorem eq_u {m : Int} {b a : Sg_} (h : EQP_ m b a) {k : Nat} {j v : Int} (c : (k = 466 ∨ k = 467 ∨ k = 468 ∨ k = 469) ∨ (k = 103 ∧ (j = 4 ∨ j = 5))) : EQP_ m (u2_ b k j v) (u2_ a k j v) := by
  obtain ⟨⟨a1, a2, a3, a4⟩, ⟨b1, b2, b3, b4, b5, b6, b7, b8⟩, ⟨p4, p5, p3⟩, e4, e5⟩ := h
  have n : ∀ K : Nat, (K = 448 ∨ K = 449 ∨ K = 470 ∨ K = 471 ∨ K = 472 ∨ K = 473 ∨ K = 474) → ∀ (g : Sg_) (J : Int), u2_ g k j v K J = g K J := fun K hK g J => u2_k (by omega) J
  have n3 : ¬ ((103 : Nat) = k ∧ (3 : Int) = j) := by omega
  refine ⟨⟨u2_e a1, u2_e a2, u2_e a3, u2_e a4⟩, ⟨u2_e b1, u2_e b2, u2_e b3, u2_e b4, u2_e b5, u2_e b6, u2_e b7, u2_e b8⟩, ⟨u2_e p4, u2_e p5, ?_⟩, fun s x s0 s1 h0 h1 => ?_, fun s x s0 s1 h0 h1 => ?_⟩
  · rw [u2_n n3, u2_n n3]; exact p3
  · simp only [n 470 (by decide), n 471 (by decide)] at h1 ⊢
    exact e4 s x s0 s1 h0 h1
  · simp only [n 449 (by decide), n 448 (by decide), n 472 (by decide), n 473 (by decide), n 474 (by decide)] at h1 ⊢
    exact e5 s x s0 s1 h0 h1
theorem eq_w {m : Int} {b a : Sg_} (h : EQP_ m b a) {v w : Int} (c : (v = 0 ∧ w = 1) ∨ (v = 1 ∧ w = 2)) : EQP_ m (u2_ b 103 3 w) (u2_ a 103 3 v) := by
  obtain ⟨⟨a1, a2, a3, a4⟩, ⟨b1, b2, b3, b4, b5, b6, b7, b8⟩, ⟨p4, p5, p3⟩, e4, e5⟩ := h
  have n : ∀ K : Nat, K ≠ 103 → ∀ (g : Sg_) (y J : Int), u2_ g 103 3 y K J = g K J := fun K hK g y J => u2_k hK J
  have n4 : ¬ ((103 : Nat) = 103 ∧ (4 : Int) = 3) := by decide
  have n5 : ¬ ((103 : Nat) = 103 ∧ (5 : Int) = 3) := by decide
  refine ⟨?_, ?_, ⟨?_, ?_, ?_⟩, fun s x s0 s1 h0 h1 => ?_, fun s x s0 s1 h0 h1 => ?_⟩
  · simp only [n 449 (by decide), n 470 (by decide)]
    exact ⟨a1, a2, a3, a4⟩
  · simp only [n 466 (by decide), n 467 (by decide), n 468 (by decide), n 469 (by decide)]
    exact ⟨b1, b2, b3, b4, b5, b6, b7, b8⟩
  · rw [u2_n n4, u2_n n4]; exact p4
  · rw [u2_n n5, u2_n n5]; exact p5
  · rw [u2_s, u2_s]; exact c
  · simp only [n 470 (by decide), n 471 (by decide)] at h1 ⊢
    exact e4 s x s0 s1 h0 h1
  · simp only [n 449 (by decide), n 448 (by decide), n 472 (by decide), n 473 (by decide), n 474 (by decide)] at h1 ⊢
    exact e5 s x s0 s1 h0 h1
theorem fy2_2 {a : Sg_} {k : Nat} : fy2_ a k 2 0 = u2_ (u2_ a k 0 0) k 1 0 := by
  funext K J
  by_cases z : K = k
  · subst z
    by_cases y : J = 1
    · rw [y, u2_s]; exact fy2_s (by decide)
    · rw [u2_n (fun q => y q.2)]
      by_cases x : J = 0
      · rw [x, u2_s]; exact fy2_s (by decide)
      · rw [u2_n (fun q => x q.2)]; exact fy2_o (by omega)
  · rw [u2_k z, u2_k z]; exact fy2_k z J
theorem eq_z {m : Int} {b a : Sg_} (h : EQP_ m b a) {k : Nat} (c : k = 466 ∨ k = 467) : EQP_ m (u2_ (u2_ b k 0 0) k 1 0) (fy2_ a k 2 0) := by
  rw [fy2_2]
  exact eq_u (eq_u h (Or.inl (by omega))) (Or.inl (by omega))
theorem eq_ad {m : Int} {b a : Sg_} {s v w : Int} (h : EQP_ m b a) (h0 : 0 ≤ s) (h1 : s ≤ 1) (g0 : -2147483648 ≤ a 468 0 ∧ a 468 0 ≤ 2147483647) (g1 : -2147483648 ≤ a 468 1 ∧ a 468 1 ≤ 2147483647) (e : w = wr_ (a 468 s + v)) : EQP_ m (adR_ b s v) (u2_ a 468 s w) := by
  have b5 := h.2.1.2.2.2.2.1
  have b6 := h.2.1.2.2.2.2.2.1
  have i0 : wr_ (a 468 0 + 0) = a 468 0 := (wr_9 (by omega)).trans (by omega)
  have i1 : wr_ (a 468 1 + 0) = a 468 1 := (wr_9 (by omega)).trans (by omega)
  rcases (by omega : s = 0 ∨ s = 1) with z | z
  · subst z
    rw [adR__1 (a := b) (s := 0) (v := v) rfl, b5, b6, ← e, i1]
    have x := eq_u (eq_u h (k := 468) (j := 0) (v := w) (Or.inl (by decide))) (k := 468) (j := 1) (v := a 468 1) (Or.inl (by decide))
    rw [u2_m (a := u2_ a 468 0 w) (k := 468) (j := 1) (v := a 468 1) (u2_n (fun q => absurd q.2 (by decide)))] at x
    exact x
  · subst z
    rw [adR__2 (a := b) (s := 1) (v := v) (by decide) rfl, b5, b6, ← e, i0]
    have x := eq_u h (k := 468) (j := 0) (v := a 468 0) (Or.inl (by decide))
    rw [u2_m (a := a) (k := 468) (j := 0) (v := a 468 0) rfl] at x
    exact eq_u x (Or.inl (by decide))
/-- who stands where doesn't hang on plain cells -/
theorem ws_k {a : Sg_} (h : WS_ a) {k : Nat} {j v : Int} (c : k ≠ 448 ∧ k ≠ 449 ∧ k ≠ 470 ∧ k ≠ 471 ∧ k ≠ 472) : WS_ (u2_ a k j v) := by
  have n : ∀ K : Nat, K ≠ k → ∀ (J : Int), u2_ a k j v K J = a K J := fun K hK J => u2_k hK J
  unfold WS_ at h ⊢
  simp only [n 448 c.1.symm, n 449 c.2.1.symm, n 470 c.2.2.1.symm, n 471 c.2.2.2.1.symm, n 472 c.2.2.2.2.symm]
  exact h
theorem ws_z {a : Sg_} (h : WS_ a) {k : Nat} (c : k = 466 ∨ k = 467) : WS_ (fy2_ a k 2 0) := by
  rw [fy2_2]
  exact ws_k (ws_k h (by omega)) (by omega)
/-- bounds of the plain cells -/
def WBP_ (n : Int) (r : Int → Int) (a : Sg_) : Prop :=
  (0 ≤ n ∧ n ≤ 1000000) ∧ (∀ (k : Nat) (j : Int), k = 466 ∨ k = 467 ∨ k = 468 ∨ k = 469 → 0 ≤ j → j ≤ 1 → 0 ≤ a k j ∧ a k j ≤ 8 * n + 20) ∧
  (0 ≤ a 103 4 ∧ a 103 4 ≤ 8 * n + 20) ∧ (0 ≤ a 103 5 ∧ a 103 5 ≤ 1) ∧
  (∀ s x, 0 ≤ s → s ≤ 1 → s * 10 ≤ x → x < s * 10 + a 449 s → 0 ≤ a 473 x ∧ a 473 x ≤ 8 * n + 20) ∧
  (r 0 = 3 → a 467 1 ≤ 7) ∧ (r 0 = 2 → ∀ j, 0 ≤ j → j ≤ 1 → a 467 j ≤ r 11) ∧ (∀ j, 0 ≤ j → j ≤ 1 → a 469 j ≤ r 10)
/-- bounds of the rules -/
def RB9_ (r : Int → Int) : Prop := (0 ≤ r 0 ∧ r 0 ≤ 3) ∧ (1 ≤ r 9 ∧ r 9 ≤ 6) ∧ (0 ≤ r 10 ∧ r 10 ≤ 5) ∧ (2 ≤ r 11 ∧ r 11 ≤ 25) ∧ (1 ≤ r 12 ∧ r 12 ≤ 9)
theorem wbp_m {n n' : Int} {r : Int → Int} {a : Sg_} (h : WBP_ n r a) (e : n ≤ n') (g : n' ≤ 1000000) : WBP_ n' r a := by
  obtain ⟨h0, h1, h2, h3, h4, h5, h6, h7⟩ := h
  refine ⟨by omega, fun k j c j0 j1 => ?_, by omega, h3, fun s x s0 s1 x0 x1 => ?_, h5, h6, h7⟩
  · have := h1 k j c j0 j1
    omega
  · have := h4 s x s0 s1 x0 x1
    omega
theorem wbp_u {n : Int} {r : Int → Int} {a : Sg_} (h : WBP_ n r a) {k : Nat} {j v : Int} (c : (k = 466 ∨ k = 467 ∨ k = 468 ∨ k = 469) ∨ (k = 103 ∧ (j = 4 ∨ j = 5))) (hv : 0 ≤ v ∧ v ≤ 8 * n + 20) (g5 : k = 103 → j = 5 → v ≤ 1) (g7 : k = 467 → (r 0 = 3 → j = 1 → v ≤ 7) ∧ (r 0 = 2 → v ≤ r 11)) (g9 : k = 469 → v ≤ r 10) : WBP_ n r (u2_ a k j v) := by
  obtain ⟨h0, h1, h2, h3, h4, h5, h6, h7⟩ := h
  have w : ∀ (K : Nat) (J : Int), (K = k ∧ J = j ∧ u2_ a k j v K J = v) ∨ (¬ (K = k ∧ J = j) ∧ u2_ a k j v K J = a K J) := fun K J => by
    by_cases z : K = k ∧ J = j
    · exact Or.inl ⟨z.1, z.2, by rw [z.1, z.2, u2_s]⟩
    · exact Or.inr ⟨z, u2_n z⟩
  refine ⟨h0, fun K J q j0 j1 => ?_, ?_, ?_, fun s x s0 s1 x0 x1 => ?_, fun e => ?_, fun e J j0 j1 => ?_, fun J j0 j1 => ?_⟩
  · have y := h1 K J q j0 j1
    rcases w K J with z | z
    · rw [z.2.2]; exact hv
    · rw [z.2]; exact y
  · rcases w 103 4 with z | z
    · rw [z.2.2]; exact hv
    · rw [z.2]; exact h2
  · rcases w 103 5 with z | z
    · rw [z.2.2]
      have := g5 z.1.symm z.2.1.symm
      omega
    · rw [z.2]; exact h3
  · have e1 : u2_ a k j v 449 s = a 449 s := u2_k (by omega) s
    have e2 : u2_ a k j v 473 x = a 473 x := u2_k (by omega) x
    rw [e1] at x1
    rw [e2]
    exact h4 s x s0 s1 x0 x1
  · rcases w 467 1 with z | z
    · rw [z.2.2]
      exact (g7 z.1.symm).1 e z.2.1.symm
    · rw [z.2]; exact h5 e
  · rcases w 467 J with z | z
    · rw [z.2.2]
      exact (g7 z.1.symm).2 e
    · rw [z.2]; exact h6 e J j0 j1
  · rcases w 469 J with z | z
    · rw [z.2.2]
      exact g9 z.1.symm
    · rw [z.2]; exact h7 J j0 j1
theorem wbp_w {n : Int} {r : Int → Int} {a : Sg_} (h : WBP_ n r a) {v : Int} : WBP_ n r (u2_ a 103 3 v) := by
  have w : ∀ (K : Nat) (J : Int), ¬ (K = 103 ∧ J = 3) → u2_ a 103 3 v K J = a K J := fun K J z => u2_n z
  obtain ⟨h0, h1, h2, h3, h4, h5, h6, h7⟩ := h
  refine ⟨h0, fun K J q j0 j1 => ?_, ?_, ?_, fun s x s0 s1 x0 x1 => ?_, fun e => ?_, fun e J j0 j1 => ?_, fun J j0 j1 => ?_⟩
  · rw [w K J (by omega)]; exact h1 K J q j0 j1
  · rw [w 103 4 (by decide)]; exact h2
  · rw [w 103 5 (by decide)]; exact h3
  · rw [w 449 s (by omega)] at x1
    rw [w 473 x (by omega)]; exact h4 s x s0 s1 x0 x1
  · rw [w 467 1 (by decide)]; exact h5 e
  · rw [w 467 J (by omega)]; exact h6 e J j0 j1
  · rw [w 469 J (by omega)]; exact h7 J j0 j1
/-- all of it -/
def SI_ (m n : Int) (r : Int → Int) (b a : Sg_) : Prop := EQP_ m b a ∧ WS_ a ∧ WBP_ n r a
theorem si_u {m n : Int} {r : Int → Int} {b a : Sg_} (h : SI_ m n r b a) {k : Nat} {j v : Int} (c : (k = 466 ∨ k = 467 ∨ k = 468 ∨ k = 469) ∨ (k = 103 ∧ (j = 4 ∨ j = 5))) (hv : 0 ≤ v ∧ v ≤ 8 * n + 20) (g5 : k = 103 → j = 5 → v ≤ 1) (g7 : k = 467 → (r 0 = 3 → j = 1 → v ≤ 7) ∧ (r 0 = 2 → v ≤ r 11)) (g9 : k = 469 → v ≤ r 10) : SI_ m n r (u2_ b k j v) (u2_ a k j v) :=
  ⟨eq_u h.1 c, ws_k h.2.1 (by omega), wbp_u h.2.2 c hv g5 g7 g9⟩
theorem si_w {m n : Int} {r : Int → Int} {b a : Sg_} (h : SI_ m n r b a) {v w : Int} (c : (v = 0 ∧ w = 1) ∨ (v = 1 ∧ w = 2)) : SI_ m n r (u2_ b 103 3 w) (u2_ a 103 3 v) :=
  ⟨eq_w h.1 c, ws_k h.2.1 (by omega), wbp_w h.2.2⟩
theorem si_z {m n : Int} {r : Int → Int} {b a : Sg_} (h : SI_ m n r b a) (q : RB9_ r) {k : Nat} (c : k = 466 ∨ k = 467) : SI_ m n r (u2_ (u2_ b k 0 0) k 1 0) (fy2_ a k 2 0) := by
  rw [fy2_2]
  have n0 := h.2.2.1
  have q4 := q.2.2.2.1
  have s1 : SI_ m n r (u2_ b k 0 0) (u2_ a k 0 0) := si_u h (Or.inl (by omega)) (by omega) (fun _ _ => by omega) (fun _ => ⟨fun _ _ => by omega, fun _ => by omega⟩) (fun _ => by omega)
  exact si_u s1 (Or.inl (by omega)) (by omega) (fun _ _ => by omega) (fun _ => ⟨fun _ _ => by omega, fun _ => by omega⟩) (fun _ => by omega)
theorem si_ad {m n : Int} {r : Int → Int} {b a : Sg_} {s v w : Int} (h : SI_ m n r b a) (h0 : 0 ≤ s) (h1 : s ≤ 1) (e : w = wr_ (a 468 s + v)) (hw : 0 ≤ w ∧ w ≤ 8 * n + 20) : SI_ m n r (adR_ b s v) (u2_ a 468 s w) := by
  have n0 := h.2.2.1
  have g0 := h.2.2.2.1 468 0 (by decide) (by decide) (by decide)
  have g1 := h.2.2.2.1 468 1 (by decide) (by decide) (by decide)
  exact ⟨eq_ad h.1 h0 h1 (by omega) (by omega) e, ws_k h.2.1 (by decide), wbp_u h.2.2 (Or.inl (by decide)) hw (fun z => absurd z (by decide)) (fun z => absurd z (by decide)) (fun z => absurd z (by decide))⟩
theorem si_m {m n n' : Int} {r : Int → Int} {b a : Sg_} (h : SI_ m n r b a) (e : n ≤ n') (g : n' ≤ 1000000) : SI_ m n' r b a := ⟨h.1, h.2.1, wbp_m h.2.2 e g⟩
theorem u2_c {a : Sg_} {k k' : Nat} {j j' v v' : Int} (h : ¬ (k = k' ∧ j = j')) : u2_ (u2_ a k j v) k' j' v' = u2_ (u2_ a k' j' v') k j v := by
  funext K J
  by_cases z : K = k ∧ J = j
  · have y : ¬ (K = k' ∧ J = j') := fun q => h ⟨z.1.symm.trans q.1, z.2.symm.trans q.2⟩
    rw [u2_n y, z.1, z.2, u2_s, u2_s]
  · by_cases y : K = k' ∧ J = j'
    · rw [u2_n z, y.1, y.2, u2_s, u2_s]
    · rw [u2_n y, u2_n z, u2_n z, u2_n y]
/-- the half ends -/
theorem si_ts {m n : Int} {r : Int → Int} {b a : Sg_} (h : SI_ m n r b a) (q : RB9_ r) (g : n + 1 ≤ 1000000) : SI_ m (n + 1) r (tsR_ r b) (eh9_ r (fy2_ a 467 2 0)) := by
  have hz := si_m (n' := n + 1) (si_z h q (k := 467) (Or.inr rfl)) (by omega) g
  have n0 := h.2.2.1
  have q4 := q.2.2.2.1
  have d4 : b 103 4 = a 103 4 := h.1.2.2.1.1
  have d5 : b 103 5 = a 103 5 := h.1.2.2.1.2.1
  have s0 : b 468 0 = a 468 0 := h.1.2.1.2.2.2.2.1
  have s1 : b 468 1 = a 468 1 := h.1.2.1.2.2.2.2.2.1
  have f4 : fy2_ a 467 2 0 103 4 = a 103 4 := fy2_k (by decide) 4
  have f5 : fy2_ a 467 2 0 103 5 = a 103 5 := fy2_k (by decide) 5
  have f80 : fy2_ a 467 2 0 468 0 = a 468 0 := fy2_k (by decide) 0
  have f81 : fy2_ a 467 2 0 468 1 = a 468 1 := fy2_k (by decide) 1
  have b4 := h.2.2.2.2.1
  have w1 : wr_ (a 103 4 + 1) = a 103 4 + 1 := wr_9 (by omega)
  have w2 : wr_ (r 11 - 1) = r 11 - 1 := wr_9 (by omega)
  have w3 : wr_ (wr_ (r 11 - 1) + 20) = r 11 + 19 := by
    rw [w2]
    exact (wr_9 (by omega)).trans (by omega)
  have w4 : wr_ (r 11 + 20) = r 11 + 20 := wr_9 (by omega)
  have w5 : wr_ (fy2_ a 467 2 0 103 4 + 1) = a 103 4 + 1 := by
    rw [f4]
    exact w1
  have w6 : wr_ (b 103 4 + 1) = a 103 4 + 1 := by
    rw [d4]
    exact w1
  by_cases c1 : a 103 5 = 1
  · by_cases c2 : wr_ (r 11 - 1) ≤ a 103 4 ∧ a 468 1 < a 468 0
    · rw [eh9__1 (r := r) (a := fy2_ a 467 2 0) (by omega) (by omega), tsR__1 (r := r) (a := b) (by omega) (by omega)]
      exact si_w hz (Or.inr ⟨rfl, rfl⟩)
    · rw [eh9__2 (r := r) (a := fy2_ a 467 2 0) (by omega) (by omega), tsR__2 (r := r) (a := b) (by omega) (by omega)]
      exact si_u hz (Or.inr ⟨rfl, Or.inr rfl⟩) (by omega) (fun _ _ => by omega) (fun z => absurd z (by decide)) (fun z => absurd z (by decide))
  · by_cases c2 : (wr_ (r 11 - 1) ≤ a 103 4 ∧ a 468 0 ≠ a 468 1) ∨ a 103 4 = r 11 + 19
    · rw [eh9__3 (r := r) (a := fy2_ a 467 2 0) (by omega) (by omega), tsR__3 (r := r) (a := b) (by omega) (by omega)]
      exact si_w hz (Or.inr ⟨rfl, rfl⟩)
    · rw [eh9__4 (r := r) (a := fy2_ a 467 2 0) (by omega) (by omega), tsR__4 (r := r) (a := b) (by omega) (by omega), w5, w6]
      exact si_u (si_u hz (Or.inr ⟨rfl, Or.inl rfl⟩) (by omega) (fun _ z => absurd z (by decide)) (fun z => absurd z (by decide)) (fun z => absurd z (by decide))) (Or.inr ⟨rfl, Or.inr rfl⟩) (by omega) (fun _ _ => by omega) (fun z => absurd z (by decide)) (fun z => absurd z (by decide))
/-- an out -/
theorem si_ot {m n : Int} {r : Int → Int} {b a : Sg_} (h : SI_ m n r b a) (q : RB9_ r) (r3 : r 0 = 3) (g : n + 2 ≤ 1000000) : SI_ m (n + 2) r (otR_ r b) (co9_ r a) := by
  have n0 := h.2.2.1
  have q4 := q.2.2.2.1
  have d7 : b 467 0 = a 467 0 := h.1.2.1.2.2.1
  have b7 := h.2.2.2.1 467 0 (by decide) (by decide) (by decide)
  have w1 : wr_ (a 467 0 + 1) = a 467 0 + 1 := wr_9 (by omega)
  have w2 : wr_ (b 467 0 + 1) = a 467 0 + 1 := by
    rw [d7]
    exact w1
  have hz := si_m (n' := n + 1) (si_z h q (k := 466) (Or.inl rfl)) (by omega) (by omega)
  have ho : SI_ m (n + 1) r (u2_ (u2_ (u2_ b 466 0 0) 466 1 0) 467 0 (a 467 0 + 1)) (u2_ (fy2_ a 466 2 0) 467 0 (a 467 0 + 1)) := si_u hz (Or.inl (by decide)) (by omega) (fun z => absurd z (by decide)) (fun _ => ⟨fun _ z => absurd z (by decide), fun z => by omega⟩) (fun z => absurd z (by decide))
  by_cases c : a 467 0 + 1 = 3
  · rw [co9__1 (r := r) (a := a) (by omega), otR__1 (r := r) (a := b) (by omega), w1, w2]
    have := si_ts ho q (by omega)
    rw [show n + 1 + 1 = n + 2 by omega] at this
    exact this
  · rw [co9__2 (r := r) (a := a) (by omega), otR__2 (r := r) (a := b) (by omega), w1, w2]
    exact si_m ho (by omega) g
/-- men go on -/
theorem si_av {m n : Int} {r : Int → Int} {b a : Sg_} {s x v : Int} (h : SI_ m n r b a) (q : RB9_ r) (h0 : 0 ≤ s) (h1 : s ≤ 1) (hx : 0 ≤ x ∧ x ≤ 7) (hv : 0 ≤ v ∧ v ≤ 4) (r3 : r 0 = 3) (g : n + 1 ≤ 1000000) : SI_ m (n + 1) r (avR_ r b s x v) (gb9_ r (u2_ a 467 1 x) s v) := by
  have n0 := h.2.2.1
  have q4 := q.2.2.2.1
  have d4 : b 103 4 = a 103 4 := h.1.2.2.1.1
  have s0 : b 468 0 = a 468 0 := h.1.2.1.2.2.2.2.1
  have s1 : b 468 1 = a 468 1 := h.1.2.1.2.2.2.2.2.1
  have f4 : u2_ a 467 1 x 103 4 = a 103 4 := u2_k (by decide) 4
  have f8 : ∀ j, u2_ a 467 1 x 468 j = a 468 j := fun j => u2_k (by decide) j
  have b80 := h.2.2.2.1 468 0 (by decide) (by decide) (by decide)
  have b81 := h.2.2.2.1 468 1 (by decide) (by decide) (by decide)
  have b8 := h.2.2.2.1 468 s (by decide) h0 h1
  have w0 : wr_ (b 468 1 + 0) = a 468 1 := by
    rw [s1]
    exact (wr_9 (by omega)).trans (by omega)
  have w1 : wr_ (b 468 0 + v) = a 468 0 + v := by
    rw [s0]
    exact wr_9 (by omega)
  have w2 : wr_ (u2_ a 467 1 x 468 0 + v) = a 468 0 + v := by
    rw [f8]
    exact wr_9 (by omega)
  have f80 := f8 0
  have f81 := f8 1
  have w3 : wr_ (r 11 - 1) = r 11 - 1 := wr_9 (by omega)
  have hu : SI_ m (n + 1) r (u2_ b 467 1 x) (u2_ a 467 1 x) := si_u (si_m h (by omega) g) (Or.inl (by decide)) (by omega) (fun z => absurd z (by decide)) (fun _ => ⟨fun _ _ => by omega, fun z => by omega⟩) (fun z => absurd z (by decide))
  have hz := si_z hu q (k := 466) (Or.inl rfl)
  have e1 : u2_ (u2_ (u2_ b 466 0 0) 466 1 0) 467 1 x = u2_ (u2_ (u2_ b 467 1 x) 466 0 0) 466 1 0 := by
    rw [u2_c (a := u2_ b 466 0 0) (by decide), u2_c (a := b) (k := 466) (j := 0) (k' := 467) (j' := 1) (by decide)]
  have e2 : fy2_ (u2_ a 467 1 x) 466 2 0 468 s = a 468 s := (fy2_k (by decide) s).trans (f8 s)
  have e3 : wr_ (u2_ a 467 1 x 468 s + v) = a 468 s + v := by
    rw [f8]
    exact wr_9 (by omega)
  have ha : SI_ m (n + 1) r (adR_ (u2_ (u2_ (u2_ b 466 0 0) 466 1 0) 467 1 x) s v) (u2_ (fy2_ (u2_ a 467 1 x) 466 2 0) 468 s (wr_ (u2_ a 467 1 x 468 s + v))) := by
    rw [e1]
    exact si_ad hz h0 h1 (by rw [e2, f8]) (by omega)
  by_cases c : wr_ (r 11 - 1) ≤ a 103 4 ∧ s = 0 ∧ a 468 1 < a 468 0 + v
  · rw [gb9__1 (r := r) (a := u2_ a 467 1 x) (s := s) (v := v) (by omega), avR__1 (r := r) (a := b) (s := s) (b := x) (v := v) (by omega)]
    exact si_w ha (Or.inr ⟨rfl, rfl⟩)
  · rw [gb9__2 (r := r) (a := u2_ a 467 1 x) (s := s) (v := v) (by omega), avR__2 (r := r) (a := b) (s := s) (b := x) (v := v) (by omega)]
    exact ha
theorem wk_t : ∀ n : Nat, n < 8 → (n = 7 ∨ an_ (n : Int) 1 = 0 ∨ an_ (n : Int) 2 = 0 ∨ n = 3) ∧ (0 ≤ or_ (n : Int) 1 ∧ or_ (n : Int) 1 ≤ 7) ∧ (0 ≤ or_ (n : Int) 2 ∧ or_ (n : Int) 2 ≤ 7) := by decide +kernel
/-- a walk -/
theorem si_wk {m n : Int} {r : Int → Int} {b a : Sg_} {s : Int} (h : SI_ m n r b a) (q : RB9_ r) (h0 : 0 ≤ s) (h1 : s ≤ 1) (r3 : r 0 = 3) (g : n + 1 ≤ 1000000) : SI_ m (n + 1) r (wkR_ r b s) (wk9_ r a s) := by
  have d7 : b 467 1 = a 467 1 := h.1.2.1.2.2.2.1
  have b7 := h.2.2.2.1 467 1 (by decide) (by decide) (by decide)
  have b9 := h.2.2.2.2.2.2.2.1 r3
  have t := wk_t (a 467 1).toNat (by omega)
  rw [show (((a 467 1).toNat : Nat) : Int) = a 467 1 by omega] at t
  obtain ⟨t1, t2, t3⟩ := t
  by_cases c1 : an_ (a 467 1) 1 = 0
  · have n7 : ¬ (a 467 1 = 7) := fun e => by rw [e] at c1; exact absurd c1 (by decide +kernel)
    rw [wk9__2 (r := r) (a := a) (s := s) c1 n7, wkR__1 (r := r) (a := b) (s := s) (by rw [d7]; exact c1), d7]
    exact si_av h q h0 h1 t2 (by omega) r3 g
  · by_cases c2 : an_ (a 467 1) 2 = 0
    · have n7 : ¬ (a 467 1 = 7) := fun e => by rw [e] at c2; exact absurd c2 (by decide +kernel)
      rw [wk9__4 (r := r) (a := a) (s := s) c1 c2 n7, wkR__2 (r := r) (a := b) (s := s) (by rw [d7]; exact c1) (by rw [d7]; exact c2), d7]
      exact si_av h q h0 h1 t3 (by omega) r3 g
    · by_cases c3 : a 467 1 = 7
      · have c4 : ¬ (an_ (a 467 1) 4 = 0) := by rw [c3]; decide +kernel
        rw [wk9__5 (r := r) (a := a) (s := s) c1 c2 c3, wkR__4 (r := r) (a := b) (s := s) (by rw [d7]; exact c1) (by rw [d7]; exact c2) (by rw [d7]; exact c4), d7, c3]
        exact si_av h q h0 h1 (by omega) (by omega) r3 g
      · have e3 : a 467 1 = 3 := by omega
        have c4 : an_ (a 467 1) 4 = 0 := by rw [e3]; decide +kernel
        rw [wk9__6 (r := r) (a := a) (s := s) c1 c2 c3, wkR__3 (r := r) (a := b) (s := s) (by rw [d7]; exact c1) (by rw [d7]; exact c2) (by rw [d7]; exact c4), d7, e3, show or_ 3 4 = 7 by decide +kernel]
        exact si_av h q h0 h1 (by omega) (by omega) r3 g
theorem ht_t : ∀ o : Nat, o < 8 → ∀ v : Nat, v < 4 → (hbR_ (o : Int) ((v : Int) + 1) 4).1 = an_ (or_ (sl_ (o : Int) ((v : Int) + 1)) (sl_ 1 (wr_ ((v : Int) + 1 - 1)))) 7 ∧ (hbR_ (o : Int) ((v : Int) + 1) 4).2 = bc9_ (sr_ (or_ (sl_ (o : Int) ((v : Int) + 1)) (sl_ 1 (wr_ ((v : Int) + 1 - 1)))) 3) ∧ (0 ≤ (hbR_ (o : Int) ((v : Int) + 1) 4).1 ∧ (hbR_ (o : Int) ((v : Int) + 1) 4).1 ≤ 7) ∧ (0 ≤ (hbR_ (o : Int) ((v : Int) + 1) 4).2 ∧ (hbR_ (o : Int) ((v : Int) + 1) 4).2 ≤ 4) := by decide +kernel
/-- a hit -/
theorem si_ht {m n : Int} {r : Int → Int} {b a : Sg_} {s v : Int} (h : SI_ m n r b a) (q : RB9_ r) (h0 : 0 ≤ s) (h1 : s ≤ 1) (hv : 1 ≤ v ∧ v ≤ 4) (r3 : r 0 = 3) (g : n + 1 ≤ 1000000) : SI_ m (n + 1) r (htR_ r b s v) (ht9_ r a s v) := by
  have d7 : b 467 1 = a 467 1 := h.1.2.1.2.2.2.1
  have b7 := h.2.2.2.1 467 1 (by decide) (by decide) (by decide)
  have b9 := h.2.2.2.2.2.2.2.1 r3
  have t := ht_t (a 467 1).toNat (by omega) (v - 1).toNat (by omega)
  rw [show (((a 467 1).toNat : Nat) : Int) = a 467 1 by omega, show (((v - 1).toNat : Nat) : Int) + 1 = v by omega] at t
  obtain ⟨t1, t2, t3, t4⟩ := t
  rw [ht9__1 (r := r) (a := a) (s := s) (v := v), htR__1 (r := r) (a := b) (s := s) (v := v), d7, ← t1, ← t2]
  exact si_av h q h0 h1 t3 t4 r3 g
/-- baseball -/
theorem si_pb {m n : Int} {r : Int → Int} {b a : Sg_} {k s v : Int} (h : SI_ m n r b a) (q : RB9_ r) (h0 : 0 ≤ s) (h1 : s ≤ 1) (hv : k = 1 → 1 ≤ v ∧ v ≤ 4) (r3 : r 0 = 3) (g : n + 3 ≤ 1000000) : SI_ m (n + 3) r (pbR_ r b k s v) (pbb9_ r a k s v) := by
  have n0 := h.2.2.1
  have d0 : b 466 0 = a 466 0 := h.1.2.1.1
  have d1 : b 466 1 = a 466 1 := h.1.2.1.2.1
  have b0 := h.2.2.2.1 466 0 (by decide) (by decide) (by decide)
  have b1 := h.2.2.2.1 466 1 (by decide) (by decide) (by decide)
  have w0 : wr_ (a 466 0 + 1) = a 466 0 + 1 := wr_9 (by omega)
  have w1 : wr_ (a 466 1 + 1) = a 466 1 + 1 := wr_9 (by omega)
  by_cases k1 : k = 1
  · rw [pbb9__1 (r := r) (a := a) (k := k) (s := s) (v := v) k1, pbR__1 (r := r) (a := b) (k := k) (s := s) (v := v) k1]
    exact si_m (si_ht h q h0 h1 (hv k1) r3 (by omega)) (by omega) g
  by_cases k2 : k = 2
  · have hu : SI_ m (n + 1) r (u2_ b 466 0 (wr_ (a 466 0 + 1))) (u2_ a 466 0 (wr_ (a 466 0 + 1))) := si_u (si_m h (by omega) (by omega)) (Or.inl (by decide)) (by omega) (fun z => absurd z (by decide)) (fun z => absurd z (by decide)) (fun z => absurd z (by decide))
    by_cases c : wr_ (a 466 0 + 1) = 4
    · rw [pbb9__2 (r := r) (a := a) (k := k) (s := s) (v := v) k1 k2 c, pbR__2 (r := r) (a := b) (k := k) (s := s) (v := v) k1 k2 (by rw [d0]; exact c), d0]
      exact si_m (si_wk hu q h0 h1 r3 (by omega)) (by omega) g
    · rw [pbb9__3 (r := r) (a := a) (k := k) (s := s) (v := v) k1 k2 c, pbR__3 (r := r) (a := b) (k := k) (s := s) (v := v) k1 k2 (by rw [d0]; exact c), d0]
      exact si_m hu (by omega) g
  by_cases k3 : k = 3
  · have hu : SI_ m (n + 1) r (u2_ b 466 1 (wr_ (a 466 1 + 1))) (u2_ a 466 1 (wr_ (a 466 1 + 1))) := si_u (si_m h (by omega) (by omega)) (Or.inl (by decide)) (by omega) (fun z => absurd z (by decide)) (fun z => absurd z (by decide)) (fun z => absurd z (by decide))
    by_cases c : wr_ (a 466 1 + 1) = 3
    · rw [pbb9__4 (r := r) (a := a) (k := k) (s := s) (v := v) k1 k2 k3 c, pbR__4 (r := r) (a := b) (k := k) (s := s) (v := v) k1 k2 k3 (by rw [d1]; exact c), d1]
      have := si_ot hu q r3 (by omega)
      rw [show n + 1 + 2 = n + 3 by omega] at this
      exact this
    · rw [pbb9__5 (r := r) (a := a) (k := k) (s := s) (v := v) k1 k2 k3 c, pbR__5 (r := r) (a := b) (k := k) (s := s) (v := v) k1 k2 k3 (by rw [d1]; exact c), d1]
      exact si_m hu (by omega) g
  rw [pbb9__6 (r := r) (a := a) (k := k) (s := s) (v := v) k1 k2 k3, pbR__6 (r := r) (a := b) (k := k) (s := s) (v := v) k1 k2 k3]
  exact si_m (si_ot h q r3 (by omega)) (by omega) g
/-- the laws are the same -/
theorem lw_q {m : Int} {r : Int → Int} {b a : Sg_} {k s q o : Int} (h : EQP_ m b a) (w : WS_ a) (v8 : ∀ s, 0 ≤ s → s ≤ 1 → a 469 s ≤ r 10) : lwR_ r b k s q o = lw9_ r a k s q o := by
  have hh := h
  obtain ⟨_, _, ⟨p4, p5, p3⟩, _, _⟩ := hh
  by_cases c1 : a 103 3 ≠ 0
  · rw [lw9__1 (r := r) (a := a) (k := k) (s := s) (q := q) (o := o) c1, lwR__1 (r := r) (a := b) (k := k) (s := s) (q := q) (o := o) (show b 103 3 ≠ 1 by omega)]
  by_cases c2 : ¬ ((k = 0 ∨ (0 ≤ s ∧ s ≤ 1)) ∧ ((r 0 = 0 ∧ 0 ≤ k ∧ k ≤ 5) ∨ (r 0 = 1 ∧ (k = 1 ∨ k = 5)) ∨ (r 0 = 2 ∧ (k = 1 ∨ k = 6)) ∨ (¬ r 0 = 0 ∧ ¬ r 0 = 1 ∧ ¬ r 0 = 2 ∧ 1 ≤ k ∧ k ≤ 4)))
  · rw [lw9__2 (r := r) (a := a) (k := k) (s := s) (q := q) (o := o) c1 c2, lwR__2 (r := r) (a := b) (k := k) (s := s) (q := q) (o := o) (show ¬ (b 103 3 ≠ 1) by omega) (show ¬ (((r 0 = 0 ∧ 0 ≤ k ∧ k ≤ 5) ∨ (r 0 = 1 ∧ (k = 1 ∨ k = 5)) ∨ (r 0 = 2 ∧ (k = 1 ∨ k = 6)) ∨ (¬ r 0 = 0 ∧ ¬ r 0 = 1 ∧ ¬ r 0 = 2 ∧ 1 ≤ k ∧ k ≤ 4)) ∧ ((r 0 = 0 ∧ k = 0) ∨ (0 ≤ s ∧ s ≤ 1))) by omega)]
  by_cases c3 : ¬ ((r 0 = 0 ∧ (a 103 4 ≠ 1 ∨ (k ≠ 1 ∧ k ≠ 2))) ∨ (r 0 ≠ 0 ∧ (r 0 ≠ 3 ∨ s = a 103 5)))
  · rw [lw9__3 (r := r) (a := a) (k := k) (s := s) (q := q) (o := o) c1 c2 c3, lwR__3 (r := r) (a := b) (k := k) (s := s) (q := q) (o := o) (show ¬ (b 103 3 ≠ 1) by omega) (show ¬ (¬ (((r 0 = 0 ∧ 0 ≤ k ∧ k ≤ 5) ∨ (r 0 = 1 ∧ (k = 1 ∨ k = 5)) ∨ (r 0 = 2 ∧ (k = 1 ∨ k = 6)) ∨ (¬ r 0 = 0 ∧ ¬ r 0 = 1 ∧ ¬ r 0 = 2 ∧ 1 ≤ k ∧ k ≤ 4)) ∧ ((r 0 = 0 ∧ k = 0) ∨ (0 ≤ s ∧ s ≤ 1)))) by omega) (show (r 0 = 0 ∧ (k = 1 ∨ k = 2) ∧ b 103 4 = 1) ∨ (r 0 = 3 ∧ b 103 5 ≠ s) by omega)]
  by_cases c5 : k = 5 ∨ (r 0 = 0 ∧ k ≠ 0)
  · have hs : 0 ≤ s ∧ s ≤ 1 := by omega
    rcases k_f (q := q) h w hs.1 hs.2 with z | z
    · rw [lw9__4 (r := r) (a := a) (k := k) (s := s) (q := q) (o := o) c1 c2 c3 ⟨c5, z.1⟩, lwR__4 (r := r) (a := b) (k := k) (s := s) (q := q) (o := o) (show ¬ (b 103 3 ≠ 1) by omega) (show ¬ (¬ (((r 0 = 0 ∧ 0 ≤ k ∧ k ≤ 5) ∨ (r 0 = 1 ∧ (k = 1 ∨ k = 5)) ∨ (r 0 = 2 ∧ (k = 1 ∨ k = 6)) ∨ (¬ r 0 = 0 ∧ ¬ r 0 = 1 ∧ ¬ r 0 = 2 ∧ 1 ≤ k ∧ k ≤ 4)) ∧ ((r 0 = 0 ∧ k = 0) ∨ (0 ≤ s ∧ s ≤ 1)))) by omega) (show ¬ ((r 0 = 0 ∧ (k = 1 ∨ k = 2) ∧ b 103 4 = 1) ∨ (r 0 = 3 ∧ b 103 5 ≠ s)) by omega) (show (r 0 = 0 ∧ 0 < k) ∨ (r 0 = 1 ∧ k = 5) by omega) z.2]
    · have z4 : ¬ ((k = 5 ∨ (r 0 = 0 ∧ k ≠ 0)) ∧ fp9_ a s q = -1) := fun y => by have := y.2; omega
      have z5 : ¬ (¬ (slR_ b s q ≠ -1 ∧ b 472 (slR_ b s q) = 1)) := fun y => y ⟨fun t => by have g := w.2.1 s _ hs.1 hs.2 (show s * 6 ≤ s * 6 + fp9_ a s q by omega) (by omega); omega, z.2.2.2⟩
      by_cases c6 : k = 5
      · rcases k_b (q := o) h w hs.1 hs.2 with y | y
        · rw [lw9__5 (r := r) (a := a) (k := k) (s := s) (q := q) (o := o) c1 c2 c3 z4 c6 y.1, lwR__5 (r := r) (a := b) (k := k) (s := s) (q := q) (o := o) (show ¬ (b 103 3 ≠ 1) by omega) (show ¬ (¬ (((r 0 = 0 ∧ 0 ≤ k ∧ k ≤ 5) ∨ (r 0 = 1 ∧ (k = 1 ∨ k = 5)) ∨ (r 0 = 2 ∧ (k = 1 ∨ k = 6)) ∨ (¬ r 0 = 0 ∧ ¬ r 0 = 1 ∧ ¬ r 0 = 2 ∧ 1 ≤ k ∧ k ≤ 4)) ∧ ((r 0 = 0 ∧ k = 0) ∨ (0 ≤ s ∧ s ≤ 1)))) by omega) (show ¬ ((r 0 = 0 ∧ (k = 1 ∨ k = 2) ∧ b 103 4 = 1) ∨ (r 0 = 3 ∧ b 103 5 ≠ s)) by omega) (show (r 0 = 0 ∧ 0 < k) ∨ (r 0 = 1 ∧ k = 5) by omega) z5 c6 y.2]
        · have y5 : ¬ (bq9_ a s o = -1) := by omega
          have y6 : ¬ (¬ (slR_ b s o ≠ -1 ∧ b 472 (slR_ b s o) = 0)) := fun t => t ⟨by omega, y.2.2.2.1⟩
          have e9 := (eq_j h hs.1 hs.2).2.2.2.2.2
          have v9 := v8 s hs.1 hs.2
          by_cases c8 : r 10 ≤ a 469 s
          · rw [lw9__6 (r := r) (a := a) (k := k) (s := s) (q := q) (o := o) c1 c2 c3 z4 c6 y5 c8, lwR__6 (r := r) (a := b) (k := k) (s := s) (q := q) (o := o) (show ¬ (b 103 3 ≠ 1) by omega) (show ¬ (¬ (((r 0 = 0 ∧ 0 ≤ k ∧ k ≤ 5) ∨ (r 0 = 1 ∧ (k = 1 ∨ k = 5)) ∨ (r 0 = 2 ∧ (k = 1 ∨ k = 6)) ∨ (¬ r 0 = 0 ∧ ¬ r 0 = 1 ∧ ¬ r 0 = 2 ∧ 1 ≤ k ∧ k ≤ 4)) ∧ ((r 0 = 0 ∧ k = 0) ∨ (0 ≤ s ∧ s ≤ 1)))) by omega) (show ¬ ((r 0 = 0 ∧ (k = 1 ∨ k = 2) ∧ b 103 4 = 1) ∨ (r 0 = 3 ∧ b 103 5 ≠ s)) by omega) (show (r 0 = 0 ∧ 0 < k) ∨ (r 0 = 1 ∧ k = 5) by omega) z5 c6 y6 (by omega)]
          · have c7 : ¬ (b 469 s = r 10) := by omega
            by_cases c9 : r 0 ≠ 3 ∨ k ≠ 1 ∨ (1 ≤ o ∧ o ≤ 4)
            · rw [lw9__7 (r := r) (a := a) (k := k) (s := s) (q := q) (o := o) c1 c2 c3 z4 c6 y5 c8 c9, lwR__7 (r := r) (a := b) (k := k) (s := s) (q := q) (o := o) (show ¬ (b 103 3 ≠ 1) by omega) (show ¬ (¬ (((r 0 = 0 ∧ 0 ≤ k ∧ k ≤ 5) ∨ (r 0 = 1 ∧ (k = 1 ∨ k = 5)) ∨ (r 0 = 2 ∧ (k = 1 ∨ k = 6)) ∨ (¬ r 0 = 0 ∧ ¬ r 0 = 1 ∧ ¬ r 0 = 2 ∧ 1 ≤ k ∧ k ≤ 4)) ∧ ((r 0 = 0 ∧ k = 0) ∨ (0 ≤ s ∧ s ≤ 1)))) by omega) (show ¬ ((r 0 = 0 ∧ (k = 1 ∨ k = 2) ∧ b 103 4 = 1) ∨ (r 0 = 3 ∧ b 103 5 ≠ s)) by omega) (show (r 0 = 0 ∧ 0 < k) ∨ (r 0 = 1 ∧ k = 5) by omega) z5 c6 y6 c7 c9]
            · rw [lw9__8 (r := r) (a := a) (k := k) (s := s) (q := q) (o := o) c1 c2 c3 z4 c6 y5 c8 c9, lwR__8 (r := r) (a := b) (k := k) (s := s) (q := q) (o := o) (show ¬ (b 103 3 ≠ 1) by omega) (show ¬ (¬ (((r 0 = 0 ∧ 0 ≤ k ∧ k ≤ 5) ∨ (r 0 = 1 ∧ (k = 1 ∨ k = 5)) ∨ (r 0 = 2 ∧ (k = 1 ∨ k = 6)) ∨ (¬ r 0 = 0 ∧ ¬ r 0 = 1 ∧ ¬ r 0 = 2 ∧ 1 ≤ k ∧ k ≤ 4)) ∧ ((r 0 = 0 ∧ k = 0) ∨ (0 ≤ s ∧ s ≤ 1)))) by omega) (show ¬ ((r 0 = 0 ∧ (k = 1 ∨ k = 2) ∧ b 103 4 = 1) ∨ (r 0 = 3 ∧ b 103 5 ≠ s)) by omega) (show (r 0 = 0 ∧ 0 < k) ∨ (r 0 = 1 ∧ k = 5) by omega) z5 c6 y6 c7 c9]
      · have c7 : k ≠ 5 := c6
        by_cases c9 : r 0 ≠ 3 ∨ k ≠ 1 ∨ (1 ≤ o ∧ o ≤ 4)
        · rw [lw9__9 (r := r) (a := a) (k := k) (s := s) (q := q) (o := o) c1 c2 c3 z4 c6 c9, lwR__9 (r := r) (a := b) (k := k) (s := s) (q := q) (o := o) (show ¬ (b 103 3 ≠ 1) by omega) (show ¬ (¬ (((r 0 = 0 ∧ 0 ≤ k ∧ k ≤ 5) ∨ (r 0 = 1 ∧ (k = 1 ∨ k = 5)) ∨ (r 0 = 2 ∧ (k = 1 ∨ k = 6)) ∨ (¬ r 0 = 0 ∧ ¬ r 0 = 1 ∧ ¬ r 0 = 2 ∧ 1 ≤ k ∧ k ≤ 4)) ∧ ((r 0 = 0 ∧ k = 0) ∨ (0 ≤ s ∧ s ≤ 1)))) by omega) (show ¬ ((r 0 = 0 ∧ (k = 1 ∨ k = 2) ∧ b 103 4 = 1) ∨ (r 0 = 3 ∧ b 103 5 ≠ s)) by omega) (show (r 0 = 0 ∧ 0 < k) ∨ (r 0 = 1 ∧ k = 5) by omega) z5 c6 c9]
        · rw [lw9__10 (r := r) (a := a) (k := k) (s := s) (q := q) (o := o) c1 c2 c3 z4 c6 c9, lwR__10 (r := r) (a := b) (k := k) (s := s) (q := q) (o := o) (show ¬ (b 103 3 ≠ 1) by omega) (show ¬ (¬ (((r 0 = 0 ∧ 0 ≤ k ∧ k ≤ 5) ∨ (r 0 = 1 ∧ (k = 1 ∨ k = 5)) ∨ (r 0 = 2 ∧ (k = 1 ∨ k = 6)) ∨ (¬ r 0 = 0 ∧ ¬ r 0 = 1 ∧ ¬ r 0 = 2 ∧ 1 ≤ k ∧ k ≤ 4)) ∧ ((r 0 = 0 ∧ k = 0) ∨ (0 ≤ s ∧ s ≤ 1)))) by omega) (show ¬ ((r 0 = 0 ∧ (k = 1 ∨ k = 2) ∧ b 103 4 = 1) ∨ (r 0 = 3 ∧ b 103 5 ≠ s)) by omega) (show (r 0 = 0 ∧ 0 < k) ∨ (r 0 = 1 ∧ k = 5) by omega) z5 c6 c9]
  · have z4 : ¬ ((k = 5 ∨ (r 0 = 0 ∧ k ≠ 0)) ∧ fp9_ a s q = -1) := fun y => c5 y.1
    have c6 : ¬ (k = 5) := by omega
    by_cases c9 : r 0 ≠ 3 ∨ k ≠ 1 ∨ (1 ≤ o ∧ o ≤ 4)
    · rw [lw9__9 (r := r) (a := a) (k := k) (s := s) (q := q) (o := o) c1 c2 c3 z4 c6 c9, lwR__11 (r := r) (a := b) (k := k) (s := s) (q := q) (o := o) (show ¬ (b 103 3 ≠ 1) by omega) (show ¬ (¬ (((r 0 = 0 ∧ 0 ≤ k ∧ k ≤ 5) ∨ (r 0 = 1 ∧ (k = 1 ∨ k = 5)) ∨ (r 0 = 2 ∧ (k = 1 ∨ k = 6)) ∨ (¬ r 0 = 0 ∧ ¬ r 0 = 1 ∧ ¬ r 0 = 2 ∧ 1 ≤ k ∧ k ≤ 4)) ∧ ((r 0 = 0 ∧ k = 0) ∨ (0 ≤ s ∧ s ≤ 1)))) by omega) (show ¬ ((r 0 = 0 ∧ (k = 1 ∨ k = 2) ∧ b 103 4 = 1) ∨ (r 0 = 3 ∧ b 103 5 ≠ s)) by omega) (show ¬ ((r 0 = 0 ∧ 0 < k) ∨ (r 0 = 1 ∧ k = 5)) by omega) c9]
    · rw [lw9__10 (r := r) (a := a) (k := k) (s := s) (q := q) (o := o) c1 c2 c3 z4 c6 c9, lwR__12 (r := r) (a := b) (k := k) (s := s) (q := q) (o := o) (show ¬ (b 103 3 ≠ 1) by omega) (show ¬ (¬ (((r 0 = 0 ∧ 0 ≤ k ∧ k ≤ 5) ∨ (r 0 = 1 ∧ (k = 1 ∨ k = 5)) ∨ (r 0 = 2 ∧ (k = 1 ∨ k = 6)) ∨ (¬ r 0 = 0 ∧ ¬ r 0 = 1 ∧ ¬ r 0 = 2 ∧ 1 ≤ k ∧ k ≤ 4)) ∧ ((r 0 = 0 ∧ k = 0) ∨ (0 ≤ s ∧ s ≤ 1)))) by omega) (show ¬ ((r 0 = 0 ∧ (k = 1 ∨ k = 2) ∧ b 103 4 = 1) ∨ (r 0 = 3 ∧ b 103 5 ≠ s)) by omega) (show ¬ ((r 0 = 0 ∧ 0 < k) ∨ (r 0 = 1 ∧ k = 5)) by omega) c9]
theorem fy2_u {a : Sg_} {k : Nat} {s v : Int} (h0 : 0 ≤ s) (h1 : s ≤ 1) : fy2_ (u2_ a k s v) k 2 0 = fy2_ a k 2 0 := by
  funext K J
  by_cases z : K = k
  · subst z
    by_cases y : 0 ≤ J ∧ J < 2
    · rw [fy2_s y, fy2_s y]
    · rw [fy2_o y, fy2_o y]
      exact u2_n (fun q => by omega)
  · rw [fy2_k z, fy2_k z]
    exact u2_k z J
theorem u2_o2 {a : Sg_} {k : Nat} {s v : Int} (h0 : 0 ≤ s) (h1 : s ≤ 1) : u2_ (u2_ (u2_ a k s v) k 0 0) k 1 0 = u2_ (u2_ a k 0 0) k 1 0 := by
  rw [← fy2_2, ← fy2_2]
  exact fy2_u h0 h1
/-- tennis -/
theorem si_pt {m n : Int} {r : Int → Int} {b a : Sg_} {k s : Int} (h : SI_ m n r b a) (q : RB9_ r) (h0 : 0 ≤ s) (h1 : s ≤ 1) (r2 : r 0 = 2) (g : n + 1 ≤ 1000000) : SI_ m (n + 1) r (ptR_ r b k s) (pt9_ r a k s) := by
  have n0 := h.2.2.1
  have q4 := q.2.2.2.1
  have h9 := si_m (n' := n + 1) h (by omega) g
  have ej := eq_j h.1 h0 h1
  have et := eq_j h.1 (s := 1 - s) (by omega) (by omega)
  have d66 : b 466 s = a 466 s := ej.2.2.1
  have d66t : b 466 (1 - s) = a 466 (1 - s) := et.2.2.1
  have d67 : b 467 s = a 467 s := ej.2.2.2.1
  have d67t : b 467 (1 - s) = a 467 (1 - s) := et.2.2.2.1
  have d670 : b 467 0 = a 467 0 := h.1.2.1.2.2.1
  have d671 : b 467 1 = a 467 1 := h.1.2.1.2.2.2.1
  have d680 : b 468 0 = a 468 0 := h.1.2.1.2.2.2.2.1
  have d681 : b 468 1 = a 468 1 := h.1.2.1.2.2.2.2.2.1
  have d4 : b 103 4 = a 103 4 := h.1.2.2.1.1
  have d5 : b 103 5 = a 103 5 := h.1.2.2.1.2.1
  have b66 := h.2.2.2.1 466 s (by decide) h0 h1
  have b66t := h.2.2.2.1 466 (1 - s) (by decide) (by omega) (by omega)
  have b67 := h.2.2.2.1 467 s (by decide) h0 h1
  have b67t := h.2.2.2.1 467 (1 - s) (by decide) (by omega) (by omega)
  have b68 := h.2.2.2.1 468 s (by decide) h0 h1
  have b680 := h.2.2.2.1 468 0 (by decide) (by decide) (by decide)
  have b681 := h.2.2.2.1 468 1 (by decide) (by decide) (by decide)
  have c67 := h.2.2.2.2.2.2.2.2.1 r2 s h0 h1
  have b4 := h.2.2.2.2.1
  have b5 := h.2.2.2.2.2.1
  have t0 : s = 0 → a 468 s = a 468 0 := fun e => by rw [e]
  have t1 : s = 1 → a 468 s = a 468 1 := fun e => by rw [e]
  have w1 : wr_ (a 466 s + 1) = a 466 s + 1 := wr_9 (by omega)
  have w1b : wr_ (b 466 s + 1) = a 466 s + 1 := by rw [d66]; exact w1
  have w2 : wr_ (wr_ (a 466 s + 1) - a 466 (1 - s)) = a 466 s + 1 - a 466 (1 - s) := by rw [w1]; exact wr_9 (by omega)
  have w3 : wr_ (b 466 (1 - s) + 2) = a 466 (1 - s) + 2 := by rw [d66t]; exact wr_9 (by omega)
  have w4 : wr_ (a 467 s + 1) = a 467 s + 1 := wr_9 (by omega)
  have w4b : wr_ (b 467 s + 1) = a 467 s + 1 := by rw [d67]; exact w4
  have w5 : wr_ (wr_ (a 467 s + 1) - a 467 (1 - s)) = a 467 s + 1 - a 467 (1 - s) := by rw [w4]; exact wr_9 (by omega)
  have w6 : wr_ (b 467 (1 - s) + 2) = a 467 (1 - s) + 2 := by rw [d67t]; exact wr_9 (by omega)
  have w7 : wr_ (r 11 + 1) = r 11 + 1 := wr_9 (by omega)
  have w8 : wr_ (a 103 4 + 1) = a 103 4 + 1 := wr_9 (by omega)
  have w8b : wr_ (b 103 4 + 1) = a 103 4 + 1 := by rw [d4]; exact w8
  have w9 : wr_ (1 - b 103 5) = 1 - a 103 5 := by rw [d5]; exact wr_9 (by omega)
  have ws : wr_ (a 468 s + 1) = a 468 s + 1 := wr_9 (by omega)
  have ws0 : wr_ (b 468 0 + 1) = a 468 0 + 1 := by rw [d680]; exact wr_9 (by omega)
  have ws1 : wr_ (b 468 1 + 1) = a 468 1 + 1 := by rw [d681]; exact wr_9 (by omega)
  by_cases k6 : k = 6
  · rw [pt9__1 (r := r) (a := a) (k := k) (s := s) k6]
    rcases (by omega : s = 0 ∨ s = 1) with z | z
    · subst z
      rw [ptR__2 (r := r) (a := b) (k := k) (s := 0) k6 (by decide), u2_m (a := u2_ b 103 3 2) (k := 468) (j := 0) (v := b 468 0) (u2_k (by decide) 0), u2_c (a := b) (k := 103) (j := 3) (k' := 468) (j' := 1) (by decide), show (1 : Int) - 0 = 1 by decide]
      exact si_w (si_u h9 (Or.inl (by decide)) (by omega) (fun z => absurd z (by decide)) (fun z => absurd z (by decide)) (fun z => absurd z (by decide))) (Or.inr ⟨rfl, rfl⟩)
    · subst z
      rw [ptR__1 (r := r) (a := b) (k := k) (s := 1) k6 rfl, u2_m (a := u2_ (u2_ b 103 3 2) 468 0 2) (k := 468) (j := 1) (v := b 468 1) ((u2_n (fun e => absurd e.2 (by decide))).trans (u2_k (by decide) 1)), u2_c (a := b) (k := 103) (j := 3) (k' := 468) (j' := 0) (by decide), show (1 : Int) - 1 = 0 by decide]
      exact si_w (si_u h9 (Or.inl (by decide)) (by omega) (fun z => absurd z (by decide)) (fun z => absurd z (by decide)) (fun z => absurd z (by decide))) (Or.inr ⟨rfl, rfl⟩)
  have hp : SI_ m (n + 1) r (u2_ b 466 s (a 466 s + 1)) (u2_ a 466 s (a 466 s + 1)) := si_u h9 (Or.inl (by decide)) (by omega) (fun z => absurd z (by decide)) (fun z => absurd z (by decide)) (fun z => absurd z (by decide))
  have hq := si_z hp q (k := 466) (Or.inl rfl)
  have hg : a 467 s + 1 ≤ r 11 → SI_ m (n + 1) r (u2_ (u2_ (u2_ (u2_ b 466 s (a 466 s + 1)) 466 0 0) 466 1 0) 467 s (a 467 s + 1)) (u2_ (fy2_ (u2_ a 466 s (a 466 s + 1)) 466 2 0) 467 s (a 467 s + 1)) := fun y => si_u hq (Or.inl (by decide)) (by omega) (fun z => absurd z (by decide)) (fun _ => ⟨fun z => by omega, fun _ => y⟩) (fun z => absurd z (by decide))
  have hs : SI_ m (n + 1) r (adR_ (u2_ (u2_ (u2_ (u2_ (u2_ (u2_ b 466 s (a 466 s + 1)) 466 0 0) 466 1 0) 467 s (a 467 s + 1)) 467 0 0) 467 1 0) s 1) (u2_ (fy2_ (u2_ (fy2_ (u2_ a 466 s (a 466 s + 1)) 466 2 0) 467 s (a 467 s + 1)) 467 2 0) 468 s (a 468 s + 1)) := by
    rw [fy2_u h0 h1, u2_o2 h0 h1]
    refine si_ad (si_z hq q (k := 467) (Or.inr rfl)) h0 h1 ?_ (by omega)
    rw [fy2_k (by decide), fy2_k (by decide), u2_k (by decide)]
    exact ws.symm
  by_cases c1 : a 467 0 = r 11 ∧ a 467 1 = r 11
  · by_cases c2 : 7 ≤ a 466 s + 1 ∧ 2 ≤ a 466 s + 1 - a 466 (1 - s)
    · by_cases c3 : (r 11 ≤ a 467 s + 1 ∧ 2 ≤ a 467 s + 1 - a 467 (1 - s)) ∨ r 11 < a 467 s + 1
      · by_cases c4 : a 468 s + 1 = 2
        · rw [pt9__2 (r := r) (a := a) (k := k) (s := s) k6 c1 (by omega) (by omega) (by omega), ptR__3 (r := r) (a := b) (k := k) (s := s) k6 (by omega) (by omega) (by omega) (by omega), w1, w1b, w4, w4b, ws]
          exact si_w hs (Or.inr ⟨rfl, rfl⟩)
        · rw [pt9__3 (r := r) (a := a) (k := k) (s := s) k6 c1 (by omega) (by omega) (by omega), ptR__4 (r := r) (a := b) (k := k) (s := s) k6 (by omega) (by omega) (by omega) (by omega), w1, w1b, w4, w4b, ws, w8, w8b, w9]
          exact si_u (si_u hs (Or.inr ⟨rfl, Or.inl rfl⟩) (by omega) (fun _ z => absurd z (by decide)) (fun z => absurd z (by decide)) (fun z => absurd z (by decide))) (Or.inr ⟨rfl, Or.inr rfl⟩) (by omega) (fun _ _ => by omega) (fun z => absurd z (by decide)) (fun z => absurd z (by decide))
      · rw [pt9__4 (r := r) (a := a) (k := k) (s := s) k6 c1 (by omega) (by omega), ptR__5 (r := r) (a := b) (k := k) (s := s) k6 (by omega) (by omega) (by omega), w1, w1b, w4, w4b, w9]
        exact si_u (hg (by omega)) (Or.inr ⟨rfl, Or.inr rfl⟩) (by omega) (fun _ _ => by omega) (fun z => absurd z (by decide)) (fun z => absurd z (by decide))
    · rw [pt9__5 (r := r) (a := a) (k := k) (s := s) k6 c1 (by omega), ptR__6 (r := r) (a := b) (k := k) (s := s) k6 (by omega) (by omega), w1, w1b]
      exact hp
  · by_cases c2 : 4 ≤ a 466 s + 1 ∧ 2 ≤ a 466 s + 1 - a 466 (1 - s)
    · by_cases c3 : (r 11 ≤ a 467 s + 1 ∧ 2 ≤ a 467 s + 1 - a 467 (1 - s)) ∨ r 11 < a 467 s + 1
      · by_cases c4 : a 468 s + 1 = 2
        · rw [pt9__6 (r := r) (a := a) (k := k) (s := s) k6 c1 (by omega) (by omega) (by omega), ptR__7 (r := r) (a := b) (k := k) (s := s) k6 (by omega) (by omega) (by omega) (by omega), w1, w1b, w4, w4b, ws]
          exact si_w hs (Or.inr ⟨rfl, rfl⟩)
        · rw [pt9__7 (r := r) (a := a) (k := k) (s := s) k6 c1 (by omega) (by omega) (by omega), ptR__8 (r := r) (a := b) (k := k) (s := s) k6 (by omega) (by omega) (by omega) (by omega), w1, w1b, w4, w4b, ws, w8, w8b, w9]
          exact si_u (si_u hs (Or.inr ⟨rfl, Or.inl rfl⟩) (by omega) (fun _ z => absurd z (by decide)) (fun z => absurd z (by decide)) (fun z => absurd z (by decide))) (Or.inr ⟨rfl, Or.inr rfl⟩) (by omega) (fun _ _ => by omega) (fun z => absurd z (by decide)) (fun z => absurd z (by decide))
      · rw [pt9__8 (r := r) (a := a) (k := k) (s := s) k6 c1 (by omega) (by omega), ptR__9 (r := r) (a := b) (k := k) (s := s) k6 (by omega) (by omega) (by omega), w1, w1b, w4, w4b, w9]
        exact si_u (hg (by omega)) (Or.inr ⟨rfl, Or.inr rfl⟩) (by omega) (fun _ _ => by omega) (fun z => absurd z (by decide)) (fun z => absurd z (by decide))
    · rw [pt9__9 (r := r) (a := a) (k := k) (s := s) k6 c1 (by omega), ptR__10 (r := r) (a := b) (k := k) (s := s) k6 (by omega) (by omega), w1, w1b]
      exact hp
theorem dr_2 {x : Int} (h : 0 ≤ x ∧ x ≤ 2147483647) : dr_ x 2 = an_ x 1 := by
  have e1 : an_ x 1 = x % 2 := by
    rw [an_n h (by decide), show (1 : Int).toNat = 1 by decide, Nat.and_one_is_mod]
    omega
  rw [e1]
  unfold dr_
  have e2 : (Int32.ofInt x).toInt = x := by
    rw [Int32.toInt_ofInt_of_le (by omega) (by omega)]
  have e3 : (Int32.ofInt x / Int32.ofInt 2).toInt = x / 2 := by
    rw [Int32.toInt_div_of_ne_right (by decide), e2]
    show Int.tdiv x 2 = x / 2
    rw [Int.tdiv_eq_ediv_of_nonneg (by omega)]
  rw [Int32.toInt_sub, Int32.toInt_mul, e2, e3]
  show Int.bmod (x - Int.bmod (x / 2 * 2) _) _ = x % 2
  rw [Int.bmod_eq_of_le (by omega) (by omega), Int.bmod_eq_of_le (by omega) (by omega)]
  omega
/-- volleyball, a point, when the server is settled -/
theorem si_vo {m n : Int} {r : Int → Int} {b a b1 a1 : Sg_} {s : Int} (h : SI_ m n r b a) (hh : SI_ m n r b1 a1) (e8 : ∀ j, a1 468 j = a 468 j) (q : RB9_ r) (h0 : 0 ≤ s) (h1 : s ≤ 1) (r2 : r 0 = 1) (g : n + 1 ≤ 1000000) :
    SI_ m (n + 1) r (u2_ (u2_ b1 103 5 s) 466 s (a 466 s + 1)) (u2_ (u2_ a1 103 5 s) 466 s (a 466 s + 1)) ∧
    SI_ m (n + 1) r (adR_ (u2_ (u2_ (u2_ (u2_ b1 103 5 s) 466 s (a 466 s + 1)) 466 0 0) 466 1 0) s 1) (u2_ (fy2_ (u2_ (u2_ a1 103 5 s) 466 s (a 466 s + 1)) 466 2 0) 468 s (a 468 s + 1)) := by
  have n0 := h.2.2.1
  have b66 := h.2.2.2.1 466 s (by decide) h0 h1
  have b68 := h.2.2.2.1 468 s (by decide) h0 h1
  have ws : wr_ (a 468 s + 1) = a 468 s + 1 := wr_9 (by omega)
  have hc : SI_ m (n + 1) r (u2_ (u2_ b1 103 5 s) 466 s (a 466 s + 1)) (u2_ (u2_ a1 103 5 s) 466 s (a 466 s + 1)) := si_u (si_u (si_m hh (by omega) g) (Or.inr ⟨rfl, Or.inr rfl⟩) (by omega) (fun _ _ => by omega) (fun z => absurd z (by decide)) (fun z => absurd z (by decide))) (Or.inl (by decide)) (by omega) (fun z => absurd z (by decide)) (fun z => absurd z (by decide)) (fun z => absurd z (by decide))
  refine ⟨hc, si_ad (si_z hc q (k := 466) (Or.inl rfl)) h0 h1 ?_ (by omega)⟩
  rw [fy2_k (by decide), u2_k (by decide), u2_k (by decide), e8]
  exact ws.symm
theorem si_pv {m n : Int} {r : Int → Int} {b a : Sg_} {k s x y : Int} (h : SI_ m n r b a) (hr : SI_ m n r (rtR_ b s) (rt9_ a s)) (q : RB9_ r) (h0 : 0 ≤ s) (h1 : s ≤ 1) (k1 : k = 1) (r2 : r 0 = 1) (g : n + 1 ≤ 1000000) : SI_ m (n + 1) r (pvR_ r b m k s x y) (pv9_ r a s) := by
  have n0 := h.2.2.1
  have q4 := q.2.2.2.1
  have ej := eq_j h.1 h0 h1
  have et := eq_j h.1 (s := 1 - s) (by omega) (by omega)
  have d66 : b 466 s = a 466 s := ej.2.2.1
  have d66t : b 466 (1 - s) = a 466 (1 - s) := et.2.2.1
  have d680 : b 468 0 = a 468 0 := h.1.2.1.2.2.2.2.1
  have d681 : b 468 1 = a 468 1 := h.1.2.1.2.2.2.2.2.1
  have d4 : b 103 4 = a 103 4 := h.1.2.2.1.1
  have d5 : b 103 5 = a 103 5 := h.1.2.2.1.2.1
  have b66 := h.2.2.2.1 466 s (by decide) h0 h1
  have b66t := h.2.2.2.1 466 (1 - s) (by decide) (by omega) (by omega)
  have b68 := h.2.2.2.1 468 s (by decide) h0 h1
  have b680 := h.2.2.2.1 468 0 (by decide) (by decide) (by decide)
  have b681 := h.2.2.2.1 468 1 (by decide) (by decide) (by decide)
  have b4 := h.2.2.2.2.1
  have t0 : s = 0 → a 468 s = a 468 0 := fun e => by rw [e]
  have t1 : s = 1 → a 468 s = a 468 1 := fun e => by rw [e]
  have w1 : wr_ (a 466 s + 1) = a 466 s + 1 := wr_9 (by omega)
  have w1b : wr_ (b 466 s + 1) = a 466 s + 1 := by rw [d66]; exact w1
  have w2 : wr_ (wr_ (a 466 s + 1) - a 466 (1 - s)) = a 466 s + 1 - a 466 (1 - s) := by rw [w1]; exact wr_9 (by omega)
  have w3 : wr_ (b 466 (1 - s) + 2) = a 466 (1 - s) + 2 := by rw [d66t]; exact wr_9 (by omega)
  have w8 : wr_ (a 103 4 + 1) = a 103 4 + 1 := wr_9 (by omega)
  have w8b : wr_ (b 103 4 + 1) = a 103 4 + 1 := by rw [d4]; exact w8
  have ws : wr_ (a 468 s + 1) = a 468 s + 1 := wr_9 (by omega)
  have ws0 : wr_ (b 468 0 + 1) = a 468 0 + 1 := by rw [d680]; exact wr_9 (by omega)
  have ws1 : wr_ (b 468 1 + 1) = a 468 1 + 1 := by rw [d681]; exact wr_9 (by omega)
  have dd : dr_ (a 103 4 + 1) 2 = an_ (a 103 4 + 1) 1 := dr_2 (by omega)
  have ab := an_1b (a 103 4 + 1)
  have k5 : ¬ (k = 5) := by omega
  have e8 : ∀ j, rt9_ a s 468 j = a 468 j := fun j => (u2_k (by decide) j).trans (cg9_k (by decide) j)
  by_cases c1 : a 103 5 = s
  · obtain ⟨hc, hs⟩ := si_vo h h (fun _ => rfl) q h0 h1 r2 g
    by_cases c2 : a 103 4 = 4
    · by_cases c3 : (3 * r 11 + 4) / 5 ≤ a 466 s + 1 ∧ 2 ≤ a 466 s + 1 - a 466 (1 - s)
      · by_cases c4 : a 468 s + 1 = 3
        · rw [pv9__1 (r := r) (a := a) (s := s) c1 c2 (by omega) (by omega), pvR__2 (r := r) (a := b) (m := m) (k := k) (s := s) (q := x) (o := y) k5 (by omega) (by omega) (by omega) (by omega), w1, w1b, ws]
          exact si_w hs (Or.inr ⟨rfl, rfl⟩)
        · rw [pv9__2 (r := r) (a := a) (s := s) c1 c2 (by omega) (by omega), pvR__3 (r := r) (a := b) (m := m) (k := k) (s := s) (q := x) (o := y) k5 (by omega) (by omega) (by omega) (by omega), w1, w1b, ws, w8, w8b, dd]
          exact si_u (si_u hs (Or.inr ⟨rfl, Or.inl rfl⟩) (by omega) (fun _ z => absurd z (by decide)) (fun z => absurd z (by decide)) (fun z => absurd z (by decide))) (Or.inr ⟨rfl, Or.inr rfl⟩) (by omega) (fun _ _ => by omega) (fun z => absurd z (by decide)) (fun z => absurd z (by decide))
      · rw [pv9__3 (r := r) (a := a) (s := s) c1 c2 (by omega), pvR__4 (r := r) (a := b) (m := m) (k := k) (s := s) (q := x) (o := y) k5 (by omega) (by omega) (by omega), w1, w1b]
        exact hc
    · by_cases c3 : r 11 ≤ a 466 s + 1 ∧ 2 ≤ a 466 s + 1 - a 466 (1 - s)
      · by_cases c4 : a 468 s + 1 = 3
        · rw [pv9__4 (r := r) (a := a) (s := s) c1 c2 (by omega) (by omega), pvR__5 (r := r) (a := b) (m := m) (k := k) (s := s) (q := x) (o := y) k5 (by omega) (by omega) (by omega) (by omega), w1, w1b, ws]
          exact si_w hs (Or.inr ⟨rfl, rfl⟩)
        · rw [pv9__5 (r := r) (a := a) (s := s) c1 c2 (by omega) (by omega), pvR__6 (r := r) (a := b) (m := m) (k := k) (s := s) (q := x) (o := y) k5 (by omega) (by omega) (by omega) (by omega), w1, w1b, ws, w8, w8b, dd]
          exact si_u (si_u hs (Or.inr ⟨rfl, Or.inl rfl⟩) (by omega) (fun _ z => absurd z (by decide)) (fun z => absurd z (by decide)) (fun z => absurd z (by decide))) (Or.inr ⟨rfl, Or.inr rfl⟩) (by omega) (fun _ _ => by omega) (fun z => absurd z (by decide)) (fun z => absurd z (by decide))
      · rw [pv9__6 (r := r) (a := a) (s := s) c1 c2 (by omega), pvR__7 (r := r) (a := b) (m := m) (k := k) (s := s) (q := x) (o := y) k5 (by omega) (by omega) (by omega), w1, w1b]
        exact hc
  · obtain ⟨hc, hs⟩ := si_vo h hr e8 q h0 h1 r2 g
    by_cases c2 : a 103 4 = 4
    · by_cases c3 : (3 * r 11 + 4) / 5 ≤ a 466 s + 1 ∧ 2 ≤ a 466 s + 1 - a 466 (1 - s)
      · by_cases c4 : a 468 s + 1 = 3
        · rw [pv9__7 (r := r) (a := a) (s := s) c1 c2 (by omega) (by omega), pvR__8 (r := r) (a := b) (m := m) (k := k) (s := s) (q := x) (o := y) k5 (by omega) (by omega) (by omega) (by omega), w1, w1b, ws]
          exact si_w hs (Or.inr ⟨rfl, rfl⟩)
        · rw [pv9__8 (r := r) (a := a) (s := s) c1 c2 (by omega) (by omega), pvR__9 (r := r) (a := b) (m := m) (k := k) (s := s) (q := x) (o := y) k5 (by omega) (by omega) (by omega) (by omega), w1, w1b, ws, w8, w8b, dd]
          exact si_u (si_u hs (Or.inr ⟨rfl, Or.inl rfl⟩) (by omega) (fun _ z => absurd z (by decide)) (fun z => absurd z (by decide)) (fun z => absurd z (by decide))) (Or.inr ⟨rfl, Or.inr rfl⟩) (by omega) (fun _ _ => by omega) (fun z => absurd z (by decide)) (fun z => absurd z (by decide))
      · rw [pv9__9 (r := r) (a := a) (s := s) c1 c2 (by omega), pvR__10 (r := r) (a := b) (m := m) (k := k) (s := s) (q := x) (o := y) k5 (by omega) (by omega) (by omega), w1, w1b]
        exact hc
    · by_cases c3 : r 11 ≤ a 466 s + 1 ∧ 2 ≤ a 466 s + 1 - a 466 (1 - s)
      · by_cases c4 : a 468 s + 1 = 3
        · rw [pv9__10 (r := r) (a := a) (s := s) c1 c2 (by omega) (by omega), pvR__11 (r := r) (a := b) (m := m) (k := k) (s := s) (q := x) (o := y) k5 (by omega) (by omega) (by omega) (by omega), w1, w1b, ws]
          exact si_w hs (Or.inr ⟨rfl, rfl⟩)
        · rw [pv9__11 (r := r) (a := a) (s := s) c1 c2 (by omega) (by omega), pvR__12 (r := r) (a := b) (m := m) (k := k) (s := s) (q := x) (o := y) k5 (by omega) (by omega) (by omega) (by omega), w1, w1b, ws, w8, w8b, dd]
          exact si_u (si_u hs (Or.inr ⟨rfl, Or.inl rfl⟩) (by omega) (fun _ z => absurd z (by decide)) (fun z => absurd z (by decide)) (fun z => absurd z (by decide))) (Or.inr ⟨rfl, Or.inr rfl⟩) (by omega) (fun _ _ => by omega) (fun z => absurd z (by decide)) (fun z => absurd z (by decide))
      · rw [pv9__12 (r := r) (a := a) (s := s) c1 c2 (by omega), pvR__13 (r := r) (a := b) (m := m) (k := k) (s := s) (q := x) (o := y) k5 (by omega) (by omega) (by omega), w1, w1b]
        exact hc
