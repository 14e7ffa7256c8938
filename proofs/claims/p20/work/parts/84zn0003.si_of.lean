/-- one is sent off: the field, the roles -/
theorem si_of {m n : Int} {r : Int → Int} {b a : Sg_} {s k : Int} (h : SI_ m n r b a) (h0 : 0 ≤ s) (h1 : s ≤ 1) (k0 : 0 ≤ k) (k1 : k < a 470 s) :
    (cpR_ (u2_ (u2_ b 474 (a 471 (s * 6 + k)) 1) 472 (a 471 (s * 6 + k)) 2) s (20 * m + a 471 (s * 6 + k)) (b 470 s).toNat).2 = a 470 s - 1 ∧
    SI_ m n r (u2_ (cpR_ (u2_ (u2_ b 474 (a 471 (s * 6 + k)) 1) 472 (a 471 (s * 6 + k)) 2) s (20 * m + a 471 (s * 6 + k)) (b 470 s).toNat).1 470 s (cpR_ (u2_ (u2_ b 474 (a 471 (s * 6 + k)) 1) 472 (a 471 (s * 6 + k)) 2) s (20 * m + a 471 (s * 6 + k)) (b 470 s).toNat).2) (u2_ (cg9_ (u2_ a 472 (a 471 (s * 6 + k)) 3) s k) 470 s (a 470 s - 1)) := by
  have ej := eq_j h.1 h0 h1
  have e70 : b 470 s = a 470 s := ej.2.1
  have e4 := h.1.2.2.2.1
  have e5 := h.1.2.2.2.2
  obtain ⟨w1, w2, w3, w4, w5⟩ := h.2.1
  have ws := w1 s h0 h1
  have g := w2 s (s * 6 + k) h0 h1 (by omega) (by omega)
  generalize hx : a 471 (s * 6 + k) = x at g ⊢
  generalize hc : u2_ (u2_ b 474 x 1) 472 x 2 = c
  have c71 : ∀ J, c 471 J = b 471 J := fun J => by rw [← hc, u2_k (by decide), u2_k (by decide)]
  have ck : ∀ (K : Nat) (J : Int), K ≠ 472 → K ≠ 474 → c K J = b K J := fun K J d e => by rw [← hc, u2_k d, u2_k e]
  have u1 : c 471 (6 * s + k) = 20 * m + x := by
    rw [c71, show 6 * s + k = s * 6 + k by omega, e4 s _ h0 h1 (by omega) (by omega), hx]
  have u2 : ∀ i, 0 ≤ i → i < a 470 s → c 471 (6 * s + i) = 20 * m + x → i = k := by
    intro i i0 i1 e
    rw [c71, show 6 * s + i = s * 6 + i by omega, e4 s _ h0 h1 (by omega) (by omega)] at e
    have := w4 s (s * 6 + i) (s * 6 + k) h0 h1 (by omega) (by omega) (by omega) (by omega) (by rw [hx]; omega)
    omega
  have en : ((b 470 s).toNat : Int) = a 470 s := by omega
  rcases cp_v k0 u1 u2 (b 470 s).toNat (by omega) with ⟨v1, _⟩ | ⟨_, v2, v3, v4⟩
  · omega
  rw [en] at v2 v4
  refine ⟨v2, ?_⟩
  generalize hp : cpR_ c s (20 * m + x) (b 470 s).toNat = p at v2 v3 v4 ⊢
  generalize hA : u2_ (cg9_ (u2_ a 472 x 3) s k) 470 s (a 470 s - 1) = A
  generalize hB : u2_ p.1 470 s p.2 = B
  -- the cells of both
  have Ak : ∀ (K : Nat) (J : Int), K ≠ 470 → K ≠ 471 → K ≠ 472 → A K J = a K J := fun K J d e f => by rw [← hA, u2_k d, cg9_k e, u2_k f]
  have Bk : ∀ (K : Nat) (J : Int), K ≠ 470 → K ≠ 471 → K ≠ 472 → K ≠ 474 → B K J = b K J := fun K J d e f g => by rw [← hB, u2_k d, v3 K J e, ck K J f g]
  have A70 : A 470 s = a 470 s - 1 := by rw [← hA, u2_s]
  have B70 : B 470 s = a 470 s - 1 := by rw [← hB, u2_s, v2]
  have A7o : ∀ t, t ≠ s → A 470 t = a 470 t := fun t d => by rw [← hA, u2_n (fun q => d q.2), cg9_k (by decide), u2_k (by decide)]
  have B7o : ∀ t, t ≠ s → B 470 t = b 470 t := fun t d => by rw [← hB, u2_n (fun q => d q.2), v3 470 t (by decide), ck 470 t (by decide) (by decide)]
  have A72 : A 472 x = 3 := by rw [← hA, u2_k (by decide), cg9_k (by decide), u2_s]
  have A72o : ∀ y, y ≠ x → A 472 y = a 472 y := fun y d => by rw [← hA, u2_k (by decide), cg9_k (by decide), u2_n (fun q => d q.2)]
  have B72 : B 472 x = 2 := by rw [← hB, u2_k (by decide), v3 472 x (by decide), ← hc, u2_s]
  have B72o : ∀ y, y ≠ x → B 472 y = b 472 y := fun y d => by rw [← hB, u2_k (by decide), v3 472 y (by decide), ← hc, u2_n (fun q => d q.2), u2_k (by decide)]
  have B74 : B 474 x = 1 := by rw [← hB, u2_k (by decide), v3 474 x (by decide), ← hc, u2_k (by decide), u2_s]
  have B74o : ∀ y, y ≠ x → B 474 y = b 474 y := fun y d => by rw [← hB, u2_k (by decide), v3 474 y (by decide), ← hc, u2_k (by decide), u2_n (fun q => d q.2)]
  have a70 : u2_ a 472 x 3 470 s = a 470 s := u2_k (by decide) s
  have A71 : ∀ J, A 471 J = if s * 6 + k ≤ J ∧ J < s * 6 + a 470 s - 1 then a 471 (J + 1) else a 471 J := fun J => by
    rw [← hA, u2_k (by decide)]
    by_cases y : s * 6 + k ≤ J ∧ J < s * 6 + a 470 s - 1
    · rw [if_pos y, cg9_i (by omega), u2_k (by decide)]
    · rw [if_neg y, cg9_o (by omega), u2_k (by decide)]
  have B71 : ∀ J, B 471 J = if s * 6 + k ≤ J ∧ J < s * 6 + a 470 s - 1 then b 471 (J + 1) else b 471 J := fun J => by
    rw [← hB, u2_k (by decide), v4]
    by_cases y : s * 6 + k ≤ J ∧ J < s * 6 + a 470 s - 1
    · rw [if_pos y, if_pos (by omega), c71]
    · rw [if_neg y, if_neg (by omega), c71]
  have p9 : ∀ t z, 0 ≤ t → t ≤ 1 → t * 6 ≤ z → z < t * 6 + A 470 t → ∃ y, t * 6 ≤ y ∧ y < t * 6 + a 470 t ∧ y ≠ s * 6 + k ∧ A 471 z = a 471 y ∧ B 471 z = b 471 y ∧ ((t = s ∧ z < s * 6 + k ∧ y = z) ∨ (t = s ∧ s * 6 + k ≤ z ∧ y = z + 1) ∨ (t ≠ s ∧ y = z)) := by
    intro t z t0 t1 z0 z1
    have v := w1 t t0 t1
    by_cases d : t = s
    · subst d
      rw [A70] at z1
      by_cases y : z < t * 6 + k
      · exact ⟨z, by omega, by omega, by omega, by rw [A71, if_neg (by omega)], by rw [B71, if_neg (by omega)], Or.inl ⟨rfl, y, rfl⟩⟩
      · exact ⟨z + 1, by omega, by omega, by omega, by rw [A71, if_pos (by omega)], by rw [B71, if_pos (by omega)], Or.inr (Or.inl ⟨rfl, by omega, rfl⟩)⟩
    · rw [A7o t d] at z1
      exact ⟨z, z0, z1, by omega, by rw [A71, if_neg (by omega)], by rw [B71, if_neg (by omega)], Or.inr (Or.inr ⟨d, rfl⟩)⟩
  refine ⟨?_, ?_, wbp_e h.2.2 Ak⟩
  · refine eqp_e h.1 Bk Ak ?_ ?_ ?_
    · rcases (by omega : s = 0 ∨ s = 1) with d | d
      · rw [d] at A70 B70
        rw [A70, B70, A7o 1 (by omega), B7o 1 (by omega)]
        exact ⟨rfl, h.1.1.2.2.2⟩
      · rw [d] at A70 B70
        rw [A70, B70, A7o 0 (by omega), B7o 0 (by omega)]
        exact ⟨h.1.1.2.2.1, rfl⟩
    · intro t z t0 t1 z0 z1
      obtain ⟨y, y0, y1, _, y2, y3, _⟩ := p9 t z t0 t1 z0 z1
      rw [y2, y3]
      exact e4 t y t0 t1 y0 y1
    · intro t z t0 t1 z0 z1
      by_cases d : z = x
      · rw [d]; exact Or.inl ⟨A72, B72, B74⟩
      · rw [A72o z d, B72o z d, B74o z d]
        exact (e5 t z t0 t1 z0 z1).2.2
  · have A48 : ∀ J, A 448 J = a 448 J := fun J => Ak 448 J (by decide) (by decide) (by decide)
    have A49 : ∀ J, A 449 J = a 449 J := fun J => Ak 449 J (by decide) (by decide) (by decide)
    unfold WS_
    simp only [A48, A49]
    refine ⟨?_, ?_, ?_, ?_, w5⟩
    · intro t t0 t1
      have v := w1 t t0 t1
      by_cases d : t = s
      · subst d; rw [A70]; omega
      · rw [A7o t d]; exact v
    · intro t z t0 t1 z0 z1
      obtain ⟨y, y0, y1, y9, y2, _, _⟩ := p9 t z t0 t1 z0 z1
      have f := w2 t y t0 t1 y0 y1
      have ne : a 471 y ≠ x := fun e => by
        by_cases d : t = s
        · subst d
          exact y9 (w4 t y (t * 6 + k) t0 t1 y0 y1 (by omega) (by omega) (by rw [hx]; exact e))
        · have v9 := w1 t t0 t1
          omega
      rw [y2, A72o _ ne]
      exact f
    · intro t z t0 t1 z0 z1 e
      have ne : z ≠ x := fun d => by rw [d, A72] at e; exact absurd e (by decide)
      rw [A72o z ne] at e
      obtain ⟨y, y0, y1, y2⟩ := w3 t z t0 t1 z0 z1 e
      have v := w1 t t0 t1
      by_cases d : t = s
      · subst d
        have yk : y ≠ t * 6 + k := fun f => ne (by rw [← y2, f]; exact hx)
        rw [A70]
        by_cases f : y < t * 6 + k
        · exact ⟨y, by omega, by omega, by rw [A71, if_neg (by omega)]; exact y2⟩
        · exact ⟨y - 1, by omega, by omega, by rw [A71, if_pos (by omega), show y - 1 + 1 = y by omega]; exact y2⟩
      · rw [A7o t d]
        exact ⟨y, y0, y1, by rw [A71, if_neg (by omega)]; exact y2⟩
    · intro t z z' t0 t1 z0 z1 y0 y1 e
      obtain ⟨f1, f2, f3, _, f5, _, f6⟩ := p9 t z t0 t1 z0 z1
      obtain ⟨g1, g2, g3, _, g5, _, g6⟩ := p9 t z' t0 t1 y0 y1
      rw [f5, g5] at e
      have := w4 t f1 g1 t0 t1 f2 f3 g2 g3 e
      omega
