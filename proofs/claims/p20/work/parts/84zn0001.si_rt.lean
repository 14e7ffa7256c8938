/-- the turned field -/
theorem rt_v {a : Sg_} {s x : Int} : rt9_ a s 471 x = (if x = s * 6 + a 470 s - 1 then a 471 (s * 6) else if s * 6 ≤ x ∧ x < s * 6 + a 470 s - 1 then a 471 (x + 1) else a 471 x) := by
  unfold rt9_
  by_cases z : x = s * 6 + a 470 s - 1
  · rw [if_pos z, z, u2_s]
  · rw [if_neg z, u2_n (fun q => z q.2)]
    by_cases y : s * 6 ≤ x ∧ x < s * 6 + a 470 s - 1
    · rw [if_pos y]
      exact cg9_i (by omega)
    · rw [if_neg y]
      exact cg9_o (by omega)
theorem rt_w {b : Sg_} {s x : Int} (h : 1 ≤ b 470 s) : rtR_ b s 471 x = (if x = s * 6 + b 470 s - 1 then b 471 (s * 6) else if s * 6 ≤ x ∧ x < s * 6 + b 470 s - 1 then b 471 (x + 1) else b 471 x) := by
  unfold rtR_
  by_cases z : x = s * 6 + b 470 s - 1
  · rw [if_pos z, show x = 6 * s + b 470 s - 1 by omega, u2_s, show 6 * s = s * 6 by omega]
  · rw [if_neg z, u2_n (fun q => z (by have := q.2; omega)), sh_v]
    by_cases y : s * 6 ≤ x ∧ x < s * 6 + b 470 s - 1
    · rw [if_pos y, if_pos (by omega)]
    · rw [if_neg y, if_neg (by omega)]
theorem rt_k {a : Sg_} {s : Int} {K : Nat} (h : K ≠ 471) (J : Int) : rt9_ a s K J = a K J := (u2_k h J).trans (cg9_k h J)
theorem rt_j {b : Sg_} {s : Int} {K : Nat} (h : K ≠ 471) (J : Int) : rtR_ b s K J = b K J := (u2_k h J).trans (sh_k h J _)
theorem si_rt {m n : Int} {r : Int → Int} {b a : Sg_} {s : Int} (h : SI_ m n r b a) (h0 : 0 ≤ s) (h1 : s ≤ 1) (hf : 1 ≤ a 470 s) : SI_ m n r (rtR_ b s) (rt9_ a s) := by
  have ej := eq_j h.1 h0 h1
  have e70 : b 470 s = a 470 s := ej.2.1
  have e4 := h.1.2.2.2.1
  obtain ⟨w1, w2, w3, w4, w5⟩ := h.2.1
  have ws := w1 s h0 h1
  -- where each one came from
  have p : ∀ t x, 0 ≤ t → t ≤ 1 → t * 6 ≤ x → x < t * 6 + a 470 t → ∃ y, t * 6 ≤ y ∧ y < t * 6 + a 470 t ∧ rt9_ a s 471 x = a 471 y ∧ rtR_ b s 471 x = b 471 y ∧ ((t = s ∧ y = x + 1 ∧ x < s * 6 + a 470 s - 1) ∨ (t = s ∧ y = s * 6 ∧ x = s * 6 + a 470 s - 1) ∨ (t ≠ s ∧ y = x)) := by
    intro t x t0 t1 x0 x1
    have v := w1 t t0 t1
    by_cases z : t = s
    · subst z
      by_cases y : x = t * 6 + a 470 t - 1
      · exact ⟨t * 6, by omega, by omega, by rw [rt_v, if_pos y], by rw [rt_w (by omega), if_pos (by omega)], Or.inr (Or.inl ⟨rfl, rfl, y⟩)⟩
      · exact ⟨x + 1, by omega, by omega, by rw [rt_v, if_neg y, if_pos (by omega)], by rw [rt_w (by omega), if_neg (by omega), if_pos (by omega)], Or.inl ⟨rfl, rfl, by omega⟩⟩
    · exact ⟨x, x0, x1, by rw [rt_v, if_neg (by omega), if_neg (by omega)], by rw [rt_w (by omega), if_neg (by omega), if_neg (by omega)], Or.inr (Or.inr ⟨z, rfl⟩)⟩
  have k70 : ∀ J, rt9_ a s 470 J = a 470 J := rt_k (by decide)
  have k72 : ∀ J, rt9_ a s 472 J = a 472 J := rt_k (by decide)
  have k49 : ∀ J, rt9_ a s 449 J = a 449 J := rt_k (by decide)
  have k48 : ∀ J, rt9_ a s 448 J = a 448 J := rt_k (by decide)
  refine ⟨?_, ?_, wbp_e h.2.2 (fun K J _ c _ => rt_k c J)⟩
  · refine eqp_e h.1 (fun K J _ c _ _ => rt_j c J) (fun K J _ c _ => rt_k c J) ?_ ?_ ?_
    · rw [rt_j (by decide), rt_j (by decide), k70, k70]
      exact h.1.1.2.2
    · intro t x t0 t1 x0 x1
      rw [k70] at x1
      obtain ⟨y, y0, y1, y2, y3, _⟩ := p t x t0 t1 x0 x1
      rw [y2, y3]
      exact e4 t y t0 t1 y0 y1
    · intro t x t0 t1 x0 x1
      rw [k72, rt_j (by decide), rt_j (by decide)]
      exact (h.1.2.2.2.2 t x t0 t1 x0 x1).2.2
  · unfold WS_
    simp only [k70, k72, k49, k48]
    refine ⟨w1, ?_, ?_, ?_, w5⟩
    · intro t x t0 t1 x0 x1
      obtain ⟨y, y0, y1, y2, _, _⟩ := p t x t0 t1 x0 x1
      rw [y2]
      exact w2 t y t0 t1 y0 y1
    · intro t x t0 t1 x0 x1 c
      obtain ⟨k, k0, k1, k2⟩ := w3 t x t0 t1 x0 x1 c
      have v := w1 t t0 t1
      by_cases z : t = s
      · subst z
        by_cases y : k = t * 6
        · refine ⟨t * 6 + a 470 t - 1, by omega, by omega, ?_⟩
          rw [rt_v, if_pos rfl, ← y]
          exact k2
        · refine ⟨k - 1, by omega, by omega, ?_⟩
          rw [rt_v, if_neg (by omega), if_pos (by omega), show k - 1 + 1 = k by omega]
          exact k2
      · refine ⟨k, k0, k1, ?_⟩
        rw [rt_v, if_neg (by omega), if_neg (by omega)]
        exact k2
    · intro t x y t0 t1 x0 x1 y0 y1 e
      obtain ⟨x2, x3, x4, x5, _, x6⟩ := p t x t0 t1 x0 x1
      obtain ⟨y2, y3, y4, y5, _, y6⟩ := p t y t0 t1 y0 y1
      rw [x5, y5] at e
      have := w4 t x2 y2 t0 t1 x3 x4 y3 y4 e
      omega
