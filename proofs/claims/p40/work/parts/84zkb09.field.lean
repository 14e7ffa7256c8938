-- the field of both sides: turning, going off, coming on
theorem sh_v {b : Sg_} {s : Int} : ∀ (n : Nat) (J : Int), shR_ b s n 471 J = if 6 * s ≤ J ∧ J < 6 * s + (n : Int) then b 471 (J + 1) else b 471 J
  | 0, J => by
    rw [if_neg (by omega)]
    rfl
  | n + 1, J => by
    show u2_ (shR_ b s n) 471 (6 * s + (n : Int)) (shR_ b s n 471 (6 * s + (n : Int) + 1)) 471 J = _
    by_cases z : J = 6 * s + (n : Int)
    · rw [z, u2_s, sh_v n, if_neg (by omega), if_pos (by omega)]
    · rw [u2_n (fun q => z q.2), sh_v n]
      by_cases y : 6 * s ≤ J ∧ J < 6 * s + (n : Int)
      · rw [if_pos y, if_pos (by omega)]
      · rw [if_neg y, if_neg (by omega)]
theorem sh_k {b : Sg_} {s : Int} {k : Nat} (h : k ≠ 471) (J : Int) : ∀ (n : Nat), shR_ b s n k J = b k J
  | 0 => rfl
  | n + 1 => by
    show u2_ (shR_ b s n) 471 (6 * s + (n : Int)) (shR_ b s n 471 (6 * s + (n : Int) + 1)) k J = _
    rw [u2_k h]
    exact sh_k h J n
theorem wbp_e {n : Int} {r : Int → Int} {a a' : Sg_} (h : WBP_ n r a) (e : ∀ (K : Nat) (J : Int), K ≠ 470 → K ≠ 471 → K ≠ 472 → a' K J = a K J) : WBP_ n r a' := by
  obtain ⟨h0, h1, h2, h3, h4, h5, h6, h7⟩ := h
  refine ⟨h0, fun K J q j0 j1 => ?_, ?_, ?_, fun s x s0 s1 x0 x1 => ?_, fun y => ?_, fun y J j0 j1 => ?_, fun J j0 j1 => ?_⟩
  · rw [e K J (by omega) (by omega) (by omega)]; exact h1 K J q j0 j1
  · rw [e 103 4 (by decide) (by decide) (by decide)]; exact h2
  · rw [e 103 5 (by decide) (by decide) (by decide)]; exact h3
  · rw [e 449 s (by decide) (by decide) (by decide)] at x1
    rw [e 473 x (by decide) (by decide) (by decide)]; exact h4 s x s0 s1 x0 x1
  · rw [e 467 1 (by decide) (by decide) (by decide)]; exact h5 y
  · rw [e 467 J (by decide) (by decide) (by decide)]; exact h6 y J j0 j1
  · rw [e 469 J (by decide) (by decide) (by decide)]; exact h7 J j0 j1
/-- a's cells but 470, 471, 472, and b's but 470, 471, 472, 474, stay: what is left to show -/
theorem eqp_e {m : Int} {b a b' a' : Sg_} (h : EQP_ m b a) (eb : ∀ (K : Nat) (J : Int), K ≠ 470 → K ≠ 471 → K ≠ 472 → K ≠ 474 → b' K J = b K J) (ea : ∀ (K : Nat) (J : Int), K ≠ 470 → K ≠ 471 → K ≠ 472 → a' K J = a K J)
    (g0 : b' 470 0 = a' 470 0 ∧ b' 470 1 = a' 470 1) (g1 : ∀ s x, 0 ≤ s → s ≤ 1 → s * 6 ≤ x → x < s * 6 + a' 470 s → b' 471 x = 20 * m + a' 471 x)
    (g2 : ∀ s x, 0 ≤ s → s ≤ 1 → s * 10 ≤ x → x < s * 10 + a 449 s → (a' 472 x = 3 ∧ b' 472 x = 2 ∧ b' 474 x = 1) ∨ (a' 472 x ≠ 3 ∧ b' 472 x = a' 472 x ∧ b' 474 x = 0)) : EQP_ m b' a' := by
  obtain ⟨⟨a1, a2, a3, a4⟩, ⟨b1, b2, b3, b4, b5, b6, b7, b8⟩, ⟨p4, p5, p3⟩, e4, e5⟩ := h
  have fb : ∀ (K : Nat) (J : Int), (K = 448 ∨ K = 449 ∨ K = 466 ∨ K = 467 ∨ K = 468 ∨ K = 469 ∨ K = 473 ∨ K = 103) → b' K J = b K J := fun K J c => eb K J (by omega) (by omega) (by omega) (by omega)
  have fa : ∀ (K : Nat) (J : Int), (K = 448 ∨ K = 449 ∨ K = 466 ∨ K = 467 ∨ K = 468 ∨ K = 469 ∨ K = 473 ∨ K = 103) → a' K J = a K J := fun K J c => ea K J (by omega) (by omega) (by omega)
  unfold EQP_
  simp only [fb 449 _ (by decide), fa 449 _ (by decide), fb 466 _ (by decide), fa 466 _ (by decide), fb 467 _ (by decide), fa 467 _ (by decide), fb 468 _ (by decide), fa 468 _ (by decide), fb 469 _ (by decide), fa 469 _ (by decide), fb 103 _ (by decide), fa 103 _ (by decide), fb 448 _ (by decide), fa 448 _ (by decide), fb 473 _ (by decide), fa 473 _ (by decide)]
  exact ⟨⟨a1, a2, g0.1, g0.2⟩, ⟨b1, b2, b3, b4, b5, b6, b7, b8⟩, ⟨p4, p5, p3⟩, g1, fun s x s0 s1 x0 x1 => ⟨(e5 s x s0 s1 x0 x1).1, (e5 s x s0 s1 x0 x1).2.1, g2 s x s0 s1 x0 x1⟩⟩
/-- the turned field -/
theorem rt_v {a : Sg_} {s x : Int} : rt9_ a s 471 x = (if x = s * 6 + a 470 s - 1 then a 471 (s * 6) else if s * 6 ≤ x ∧ x < s * 6 + a 470 s - 1 then a 471 (x + 1) else a 471 x) := by
  unfold rt9_
  by_cases z : x = s * 6 + a 470 s - 1
  · rw [if_pos z, z, u2_s]
  · rw [if_neg z, u2_n (fun q => z q.2)]
    by_cases y : s * 6 ≤ x ∧ x < s * 6 + a 470 s - 1
    · rw [if_pos y]
      exact cg9_i (by omega)
    · rw [if_neg y]
      exact cg9_o (by omega)
theorem rt_w {b : Sg_} {s x : Int} (h : 1 ≤ b 470 s) : rtR_ b s 471 x = (if x = s * 6 + b 470 s - 1 then b 471 (s * 6) else if s * 6 ≤ x ∧ x < s * 6 + b 470 s - 1 then b 471 (x + 1) else b 471 x) := by
  unfold rtR_
  by_cases z : x = s * 6 + b 470 s - 1
  · rw [if_pos z, show x = 6 * s + b 470 s - 1 by omega, u2_s, show 6 * s = s * 6 by omega]
  · rw [if_neg z, u2_n (fun q => z (by have := q.2; omega)), sh_v]
    by_cases y : s * 6 ≤ x ∧ x < s * 6 + b 470 s - 1
    · rw [if_pos y, if_pos (by omega)]
    · rw [if_neg y, if_neg (by omega)]
theorem rt_k {a : Sg_} {s : Int} {K : Nat} (h : K ≠ 471) (J : Int) : rt9_ a s K J = a K J := (u2_k h J).trans (cg9_k h J)
theorem rt_j {b : Sg_} {s : Int} {K : Nat} (h : K ≠ 471) (J : Int) : rtR_ b s K J = b K J := (u2_k h J).trans (sh_k h J _)
theorem si_rt {m n : Int} {r : Int → Int} {b a : Sg_} {s : Int} (h : SI_ m n r b a) (h0 : 0 ≤ s) (h1 : s ≤ 1) (hf : 1 ≤ a 470 s) : SI_ m n r (rtR_ b s) (rt9_ a s) := by
  have ej := eq_j h.1 h0 h1
  have e70 : b 470 s = a 470 s := ej.2.1
  have e4 := h.1.2.2.2.1
  obtain ⟨w1, w2, w3, w4, w5⟩ := h.2.1
  have ws := w1 s h0 h1
  -- where each one came from
  have p : ∀ t x, 0 ≤ t → t ≤ 1 → t * 6 ≤ x → x < t * 6 + a 470 t → ∃ y, t * 6 ≤ y ∧ y < t * 6 + a 470 t ∧ rt9_ a s 471 x = a 471 y ∧ rtR_ b s 471 x = b 471 y ∧ ((t = s ∧ y = x + 1 ∧ x < s * 6 + a 470 s - 1) ∨ (t = s ∧ y = s * 6 ∧ x = s * 6 + a 470 s - 1) ∨ (t ≠ s ∧ y = x)) := by
    intro t x t0 t1 x0 x1
    have v := w1 t t0 t1
    by_cases z : t = s
    · subst z
      by_cases y : x = t * 6 + a 470 t - 1
      · exact ⟨t * 6, by omega, by omega, by rw [rt_v, if_pos y], by rw [rt_w (by omega), if_pos (by omega)], Or.inr (Or.inl ⟨rfl, rfl, y⟩)⟩
      · exact ⟨x + 1, by omega, by omega, by rw [rt_v, if_neg y, if_pos (by omega)], by rw [rt_w (by omega), if_neg (by omega), if_pos (by omega)], Or.inl ⟨rfl, rfl, by omega⟩⟩
    · exact ⟨x, x0, x1, by rw [rt_v, if_neg (by omega), if_neg (by omega)], by rw [rt_w (by omega), if_neg (by omega), if_neg (by omega)], Or.inr (Or.inr ⟨z, rfl⟩)⟩
  have k70 : ∀ J, rt9_ a s 470 J = a 470 J := rt_k (by decide)
  have k72 : ∀ J, rt9_ a s 472 J = a 472 J := rt_k (by decide)
  have k49 : ∀ J, rt9_ a s 449 J = a 449 J := rt_k (by decide)
  have k48 : ∀ J, rt9_ a s 448 J = a 448 J := rt_k (by decide)
  refine ⟨?_, ?_, wbp_e h.2.2 (fun K J _ c _ => rt_k c J)⟩
  · refine eqp_e h.1 (fun K J _ c _ _ => rt_j c J) (fun K J _ c _ => rt_k c J) ?_ ?_ ?_
    · rw [rt_j (by decide), rt_j (by decide), k70, k70]
      exact h.1.1.2.2
    · intro t x t0 t1 x0 x1
      rw [k70] at x1
      obtain ⟨y, y0, y1, y2, y3, _⟩ := p t x t0 t1 x0 x1
      rw [y2, y3]
      exact e4 t y t0 t1 y0 y1
    · intro t x t0 t1 x0 x1
      rw [k72, rt_j (by decide), rt_j (by decide)]
      exact (h.1.2.2.2.2 t x t0 t1 x0 x1).2.2
  · unfold WS_
    simp only [k70, k72, k49, k48]
    refine ⟨w1, ?_, ?_, ?_, w5⟩
    · intro t x t0 t1 x0 x1
      obtain ⟨y, y0, y1, y2, _, _⟩ := p t x t0 t1 x0 x1
      rw [y2]
      exact w2 t y t0 t1 y0 y1
    · intro t x t0 t1 x0 x1 c
      obtain ⟨k, k0, k1, k2⟩ := w3 t x t0 t1 x0 x1 c
      have v := w1 t t0 t1
      by_cases z : t = s
      · subst z
        by_cases y : k = t * 6
        · refine ⟨t * 6 + a 470 t - 1, by omega, by omega, ?_⟩
          rw [rt_v, if_pos rfl, ← y]
          exact k2
        · refine ⟨k - 1, by omega, by omega, ?_⟩
          rw [rt_v, if_neg (by omega), if_pos (by omega), show k - 1 + 1 = k by omega]
          exact k2
      · refine ⟨k, k0, k1, ?_⟩
        rw [rt_v, if_neg (by omega), if_neg (by omega)]
        exact k2
    · intro t x y t0 t1 x0 x1 y0 y1 e
      obtain ⟨x2, x3, x4, x5, _, x6⟩ := p t x t0 t1 x0 x1
      obtain ⟨y2, y3, y4, y5, _, y6⟩ := p t y t0 t1 y0 y1
      rw [x5, y5] at e
      have := w4 t x2 y2 t0 t1 x3 x4 y3 y4 e
      omega
/-- those that stay close up: one goes -/
theorem cp_v {c : Sg_} {s x k N : Int} (k0 : 0 ≤ k) (u1 : c 471 (6 * s + k) = x) (u2 : ∀ i, 0 ≤ i → i < N → c 471 (6 * s + i) = x → i = k) : ∀ n : Nat, (n : Int) ≤ N → ((n : Int) ≤ k ∧ cpR_ c s x n = (c, (n : Int))) ∨ (k < (n : Int) ∧ (cpR_ c s x n).2 = (n : Int) - 1 ∧ (∀ (K : Nat) (J : Int), K ≠ 471 → (cpR_ c s x n).1 K J = c K J) ∧ ∀ J, (cpR_ c s x n).1 471 J = if 6 * s + k ≤ J ∧ J < 6 * s + (n : Int) - 1 then c 471 (J + 1) else c 471 J)
  | 0, _ => Or.inl ⟨k0, rfl⟩
  | n + 1, hN => by
    rcases cp_v k0 u1 u2 n (by omega) with ⟨h1, h2⟩ | ⟨h1, h2, h3, h4⟩
    · by_cases z : (n : Int) = k
      · have t : (cpR_ c s x n).1 471 (6 * s + (n : Int)) = x := by rw [h2, z]; exact u1
        rw [cpR_t t, h2]
        refine Or.inr ⟨by omega, by show (n : Int) = _; omega, fun _ _ _ => rfl, fun J => ?_⟩
        rw [if_neg (by omega)]
      · have t : (cpR_ c s x n).1 471 (6 * s + (n : Int)) ≠ x := by
          rw [h2]
          intro e
          exact z (u2 n (by omega) (by omega) e)
        rw [cpR_f t, h2]
        refine Or.inl ⟨by omega, ?_⟩
        show (u2_ c 471 (6 * s + (n : Int)) (c 471 (6 * s + (n : Int))), (n : Int) + 1) = _
        rw [u2_m rfl]
        rfl
    · have t0 : (cpR_ c s x n).1 471 (6 * s + (n : Int)) = c 471 (6 * s + (n : Int)) := by rw [h4, if_neg (by omega)]
      have t : (cpR_ c s x n).1 471 (6 * s + (n : Int)) ≠ x := by
        rw [t0]
        intro e
        have := u2 n (by omega) (by omega) e
        omega
      rw [cpR_f t, t0, h2]
      refine Or.inr ⟨by omega, by show (n : Int) - 1 + 1 = _; omega, fun K J hK => ?_, fun J => ?_⟩
      · show u2_ (cpR_ c s x n).1 471 _ _ K J = _
        rw [u2_k hK]
        exact h3 K J hK
      · show u2_ (cpR_ c s x n).1 471 (6 * s + ((n : Int) - 1)) (c 471 (6 * s + (n : Int))) 471 J = _
        by_cases z : J = 6 * s + ((n : Int) - 1)
        · rw [z, u2_s, if_pos (by omega), show 6 * s + ((n : Int) - 1) + 1 = 6 * s + (n : Int) by omega]
        · rw [u2_n (fun q => z q.2), h4]
          by_cases y : 6 * s + k ≤ J ∧ J < 6 * s + (n : Int) - 1
          · rw [if_pos y, if_pos (by omega)]
          · rw [if_neg y, if_neg (by omega)]
/-- one is sent off: the field, the roles -/
theorem si_of {m n : Int} {r : Int → Int} {b a : Sg_} {s k : Int} (h : SI_ m n r b a) (h0 : 0 ≤ s) (h1 : s ≤ 1) (k0 : 0 ≤ k) (k1 : k < a 470 s) :
    (cpR_ (u2_ (u2_ b 474 (a 471 (s * 6 + k)) 1) 472 (a 471 (s * 6 + k)) 2) s (20 * m + a 471 (s * 6 + k)) (b 470 s).toNat).2 = a 470 s - 1 ∧
    SI_ m n r (u2_ (cpR_ (u2_ (u2_ b 474 (a 471 (s * 6 + k)) 1) 472 (a 471 (s * 6 + k)) 2) s (20 * m + a 471 (s * 6 + k)) (b 470 s).toNat).1 470 s (cpR_ (u2_ (u2_ b 474 (a 471 (s * 6 + k)) 1) 472 (a 471 (s * 6 + k)) 2) s (20 * m + a 471 (s * 6 + k)) (b 470 s).toNat).2) (u2_ (cg9_ (u2_ a 472 (a 471 (s * 6 + k)) 3) s k) 470 s (a 470 s - 1)) := by
  have ej := eq_j h.1 h0 h1
  have e70 : b 470 s = a 470 s := ej.2.1
  have e4 := h.1.2.2.2.1
  have e5 := h.1.2.2.2.2
  obtain ⟨w1, w2, w3, w4, w5⟩ := h.2.1
  have ws := w1 s h0 h1
  have g := w2 s (s * 6 + k) h0 h1 (by omega) (by omega)
  generalize hx : a 471 (s * 6 + k) = x at g ⊢
  generalize hc : u2_ (u2_ b 474 x 1) 472 x 2 = c
  have c71 : ∀ J, c 471 J = b 471 J := fun J => by rw [← hc, u2_k (by decide), u2_k (by decide)]
  have ck : ∀ (K : Nat) (J : Int), K ≠ 472 → K ≠ 474 → c K J = b K J := fun K J d e => by rw [← hc, u2_k d, u2_k e]
  have u1 : c 471 (6 * s + k) = 20 * m + x := by
    rw [c71, show 6 * s + k = s * 6 + k by omega, e4 s _ h0 h1 (by omega) (by omega), hx]
  have u2 : ∀ i, 0 ≤ i → i < a 470 s → c 471 (6 * s + i) = 20 * m + x → i = k := by
    intro i i0 i1 e
    rw [c71, show 6 * s + i = s * 6 + i by omega, e4 s _ h0 h1 (by omega) (by omega)] at e
    have := w4 s (s * 6 + i) (s * 6 + k) h0 h1 (by omega) (by omega) (by omega) (by omega) (by rw [hx]; omega)
    omega
  have en : ((b 470 s).toNat : Int) = a 470 s := by omega
  rcases cp_v k0 u1 u2 (b 470 s).toNat (by omega) with ⟨v1, _⟩ | ⟨_, v2, v3, v4⟩
  · omega
  rw [en] at v2 v4
  refine ⟨v2, ?_⟩
  generalize hp : cpR_ c s (20 * m + x) (b 470 s).toNat = p at v2 v3 v4 ⊢
  generalize hA : u2_ (cg9_ (u2_ a 472 x 3) s k) 470 s (a 470 s - 1) = A
  generalize hB : u2_ p.1 470 s p.2 = B
  -- the cells of both
  have Ak : ∀ (K : Nat) (J : Int), K ≠ 470 → K ≠ 471 → K ≠ 472 → A K J = a K J := fun K J d e f => by rw [← hA, u2_k d, cg9_k e, u2_k f]
  have Bk : ∀ (K : Nat) (J : Int), K ≠ 470 → K ≠ 471 → K ≠ 472 → K ≠ 474 → B K J = b K J := fun K J d e f g => by rw [← hB, u2_k d, v3 K J e, ck K J f g]
  have A70 : A 470 s = a 470 s - 1 := by rw [← hA, u2_s]
  have B70 : B 470 s = a 470 s - 1 := by rw [← hB, u2_s, v2]
  have A7o : ∀ t, t ≠ s → A 470 t = a 470 t := fun t d => by rw [← hA, u2_n (fun q => d q.2), cg9_k (by decide), u2_k (by decide)]
  have B7o : ∀ t, t ≠ s → B 470 t = b 470 t := fun t d => by rw [← hB, u2_n (fun q => d q.2), v3 470 t (by decide), ck 470 t (by decide) (by decide)]
  have A72 : A 472 x = 3 := by rw [← hA, u2_k (by decide), cg9_k (by decide), u2_s]
  have A72o : ∀ y, y ≠ x → A 472 y = a 472 y := fun y d => by rw [← hA, u2_k (by decide), cg9_k (by decide), u2_n (fun q => d q.2)]
  have B72 : B 472 x = 2 := by rw [← hB, u2_k (by decide), v3 472 x (by decide), ← hc, u2_s]
  have B72o : ∀ y, y ≠ x → B 472 y = b 472 y := fun y d => by rw [← hB, u2_k (by decide), v3 472 y (by decide), ← hc, u2_n (fun q => d q.2), u2_k (by decide)]
  have B74 : B 474 x = 1 := by rw [← hB, u2_k (by decide), v3 474 x (by decide), ← hc, u2_k (by decide), u2_s]
  have B74o : ∀ y, y ≠ x → B 474 y = b 474 y := fun y d => by rw [← hB, u2_k (by decide), v3 474 y (by decide), ← hc, u2_k (by decide), u2_n (fun q => d q.2)]
  have a70 : u2_ a 472 x 3 470 s = a 470 s := u2_k (by decide) s
  have A71 : ∀ J, A 471 J = if s * 6 + k ≤ J ∧ J < s * 6 + a 470 s - 1 then a 471 (J + 1) else a 471 J := fun J => by
    rw [← hA, u2_k (by decide)]
    by_cases y : s * 6 + k ≤ J ∧ J < s * 6 + a 470 s - 1
    · rw [if_pos y, cg9_i (by omega), u2_k (by decide)]
    · rw [if_neg y, cg9_o (by omega), u2_k (by decide)]
  have B71 : ∀ J, B 471 J = if s * 6 + k ≤ J ∧ J < s * 6 + a 470 s - 1 then b 471 (J + 1) else b 471 J := fun J => by
    rw [← hB, u2_k (by decide), v4]
    by_cases y : s * 6 + k ≤ J ∧ J < s * 6 + a 470 s - 1
    · rw [if_pos y, if_pos (by omega), c71]
    · rw [if_neg y, if_neg (by omega), c71]
  have p9 : ∀ t z, 0 ≤ t → t ≤ 1 → t * 6 ≤ z → z < t * 6 + A 470 t → ∃ y, t * 6 ≤ y ∧ y < t * 6 + a 470 t ∧ y ≠ s * 6 + k ∧ A 471 z = a 471 y ∧ B 471 z = b 471 y ∧ ((t = s ∧ z < s * 6 + k ∧ y = z) ∨ (t = s ∧ s * 6 + k ≤ z ∧ y = z + 1) ∨ (t ≠ s ∧ y = z)) := by
    intro t z t0 t1 z0 z1
    have v := w1 t t0 t1
    by_cases d : t = s
    · subst d
      rw [A70] at z1
      by_cases y : z < t * 6 + k
      · exact ⟨z, by omega, by omega, by omega, by rw [A71, if_neg (by omega)], by rw [B71, if_neg (by omega)], Or.inl ⟨rfl, y, rfl⟩⟩
      · exact ⟨z + 1, by omega, by omega, by omega, by rw [A71, if_pos (by omega)], by rw [B71, if_pos (by omega)], Or.inr (Or.inl ⟨rfl, by omega, rfl⟩)⟩
    · rw [A7o t d] at z1
      exact ⟨z, z0, z1, by omega, by rw [A71, if_neg (by omega)], by rw [B71, if_neg (by omega)], Or.inr (Or.inr ⟨d, rfl⟩)⟩
  refine ⟨?_, ?_, wbp_e h.2.2 Ak⟩
  · refine eqp_e h.1 Bk Ak ?_ ?_ ?_
    · rcases (by omega : s = 0 ∨ s = 1) with d | d
      · rw [d] at A70 B70
        rw [A70, B70, A7o 1 (by omega), B7o 1 (by omega)]
        exact ⟨by rw [d], h.1.1.2.2.2⟩
      · rw [d] at A70 B70
        rw [A70, B70, A7o 0 (by omega), B7o 0 (by omega)]
        exact ⟨h.1.1.2.2.1, by rw [d]⟩
    · intro t z t0 t1 z0 z1
      obtain ⟨y, y0, y1, _, y2, y3, _⟩ := p9 t z t0 t1 z0 z1
      rw [y2, y3]
      exact e4 t y t0 t1 y0 y1
    · intro t z t0 t1 z0 z1
      by_cases d : z = x
      · rw [d]; exact Or.inl ⟨A72, B72, B74⟩
      · rw [A72o z d, B72o z d, B74o z d]
        exact (e5 t z t0 t1 z0 z1).2.2
  · have A48 : ∀ J, A 448 J = a 448 J := fun J => Ak 448 J (by decide) (by decide) (by decide)
    have A49 : ∀ J, A 449 J = a 449 J := fun J => Ak 449 J (by decide) (by decide) (by decide)
    unfold WS_
    simp only [A48, A49]
    refine ⟨?_, ?_, ?_, ?_, w5⟩
    · intro t t0 t1
      have v := w1 t t0 t1
      by_cases d : t = s
      · subst d; rw [A70]; omega
      · rw [A7o t d]; exact v
    · intro t z t0 t1 z0 z1
      obtain ⟨y, y0, y1, y9, y2, _, _⟩ := p9 t z t0 t1 z0 z1
      have f := w2 t y t0 t1 y0 y1
      have ne : a 471 y ≠ x := fun e => by
        by_cases d : t = s
        · subst d
          exact y9 (w4 t y (t * 6 + k) t0 t1 y0 y1 (by omega) (by omega) (by rw [hx]; exact e))
        · omega
      rw [y2, A72o _ ne]
      exact f
    · intro t z t0 t1 z0 z1 e
      have ne : z ≠ x := fun d => by rw [d, A72] at e; exact absurd e (by decide)
      rw [A72o z ne] at e
      obtain ⟨y, y0, y1, y2⟩ := w3 t z t0 t1 z0 z1 e
      have v := w1 t t0 t1
      by_cases d : t = s
      · subst d
        have yk : y ≠ t * 6 + k := fun f => ne (by rw [← y2, f]; exact hx)
        rw [A70]
        by_cases f : y < t * 6 + k
        · exact ⟨y, by omega, by omega, by rw [A71, if_neg (by omega)]; exact y2⟩
        · exact ⟨y - 1, by omega, by omega, by rw [A71, if_pos (by omega), show y - 1 + 1 = y by omega]; exact y2⟩
      · rw [A7o t d]
        exact ⟨y, y0, y1, by rw [A71, if_neg (by omega)]; exact y2⟩
    · intro t z z' t0 t1 z0 z1 y0 y1 e
      obtain ⟨f1, f2, f3, _, f5, _, f6⟩ := p9 t z t0 t1 z0 z1
      obtain ⟨g1, g2, g3, _, g5, _, g6⟩ := p9 t z' t0 t1 y0 y1
      rw [f5, g5] at e
      have := w4 t f1 g1 t0 t1 f2 f3 g2 g3 e
      omega
/-- sent off -/
theorem si_so {m n : Int} {r : Int → Int} {b a : Sg_} {s k : Int} (h : SI_ m n r b a) (q : RB9_ r) (h0 : 0 ≤ s) (h1 : s ≤ 1) (k0 : 0 ≤ k) (k1 : k < a 470 s) (g : n + 1 ≤ 1000000) : SI_ m (n + 1) r (soR_ r b m s (20 * m + a 471 (s * 6 + k))) (so9_ r a s k) := by
  have n0 := h.2.2.1
  have q5 := q.2.2.2.2
  obtain ⟨v2, hB0⟩ := si_of h h0 h1 k0 k1
  have hB := si_m (n' := n + 1) hB0 (by omega) g
  have ex : 20 * m + a 471 (s * 6 + k) - 20 * m = a 471 (s * 6 + k) := by omega
  by_cases c : 2 * (a 470 s - 1) < r 9
  · rw [so9__2 (r := r) (a := a) (s := s) (k := k) (by omega) c]
    have hw := si_w hB (v := 1) (w := 2) (Or.inr ⟨rfl, rfl⟩)
    rcases (by omega : s = 0 ∨ s = 1) with z | z
    · rw [soR__1 (r := r) (a := b) (m := m) (s := s) (x := 20 * m + a 471 (s * 6 + k)) (by rw [ex, v2]; exact c) z, ex]
      have s1 := si_u hw (k := 468) (j := 0) (v := 0) (Or.inl (by decide)) (by omega) (fun y => absurd y (by decide)) (fun y => absurd y (by decide)) (fun y => absurd y (by decide))
      have s2 := si_u s1 (k := 468) (j := 1) (v := r 12) (Or.inl (by decide)) (by omega) (fun y => absurd y (by decide)) (fun y => absurd y (by decide)) (fun y => absurd y (by decide))
      rw [show (1 : Int) - s = 1 by omega]
      have e0 : ∀ y : Sg_, u2_ y 468 s 0 = u2_ y 468 0 0 := fun y => by rw [z]
      rw [e0]
      exact s2
    · rw [soR__2 (r := r) (a := b) (m := m) (s := s) (x := 20 * m + a 471 (s * 6 + k)) (by rw [ex, v2]; exact c) (by omega), ex]
      have s1 := si_u hw (k := 468) (j := 1) (v := 0) (Or.inl (by decide)) (by omega) (fun y => absurd y (by decide)) (fun y => absurd y (by decide)) (fun y => absurd y (by decide))
      have s2 := si_u s1 (k := 468) (j := 0) (v := r 12) (Or.inl (by decide)) (by omega) (fun y => absurd y (by decide)) (fun y => absurd y (by decide)) (fun y => absurd y (by decide))
      rw [show (1 : Int) - s = 0 by omega, u2_c (k := 468) (j := 0) (k' := 468) (j' := 1) (by decide)]
      have e0 : ∀ y : Sg_, u2_ y 468 s 0 = u2_ y 468 1 0 := fun y => by rw [z]
      rw [e0]
      exact s2
  · rw [so9__3 (r := r) (a := a) (s := s) (k := k) (by omega) c, soR__3 (r := r) (a := b) (m := m) (s := s) (x := 20 * m + a 471 (s * 6 + k)) (by rw [ex, v2]; exact c), ex]
    exact hB
/-- a yellow card is written -/
theorem si_y {m n : Int} {r : Int → Int} {b a : Sg_} {s x v : Int} (h : SI_ m n r b a) (h0 : 0 ≤ s) (h1 : s ≤ 1) (x0 : s * 10 ≤ x) (x1 : x < s * 10 + a 449 s) (hv : 0 ≤ v ∧ v ≤ 8 * n + 20) : SI_ m n r (u2_ b 473 x v) (u2_ a 473 x v) := by
  have na : ∀ (K : Nat) (J : Int), K ≠ 473 → u2_ a 473 x v K J = a K J := fun K J d => u2_k d J
  have nb : ∀ (K : Nat) (J : Int), K ≠ 473 → u2_ b 473 x v K J = b K J := fun K J d => u2_k d J
  refine ⟨?_, ws_k h.2.1 (by decide), ?_⟩
  · have h9 := h.1
    obtain ⟨a1, a2, a3, e4, e5⟩ := h9
    unfold EQP_
    simp only [na 449 _ (by decide), na 470 _ (by decide), na 466 _ (by decide), na 467 _ (by decide), na 468 _ (by decide), na 469 _ (by decide), na 103 _ (by decide), na 471 _ (by decide), na 448 _ (by decide), na 472 _ (by decide), nb 449 _ (by decide), nb 470 _ (by decide), nb 466 _ (by decide), nb 467 _ (by decide), nb 468 _ (by decide), nb 469 _ (by decide), nb 103 _ (by decide), nb 471 _ (by decide), nb 448 _ (by decide), nb 472 _ (by decide), nb 474 _ (by decide)]
    refine ⟨a1, a2, a3, e4, fun t z t0 t1 z0 z1 => ?_⟩
    have f := e5 t z t0 t1 z0 z1
    exact ⟨f.1, u2_e f.2.1, f.2.2⟩
  · obtain ⟨g0, g1, g2, g3, g4, g5, g6, g7⟩ := h.2.2
    unfold WBP_
    simp only [na 449 _ (by decide), na 467 _ (by decide), na 469 _ (by decide), na 103 _ (by decide)]
    refine ⟨g0, fun K J c j0 j1 => ?_, g2, g3, fun t z t0 t1 z0 z1 => ?_, g5, g6, g7⟩
    · rw [na K J (by omega)]; exact g1 K J c j0 j1
    · by_cases d : z = x
      · rw [d, u2_s]; exact hv
      · rw [u2_n (fun e => d e.2)]; exact g4 t z t0 t1 z0 z1
theorem mp_v {b : Sg_} {s x y : Int} : ∀ (n : Nat) (J : Int), mpR_ b s x y n 471 J = cz_ (6 * s ≤ J ∧ J < 6 * s + (n : Int) ∧ b 471 J = x) y (b 471 J)
  | 0, J => by
    rw [cz_f (by omega)]
    rfl
  | n + 1, J => by
    show u2_ (mpR_ b s x y n) 471 (6 * s + (n : Int)) (cz_ (mpR_ b s x y n 471 (6 * s + (n : Int)) = x) y (mpR_ b s x y n 471 (6 * s + (n : Int)))) 471 J = _
    have t : mpR_ b s x y n 471 (6 * s + (n : Int)) = b 471 (6 * s + (n : Int)) := by rw [mp_v n, cz_f (by omega)]
    rw [t]
    by_cases z : J = 6 * s + (n : Int)
    · rw [z, u2_s]
      by_cases w : b 471 (6 * s + (n : Int)) = x
      · rw [cz_t w, cz_t ⟨by omega, by omega, w⟩]
      · rw [cz_f w, cz_f (fun e => w e.2.2)]
    · rw [u2_n (fun e => z e.2), mp_v n]
      by_cases w : 6 * s ≤ J ∧ J < 6 * s + (n : Int) ∧ b 471 J = x
      · rw [cz_t w, cz_t ⟨w.1, by omega, w.2.2⟩]
      · rw [cz_f w, cz_f (fun e => w ⟨e.1, by omega, e.2.2⟩)]
theorem mp_k {b : Sg_} {s x y : Int} {K : Nat} (h : K ≠ 471) (J : Int) : ∀ (n : Nat), mpR_ b s x y n K J = b K J
  | 0 => rfl
  | n + 1 => by
    show u2_ (mpR_ b s x y n) 471 _ _ K J = _
    rw [u2_k h]
    exact mp_k h J n
/-- one comes for another -/
theorem si_on {m n : Int} {r : Int → Int} {b a : Sg_} {s k y : Int} (h : SI_ m n r b a) (h0 : 0 ≤ s) (h1 : s ≤ 1) (k0 : 0 ≤ k) (k1 : k < a 470 s) (y0 : s * 10 ≤ y) (y1 : y < s * 10 + a 449 s) (y2 : a 472 y = 0) :
    SI_ m n r (u2_ (u2_ (mpR_ b s (20 * m + a 471 (s * 6 + k)) (20 * m + y) (b 470 s).toNat) 472 (a 471 (s * 6 + k)) 2) 472 y 1) (u2_ (u2_ (u2_ a 472 (a 471 (s * 6 + k)) 2) 472 y 1) 471 (s * 6 + k) y) := by
  have ej := eq_j h.1 h0 h1
  have e70 : b 470 s = a 470 s := ej.2.1
  have e4 := h.1.2.2.2.1
  have e5 := h.1.2.2.2.2
  obtain ⟨w1, w2, w3, w4, w5⟩ := h.2.1
  have ws := w1 s h0 h1
  have g := w2 s (s * 6 + k) h0 h1 (by omega) (by omega)
  generalize hx : a 471 (s * 6 + k) = x at g ⊢
  have xy : x ≠ y := fun e => by have := g.2.2; rw [e, y2] at this; exact absurd this (by decide)
  generalize hA : u2_ (u2_ (u2_ a 472 x 2) 472 y 1) 471 (s * 6 + k) y = A
  generalize hB : u2_ (u2_ (mpR_ b s (20 * m + x) (20 * m + y) (b 470 s).toNat) 472 x 2) 472 y 1 = B
  have Ak : ∀ (K : Nat) (J : Int), K ≠ 471 → K ≠ 472 → A K J = a K J := fun K J d e => by rw [← hA, u2_k d, u2_k e, u2_k e]
  have Bk : ∀ (K : Nat) (J : Int), K ≠ 471 → K ≠ 472 → B K J = b K J := fun K J d e => by rw [← hB, u2_k e, u2_k e, mp_k d]
  have A72x : A 472 x = 2 := by rw [← hA, u2_k (by decide), u2_n (fun e => xy e.2), u2_s]
  have A72y : A 472 y = 1 := by rw [← hA, u2_k (by decide), u2_s]
  have A72o : ∀ z, z ≠ x → z ≠ y → A 472 z = a 472 z := fun z d e => by rw [← hA, u2_k (by decide), u2_n (fun f => e f.2), u2_n (fun f => d f.2)]
  have B72x : B 472 x = 2 := by rw [← hB, u2_n (fun e => xy e.2), u2_s]
  have B72y : B 472 y = 1 := by rw [← hB, u2_s]
  have B72o : ∀ z, z ≠ x → z ≠ y → B 472 z = b 472 z := fun z d e => by rw [← hB, u2_n (fun f => e f.2), u2_n (fun f => d f.2), mp_k (by decide)]
  have A71 : A 471 (s * 6 + k) = y := by rw [← hA, u2_s]
  have A71o : ∀ z, z ≠ s * 6 + k → A 471 z = a 471 z := fun z d => by rw [← hA, u2_n (fun e => d e.2), u2_k (by decide), u2_k (by decide)]
  have B71 : ∀ J, B 471 J = cz_ (6 * s ≤ J ∧ J < 6 * s + ((b 470 s).toNat : Int) ∧ b 471 J = 20 * m + x) (20 * m + y) (b 471 J) := fun J => by rw [← hB, u2_k (by decide), u2_k (by decide), mp_v]
  have A70 : ∀ J, A 470 J = a 470 J := fun J => Ak 470 J (by decide) (by decide)
  have A48 : ∀ J, A 448 J = a 448 J := fun J => Ak 448 J (by decide) (by decide)
  have A49 : ∀ J, A 449 J = a 449 J := fun J => Ak 449 J (by decide) (by decide)
  -- who comes stood nowhere
  have yn : ∀ z, s * 6 ≤ z → z < s * 6 + a 470 s → a 471 z ≠ y := fun z z0 z1 e => by
    have f := (w2 s z h0 h1 z0 z1).2.2
    rw [e, y2] at f
    exact absurd f (by decide)
  refine ⟨?_, ?_, wbp_e h.2.2 (fun K J _ d e => Ak K J d e)⟩
  · refine eqp_e h.1 (fun K J _ d e _ => Bk K J d e) (fun K J _ d e => Ak K J d e) ?_ ?_ ?_
    · rw [A70, A70, Bk 470 0 (by decide) (by decide), Bk 470 1 (by decide) (by decide)]
      exact h.1.1.2.2
    · intro t z t0 t1 z0 z1
      rw [A70] at z1
      have f := e4 t z t0 t1 z0 z1
      have v := w1 t t0 t1
      by_cases d : z = s * 6 + k
      · rw [d, A71, B71]
        have ts : t = s := by omega
        subst ts
        refine cz_t ⟨by omega, by omega, ?_⟩
        rw [← d, f, d, hx]
      · rw [A71o z d, B71, f]
        refine (cz_f (fun e => ?_)).trans f
        have e3 := e.2.2
        have ts : t = s := by omega
        subst ts
        exact d (w4 t z (t * 6 + k) t0 t1 z0 z1 (by omega) (by omega) (by rw [hx]; omega))
    · intro t z t0 t1 z0 z1
      have f := (e5 t z t0 t1 z0 z1).2.2
      rw [Bk 474 z (by decide) (by decide)]
      by_cases d : z = x
      · have f9 : a 472 z = 1 := by rw [d]; exact g.2.2
        rw [d, A72x, B72x]
        rw [d] at f f9
        exact Or.inr ⟨by decide, rfl, by omega⟩
      · by_cases e : z = y
        · rw [e, A72y, B72y]
          rw [e] at f
          exact Or.inr ⟨by decide, rfl, by omega⟩
        · rw [A72o z d e, B72o z d e]
          exact f
  · unfold WS_
    simp only [A48, A49, A70]
    refine ⟨w1, ?_, ?_, ?_, w5⟩
    · intro t z t0 t1 z0 z1
      have v := w1 t t0 t1
      by_cases d : z = s * 6 + k
      · have ts : t = s := by omega
        subst ts
        rw [d, A71, A72y]
        exact ⟨y0, y1, rfl⟩
      · have f := w2 t z t0 t1 z0 z1
        have nx : a 471 z ≠ x := fun e => by
          have fx := f.1
          have ts : t = s := by omega
          subst ts
          exact d (w4 t z (t * 6 + k) t0 t1 z0 z1 (by omega) (by omega) (by rw [hx]; exact e))
        have ny : a 471 z ≠ y := fun e => by
          have f2 := f.2.2
          rw [e, y2] at f2
          exact absurd f2 (by decide)
        rw [A71o z d, A72o _ nx ny]
        exact f
    · intro t z t0 t1 z0 z1 e
      by_cases d : z = y
      · have ts : t = s := by omega
        subst ts
        exact ⟨t * 6 + k, by omega, by omega, by rw [A71, d]⟩
      · have nx : z ≠ x := fun f => by rw [f, A72x] at e; exact absurd e (by decide)
        rw [A72o z nx d] at e
        obtain ⟨p, p0, p1, p2⟩ := w3 t z t0 t1 z0 z1 e
        have np : p ≠ s * 6 + k := fun f => nx (by rw [← p2, f]; exact hx)
        exact ⟨p, p0, p1, by rw [A71o p np]; exact p2⟩
    · intro t z z' t0 t1 z0 z1 u0 u1 e
      have v := w1 t t0 t1
      by_cases d : z = s * 6 + k
      · by_cases d' : z' = s * 6 + k
        · omega
        · rw [d, A71, A71o z' d'] at e
          have ts : t = s := by omega
          subst ts
          exact absurd e.symm (yn z' u0 u1)
      · by_cases d' : z' = s * 6 + k
        · rw [d', A71, A71o z d] at e
          have ts : t = s := by omega
          subst ts
          exact absurd e (yn z z0 z1)
        · rw [A71o z d, A71o z' d'] at e
          exact w4 t z z' t0 t1 z0 z1 u0 u1 e
/-- what the laws have asked -/
theorem lw_0 {r : Int → Int} {a : Sg_} {k s q o : Int} (h : lw9_ r a k s q o = 0) : a 103 3 = 0 ∧ ((k = 0 ∨ (0 ≤ s ∧ s ≤ 1)) ∧ ((r 0 = 0 ∧ 0 ≤ k ∧ k ≤ 5) ∨ (r 0 = 1 ∧ (k = 1 ∨ k = 5)) ∨ (r 0 = 2 ∧ (k = 1 ∨ k = 6)) ∨ (¬ r 0 = 0 ∧ ¬ r 0 = 1 ∧ ¬ r 0 = 2 ∧ 1 ≤ k ∧ k ≤ 4))) ∧ ((r 0 = 0 ∧ (a 103 4 ≠ 1 ∨ (k ≠ 1 ∧ k ≠ 2))) ∨ (r 0 ≠ 0 ∧ (r 0 ≠ 3 ∨ s = a 103 5))) ∧ ((k = 5 ∨ (r 0 = 0 ∧ k ≠ 0)) → fp9_ a s q ≠ -1) ∧ (k = 5 → bq9_ a s o ≠ -1 ∧ a 469 s < r 10) ∧ (r 0 ≠ 3 ∨ k ≠ 1 ∨ (1 ≤ o ∧ o ≤ 4)) := by
  by_cases c1 : a 103 3 ≠ 0
  · rw [lw9__1 (r := r) (a := a) (k := k) (s := s) (q := q) (o := o) c1] at h; exact absurd h (by decide)
  by_cases c2 : ¬ ((k = 0 ∨ (0 ≤ s ∧ s ≤ 1)) ∧ ((r 0 = 0 ∧ 0 ≤ k ∧ k ≤ 5) ∨ (r 0 = 1 ∧ (k = 1 ∨ k = 5)) ∨ (r 0 = 2 ∧ (k = 1 ∨ k = 6)) ∨ (¬ r 0 = 0 ∧ ¬ r 0 = 1 ∧ ¬ r 0 = 2 ∧ 1 ≤ k ∧ k ≤ 4)))
  · rw [lw9__2 (r := r) (a := a) (k := k) (s := s) (q := q) (o := o) c1 c2] at h; exact absurd h (by decide)
  by_cases c3 : ¬ ((r 0 = 0 ∧ (a 103 4 ≠ 1 ∨ (k ≠ 1 ∧ k ≠ 2))) ∨ (r 0 ≠ 0 ∧ (r 0 ≠ 3 ∨ s = a 103 5)))
  · rw [lw9__3 (r := r) (a := a) (k := k) (s := s) (q := q) (o := o) c1 c2 c3] at h; exact absurd h (by decide)
  by_cases c4 : (k = 5 ∨ (r 0 = 0 ∧ k ≠ 0)) ∧ fp9_ a s q = -1
  · rw [lw9__4 (r := r) (a := a) (k := k) (s := s) (q := q) (o := o) c1 c2 c3 c4] at h; exact absurd h (by decide)
  have y1 : a 103 3 = 0 := by omega
  have y2 : (k = 0 ∨ (0 ≤ s ∧ s ≤ 1)) ∧ ((r 0 = 0 ∧ 0 ≤ k ∧ k ≤ 5) ∨ (r 0 = 1 ∧ (k = 1 ∨ k = 5)) ∨ (r 0 = 2 ∧ (k = 1 ∨ k = 6)) ∨ (¬ r 0 = 0 ∧ ¬ r 0 = 1 ∧ ¬ r 0 = 2 ∧ 1 ≤ k ∧ k ≤ 4)) := Classical.byContradiction c2
  have y3 : (r 0 = 0 ∧ (a 103 4 ≠ 1 ∨ (k ≠ 1 ∧ k ≠ 2))) ∨ (r 0 ≠ 0 ∧ (r 0 ≠ 3 ∨ s = a 103 5)) := Classical.byContradiction c3
  have y4 : (k = 5 ∨ (r 0 = 0 ∧ k ≠ 0)) → fp9_ a s q ≠ -1 := fun d e => c4 ⟨d, e⟩
  by_cases c5 : k = 5
  · by_cases c6 : bq9_ a s o = -1
    · rw [lw9__5 (r := r) (a := a) (k := k) (s := s) (q := q) (o := o) c1 c2 c3 c4 c5 c6] at h; exact absurd h (by decide)
    by_cases c7 : r 10 ≤ a 469 s
    · rw [lw9__6 (r := r) (a := a) (k := k) (s := s) (q := q) (o := o) c1 c2 c3 c4 c5 c6 c7] at h; exact absurd h (by decide)
    by_cases c8 : r 0 ≠ 3 ∨ k ≠ 1 ∨ (1 ≤ o ∧ o ≤ 4)
    · exact ⟨y1, y2, y3, y4, fun _ => ⟨c6, by omega⟩, c8⟩
    · rw [lw9__8 (r := r) (a := a) (k := k) (s := s) (q := q) (o := o) c1 c2 c3 c4 c5 c6 c7 c8] at h; exact absurd h (by decide)
  · by_cases c8 : r 0 ≠ 3 ∨ k ≠ 1 ∨ (1 ≤ o ∧ o ≤ 4)
    · exact ⟨y1, y2, y3, y4, fun e => absurd e c5, c8⟩
    · rw [lw9__10 (r := r) (a := a) (k := k) (s := s) (q := q) (o := o) c1 c2 c3 c4 c5 c8] at h; exact absurd h (by decide)
/-- a change of men -/
theorem si_su {m n : Int} {r : Int → Int} {b a : Sg_} {s q o : Int} (h : SI_ m n r b a) (h0 : 0 ≤ s) (h1 : s ≤ 1) (hp : fp9_ a s q ≠ -1) (hb : bq9_ a s o ≠ -1) (hc : a 469 s < r 10) (g : n + 1 ≤ 1000000) : SI_ m (n + 1) r (suR_ b m s q o) (su9_ r a s q o) := by
  have n0 := h.2.2.1
  have d70 : b 469 s = a 469 s := (eq_j h.1 h0 h1).2.2.2.2.2
  have b69 := h.2.2.2.1 469 s (by decide) h0 h1
  have v1 := h.2.1.1 s h0 h1
  rcases k_f (q := q) h.1 h.2.1 h0 h1 with z | z
  · exact absurd z.1 hp
  rcases k_b (q := o) h.1 h.2.1 h0 h1 with y | y
  · exact absurd y.1 hb
  have gx := h.2.1.2.1 s (s * 6 + fp9_ a s q) h0 h1 (by omega) (by omega)
  have h9 := si_on (si_m (n' := n + 1) h (by omega) g) h0 h1 z.1 z.2.1 y.1 y.2.1 y.2.2.2.2
  rw [su9__2 (r := r) (a := a) (s := s) (q := q) (o := o) (by omega), suR__1 (a := b) (m := m) (s := s) (q := q) (o := o), z.2.2.1, y.2.2.1, ab_2 (x := a 471 (s * 6 + fp9_ a s q)) (by omega), ab_2 (x := bq9_ a s o) (by omega), show 20 * m + a 471 (s * 6 + fp9_ a s q) - 20 * m = a 471 (s * 6 + fp9_ a s q) by omega, show 20 * m + bq9_ a s o - 20 * m = bq9_ a s o by omega, d70]
  have w1 : wr_ (a 469 s + 1) = a 469 s + 1 := wr_9 (by omega)
  exact si_u h9 (Or.inl (by decide)) (by omega) (fun c => absurd c (by decide)) (fun c => absurd c (by decide)) (fun _ => by omega)
/-- football -/
theorem si_pf {m n : Int} {r : Int → Int} {b a : Sg_} {k s q o : Int} (h : SI_ m n r b a) (w : RB9_ r) (hk : 0 ≤ k ∧ k ≤ 4) (hs : k = 0 ∨ (0 ≤ s ∧ s ≤ 1)) (hp : k ≠ 0 → fp9_ a s q ≠ -1) (g : n + 2 ≤ 1000000) : SI_ m (n + 2) r (pfR_ r b m k s q o) (pf9_ r a k s q) := by
  have n0 := h.2.2.1
  have d4 : b 103 4 = a 103 4 := h.1.2.2.1.1
  have b4 := h.2.2.2.2.1
  have w4 : wr_ (a 103 4 + 1) = a 103 4 + 1 := wr_9 (by omega)
  have h9 := si_m (n' := n + 2) h (by omega) g
  by_cases k0 : k = 0
  · have hu : SI_ m (n + 2) r (u2_ b 103 4 (a 103 4 + 1)) (u2_ a 103 4 (a 103 4 + 1)) := si_u h9 (Or.inr ⟨rfl, Or.inl rfl⟩) (by omega) (fun _ z => absurd z (by decide)) (fun z => absurd z (by decide)) (fun z => absurd z (by decide))
    by_cases c : wr_ (a 103 4 + 1) = 3
    · rw [pf9__5 (r := r) (a := a) (k := k) (s := s) (q := q) (by omega) (by omega) (by omega) (by omega) c, pfR__1 (r := r) (a := b) (m := m) (k := k) (s := s) (q := q) (o := o) k0 (by rw [d4]; exact c), d4, w4]
      exact si_w hu (Or.inr ⟨rfl, rfl⟩)
    · rw [pf9__6 (r := r) (a := a) (k := k) (s := s) (q := q) (by omega) (by omega) (by omega) (by omega) c, pfR__2 (r := r) (a := b) (m := m) (k := k) (s := s) (q := q) (o := o) k0 (by rw [d4]; exact c), d4, w4]
      exact si_w hu (Or.inl ⟨rfl, rfl⟩)
  have h0 : 0 ≤ s := by omega
  have h1 : s ≤ 1 := by omega
  by_cases k1 : k = 1
  · have b68 := h.2.2.2.1 468 s (by decide) h0 h1
    have w8 : wr_ (a 468 s + 1) = a 468 s + 1 := wr_9 (by omega)
    rw [pf9__1 (r := r) (a := a) (k := k) (s := s) (q := q) k1, pfR__3 (r := r) (a := b) (m := m) (k := k) (s := s) (q := q) (o := o) k0 k1]
    exact si_ad h9 h0 h1 rfl (by omega)
  by_cases k2 : k = 2
  · have b68 := h.2.2.2.1 468 (1 - s) (by decide) (by omega) (by omega)
    have w8 : wr_ (a 468 (1 - s) + 1) = a 468 (1 - s) + 1 := wr_9 (by omega)
    rw [pf9__2 (r := r) (a := a) (k := k) (s := s) (q := q) k1 k2, pfR__4 (r := r) (a := b) (m := m) (k := k) (s := s) (q := q) (o := o) k0 k1 k2]
    exact si_ad h9 (by omega) (by omega) rfl (by omega)
  -- a person on the field
  rcases k_f (q := q) h.1 h.2.1 h0 h1 with z | z
  · exact absurd z.1 (hp k0)
  have v1 := h.2.1.1 s h0 h1
  have gx := h.2.1.2.1 s (s * 6 + fp9_ a s q) h0 h1 (by omega) (by omega)
  have ea : ab9_ m (slR_ b s q) = 20 * m + a 471 (s * 6 + fp9_ a s q) := by
    rw [z.2.2.1]
    exact ab_2 (by omega)
  have ex : 20 * m + a 471 (s * 6 + fp9_ a s q) - 20 * m = a 471 (s * 6 + fp9_ a s q) := by omega
  have d73 : b 473 (a 471 (s * 6 + fp9_ a s q)) = a 473 (a 471 (s * 6 + fp9_ a s q)) := (h.1.2.2.2.2 s _ h0 h1 gx.1 gx.2.1).2.1
  have b73 := h.2.2.2.2.2.2.1 s _ h0 h1 gx.1 gx.2.1
  have w7 : wr_ (a 473 (a 471 (s * 6 + fp9_ a s q)) + 1) = a 473 (a 471 (s * 6 + fp9_ a s q)) + 1 := wr_9 (by omega)
  by_cases k3 : k = 3
  · have hy := si_y (si_m (n' := n + 1) h (by omega) (by omega)) h0 h1 gx.1 gx.2.1 (v := wr_ (a 473 (a 471 (s * 6 + fp9_ a s q)) + 1)) (by omega)
    by_cases c : wr_ (a 473 (a 471 (s * 6 + fp9_ a s q)) + 1) = 2
    · rw [pf9__3 (r := r) (a := a) (k := k) (s := s) (q := q) k1 k2 k3, yl9__2 (r := r) (a := a) (s := s) (k := fp9_ a s q) (by omega) c, pfR__5 (r := r) (a := b) (m := m) (k := k) (s := s) (q := q) (o := o) k0 k1 k2 k3 (by rw [ea, ex, d73]; exact c), ea, ex, d73]
      have e70 : u2_ a 473 (a 471 (s * 6 + fp9_ a s q)) (wr_ (a 473 (a 471 (s * 6 + fp9_ a s q)) + 1)) 470 s = a 470 s := u2_k (by decide) s
      have e71 : u2_ a 473 (a 471 (s * 6 + fp9_ a s q)) (wr_ (a 473 (a 471 (s * 6 + fp9_ a s q)) + 1)) 471 (s * 6 + fp9_ a s q) = a 471 (s * 6 + fp9_ a s q) := u2_k (by decide) _
      have f := si_so hy w h0 h1 z.1 (by rw [e70]; exact z.2.1) (by omega)
      rw [e71, show n + 1 + 1 = n + 2 by omega] at f
      exact f
    · rw [pf9__3 (r := r) (a := a) (k := k) (s := s) (q := q) k1 k2 k3, yl9__3 (r := r) (a := a) (s := s) (k := fp9_ a s q) (by omega) c, pfR__6 (r := r) (a := b) (m := m) (k := k) (s := s) (q := q) (o := o) k0 k1 k2 k3 (by rw [ea, ex, d73]; exact c), ea, ex, d73]
      exact si_m hy (by omega) g
  have k4 : k = 4 := by omega
  rw [pf9__4 (r := r) (a := a) (k := k) (s := s) (q := q) k1 k2 k3 k4, pfR__7 (r := r) (a := b) (m := m) (k := k) (s := s) (q := q) (o := o) k0 k1 k2 k3 k4, ea]
  exact si_m (si_so h w h0 h1 z.1 z.2.1 (by omega)) (by omega) g
/-- an event, whole -/
theorem si_ca {m n : Int} {r : Int → Int} {b a : Sg_} {k s q o : Int} (h : SI_ m n r b a) (w : RB9_ r) (hl : lw9_ r a k s q o = 0) (hf : ∀ t, 0 ≤ t → t ≤ 1 → 1 ≤ a 470 t) (g : n + 3 ≤ 1000000) : SI_ m (n + 3) r (plR_ r b m k s q o) (ca9_ r a k s q o) := by
  have n0 := h.2.2.1
  have w0 := w.1
  obtain ⟨l1, l2, l3, l4, l5, l6⟩ := lw_0 hl
  by_cases k5 : k = 5
  · have hs : 0 ≤ s ∧ s ≤ 1 := by omega
    have hu := si_m (n' := n + 3) (si_su h hs.1 hs.2 (l4 (Or.inl k5)) (l5 k5).1 (l5 k5).2 (by omega)) (by omega) g
    rw [ca9__1 (r := r) (a := a) (k := k) (s := s) (q := q) (o := o) k5]
    by_cases r0 : r 0 = 0
    · rw [plR__1 (r := r) (a := b) (m := m) (k := k) (s := s) (q := q) (o := o) r0, pfR__8 (r := r) (a := b) (m := m) (k := k) (s := s) (q := q) (o := o) (by omega) (by omega) (by omega) (by omega) (by omega)]
      exact hu
    · have r1 : r 0 = 1 := by omega
      rw [plR__2 (r := r) (a := b) (m := m) (k := k) (s := s) (q := q) (o := o) r0 r1, pvR__1 (r := r) (a := b) (m := m) (k := k) (s := s) (q := q) (o := o) k5]
      exact hu
  by_cases r0 : r 0 = 0
  · rw [ca9__2 (r := r) (a := a) (k := k) (s := s) (q := q) (o := o) k5 r0, plR__1 (r := r) (a := b) (m := m) (k := k) (s := s) (q := q) (o := o) r0]
    exact si_m (si_pf h w (by omega) (by omega) (fun e => l4 (Or.inr ⟨r0, e⟩)) (by omega)) (by omega) g
  have hs : 0 ≤ s ∧ s ≤ 1 := by omega
  by_cases r1 : r 0 = 1
  · rw [ca9__3 (r := r) (a := a) (k := k) (s := s) (q := q) (o := o) k5 r0 r1, plR__2 (r := r) (a := b) (m := m) (k := k) (s := s) (q := q) (o := o) r0 r1]
    exact si_m (si_pv h (si_rt h hs.1 hs.2 (hf s hs.1 hs.2)) w hs.1 hs.2 (by omega) r1 (by omega)) (by omega) g
  by_cases r2 : r 0 = 2
  · rw [ca9__4 (r := r) (a := a) (k := k) (s := s) (q := q) (o := o) k5 r0 r1 r2, plR__3 (r := r) (a := b) (m := m) (k := k) (s := s) (q := q) (o := o) r0 r1 r2]
    exact si_m (si_pt h w hs.1 hs.2 r2 (by omega)) (by omega) g
  · rw [ca9__5 (r := r) (a := a) (k := k) (s := s) (q := q) (o := o) k5 r0 r1 r2, plR__4 (r := r) (a := b) (m := m) (k := k) (s := s) (q := q) (o := o) r0 r1 r2]
    exact si_pb h w hs.1 hs.2 (by omega) (by omega) g
/-- the beginning of both -/
theorem bb_2 {r : Int → Int} {a : Sg_} : bb9_ r a = bl9_ (u2_ (bl9_ (u2_ (bi9_ a (cz_ (r 0 = 3) 1 0)) 470 0 (r 9)) 0 (r 9)) 470 1 (r 9)) 1 (r 9) := rfl
theorem bl_f {b : Sg_} {s k J : Int} (h : s * 6 ≤ J ∧ J < s * 6 + k) : bl9_ b s k 471 J = s * 10 + (J - s * 6) := if_pos ⟨rfl, h⟩
theorem bl_r {b : Sg_} {s k J : Int} (h : s * 10 ≤ J ∧ J < s * 10 + k) : bl9_ b s k 472 J = 1 := by
  unfold bl9_
  rw [if_neg (fun e => absurd e.1 (by decide)), if_pos ⟨rfl, h⟩]
theorem bl_g {b : Sg_} {s k J : Int} (h : ¬ (s * 6 ≤ J ∧ J < s * 6 + k)) : bl9_ b s k 471 J = b 471 J := by
  unfold bl9_
  rw [if_neg (fun e => h e.2), if_neg (fun e => absurd e.1 (by decide))]
theorem bl_q {b : Sg_} {s k J : Int} (h : ¬ (s * 10 ≤ J ∧ J < s * 10 + k)) : bl9_ b s k 472 J = b 472 J := by
  unfold bl9_
  rw [if_neg (fun e => absurd e.1 (by decide)), if_neg (fun e => h e.2)]
theorem bl_k {b : Sg_} {s k : Int} {K : Nat} (h : K ≠ 471) (h2 : K ≠ 472) (J : Int) : bl9_ b s k K J = b K J := by
  unfold bl9_
  rw [if_neg (fun e => h e.1), if_neg (fun e => h2 e.1)]
theorem si_bb {m : Int} {r : Int → Int} {b a : Sg_} (w : RB9_ r) (g49 : ∀ t, 0 ≤ t → t ≤ 1 → r 9 ≤ a 449 t ∧ a 449 t ≤ 10) (w5 : ∀ s x y, 0 ≤ s → s ≤ 1 → s * 10 ≤ x → x < s * 10 + a 449 s → s * 10 ≤ y → y < s * 10 + a 449 s → a 448 x = a 448 y → x = y)
    (f49 : ∀ t, 0 ≤ t → t ≤ 1 → b 449 t = a 449 t) (f48 : ∀ t x, 0 ≤ t → t ≤ 1 → t * 10 ≤ x → x < t * 10 + a 449 t → b 448 x = a 448 x) (f70 : ∀ t, 0 ≤ t → t ≤ 1 → b 470 t = r 9)
    (f72 : ∀ t x, 0 ≤ t → t ≤ 1 → t * 10 ≤ x → x < t * 10 + a 449 t → (x < t * 10 + r 9 → b 472 x = 1) ∧ (t * 10 + r 9 ≤ x → b 472 x = 0) ∧ b 473 x = 0 ∧ b 474 x = 0)
    (f71 : ∀ t x, 0 ≤ t → t ≤ 1 → t * 6 ≤ x → x < t * 6 + r 9 → b 471 x = 20 * m + t * 10 + (x - t * 6))
    (fz : b 466 0 = 0 ∧ b 466 1 = 0 ∧ b 467 0 = 0 ∧ b 467 1 = 0 ∧ b 468 0 = 0 ∧ b 468 1 = 0 ∧ b 469 0 = 0 ∧ b 469 1 = 0) (f4 : b 103 4 = 0) (f5 : b 103 5 = cz_ (r 0 = 3) 1 0) (f3 : b 103 3 = 1) : SI_ m 0 r b (bb9_ r a) := by
  have w9 := w.2.1
  rw [bb_2]
  generalize hv : cz_ (r 0 = 3) (1 : Int) 0 = v at f5 ⊢
  have v01 : 0 ≤ v ∧ v ≤ 1 := by
    rw [← hv]
    by_cases z : r 0 = 3
    · rw [cz_t z]; decide
    · rw [cz_f z]; decide
  generalize hA : bl9_ (u2_ (bl9_ (u2_ (bi9_ a v) 470 0 (r 9)) 0 (r 9)) 470 1 (r 9)) 1 (r 9) = A
  have Ao : ∀ (K : Nat) (J : Int), K ≠ 470 → K ≠ 471 → K ≠ 472 → A K J = bi9_ a v K J := fun K J d e f => by rw [← hA, bl_k e f, u2_k d, bl_k e f, u2_k d]
  have A70 : ∀ t, 0 ≤ t → t ≤ 1 → A 470 t = r 9 := fun t t0 t1 => by
    rw [← hA, bl_k (by decide) (by decide)]
    rcases (by omega : t = 0 ∨ t = 1) with z | z
    · rw [z, u2_n (fun e => absurd e.2 (by decide)), bl_k (by decide) (by decide), u2_s]
    · rw [z, u2_s]
  have A71 : ∀ t x, 0 ≤ t → t ≤ 1 → t * 6 ≤ x → x < t * 6 + r 9 → A 471 x = t * 10 + (x - t * 6) := fun t x t0 t1 x0 x1 => by
    rw [← hA]
    rcases (by omega : t = 0 ∨ t = 1) with z | z
    · subst z
      rw [bl_g (by omega), u2_k (by decide), bl_f (by omega)]
    · subst z
      rw [bl_f (by omega)]
  have i72 : ∀ x, 0 ≤ x → x < 20 → bi9_ a v 472 x = 0 := fun x x0 x1 => by
    unfold bi9_
    rw [fy2_k (by decide)]
    exact fy2_s ⟨x0, x1⟩
  have A72 : ∀ t x, 0 ≤ t → t ≤ 1 → t * 10 ≤ x → x < t * 10 + 10 → (x < t * 10 + r 9 ∧ A 472 x = 1) ∨ (t * 10 + r 9 ≤ x ∧ A 472 x = 0) := fun t x t0 t1 x0 x1 => by
    rw [← hA]
    rcases (by omega : t = 0 ∨ t = 1) with z | z
    · subst z
      rw [bl_q (by omega), u2_k (by decide)]
      by_cases y : x < 0 * 10 + r 9
      · exact Or.inl ⟨y, bl_r (by omega)⟩
      · refine Or.inr ⟨by omega, ?_⟩
        rw [bl_q (by omega), u2_k (by decide)]
        exact i72 x (by omega) (by omega)
    · subst z
      by_cases y : x < 1 * 10 + r 9
      · exact Or.inl ⟨y, bl_r (by omega)⟩
      · refine Or.inr ⟨by omega, ?_⟩
        rw [bl_q (by omega), u2_k (by decide), bl_q (by omega), u2_k (by decide)]
        exact i72 x (by omega) (by omega)
  have A49 : ∀ J, A 449 J = a 449 J := fun J => by
    rw [Ao 449 J (by decide) (by decide) (by decide)]
    unfold bi9_
    rw [fy2_k (by decide), fy2_k (by decide), fy2_k (by decide), fy2_k (by decide), fy2_k (by decide), fy2_k (by decide), u2_k (by decide), u2_k (by decide), u2_k (by decide)]
  have A48 : ∀ J, A 448 J = a 448 J := fun J => by
    rw [Ao 448 J (by decide) (by decide) (by decide)]
    unfold bi9_
    rw [fy2_k (by decide), fy2_k (by decide), fy2_k (by decide), fy2_k (by decide), fy2_k (by decide), fy2_k (by decide), u2_k (by decide), u2_k (by decide), u2_k (by decide)]
  have A73 : ∀ x, 0 ≤ x → x < 20 → A 473 x = 0 := fun x x0 x1 => by
    rw [Ao 473 x (by decide) (by decide) (by decide)]
    exact fy2_s ⟨x0, x1⟩
  have A66 : ∀ j, 0 ≤ j → j ≤ 1 → A 466 j = 0 ∧ A 467 j = 0 ∧ A 468 j = 0 ∧ A 469 j = 0 := fun j j0 j1 => by
    rw [Ao 466 j (by decide) (by decide) (by decide), Ao 467 j (by decide) (by decide) (by decide), Ao 468 j (by decide) (by decide) (by decide), Ao 469 j (by decide) (by decide) (by decide)]
    unfold bi9_
    refine ⟨?_, ?_, ?_, ?_⟩
    · rw [fy2_k (by decide), fy2_k (by decide), fy2_k (by decide), fy2_k (by decide), fy2_k (by decide)]
      exact fy2_s ⟨j0, by omega⟩
    · rw [fy2_k (by decide), fy2_k (by decide), fy2_k (by decide), fy2_k (by decide)]
      exact fy2_s ⟨j0, by omega⟩
    · rw [fy2_k (by decide), fy2_k (by decide), fy2_k (by decide)]
      exact fy2_s ⟨j0, by omega⟩
    · rw [fy2_k (by decide), fy2_k (by decide)]
      exact fy2_s ⟨j0, by omega⟩
  have A3 : A 103 3 = 0 ∧ A 103 4 = 0 ∧ A 103 5 = v := by
    rw [Ao 103 3 (by decide) (by decide) (by decide), Ao 103 4 (by decide) (by decide) (by decide), Ao 103 5 (by decide) (by decide) (by decide)]
    unfold bi9_
    refine ⟨?_, ?_, ?_⟩
    · rw [fy2_k (by decide), fy2_k (by decide), fy2_k (by decide), fy2_k (by decide), fy2_k (by decide), fy2_k (by decide), u2_n (fun e => absurd e.2 (by decide)), u2_n (fun e => absurd e.2 (by decide)), u2_s]
    · rw [fy2_k (by decide), fy2_k (by decide), fy2_k (by decide), fy2_k (by decide), fy2_k (by decide), fy2_k (by decide), u2_n (fun e => absurd e.2 (by decide)), u2_s]
    · rw [fy2_k (by decide), fy2_k (by decide), fy2_k (by decide), fy2_k (by decide), fy2_k (by decide), fy2_k (by decide), u2_s]
  have z0 := A66 0 (by decide) (by decide)
  have z1 := A66 1 (by decide) (by decide)
  refine ⟨⟨?_, ?_, ?_, ?_, ?_⟩, ⟨?_, ?_, ?_, ?_, ?_⟩, ?_⟩
  · rw [A49, A49, A70 0 (by decide) (by decide), A70 1 (by decide) (by decide)]
    exact ⟨f49 0 (by decide) (by decide), f49 1 (by decide) (by decide), f70 0 (by decide) (by decide), f70 1 (by decide) (by decide)⟩
  · omega
  · exact ⟨by omega, by omega, Or.inl ⟨A3.1, f3⟩⟩
  · intro t x t0 t1 x0 x1
    rw [A70 t t0 t1] at x1
    rw [A71 t x t0 t1 x0 x1, f71 t x t0 t1 x0 x1]
    omega
  · intro t x t0 t1 x0 x1
    rw [A49] at x1
    have g := g49 t t0 t1
    have e := f72 t x t0 t1 x0 x1
    rw [A48, A73 x (by omega) (by omega)]
    refine ⟨f48 t x t0 t1 x0 x1, e.2.2.1, ?_⟩
    rcases A72 t x t0 t1 x0 (by omega) with ⟨y, z⟩ | ⟨y, z⟩
    · rw [z]; exact Or.inr ⟨by decide, e.1 y, e.2.2.2⟩
    · rw [z]; exact Or.inr ⟨by decide, e.2.1 y, e.2.2.2⟩
  · intro t t0 t1
    rw [A49, A70 t t0 t1]
    have := g49 t t0 t1
    omega
  · intro t x t0 t1 x0 x1
    rw [A70 t t0 t1] at x1
    have g := g49 t t0 t1
    rw [A49, A71 t x t0 t1 x0 x1]
    refine ⟨by omega, by omega, ?_⟩
    rcases A72 t (t * 10 + (x - t * 6)) t0 t1 (by omega) (by omega) with ⟨y, z⟩ | ⟨y, z⟩
    · exact z
    · omega
  · intro t x t0 t1 x0 x1 e
    rw [A49] at x1
    have g := g49 t t0 t1
    rcases A72 t x t0 t1 x0 (by omega) with ⟨y, z⟩ | ⟨y, z⟩
    · refine ⟨t * 6 + (x - t * 10), by omega, by rw [A70 t t0 t1]; omega, ?_⟩
      rw [A71 t _ t0 t1 (by omega) (by omega)]
      omega
    · omega
  · intro t x y t0 t1 x0 x1 y0 y1 e
    rw [A70 t t0 t1] at x1 y1
    rw [A71 t x t0 t1 x0 x1, A71 t y t0 t1 y0 y1] at e
    omega
  · intro t x y t0 t1 x0 x1 y0 y1 e
    rw [A49] at x1 y1
    rw [A48, A48] at e
    exact w5 t x y t0 t1 x0 x1 y0 y1 e
  · have w10 := w.2.2.1
    have w11 := w.2.2.2.1
    refine ⟨by decide, fun K J c j0 j1 => ?_, by omega, by omega, fun t x t0 t1 x0 x1 => ?_, fun _ => by omega, fun _ j j0 j1 => ?_, fun j j0 j1 => ?_⟩
    · have zj := A66 J j0 j1
      rcases c with c | c | c | c
      · rw [c]; omega
      · rw [c]; omega
      · rw [c]; omega
      · rw [c]; omega
    · rw [A49] at x1
      have g := g49 t t0 t1
      rw [A73 x (by omega) (by omega)]
      decide
    · have zj := A66 j j0 j1
      omega
    · have zj := A66 j j0 j1
      omega
