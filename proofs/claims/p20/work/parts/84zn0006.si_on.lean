theorem mp_v {b : Sg_} {s x y : Int} : ∀ (n : Nat) (J : Int), mpR_ b s x y n 471 J = cz_ (6 * s ≤ J ∧ J < 6 * s + (n : Int) ∧ b 471 J = x) y (b 471 J)
  | 0, J => by
    rw [cz_f (by omega)]
    rfl
  | n + 1, J => by
    show u2_ (mpR_ b s x y n) 471 (6 * s + (n : Int)) (cz_ (mpR_ b s x y n 471 (6 * s + (n : Int)) = x) y (mpR_ b s x y n 471 (6 * s + (n : Int)))) 471 J = _
    have t : mpR_ b s x y n 471 (6 * s + (n : Int)) = b 471 (6 * s + (n : Int)) := by rw [mp_v n, cz_f (by omega)]
    rw [t]
    by_cases z : J = 6 * s + (n : Int)
    · rw [z, u2_s]
      by_cases w : b 471 (6 * s + (n : Int)) = x
      · rw [cz_t w, cz_t ⟨by omega, by omega, w⟩]
      · rw [cz_f w, cz_f (fun e => w e.2.2)]
    · rw [u2_n (fun e => z e.2), mp_v n]
      by_cases w : 6 * s ≤ J ∧ J < 6 * s + (n : Int) ∧ b 471 J = x
      · rw [cz_t w, cz_t ⟨w.1, by omega, w.2.2⟩]
      · rw [cz_f w, cz_f (fun e => w ⟨e.1, by omega, e.2.2⟩)]
theorem mp_k {b : Sg_} {s x y : Int} {K : Nat} (h : K ≠ 471) (J : Int) : ∀ (n : Nat), mpR_ b s x y n K J = b K J
  | 0 => rfl
  | n + 1 => by
    show u2_ (mpR_ b s x y n) 471 _ _ K J = _
    rw [u2_k h]
    exact mp_k h J n
/-- one comes for another -/
theorem si_on {m n : Int} {r : Int → Int} {b a : Sg_} {s k y : Int} (h : SI_ m n r b a) (h0 : 0 ≤ s) (h1 : s ≤ 1) (k0 : 0 ≤ k) (k1 : k < a 470 s) (y0 : s * 10 ≤ y) (y1 : y < s * 10 + a 449 s) (y2 : a 472 y = 0) :
    SI_ m n r (u2_ (u2_ (mpR_ b s (20 * m + a 471 (s * 6 + k)) (20 * m + y) (b 470 s).toNat) 472 (a 471 (s * 6 + k)) 2) 472 y 1) (u2_ (u2_ (u2_ a 472 (a 471 (s * 6 + k)) 2) 472 y 1) 471 (s * 6 + k) y) := by
  have ej := eq_j h.1 h0 h1
  have e70 : b 470 s = a 470 s := ej.2.1
  have e4 := h.1.2.2.2.1
  have e5 := h.1.2.2.2.2
  obtain ⟨w1, w2, w3, w4, w5⟩ := h.2.1
  have ws := w1 s h0 h1
  have g := w2 s (s * 6 + k) h0 h1 (by omega) (by omega)
  generalize hx : a 471 (s * 6 + k) = x at g ⊢
  have xy : x ≠ y := fun e => by have := g.2.2; rw [e, y2] at this; exact absurd this (by decide)
  generalize hA : u2_ (u2_ (u2_ a 472 x 2) 472 y 1) 471 (s * 6 + k) y = A
  generalize hB : u2_ (u2_ (mpR_ b s (20 * m + x) (20 * m + y) (b 470 s).toNat) 472 x 2) 472 y 1 = B
  have Ak : ∀ (K : Nat) (J : Int), K ≠ 471 → K ≠ 472 → A K J = a K J := fun K J d e => by rw [← hA, u2_k d, u2_k e, u2_k e]
  have Bk : ∀ (K : Nat) (J : Int), K ≠ 471 → K ≠ 472 → B K J = b K J := fun K J d e => by rw [← hB, u2_k e, u2_k e, mp_k d]
  have A72x : A 472 x = 2 := by rw [← hA, u2_k (by decide), u2_n (fun e => xy e.2), u2_s]
  have A72y : A 472 y = 1 := by rw [← hA, u2_k (by decide), u2_s]
  have A72o : ∀ z, z ≠ x → z ≠ y → A 472 z = a 472 z := fun z d e => by rw [← hA, u2_k (by decide), u2_n (fun f => e f.2), u2_n (fun f => d f.2)]
  have B72x : B 472 x = 2 := by rw [← hB, u2_n (fun e => xy e.2), u2_s]
  have B72y : B 472 y = 1 := by rw [← hB, u2_s]
  have B72o : ∀ z, z ≠ x → z ≠ y → B 472 z = b 472 z := fun z d e => by rw [← hB, u2_n (fun f => e f.2), u2_n (fun f => d f.2), mp_k (by decide)]
  have A71 : A 471 (s * 6 + k) = y := by rw [← hA, u2_s]
  have A71o : ∀ z, z ≠ s * 6 + k → A 471 z = a 471 z := fun z d => by rw [← hA, u2_n (fun e => d e.2), u2_k (by decide), u2_k (by decide)]
  have B71 : ∀ J, B 471 J = cz_ (6 * s ≤ J ∧ J < 6 * s + ((b 470 s).toNat : Int) ∧ b 471 J = 20 * m + x) (20 * m + y) (b 471 J) := fun J => by rw [← hB, u2_k (by decide), u2_k (by decide), mp_v]
  have A70 : ∀ J, A 470 J = a 470 J := fun J => Ak 470 J (by decide) (by decide)
  have A48 : ∀ J, A 448 J = a 448 J := fun J => Ak 448 J (by decide) (by decide)
  have A49 : ∀ J, A 449 J = a 449 J := fun J => Ak 449 J (by decide) (by decide)
  -- who comes stood nowhere
  have yn : ∀ z, s * 6 ≤ z → z < s * 6 + a 470 s → a 471 z ≠ y := fun z z0 z1 e => by
    have f := (w2 s z h0 h1 z0 z1).2.2
    rw [e, y2] at f
    exact absurd f (by decide)
  refine ⟨?_, ?_, wbp_e h.2.2 (fun K J _ d e => Ak K J d e)⟩
  · refine eqp_e h.1 (fun K J _ d e _ => Bk K J d e) (fun K J _ d e => Ak K J d e) ?_ ?_ ?_
    · rw [A70, A70, Bk 470 0 (by decide) (by decide), Bk 470 1 (by decide) (by decide)]
      exact h.1.1.2.2
    · intro t z t0 t1 z0 z1
      rw [A70] at z1
      have f := e4 t z t0 t1 z0 z1
      have v := w1 t t0 t1
      by_cases d : z = s * 6 + k
      · rw [d, A71, B71]
        have ts : t = s := by omega
        subst ts
        refine cz_t ⟨by omega, by omega, ?_⟩
        rw [← d, f, d, hx]
      · rw [A71o z d, B71, f]
        refine cz_f (fun e => ?_)
        have e3 := e.2.2
        have ts : t = s := by omega
        subst ts
        exact d (w4 t z (t * 6 + k) t0 t1 z0 z1 (by omega) (by omega) (by rw [hx]; omega))
    · intro t z t0 t1 z0 z1
      have f := (e5 t z t0 t1 z0 z1).2.2
      rw [Bk 474 z (by decide) (by decide)]
      by_cases d : z = x
      · have f9 : a 472 z = 1 := by rw [d]; exact g.2.2
        rw [d, A72x, B72x]
        rw [d] at f f9
        exact Or.inr ⟨by decide, rfl, by omega⟩
      · by_cases e : z = y
        · rw [e, A72y, B72y]
          rw [e] at f
          exact Or.inr ⟨by decide, rfl, by omega⟩
        · rw [A72o z d e, B72o z d e]
          exact f
  · unfold WS_
    simp only [A48, A49, A70]
    refine ⟨w1, ?_, ?_, ?_, w5⟩
    · intro t z t0 t1 z0 z1
      have v := w1 t t0 t1
      by_cases d : z = s * 6 + k
      · have ts : t = s := by omega
        subst ts
        rw [d, A71, A72y]
        exact ⟨y0, y1, rfl⟩
      · have f := w2 t z t0 t1 z0 z1
        have nx : a 471 z ≠ x := fun e => by
          have fx := f.1
          have ts : t = s := by omega
          subst ts
          exact d (w4 t z (t * 6 + k) t0 t1 z0 z1 (by omega) (by omega) (by rw [hx]; exact e))
        have ny : a 471 z ≠ y := fun e => by
          have f2 := f.2.2
          rw [e, y2] at f2
          exact absurd f2 (by decide)
        rw [A71o z d, A72o _ nx ny]
        exact f
    · intro t z t0 t1 z0 z1 e
      by_cases d : z = y
      · have v9 := w1 t t0 t1
        have ts : t = s := by omega
        subst ts
        exact ⟨t * 6 + k, by omega, by omega, by rw [A71, d]⟩
      · have nx : z ≠ x := fun f => by rw [f, A72x] at e; exact absurd e (by decide)
        rw [A72o z nx d] at e
        obtain ⟨p, p0, p1, p2⟩ := w3 t z t0 t1 z0 z1 e
        have np : p ≠ s * 6 + k := fun f => nx (by rw [← p2, f]; exact hx)
        exact ⟨p, p0, p1, by rw [A71o p np]; exact p2⟩
    · intro t z z' t0 t1 z0 z1 u0 u1 e
      have v := w1 t t0 t1
      by_cases d : z = s * 6 + k
      · by_cases d' : z' = s * 6 + k
        · omega
        · rw [d, A71, A71o z' d'] at e
          have ts : t = s := by omega
          subst ts
          exact absurd e.symm (yn z' u0 u1)
      · by_cases d' : z' = s * 6 + k
        · rw [d', A71, A71o z d] at e
          have ts : t = s := by omega
          subst ts
          exact absurd e (yn z z0 z1)
        · rw [A71o z d, A71o z' d'] at e
          exact w4 t z z' t0 t1 z0 z1 u0 u1 e
