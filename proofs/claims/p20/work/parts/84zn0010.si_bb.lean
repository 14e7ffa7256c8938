/-- the beginning of both -/
theorem bb_2 {r : Int → Int} {a : Sg_} : bb9_ r a = bl9_ (u2_ (bl9_ (u2_ (bi9_ a (cz_ (r 0 = 3) 1 0)) 470 0 (r 9)) 0 (r 9)) 470 1 (r 9)) 1 (r 9) := rfl
theorem bl_f {b : Sg_} {s k J : Int} (h : s * 6 ≤ J ∧ J < s * 6 + k) : bl9_ b s k 471 J = s * 10 + (J - s * 6) := if_pos ⟨rfl, h⟩
theorem bl_r {b : Sg_} {s k J : Int} (h : s * 10 ≤ J ∧ J < s * 10 + k) : bl9_ b s k 472 J = 1 := by
  unfold bl9_
  rw [if_neg (fun e => absurd e.1 (by decide)), if_pos ⟨rfl, h⟩]
theorem bl_g {b : Sg_} {s k J : Int} (h : ¬ (s * 6 ≤ J ∧ J < s * 6 + k)) : bl9_ b s k 471 J = b 471 J := by
  unfold bl9_
  rw [if_neg (fun e => h e.2), if_neg (fun e => absurd e.1 (by decide))]
theorem bl_q {b : Sg_} {s k J : Int} (h : ¬ (s * 10 ≤ J ∧ J < s * 10 + k)) : bl9_ b s k 472 J = b 472 J := by
  unfold bl9_
  rw [if_neg (fun e => absurd e.1 (by decide)), if_neg (fun e => h e.2)]
theorem bl_k {b : Sg_} {s k : Int} {K : Nat} (h : K ≠ 471) (h2 : K ≠ 472) (J : Int) : bl9_ b s k K J = b K J := by
  unfold bl9_
  rw [if_neg (fun e => h e.1), if_neg (fun e => h2 e.1)]
theorem si_bb {m : Int} {r : Int → Int} {b a : Sg_} (w : RB9_ r) (g49 : ∀ t, 0 ≤ t → t ≤ 1 → r 9 ≤ a 449 t ∧ a 449 t ≤ 10) (w5 : ∀ s x y, 0 ≤ s → s ≤ 1 → s * 10 ≤ x → x < s * 10 + a 449 s → s * 10 ≤ y → y < s * 10 + a 449 s → a 448 x = a 448 y → x = y)
    (f49 : ∀ t, 0 ≤ t → t ≤ 1 → b 449 t = a 449 t) (f48 : ∀ t x, 0 ≤ t → t ≤ 1 → t * 10 ≤ x → x < t * 10 + a 449 t → b 448 x = a 448 x) (f70 : ∀ t, 0 ≤ t → t ≤ 1 → b 470 t = r 9)
    (f72 : ∀ t x, 0 ≤ t → t ≤ 1 → t * 10 ≤ x → x < t * 10 + a 449 t → (x < t * 10 + r 9 → b 472 x = 1) ∧ (t * 10 + r 9 ≤ x → b 472 x = 0) ∧ b 473 x = 0 ∧ b 474 x = 0)
    (f71 : ∀ t x, 0 ≤ t → t ≤ 1 → t * 6 ≤ x → x < t * 6 + r 9 → b 471 x = 20 * m + t * 10 + (x - t * 6))
    (fz : b 466 0 = 0 ∧ b 466 1 = 0 ∧ b 467 0 = 0 ∧ b 467 1 = 0 ∧ b 468 0 = 0 ∧ b 468 1 = 0 ∧ b 469 0 = 0 ∧ b 469 1 = 0) (f4 : b 103 4 = 0) (f5 : b 103 5 = cz_ (r 0 = 3) 1 0) (f3 : b 103 3 = 1) : SI_ m 0 r b (bb9_ r a) := by
  have w9 := w.2.1
  rw [bb_2]
  generalize hv : cz_ (r 0 = 3) (1 : Int) 0 = v at f5 ⊢
  have v01 : 0 ≤ v ∧ v ≤ 1 := by
    rw [← hv]
    by_cases z : r 0 = 3
    · rw [cz_t z]; decide
    · rw [cz_f z]; decide
  generalize hA : bl9_ (u2_ (bl9_ (u2_ (bi9_ a v) 470 0 (r 9)) 0 (r 9)) 470 1 (r 9)) 1 (r 9) = A
  have Ao : ∀ (K : Nat) (J : Int), K ≠ 470 → K ≠ 471 → K ≠ 472 → A K J = bi9_ a v K J := fun K J d e f => by rw [← hA, bl_k e f, u2_k d, bl_k e f, u2_k d]
  have A70 : ∀ t, 0 ≤ t → t ≤ 1 → A 470 t = r 9 := fun t t0 t1 => by
    rw [← hA, bl_k (by decide) (by decide)]
    rcases (by omega : t = 0 ∨ t = 1) with z | z
    · rw [z, u2_n (fun e => absurd e.2 (by decide)), bl_k (by decide) (by decide), u2_s]
    · rw [z, u2_s]
  have A71 : ∀ t x, 0 ≤ t → t ≤ 1 → t * 6 ≤ x → x < t * 6 + r 9 → A 471 x = t * 10 + (x - t * 6) := fun t x t0 t1 x0 x1 => by
    rw [← hA]
    rcases (by omega : t = 0 ∨ t = 1) with z | z
    · subst z
      rw [bl_g (by omega), u2_k (by decide), bl_f (by omega)]
    · subst z
      rw [bl_f (by omega)]
  have i72 : ∀ x, 0 ≤ x → x < 20 → bi9_ a v 472 x = 0 := fun x x0 x1 => by
    unfold bi9_
    rw [fy2_k (by decide)]
    exact fy2_s ⟨x0, x1⟩
  have A72 : ∀ t x, 0 ≤ t → t ≤ 1 → t * 10 ≤ x → x < t * 10 + 10 → (x < t * 10 + r 9 ∧ A 472 x = 1) ∨ (t * 10 + r 9 ≤ x ∧ A 472 x = 0) := fun t x t0 t1 x0 x1 => by
    rw [← hA]
    rcases (by omega : t = 0 ∨ t = 1) with z | z
    · subst z
      rw [bl_q (by omega), u2_k (by decide)]
      by_cases y : x < 0 * 10 + r 9
      · exact Or.inl ⟨y, bl_r (by omega)⟩
      · refine Or.inr ⟨by omega, ?_⟩
        rw [bl_q (by omega), u2_k (by decide)]
        exact i72 x (by omega) (by omega)
    · subst z
      by_cases y : x < 1 * 10 + r 9
      · exact Or.inl ⟨y, bl_r (by omega)⟩
      · refine Or.inr ⟨by omega, ?_⟩
        rw [bl_q (by omega), u2_k (by decide), bl_q (by omega), u2_k (by decide)]
        exact i72 x (by omega) (by omega)
  have A49 : ∀ J, A 449 J = a 449 J := fun J => by
    rw [Ao 449 J (by decide) (by decide) (by decide)]
    unfold bi9_
    rw [fy2_k (by decide), fy2_k (by decide), fy2_k (by decide), fy2_k (by decide), fy2_k (by decide), fy2_k (by decide), u2_k (by decide), u2_k (by decide), u2_k (by decide)]
  have A48 : ∀ J, A 448 J = a 448 J := fun J => by
    rw [Ao 448 J (by decide) (by decide) (by decide)]
    unfold bi9_
    rw [fy2_k (by decide), fy2_k (by decide), fy2_k (by decide), fy2_k (by decide), fy2_k (by decide), fy2_k (by decide), u2_k (by decide), u2_k (by decide), u2_k (by decide)]
  have A73 : ∀ x, 0 ≤ x → x < 20 → A 473 x = 0 := fun x x0 x1 => by
    rw [Ao 473 x (by decide) (by decide) (by decide)]
    exact fy2_s ⟨x0, x1⟩
  have A66 : ∀ j, 0 ≤ j → j ≤ 1 → A 466 j = 0 ∧ A 467 j = 0 ∧ A 468 j = 0 ∧ A 469 j = 0 := fun j j0 j1 => by
    rw [Ao 466 j (by decide) (by decide) (by decide), Ao 467 j (by decide) (by decide) (by decide), Ao 468 j (by decide) (by decide) (by decide), Ao 469 j (by decide) (by decide) (by decide)]
    unfold bi9_
    refine ⟨?_, ?_, ?_, ?_⟩
    · rw [fy2_k (by decide), fy2_k (by decide), fy2_k (by decide), fy2_k (by decide), fy2_k (by decide)]
      exact fy2_s ⟨j0, by omega⟩
    · rw [fy2_k (by decide), fy2_k (by decide), fy2_k (by decide), fy2_k (by decide)]
      exact fy2_s ⟨j0, by omega⟩
    · rw [fy2_k (by decide), fy2_k (by decide), fy2_k (by decide)]
      exact fy2_s ⟨j0, by omega⟩
    · rw [fy2_k (by decide), fy2_k (by decide)]
      exact fy2_s ⟨j0, by omega⟩
  have A3 : A 103 3 = 0 ∧ A 103 4 = 0 ∧ A 103 5 = v := by
    rw [Ao 103 3 (by decide) (by decide) (by decide), Ao 103 4 (by decide) (by decide) (by decide), Ao 103 5 (by decide) (by decide) (by decide)]
    unfold bi9_
    refine ⟨?_, ?_, ?_⟩
    · rw [fy2_k (by decide), fy2_k (by decide), fy2_k (by decide), fy2_k (by decide), fy2_k (by decide), fy2_k (by decide), u2_n (fun e => absurd e.2 (by decide)), u2_n (fun e => absurd e.2 (by decide)), u2_s]
    · rw [fy2_k (by decide), fy2_k (by decide), fy2_k (by decide), fy2_k (by decide), fy2_k (by decide), fy2_k (by decide), u2_n (fun e => absurd e.2 (by decide)), u2_s]
    · rw [fy2_k (by decide), fy2_k (by decide), fy2_k (by decide), fy2_k (by decide), fy2_k (by decide), fy2_k (by decide), u2_s]
  have z0 := A66 0 (by decide) (by decide)
  have z1 := A66 1 (by decide) (by decide)
  refine ⟨⟨?_, ?_, ?_, ?_, ?_⟩, ⟨?_, ?_, ?_, ?_, ?_⟩, ?_⟩
  · rw [A49, A49, A70 0 (by decide) (by decide), A70 1 (by decide) (by decide)]
    exact ⟨f49 0 (by decide) (by decide), f49 1 (by decide) (by decide), f70 0 (by decide) (by decide), f70 1 (by decide) (by decide)⟩
  · omega
  · exact ⟨by omega, by omega, Or.inl ⟨A3.1, f3⟩⟩
  · intro t x t0 t1 x0 x1
    rw [A70 t t0 t1] at x1
    rw [A71 t x t0 t1 x0 x1, f71 t x t0 t1 x0 x1]
    omega
  · intro t x t0 t1 x0 x1
    rw [A49] at x1
    have g := g49 t t0 t1
    have e := f72 t x t0 t1 x0 x1
    rw [A48, A73 x (by omega) (by omega)]
    refine ⟨f48 t x t0 t1 x0 x1, e.2.2.1, ?_⟩
    rcases A72 t x t0 t1 x0 (by omega) with ⟨y, z⟩ | ⟨y, z⟩
    · rw [z]; exact Or.inr ⟨by decide, e.1 y, e.2.2.2⟩
    · rw [z]; exact Or.inr ⟨by decide, e.2.1 y, e.2.2.2⟩
  · intro t t0 t1
    rw [A49, A70 t t0 t1]
    have := g49 t t0 t1
    omega
  · intro t x t0 t1 x0 x1
    rw [A70 t t0 t1] at x1
    have g := g49 t t0 t1
    rw [A49, A71 t x t0 t1 x0 x1]
    refine ⟨by omega, by omega, ?_⟩
    rcases A72 t (t * 10 + (x - t * 6)) t0 t1 (by omega) (by omega) with ⟨y, z⟩ | ⟨y, z⟩
    · exact z
    · omega
  · intro t x t0 t1 x0 x1 e
    rw [A49] at x1
    have g := g49 t t0 t1
    rcases A72 t x t0 t1 x0 (by omega) with ⟨y, z⟩ | ⟨y, z⟩
    · refine ⟨t * 6 + (x - t * 10), by omega, by rw [A70 t t0 t1]; omega, ?_⟩
      rw [A71 t _ t0 t1 (by omega) (by omega)]
      omega
    · omega
  · intro t x y t0 t1 x0 x1 y0 y1 e
    rw [A70 t t0 t1] at x1 y1
    rw [A71 t x t0 t1 x0 x1, A71 t y t0 t1 y0 y1] at e
    omega
  · intro t x y t0 t1 x0 x1 y0 y1 e
    rw [A49] at x1 y1
    rw [A48, A48] at e
    exact w5 t x y t0 t1 x0 x1 y0 y1 e
  · have w10 := w.2.2.1
    have w11 := w.2.2.2.1
    refine ⟨by decide, fun K J c j0 j1 => ?_, by omega, by omega, fun t x t0 t1 x0 x1 => ?_, fun _ => by omega, fun _ j j0 j1 => ?_, fun j j0 j1 => ?_⟩
    · have zj := A66 J j0 j1
      rcases c with c | c | c | c
      · rw [c]; omega
      · rw [c]; omega
      · rw [c]; omega
      · rw [c]; omega
    · rw [A49] at x1
      have g := g49 t t0 t1
      rw [A73 x (by omega) (by omega)]
      decide
    · have zj := A66 j j0 j1
      omega
    · have zj := A66 j j0 j1
      omega
