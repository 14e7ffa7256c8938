-- the field of both sides: turning, going off, coming on
theorem sh_v {b : Sg_} {s : Int} : ∀ (n : Nat) (J : Int), shR_ b s n 471 J = if 6 * s ≤ J ∧ J < 6 * s + (n : Int) then b 471 (J + 1) else b 471 J
  | 0, J => by
    rw [if_neg (by omega)]
    rfl
  | n + 1, J => by
    show u2_ (shR_ b s n) 471 (6 * s + (n : Int)) (shR_ b s n 471 (6 * s + (n : Int) + 1)) 471 J = _
    by_cases z : J = 6 * s + (n : Int)
    · rw [z, u2_s, sh_v n, if_neg (by omega), if_pos (by omega)]
    · rw [u2_n (fun q => z q.2), sh_v n]
      by_cases y : 6 * s ≤ J ∧ J < 6 * s + (n : Int)
      · rw [if_pos y, if_pos (by omega)]
      · rw [if_neg y, if_neg (by omega)]
theorem sh_k {b : Sg_} {s : Int} {k : Nat} (h : k ≠ 471) (J : Int) : ∀ (n : Nat), shR_ b s n k J = b k J
  | 0 => rfl
  | n + 1 => by
    show u2_ (shR_ b s n) 471 (6 * s + (n : Int)) (shR_ b s n 471 (6 * s + (n : Int) + 1)) k J = _
    rw [u2_k h]
    exact sh_k h J n
theorem wbp_e {n : Int} {r : Int → Int} {a a' : Sg_} (h : WBP_ n r a) (e : ∀ (K : Nat) (J : Int), K ≠ 470 → K ≠ 471 → K ≠ 472 → a' K J = a K J) : WBP_ n r a' := by
  obtain ⟨h0, h1, h2, h3, h4, h5, h6, h7⟩ := h
  refine ⟨h0, fun K J q j0 j1 => ?_, ?_, ?_, fun s x s0 s1 x0 x1 => ?_, fun y => ?_, fun y J j0 j1 => ?_, fun J j0 j1 => ?_⟩
  · rw [e K J (by omega) (by omega) (by omega)]; exact h1 K J q j0 j1
  · rw [e 103 4 (by decide) (by decide) (by decide)]; exact h2
  · rw [e 103 5 (by decide) (by decide) (by decide)]; exact h3
  · rw [e 449 s (by decide) (by decide) (by decide)] at x1
    rw [e 473 x (by decide) (by decide) (by decide)]; exact h4 s x s0 s1 x0 x1
  · rw [e 467 1 (by decide) (by decide) (by decide)]; exact h5 y
  · rw [e 467 J (by decide) (by decide) (by decide)]; exact h6 y J j0 j1
  · rw [e 469 J (by decide) (by decide) (by decide)]; exact h7 J j0 j1
/-- a's cells but 470, 471, 472, and b's but 470, 471, 472, 474, stay: what is left to show -/
theorem eqp_e {m : Int} {b a b' a' : Sg_} (h : EQP_ m b a) (eb : ∀ (K : Nat) (J : Int), K ≠ 470 → K ≠ 471 → K ≠ 472 → K ≠ 474 → b' K J = b K J) (ea : ∀ (K : Nat) (J : Int), K ≠ 470 → K ≠ 471 → K ≠ 472 → a' K J = a K J)
    (g0 : b' 470 0 = a' 470 0 ∧ b' 470 1 = a' 470 1) (g1 : ∀ s x, 0 ≤ s → s ≤ 1 → s * 6 ≤ x → x < s * 6 + a' 470 s → b' 471 x = 20 * m + a' 471 x)
    (g2 : ∀ s x, 0 ≤ s → s ≤ 1 → s * 10 ≤ x → x < s * 10 + a 449 s → (a' 472 x = 3 ∧ b' 472 x = 2 ∧ b' 474 x = 1) ∨ (a' 472 x ≠ 3 ∧ b' 472 x = a' 472 x ∧ b' 474 x = 0)) : EQP_ m b' a' := by
  obtain ⟨⟨a1, a2, a3, a4⟩, ⟨b1, b2, b3, b4, b5, b6, b7, b8⟩, ⟨p4, p5, p3⟩, e4, e5⟩ := h
  have fb : ∀ (K : Nat) (J : Int), (K = 448 ∨ K = 449 ∨ K = 466 ∨ K = 467 ∨ K = 468 ∨ K = 469 ∨ K = 473 ∨ K = 103) → b' K J = b K J := fun K J c => eb K J (by omega) (by omega) (by omega) (by omega)
  have fa : ∀ (K : Nat) (J : Int), (K = 448 ∨ K = 449 ∨ K = 466 ∨ K = 467 ∨ K = 468 ∨ K = 469 ∨ K = 473 ∨ K = 103) → a' K J = a K J := fun K J c => ea K J (by omega) (by omega) (by omega)
  unfold EQP_
  simp only [fb 449 _ (by decide), fa 449 _ (by decide), fb 466 _ (by decide), fa 466 _ (by decide), fb 467 _ (by decide), fa 467 _ (by decide), fb 468 _ (by decide), fa 468 _ (by decide), fb 469 _ (by decide), fa 469 _ (by decide), fb 103 _ (by decide), fa 103 _ (by decide), fb 448 _ (by decide), fa 448 _ (by decide), fb 473 _ (by decide), fa 473 _ (by decide)]
  exact ⟨⟨a1, a2, g0.1, g0.2⟩, ⟨b1, b2, b3, b4, b5, b6, b7, b8⟩, ⟨p4, p5, p3⟩, g1, fun s x s0 s1 x0 x1 => ⟨(e5 s x s0 s1 x0 x1).1, (e5 s x s0 s1 x0 x1).2.1, g2 s x s0 s1 x0 x1⟩⟩
