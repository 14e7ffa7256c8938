theorem cnz_m {f : Int → Int} {v : Int} {m : Nat} : ∀ n : Nat, m ≤ n → (∀ k : Int, 0 ≤ k → k < m → f k = v) → (∀ k : Int, m ≤ k → k < n → f k ≠ v) → cnz_ f v n = m
  | 0, h, _, _ => by rw [show m = 0 by omega]; rfl
  | n + 1, h, a, b => by
    by_cases e : m = n + 1
    · rw [e] at a ⊢
      exact cnz_a (n + 1) a
    · have i := cnz_m (f := f) (v := v) n (by omega) a (fun k p q => b k p (by omega))
      show cnz_ f v n + (if f n = v then (1 : Int) else 0) = _
      rw [i, if_neg (b n (by omega) (by omega)), Int.add_zero]
