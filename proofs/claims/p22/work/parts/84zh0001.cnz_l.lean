/-- where one holds the other does -/
theorem cnz_l {f g : Int → Int} {v w : Int} : ∀ n : Nat, (∀ k : Int, 0 ≤ k → k < n → f k = v → g k = w) → cnz_ f v n ≤ cnz_ g w n
  | 0, _ => Int.le_refl _
  | n + 1, h => by
    have i := cnz_l (f := f) (g := g) (v := v) (w := w) n (fun k a b => h k a (by omega))
    show cnz_ f v n + (if f n = v then (1 : Int) else 0) ≤ cnz_ g w n + (if g n = w then (1 : Int) else 0)
    by_cases z : f n = v
    · rw [if_pos z, if_pos (h n (by omega) (by omega) z)]; omega
    · rw [if_neg z]; split <;> omega
