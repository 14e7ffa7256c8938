theorem cnz_s {f g : Int → Int} {v w j : Int} (h0 : 0 ≤ j) (a1 : f j ≠ v) (a2 : g j = w) : ∀ n : Nat, j < n → (∀ k : Int, 0 ≤ k → k < n → f k = v → g k = w) → cnz_ f v n < cnz_ g w n
  | 0, h, _ => by omega
  | n + 1, h, e => by
    show cnz_ f v n + (if f n = v then (1 : Int) else 0) < cnz_ g w n + (if g n = w then (1 : Int) else 0)
    have l := cnz_l (f := f) (g := g) (v := v) (w := w) n (fun k a b => e k a (by omega))
    by_cases z : j = n
    · rw [← z, if_neg a1, if_pos a2]; omega
    · have i := cnz_s h0 a1 a2 n (by omega) (fun k a b => e k a (by omega))
      by_cases y : f n = v
      · rw [if_pos y, if_pos (e n (by omega) (by omega) y)]; omega
      · rw [if_neg y]; split <;> omega
