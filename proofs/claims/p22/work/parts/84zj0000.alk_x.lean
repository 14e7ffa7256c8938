-- the draw, both sides
theorem alk_x {E C f : Int → Int} {x g : Int} {n : Nat} : ∀ m : Nat, (∀ k : Int, n ≤ k → k < m → E k = -1) → n ≤ m → alk_ E C f x g m = alk_ E C f x g n
  | 0, _, h => by rw [show n = 0 by omega]
  | m + 1, z, h => by
    by_cases e : n = m + 1
    · rw [e]
    · have i := alk_x (C := C) (f := f) (x := x) (g := g) m (fun k a b => z k a (by omega)) (by omega)
      show alk_ E C f x g m + (if ((m : Nat) : Int) ≠ x ∧ E m ≠ -1 ∧ f m = g ∧ C m = C x then (1 : Int) else 0) = _
      have n1 : ¬ (((m : Nat) : Int) ≠ x ∧ E m ≠ -1 ∧ f m = g ∧ C m = C x) := fun q => q.2.1 (z m (by omega) (by omega))
      rw [i, if_neg n1]; omega
