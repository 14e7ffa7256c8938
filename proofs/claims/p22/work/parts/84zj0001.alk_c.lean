theorem alk_c {E C f E2 C2 f2 : Int → Int} {x g : Int} (hx : C2 x = C x) : ∀ n : Nat, (∀ k : Int, 0 ≤ k → k < n → E2 k = E k ∧ f2 k = f k ∧ (E k ≠ -1 → C2 k = C k)) → alk_ E2 C2 f2 x g n = alk_ E C f x g n
  | 0, _ => rfl
  | n + 1, h => by
    have i := alk_c (g := g) hx n (fun k a b => h k a (by omega))
    obtain ⟨h1, h2, h3⟩ := h n (by omega) (by omega)
    show alk_ E2 C2 f2 x g n + (if ((n : Nat) : Int) ≠ x ∧ E2 n ≠ -1 ∧ f2 n = g ∧ C2 n = C2 x then (1 : Int) else 0) = alk_ E C f x g n + (if ((n : Nat) : Int) ≠ x ∧ E n ≠ -1 ∧ f n = g ∧ C n = C x then (1 : Int) else 0)
    rw [i, h1, h2, hx]
    by_cases z : E n = -1
    · have n1 : ¬ (((n : Nat) : Int) ≠ x ∧ E n ≠ -1 ∧ f n = g ∧ C2 n = C x) := fun q => q.2.1 z
      have n2 : ¬ (((n : Nat) : Int) ≠ x ∧ E n ≠ -1 ∧ f n = g ∧ C n = C x) := fun q => q.2.1 z
      rw [if_neg n1, if_neg n2]
    · rw [h3 z]
