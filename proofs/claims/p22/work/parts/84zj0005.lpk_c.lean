theorem lpk_c {E b E2 b2 : Int → Int} {p : Int} : ∀ n : Nat, (∀ k : Int, 0 ≤ k → k < n → E2 k = E k ∧ b2 k = b k) → lpk_ E2 b2 p n = lpk_ E b p n
  | 0, _ => rfl
  | n + 1, h => by
    have i := lpk_c (p := p) n (fun k a c => h k a (by omega))
    obtain ⟨h1, h2⟩ := h n (by omega) (by omega)
    show lpk_ E2 b2 p n ++ (if E2 n = p ∧ b2 n = -1 then [((n : Nat) : Int)] else []) = lpk_ E b p n ++ (if E n = p ∧ b n = -1 then [((n : Nat) : Int)] else [])
    rw [i, h1, h2]
