theorem lpk_x {E b : Int → Int} {p : Int} {n : Nat} : ∀ m : Nat, (∀ k : Int, n ≤ k → k < m → E k ≠ p) → n ≤ m → lpk_ E b p m = lpk_ E b p n
  | 0, _, h => by rw [show n = 0 by omega]
  | m + 1, z, h => by
    by_cases e : n = m + 1
    · rw [e]
    · have i := lpk_x (b := b) m (fun k a c => z k a (by omega)) (by omega)
      show lpk_ E b p m ++ (if E m = p ∧ b m = -1 then [((m : Nat) : Int)] else []) = _
      have n1 : ¬ (E m = p ∧ b m = -1) := fun q => z m (by omega) (by omega) q.1
      rw [i, if_neg n1, List.append_nil]
