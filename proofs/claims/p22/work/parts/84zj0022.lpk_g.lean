theorem lpk_g {E b : Int → Int} {p : Int} {n : Nat} : ∀ m : Nat, n ≤ m → (lpk_ E b p n).length ≤ (lpk_ E b p m).length
  | 0, h => by rw [show n = 0 by omega]; exact Nat.le_refl _
  | m + 1, h => by
    by_cases e : n = m + 1
    · rw [e]; exact Nat.le_refl _
    · have i := lpk_g (E := E) (b := b) (p := p) (n := n) m (by omega)
      show _ ≤ (lpk_ E b p m ++ _).length
      rw [List.length_append]; omega
