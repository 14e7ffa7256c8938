theorem swn_m {T : Zt} {c i : Int} (h : ∀ u, 0 ≤ u → u < 4 → 0 ≤ T 431 0 (c * 4 + u)) (h0 : 0 ≤ i) : ∀ n : Nat, i + n ≤ 4 → swn_ T c i.toNat ≤ swn_ T c (i + n).toNat
  | 0, _ => by rw [show i + ((0 : Nat) : Int) = i by omega]; exact Int.le_refl _
  | n + 1, q => by
    have y := swn_m h h0 n (by omega)
    have z := h (i + n) (by omega) (by omega)
    have s := swn_s (T := T) (c := c) (g := i + n) (by omega)
    rw [show i + ((n + 1 : Nat) : Int) = i + (n : Int) + 1 by omega]
    omega
