-- counts of a row's places
def cnz_ (f : Int → Int) (v : Int) : Nat → Int
  | 0 => 0
  | k + 1 => cnz_ f v k + (if f k = v then 1 else 0)
theorem cnz_b (f : Int → Int) (v : Int) : ∀ k : Nat, 0 ≤ cnz_ f v k ∧ cnz_ f v k ≤ k
  | 0 => by simp [cnz_]
  | k + 1 => by
      have i := cnz_b f v k
      unfold cnz_
      split <;> omega
theorem cnz_t {f : Int → Int} {v k : Int} (hk : 0 ≤ k) (c : f k = v) : cnz_ f v (k + 1).toNat = cnz_ f v k.toNat + 1 := by
  rw [show (k + 1).toNat = k.toNat + 1 by omega]
  show cnz_ f v k.toNat + (if f (k.toNat : Int) = v then (1 : Int) else 0) = _
  rw [show ((k.toNat : Nat) : Int) = k by omega, if_pos c]
theorem cnz_f {f : Int → Int} {v k : Int} (hk : 0 ≤ k) (c : ¬ f k = v) : cnz_ f v (k + 1).toNat = cnz_ f v k.toNat := by
  rw [show (k + 1).toNat = k.toNat + 1 by omega]
  show cnz_ f v k.toNat + (if f (k.toNat : Int) = v then (1 : Int) else 0) = _
  rw [show ((k.toNat : Nat) : Int) = k by omega, if_neg c, Int.add_zero]
theorem cnz_e {f g : Int → Int} {v : Int} : ∀ n : Nat, (∀ k : Int, 0 ≤ k → k < n → f k = g k) → cnz_ f v n = cnz_ g v n
  | 0, _ => rfl
  | n + 1, h => by
    have i := cnz_e (v := v) n (fun k a b => h k a (by omega))
    show cnz_ f v n + (if f n = v then (1 : Int) else 0) = cnz_ g v n + (if g n = v then (1 : Int) else 0)
    rw [i, h n (by omega) (by omega)]
theorem cnz_n {f : Int → Int} {v : Int} : ∀ n : Nat, (∀ k : Int, 0 ≤ k → k < n → f k ≠ v) → cnz_ f v n = 0
  | 0, _ => rfl
  | n + 1, h => by
    have i := cnz_n (f := f) (v := v) n (fun k a b => h k a (by omega))
    show cnz_ f v n + (if f n = v then (1 : Int) else 0) = 0
    rw [i, if_neg (h n (by omega) (by omega))]; rfl
theorem cnz_a {f : Int → Int} {v : Int} : ∀ n : Nat, (∀ k : Int, 0 ≤ k → k < n → f k = v) → cnz_ f v n = n
  | 0, _ => rfl
  | n + 1, h => by
    have i := cnz_a (f := f) (v := v) n (fun k a b => h k a (by omega))
    show cnz_ f v n + (if f n = v then (1 : Int) else 0) = _
    rw [i, if_pos (h n (by omega) (by omega))]; omega
theorem cnz_p {f : Int → Int} {v j : Int} (h0 : 0 ≤ j) (c : f j = v) : ∀ n : Nat, j < n → 0 < cnz_ f v n
  | 0, h => by omega
  | n + 1, h => by
    have b := cnz_b f v n
    show 0 < cnz_ f v n + (if f n = v then (1 : Int) else 0)
    by_cases z : j = n
    · rw [← z, if_pos c]; omega
    · have := cnz_p h0 c n (by omega)
      split <;> omega
/-- one place changed -/
theorem cnz_u {f g : Int → Int} {v x : Int} (h0 : 0 ≤ x) (e : ∀ k, k ≠ x → g k = f k) : ∀ n : Nat, x < n → cnz_ g v n = cnz_ f v n - (if f x = v then 1 else 0) + (if g x = v then 1 else 0)
  | 0, h => by omega
  | n + 1, h => by
    show cnz_ g v n + (if g n = v then (1 : Int) else 0) = cnz_ f v n + (if f n = v then (1 : Int) else 0) - (if f x = v then 1 else 0) + (if g x = v then 1 else 0)
    by_cases z : x = n
    · rw [cnz_e n (f := g) (g := f) (fun k a b => e k (by omega)), ← z]
      omega
    · rw [cnz_u h0 e n (by omega), e n (fun q => z q.symm)]
      omega
