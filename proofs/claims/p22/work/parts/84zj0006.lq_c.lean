theorem lq_c {E b E2 b2 : Int → Int} {n m : Nat} (hn : n ≤ m) (h : ∀ k : Int, 0 ≤ k → k < n → E2 k = E k ∧ b2 k = b k) (z : ∀ k : Int, n ≤ k → k < m → E2 k = -1) : ∀ p : Nat, lq_ E2 b2 m p = lq_ E b n p
  | 0 => rfl
  | p + 1 => by
    show lq_ E2 b2 m p ++ lpk_ E2 b2 p m = lq_ E b n p ++ lpk_ E b p n
    rw [lq_c hn h z p, lpk_x m (fun k a c => by rw [z k a c]; omega) hn, lpk_c n h]
