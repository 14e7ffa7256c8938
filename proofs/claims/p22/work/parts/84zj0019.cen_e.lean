theorem cen_e {T T1 : Zt} {p : Int} (a : ∀ k, T1 301 0 k = T 301 0 k) (b : ∀ k, T1 302 0 k = T 302 0 k) : ∀ n : Nat, cen_ T1 p n = cen_ T p n
  | 0 => rfl
  | n + 1 => by
    show cen_ T1 p n + (if T1 301 0 (n : Int) = p ∧ T1 302 0 (n : Int) = -1 then (1 : Int) else 0) = cen_ T p n + (if T 301 0 (n : Int) = p ∧ T 302 0 (n : Int) = -1 then (1 : Int) else 0)
    rw [cen_e a b n, a, b]
