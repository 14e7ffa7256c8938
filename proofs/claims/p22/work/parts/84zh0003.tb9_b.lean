-- what is taken below m
def ns9_ (s : Int) : Int := wr_ (wr_ (s * 1664525) + 1013904223)
def tb9_ (m s : Int) : Int × Int := if us_ (ns9_ s) 1 < 2147483648 - 2147483648 % m then (us_ (ns9_ s) 1 % m, ns9_ s) else (us_ (ns9_ (ns9_ s)) 1 % m, ns9_ (ns9_ s))
theorem tb9_a {m s r v : Int} (h : v = us_ (ns9_ r) 1) (lt : v < 2147483648 - 2147483648 % m) (t : r = s ∨ (r = ns9_ s ∧ ¬ us_ (ns9_ s) 1 < 2147483648 - 2147483648 % m)) : v % m = (tb9_ m s).1 ∧ ns9_ r = (tb9_ m s).2 := by
  unfold tb9_
  rcases t with t | ⟨t, n⟩
  · subst t
    rw [h] at lt
    rw [if_pos lt, h]
    exact ⟨rfl, rfl⟩
  · rw [if_neg n, h, t]
    exact ⟨rfl, rfl⟩
theorem tb9_b {m s : Int} (hm : 1 ≤ m ∧ m ≤ 13824) (n : ¬ us_ (ns9_ s) 1 < 2147483648 - 2147483648 % m) : us_ (ns9_ (ns9_ s)) 1 < 2147483648 - 2147483648 % m := by
  have h1 := Int.emod_nonneg 2147483648 (show m ≠ 0 by omega)
  have h2 := Int.emod_lt_of_pos 2147483648 (show 0 < m by omega)
  have k := tk_2 (s := ns9_ s) (wr_r _) (by omega)
  have k2 : us_ (ns9_ (ns9_ s)) 1 < 2147469824 := k
  omega
