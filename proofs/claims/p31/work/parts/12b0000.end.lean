-- the table's bounds of a picture
theorem bd_f {T : Zt} (hT : ok_T T) (k j : Nat) {c k' : Nat} {lo hi : Int} (h : (tf_ k)[j]? = some (c, k', lo, hi)) (i : Int) : lo ≤ T k i (j : Int) ∧ T k i (j : Int) ≤ hi := hT.2.1 k j c k' lo hi h i
theorem bd_a {T : Zt} (hT : ok_T T) (k : Nat) {t : Nat} {n : Option Int} {lo hi : Int} (h : ta_ k = some (t, n, lo, hi)) (i : Int) {x : Int} (hx : 0 ≤ x) : lo ≤ T k i x ∧ T k i x ≤ hi := hT.1 k t n lo hi h i x hx
