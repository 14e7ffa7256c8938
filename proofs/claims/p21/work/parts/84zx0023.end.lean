theorem lwR_1 {r : Int → Int} {b : Sg_} {k s q o : Int} (h : b 103 3 ≠ 1) : lwR_ r b k s q o = 1 := by
  unfold lwR_
  exact cz_t h
