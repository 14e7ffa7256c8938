theorem lpk_u {E b : Int → Int} {p c c2 : Int} (h0 : 0 ≤ c) (h1 : E c = p ∧ b c = -1) (h : c < c2) : (lpk_ E b p c.toNat).length < (lpk_ E b p c2.toNat).length := by
  have i := lpk_g (E := E) (b := b) (p := p) (n := (c + 1).toNat) c2.toNat (by omega)
  rw [lpk_t h0 h1, List.length_append, List.length_singleton] at i
  omega
