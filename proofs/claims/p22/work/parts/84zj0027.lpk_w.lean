/-- the w-th of a pot stands behind w of them -/
theorem lpk_w {T : Zt} {E b : Int → Int} {p : Int} : ∀ n : Nat, WB_ T (lpk_ E b p n) 0 → ∀ w, 0 ≤ w → w < ((lpk_ E b p n).length : Int) → ((lpk_ E b p (T 432 0 w).toNat).length : Int) = w
  | 0, _, w, a, c => by
    have c2 : w < ((0 : Nat) : Int) := c
    omega
  | n + 1, h, w, a, c => by
    have h2 : WB_ T (lpk_ E b p n ++ (if E n = p ∧ b n = -1 then [((n : Nat) : Int)] else [])) 0 := h
    have c2 : w < ((lpk_ E b p n ++ (if E n = p ∧ b n = -1 then [((n : Nat) : Int)] else [])).length : Int) := c
    by_cases z : E n = p ∧ b n = -1
    · rw [if_pos z] at h2 c2
      obtain ⟨g1, g2⟩ := wb_a h2
      rw [List.length_append, List.length_singleton] at c2
      by_cases y : w = ((lpk_ E b p n).length : Int)
      · have e : T 432 0 w = ((n : Nat) : Int) := by
          have g3 := g2.1
          rw [show (0 : Int) + ((lpk_ E b p n).length : Int) = w by omega] at g3
          exact g3
        rw [e, show (((n : Nat) : Int)).toNat = n by omega]
        exact y.symm
      · exact lpk_w n g1 w a (by omega)
    · rw [if_neg z, List.append_nil] at h2 c2
      exact lpk_w n h2 w a c2
