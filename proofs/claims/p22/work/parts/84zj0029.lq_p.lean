theorem lq_p {N : Nat} {E b : Int → Int} {p : Int} (hp : 0 ≤ p ∧ p ≤ 2) (hl : ∀ q, 0 ≤ q → q < p → lpk_ E b q N = []) : ∃ R, lq_ E b N 3 = lpk_ E b p N ++ R ∧ ∀ z ∈ R, E z ≠ p := by
  have e : lq_ E b N 3 = (([] ++ lpk_ E b 0 N) ++ lpk_ E b 1 N) ++ lpk_ E b 2 N := rfl
  rcases (by omega : p = 0 ∨ p = 1 ∨ p = 2) with z | z | z
  · subst z
    refine ⟨lpk_ E b 1 N ++ lpk_ E b 2 N, by rw [e, List.nil_append, List.append_assoc], fun x hx => ?_⟩
    rcases List.mem_append.mp hx with q | q
    · have := lpk_m q; omega
    · have := lpk_m q; omega
  · subst z
    refine ⟨lpk_ E b 2 N, by rw [e, hl 0 (by decide) (by decide), List.nil_append, List.nil_append], fun x hx => ?_⟩
    have := lpk_m hx; omega
  · subst z
    refine ⟨[], by rw [e, hl 0 (by decide) (by decide), hl 1 (by decide) (by decide), List.nil_append, List.nil_append, List.nil_append, List.append_nil], fun x hx => absurd hx List.not_mem_nil⟩
