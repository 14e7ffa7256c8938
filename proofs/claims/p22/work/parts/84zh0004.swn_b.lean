theorem tb9_r {m s : Int} (hm : 1 ≤ m) : 0 ≤ (tb9_ m s).1 ∧ (tb9_ m s).1 < m := by
  unfold tb9_
  split
  · exact ⟨Int.emod_nonneg _ (by omega), Int.emod_lt_of_pos _ (by omega)⟩
  · exact ⟨Int.emod_nonneg _ (by omega), Int.emod_lt_of_pos _ (by omega)⟩
/-- how many of those that wait, before the k-th, are of pot p -/
def cpw_ (T : Zt) (p : Int) (k : Nat) : Int := cnz_ (fun j => T 428 0 (T 432 0 j)) p k
/-- sums of the ways with a club in the groups before the n-th -/
def swn_ (T : Zt) (c : Int) : Nat → Int
  | 0 => 0
  | u + 1 => swn_ T c u + T 431 0 (c * 4 + u)
theorem swn_s {T : Zt} {c g : Int} (h : 0 ≤ g) : swn_ T c (g + 1).toNat = swn_ T c g.toNat + T 431 0 (c * 4 + g) := by
  rw [show (g + 1).toNat = g.toNat + 1 by omega]
  show swn_ T c g.toNat + T 431 0 (c * 4 + (g.toNat : Int)) = _
  rw [show ((g.toNat : Nat) : Int) = g by omega]
theorem swn_b {T : Zt} {c : Int} (h : ∀ u, 0 ≤ u → u < 4 → 0 ≤ T 431 0 (c * 4 + u) ∧ T 431 0 (c * 4 + u) ≤ 13824) : ∀ n : Nat, n ≤ 4 → 0 ≤ swn_ T c n ∧ swn_ T c n ≤ 13824 * n
  | 0, _ => ⟨Int.le_refl _, Int.le_refl _⟩
  | n + 1, q => by
    have i := swn_b h n (by omega)
    have k := h n (by omega) (by omega)
    show 0 ≤ swn_ T c n + T 431 0 (c * 4 + n) ∧ swn_ T c n + T 431 0 (c * 4 + n) ≤ 13824 * ((n + 1 : Nat) : Int)
    omega
