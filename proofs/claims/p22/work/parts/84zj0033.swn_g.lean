theorem swn_g {T U : Zt} {c : Int} (e : ∀ u, 0 ≤ u → u < 4 → U 431 0 (c * 4 + u) = (nw_ (drw_ T) c u (ll_ T) (gf_ T) : Nat)) {g : Int} (hg : 0 ≤ g ∧ g ≤ 3) : swn_ U c g.toNat = sgm_ T c (g - 1) ∧ swn_ U c (g + 1).toNat = sgm_ T c g := by
  have s0 : swn_ U c (0 : Int).toNat = sgm_ T c (-1) := sgm_0.symm
  have s1 : swn_ U c (1 : Int).toNat = sgm_ T c 0 := by
    have a := swn_s (T := U) (c := c) (g := 0) (by decide)
    have b := sgm_s (T := T) (c := c) (g := -1) (by decide)
    rw [e 0 (by decide) (by decide)] at a
    exact a.trans (by rw [s0]; exact b.symm)
  have s2 : swn_ U c (2 : Int).toNat = sgm_ T c 1 := by
    have a := swn_s (T := U) (c := c) (g := 1) (by decide)
    have b := sgm_s (T := T) (c := c) (g := 0) (by decide)
    rw [e 1 (by decide) (by decide)] at a
    exact a.trans (by rw [s1]; exact b.symm)
  have s3 : swn_ U c (3 : Int).toNat = sgm_ T c 2 := by
    have a := swn_s (T := U) (c := c) (g := 2) (by decide)
    have b := sgm_s (T := T) (c := c) (g := 1) (by decide)
    rw [e 2 (by decide) (by decide)] at a
    exact a.trans (by rw [s2]; exact b.symm)
  have s4 : swn_ U c (4 : Int).toNat = sgm_ T c 3 := by
    have a := swn_s (T := U) (c := c) (g := 3) (by decide)
    have b := sgm_s (T := T) (c := c) (g := 2) (by decide)
    rw [e 3 (by decide) (by decide)] at a
    exact a.trans (by rw [s3]; exact b.symm)
  rcases (by omega : g = 0 ∨ g = 1 ∨ g = 2 ∨ g = 3) with z | z | z | z
  · subst z; exact ⟨s0, s1⟩
  · subst z; exact ⟨s1, s2⟩
  · subst z; exact ⟨s2, s3⟩
  · subst z; exact ⟨s3, s4⟩
