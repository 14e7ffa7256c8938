/-- a ball of the reference, told by another picture with the same reference -/
theorem blr_t {T T1 T2 : Zt} {s b x : Int} (a : ∀ k, T1 301 0 k = T 301 0 k) (c : ∀ k, T1 302 0 k = T 302 0 k) (d : ∀ k, T1 214 0 k = T 214 0 k) (e : ∀ j, T1 111 0 j = T 111 0 j) (h : BLR_ T1 T2 s b x) : BLR_ T T2 s b x := by
  have h0 : ∀ fx gp, nw_ (drw_ T1) fx gp (ll_ T1) (gf_ T1) = nw_ (drw_ T) fx gp (ll_ T) (gf_ T) := fun fx gp => by
    rw [drw_e a d (e 12) (e 99) (e 100), ll_e a c (e 12), gf_e c]
  have h1 : BR0_ T1 = BR0_ T := by
    unfold BR0_
    rw [h0]
  have h2 : ∀ p k, cel_ T1 p k = cel_ T p k := fun p k => cen_e a c _
  have h3 : ∀ c g, sgm_ T1 c g = sgm_ T c g := fun c g => by
    unfold sgm_
    rw [h0, h0, h0, h0]
  rcases h with ⟨q1, q2, q3, q4⟩ | ⟨q1, q2, s0, p, cc, g, u1, ⟨u2, j0, v1, v2, v3, v4⟩, u3, ⟨w1, w2, w3, w4, w5⟩, u4, ⟨u5, u6⟩, u7, u8, u9, u10⟩
  · refine Or.inl ⟨q1, fun k => (q2 k).trans (c k), q3.trans (e 103), ?_⟩
    rw [h1, e 98, e 12] at q4
    rcases q4 with q4 | q4 | q4
    · exact Or.inl q4
    · exact Or.inr (Or.inl (fun j z1 z2 z3 => by rw [← c]; exact q4 j z1 z2 (by rw [a]; exact z3)))
    · exact Or.inr (Or.inr q4)
  · rw [e 98] at q1
    rw [h1] at q2 u5 u6 u7
    rw [e 103] at u1
    rw [e 12] at v2 w2 w5 u5 u6 u7
    rw [h2] at w5 u5 u6 u7
    rw [h2] at w5
    rw [h3] at u5 u6
    rw [a] at w3 v3
    rw [c] at w4 v4
    refine Or.inr ⟨q1, q2, s0, p, cc, g, u1, ⟨u2, j0, v1, v2, v3, v4⟩, fun j z1 z2 z3 z4 => ?_, ⟨w1, w2, w3, w4, w5⟩, u4, ⟨u5, u6⟩, u7, u8, fun j hj => (u9 j hj).trans (c j), u10⟩
    have y := u3 j z1 (by rw [e 12]; exact z2) (by rw [a]; exact z3) (by rw [c]; exact z4)
    rw [a] at y
    exact y
