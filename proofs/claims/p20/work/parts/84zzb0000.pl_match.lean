-- what is asked of a match, both sides alike
theorem pl_match {T : Zt} {N m w x1 x2 : Int} (hI : IC_ N T) (hP : PLR_ T) (hM : MAR_ T) (hD : DAR_ T) (hO : CNO_ T) (d1 : ((x1 = -2 ∧ ¬ (0 ≤ m ∧ m < T 106 0 4)) ∨ ((0 ≤ m ∧ m < T 106 0 4) ∧ ((w = 0 ∧ x1 = T 100 (T 102 m 0) 0) ∨ (w = 1 ∧ x1 = T 102 m 2) ∨ (w = 2 ∧ x1 = T 102 m 3) ∨ (w = 3 ∧ x1 = T 102 m 4) ∨ (w = 4 ∧ x1 = T 102 m 5) ∨ (w = 5 ∧ ((T 102 m 6 ≠ -1 ∧ x1 = 3) ∨ (T 102 m 6 = -1 ∧ ((T 102 m 10 = 0 ∧ x1 = 0) ∨ (T 102 m 10 ≠ 0 ∧ ((T 103 m 3 = 0 ∧ x1 = 1) ∨ (T 103 m 3 ≠ 0 ∧ x1 = 2))))))) ∨ (w = 6 ∧ ((T 102 m 6 ≠ -1 ∧ ((0 = T 102 m 6 ∧ x1 = 0) ∨ (0 ≠ T 102 m 6 ∧ x1 = T 401 (T 102 m 0) 12))) ∨ (T 102 m 6 = -1 ∧ ((T 102 m 10 = 0 ∧ x1 = 0) ∨ (T 102 m 10 ≠ 0 ∧ x1 = T 468 m 0))))) ∨ (w = 7 ∧ ((T 102 m 6 ≠ -1 ∧ ((1 = T 102 m 6 ∧ x1 = 0) ∨ (1 ≠ T 102 m 6 ∧ x1 = T 401 (T 102 m 0) 12))) ∨ (T 102 m 6 = -1 ∧ ((T 102 m 10 = 0 ∧ x1 = 0) ∨ (T 102 m 10 ≠ 0 ∧ x1 = T 468 m 1))))) ∨ (¬ (0 ≤ w ∧ w ≤ 7) ∧ x1 = -3))))) (d2 : ((x2 = -2 ∧ ¬ (0 ≤ m ∧ m < T 111 0 29)) ∨ ((0 ≤ m ∧ m < T 111 0 29) ∧ ((w = 0 ∧ x2 = T 230 0 m) ∨ (w = 1 ∧ x2 = T 231 0 m) ∨ (w = 2 ∧ x2 = T 232 0 m) ∨ (w = 3 ∧ x2 = T 233 0 m) ∨ (w = 4 ∧ x2 = T 234 0 m) ∨ (w = 5 ∧ x2 = T 235 0 m) ∨ (w = 6 ∧ x2 = T 236 0 m) ∨ (w = 7 ∧ x2 = T 237 0 m) ∨ (¬ (0 ≤ w ∧ w ≤ 7) ∧ x2 = -3))))) : x1 = x2 := by
  have m1 := hM.1
  rcases d1 with ⟨rfl, a⟩ | ⟨hm, d1⟩
  · rcases d2 with ⟨rfl, -⟩ | ⟨b, -⟩
    · rfl
    · exfalso; omega
  · obtain ⟨-, d2⟩ := d2.resolve_left (fun z => z.2 (by omega))
    have mm := hM.2 m hm.1 hm.2
    have dd := hD m hm.1 hm.2
    have hc : 0 ≤ T 102 m 0 ∧ T 102 m 0 < T 106 0 2 := (hI.1.2.1 m hm.1 hm.2).2
    have ho := hO _ hc.1 hc.2
    rcases (hP.1 m hm.1 hm.2).2 with z | z | z
    · unfold PAA_ at z
      omega
    · unfold PBB_ at z
      omega
    · obtain ⟨p1, p2, -, ⟨n, -, ps⟩, -⟩ := z
      have e3 := ps.1.2.2.1.2.2
      rw [rp_35, show rs9_ T m 103 3 = T 103 m 3 from rs_d rfl] at e3
      have s0 := (eq_j ps.1 (s := 0) (by decide) (by decide)).2.2.2.2.1
      have s1 := (eq_j ps.1 (s := 1) (by decide) (by decide)).2.2.2.2.1
      rw [rp_36, show rs9_ T m 468 0 = T 468 m 0 from rs_d rfl] at s0
      rw [rp_37, show rs9_ T m 468 1 = T 468 m 1 from rs_d rfl] at s1
      omega
