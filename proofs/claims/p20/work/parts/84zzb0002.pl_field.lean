theorem pl_field {T : Zt} {m t i x1 x2 : Int} (hP : PLR_ T) (hM : MAR_ T) (d1 : ((x1 = -2 ∧ ¬ (0 ≤ m ∧ m < T 106 0 4)) ∨ ((0 ≤ m ∧ m < T 106 0 4) ∧ ((¬ (0 ≤ t ∧ t ≤ 1) ∧ x1 = -3) ∨ ((0 ≤ t ∧ t ≤ 1) ∧ ((¬ (T 102 m 10 ≠ 0 ∧ 0 ≤ i ∧ i < T 470 m t) ∧ x1 = -1) ∨ (T 102 m 10 ≠ 0 ∧ (0 ≤ i ∧ i < T 470 m t) ∧ x1 = T 448 m (T 471 m (t * 6 + i))))))))) (d2 : ((x2 = -2 ∧ ¬ (0 ≤ m ∧ m < T 111 0 29)) ∨ ((0 ≤ m ∧ m < T 111 0 29) ∧ ((¬ (0 ≤ t ∧ t ≤ 1) ∧ x2 = -3) ∨ ((0 ≤ t ∧ t ≤ 1) ∧ ((¬ ((T 235 0 m = 1 ∨ T 235 0 m = 2) ∧ 0 ≤ i ∧ i < T 244 0 (2 * m + t)) ∧ x2 = -1) ∨ ((T 235 0 m = 1 ∨ T 235 0 m = 2) ∧ (0 ≤ i ∧ i < T 244 0 (2 * m + t)) ∧ x2 = T 240 0 (T 245 0 (6 * (2 * m + t) + i))))))))) : x1 = x2 := by
  have m1 := hM.1
  rcases d1 with ⟨rfl, a⟩ | ⟨hm, d1⟩
  · rcases d2 with ⟨rfl, -⟩ | ⟨b, -⟩
    · rfl
    · exfalso; omega
  · obtain ⟨-, d2⟩ := d2.resolve_left (fun z => z.2 (by omega))
    rcases d1 with ⟨u, rfl⟩ | ⟨u, d1⟩
    · rcases d2 with ⟨-, rfl⟩ | ⟨y, -⟩
      · rfl
      · exact absurd y u
    · obtain ⟨-, d2⟩ := d2.resolve_left (fun y => y.1 u)
      have g := hP.1 m hm.1 hm.2
      rcases g.2 with z | z | z
      · have e1 := z.2.1
        have e2 := z.2.2.1
        omega
      · have e1 := z.1
        have e2 := z.2.1
        omega
      · obtain ⟨p1, p2, -, ⟨n, -, ps⟩, -⟩ := z
        have e3 := ps.1.2.2.1.2.2
        rw [rp_35] at e3
        have f := (eq_j ps.1 u.1 u.2).2.1
        rw [rp_v (m := m) (K := 244) (x := 2 * m + t) (dm_470 u) rfl rfl, show rs9_ T m 470 t = T 470 m t from rs_d rfl] at f
        rcases d1 with ⟨v, rfl⟩ | ⟨-, v, rfl⟩
        · rcases d2 with ⟨-, rfl⟩ | ⟨y1, y2, -⟩
          · rfl
          · exact absurd ⟨p2, by omega, by omega⟩ v
        · rcases d2 with ⟨y, -⟩ | ⟨-, -, rfl⟩
          · exact absurd ⟨by omega, by omega, by omega⟩ y
          · have w := ps.2.1
            have w1 := w.1 t u.1 u.2
            rw [show rs9_ T m 470 t = T 470 m t from rs_d rfl] at w1
            have r70 : rs9_ T m 470 t = T 470 m t := rs_d rfl
            have q := ps.1.2.2.2.1 t (t * 6 + i) u.1 u.2 (by omega) (by rw [r70]; omega)
            have s := w.2.1 t (t * 6 + i) u.1 u.2 (by omega) (by rw [r70]; omega)
            rw [rp_v (m := m) (K := 245) (x := 12 * m + (t * 6 + i)) (dm_471 ⟨by omega, by omega⟩) rfl rfl, show rs9_ T m 471 (t * 6 + i) = T 471 m (t * 6 + i) from rs_d rfl] at q
            rw [show rs9_ T m 471 (t * 6 + i) = T 471 m (t * 6 + i) from rs_d rfl, show rs9_ T m 449 t = T 449 m t from rs_d rfl] at s
            rw [show 6 * (2 * m + t) + i = 12 * m + (t * 6 + i) by omega, q]
            exact (g.1.2.1 t _ u.1 u.2 s.1 s.2.1).symm
