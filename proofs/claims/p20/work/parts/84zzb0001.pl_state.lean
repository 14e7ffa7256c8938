theorem pl_rows {T : Zt} {N m w x1 x2 : Int} (hI : IC_ N T) (hR : IR_ T) (hP : PLR_ T) (hM : MAR_ T) (d1 : ((x1 = -2 ∧ ¬ (0 ≤ m ∧ m < T 106 0 4)) ∨ ((0 ≤ m ∧ m < T 106 0 4) ∧ ((¬ (0 ≤ w ∧ w ≤ 1) ∧ x1 = -3) ∨ ((0 ≤ w ∧ w ≤ 1) ∧ ((T 102 m 10 = 0 ∧ x1 = 0) ∨ (T 102 m 10 ≠ 0 ∧ ((w = 0 ∧ x1 = T 103 m 15) ∨ (w = 1 ∧ x1 = T 103 m 17))))))))) (d2 : ((x2 = -2 ∧ ¬ (0 ≤ m ∧ m < T 111 0 29)) ∨ ((0 ≤ m ∧ m < T 111 0 29) ∧ ((¬ (0 ≤ w ∧ w ≤ 1) ∧ x2 = -3) ∨ (w = 0 ∧ x2 = T 254 0 m) ∨ (w = 1 ∧ x2 = T 256 0 m))))) : x1 = x2 := by
  have m1 := hM.1
  rcases d1 with ⟨rfl, a⟩ | ⟨hm, d1⟩
  · rcases d2 with ⟨rfl, -⟩ | ⟨b, -⟩
    · rfl
    · exfalso; omega
  · obtain ⟨-, d2⟩ := d2.resolve_left (fun z => z.2 (by omega))
    rcases (hP.1 m hm.1 hm.2).2 with z | z | z
    · unfold PAA_ at z
      omega
    · unfold PBB_ at z
      omega
    · have e := pcc_n z (hI.2.2.2.1 m hm.1 hm.2 z.2.1).1.1 (rx_n hR.2.2.2.2.2.2.2.2.1 hm.1 (by omega))
      have e2 := z.2.2.2.2.2.2.2
      have e3 := z.2.1
      omega
theorem pl_state {T : Zt} {m w x1 x2 : Int} (hP : PLR_ T) (hM : MAR_ T) (d1 : ((x1 = -2 ∧ ¬ (0 ≤ m ∧ m < T 106 0 4)) ∨ ((0 ≤ m ∧ m < T 106 0 4) ∧ ((¬ (0 ≤ w ∧ w ≤ 7) ∧ x1 = -3) ∨ ((0 ≤ w ∧ w ≤ 7) ∧ ((T 102 m 10 = 0 ∧ x1 = -4) ∨ (T 102 m 10 ≠ 0 ∧ ((w = 0 ∧ x1 = T 103 m 4) ∨ ((w = 1 ∨ w = 2) ∧ x1 = T 466 m (w - 1)) ∨ ((w = 3 ∨ w = 4) ∧ x1 = T 467 m (w - 3)) ∨ (w = 5 ∧ x1 = T 103 m 5) ∨ ((w = 6 ∨ w = 7) ∧ x1 = T 469 m (w - 6)))))))))) (d2 : ((x2 = -2 ∧ ¬ (0 ≤ m ∧ m < T 111 0 29)) ∨ ((0 ≤ m ∧ m < T 111 0 29) ∧ ((¬ (0 ≤ w ∧ w ≤ 7) ∧ x2 = -3) ∨ ((0 ≤ w ∧ w ≤ 7) ∧ ((¬ (T 235 0 m = 1 ∨ T 235 0 m = 2) ∧ x2 = -4) ∨ ((T 235 0 m = 1 ∨ T 235 0 m = 2) ∧ x2 = T 246 0 (8 * m + w)))))))) : x1 = x2 := by
  have m1 := hM.1
  rcases d1 with ⟨rfl, a⟩ | ⟨hm, d1⟩
  · rcases d2 with ⟨rfl, -⟩ | ⟨b, -⟩
    · rfl
    · exfalso; omega
  · obtain ⟨-, d2⟩ := d2.resolve_left (fun z => z.2 (by omega))
    rcases (hP.1 m hm.1 hm.2).2 with z | z | z
    · unfold PAA_ at z
      omega
    · unfold PBB_ at z
      omega
    · obtain ⟨p1, p2, -, ⟨n, -, ps⟩, -⟩ := z
      have e3 := ps.1.2.2.1
      have s0 := eq_j ps.1 (s := 0) (by decide) (by decide)
      have s1 := eq_j ps.1 (s := 1) (by decide) (by decide)
      have b0 : rp9_ T m 103 4 = T 246 0 (8 * m) := rp_v rfl rfl rfl
      have b5 : rp9_ T m 103 5 = T 246 0 (8 * m + 5) := rp_v rfl rfl rfl
      have b1 : rp9_ T m 466 0 = T 246 0 (8 * m + 1 + 0) := rp_v rfl rfl rfl
      have b2 : rp9_ T m 466 1 = T 246 0 (8 * m + 1 + 1) := rp_v rfl rfl rfl
      have b3 : rp9_ T m 467 0 = T 246 0 (8 * m + 3 + 0) := rp_v rfl rfl rfl
      have b4 : rp9_ T m 467 1 = T 246 0 (8 * m + 3 + 1) := rp_v rfl rfl rfl
      have b6 : rp9_ T m 469 0 = T 246 0 (8 * m + 6 + 0) := rp_v rfl rfl rfl
      have b7 : rp9_ T m 469 1 = T 246 0 (8 * m + 6 + 1) := rp_v rfl rfl rfl
      rw [show 8 * m + 1 + 0 = 8 * m + 1 by omega] at b1
      rw [show 8 * m + 1 + 1 = 8 * m + 2 by omega] at b2
      rw [show 8 * m + 3 + 0 = 8 * m + 3 by omega] at b3
      rw [show 8 * m + 3 + 1 = 8 * m + 4 by omega] at b4
      rw [show 8 * m + 6 + 0 = 8 * m + 6 by omega] at b6
      rw [show 8 * m + 6 + 1 = 8 * m + 7 by omega] at b7
      have a4 : rs9_ T m 103 4 = T 103 m 4 := rs_d rfl
      have a5 : rs9_ T m 103 5 = T 103 m 5 := rs_d rfl
      have a3 : rs9_ T m 103 3 = T 103 m 3 := rs_d rfl
      have g0 : rs9_ T m 466 0 = T 466 m 0 := rs_d rfl
      have g1 : rs9_ T m 466 1 = T 466 m 1 := rs_d rfl
      have g2 : rs9_ T m 467 0 = T 467 m 0 := rs_d rfl
      have g3 : rs9_ T m 467 1 = T 467 m 1 := rs_d rfl
      have g6 : rs9_ T m 469 0 = T 469 m 0 := rs_d rfl
      have g7 : rs9_ T m 469 1 = T 469 m 1 := rs_d rfl
      rw [rp_35, b0, b5, a3, a4, a5] at e3
      rw [b1, b3, b6, g0, g2, g6] at s0
      rw [b2, b4, b7, g1, g3, g7] at s1
      rcases d1 with ⟨u, rfl⟩ | ⟨u, d1⟩
      · rcases d2 with ⟨-, rfl⟩ | ⟨y, -⟩
        · rfl
        · exact absurd y u
      · obtain ⟨-, d2⟩ := d2.resolve_left (fun y => y.1 u)
        have d2 := d2.resolve_left (fun y => y.1 (by omega))
        have d1 := d1.resolve_left (fun y => p2 y.1)
        obtain ⟨-, d1⟩ := d1
        obtain ⟨-, rfl⟩ := d2
        rcases d1 with ⟨rfl, rfl⟩ | ⟨c | c, rfl⟩ | ⟨c | c, rfl⟩ | ⟨rfl, rfl⟩ | ⟨c | c, rfl⟩
        · rw [Int.add_zero]; omega
        · rw [c]; show T 466 m 0 = T 246 0 (8 * m + 1); omega
        · rw [c]; show T 466 m 1 = T 246 0 (8 * m + 2); omega
        · rw [c]; show T 467 m 0 = T 246 0 (8 * m + 3); omega
        · rw [c]; show T 467 m 1 = T 246 0 (8 * m + 4); omega
        · omega
        · rw [c]; show T 469 m 0 = T 246 0 (8 * m + 6); omega
        · rw [c]; show T 469 m 1 = T 246 0 (8 * m + 7); omega
