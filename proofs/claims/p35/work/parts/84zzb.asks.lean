-- what is asked of a match, both sides alike
theorem pl_match {T : Zt} {N m w x1 x2 : Int} (hI : IC_ N T) (hP : PLR_ T) (hM : MAR_ T) (hD : DAR_ T) (hO : CNO_ T) (d1 : ((x1 = -2 ∧ ¬ (0 ≤ m ∧ m < T 106 0 4)) ∨ ((0 ≤ m ∧ m < T 106 0 4) ∧ ((w = 0 ∧ x1 = T 100 (T 102 m 0) 0) ∨ (w = 1 ∧ x1 = T 102 m 2) ∨ (w = 2 ∧ x1 = T 102 m 3) ∨ (w = 3 ∧ x1 = T 102 m 4) ∨ (w = 4 ∧ x1 = T 102 m 5) ∨ (w = 5 ∧ ((T 102 m 6 ≠ -1 ∧ x1 = 3) ∨ (T 102 m 6 = -1 ∧ ((T 102 m 10 = 0 ∧ x1 = 0) ∨ (T 102 m 10 ≠ 0 ∧ ((T 103 m 3 = 0 ∧ x1 = 1) ∨ (T 103 m 3 ≠ 0 ∧ x1 = 2))))))) ∨ (w = 6 ∧ ((T 102 m 6 ≠ -1 ∧ ((0 = T 102 m 6 ∧ x1 = 0) ∨ (0 ≠ T 102 m 6 ∧ x1 = T 401 (T 102 m 0) 12))) ∨ (T 102 m 6 = -1 ∧ ((T 102 m 10 = 0 ∧ x1 = 0) ∨ (T 102 m 10 ≠ 0 ∧ x1 = T 468 m 0))))) ∨ (w = 7 ∧ ((T 102 m 6 ≠ -1 ∧ ((1 = T 102 m 6 ∧ x1 = 0) ∨ (1 ≠ T 102 m 6 ∧ x1 = T 401 (T 102 m 0) 12))) ∨ (T 102 m 6 = -1 ∧ ((T 102 m 10 = 0 ∧ x1 = 0) ∨ (T 102 m 10 ≠ 0 ∧ x1 = T 468 m 1))))) ∨ (¬ (0 ≤ w ∧ w ≤ 7) ∧ x1 = -3))))) (d2 : ((x2 = -2 ∧ ¬ (0 ≤ m ∧ m < T 111 0 29)) ∨ ((0 ≤ m ∧ m < T 111 0 29) ∧ ((w = 0 ∧ x2 = T 230 0 m) ∨ (w = 1 ∧ x2 = T 231 0 m) ∨ (w = 2 ∧ x2 = T 232 0 m) ∨ (w = 3 ∧ x2 = T 233 0 m) ∨ (w = 4 ∧ x2 = T 234 0 m) ∨ (w = 5 ∧ x2 = T 235 0 m) ∨ (w = 6 ∧ x2 = T 236 0 m) ∨ (w = 7 ∧ x2 = T 237 0 m) ∨ (¬ (0 ≤ w ∧ w ≤ 7) ∧ x2 = -3))))) : x1 = x2 := by
  have m1 := hM.1
  rcases d1 with ⟨rfl, a⟩ | ⟨hm, d1⟩
  · rcases d2 with ⟨rfl, -⟩ | ⟨b, -⟩
    · rfl
    · exfalso; omega
  · obtain ⟨-, d2⟩ := d2.resolve_left (fun z => z.2 (by omega))
    have mm := hM.2 m hm.1 hm.2
    have dd := hD m hm.1 hm.2
    have hc : 0 ≤ T 102 m 0 ∧ T 102 m 0 < T 106 0 2 := (hI.1.2.1 m hm.1 hm.2).2
    have ho := hO _ hc.1 hc.2
    rcases (hP.1 m hm.1 hm.2).2 with z | z | z
    · unfold PAA_ at z
      omega
    · unfold PBB_ at z
      omega
    · obtain ⟨p1, p2, -, ⟨n, -, ps⟩, -⟩ := z
      have e3 := ps.1.2.2.1.2.2
      rw [rp_35, show rs9_ T m 103 3 = T 103 m 3 from rs_d rfl] at e3
      have s0 := (eq_j ps.1 (s := 0) (by decide) (by decide)).2.2.2.2.1
      have s1 := (eq_j ps.1 (s := 1) (by decide) (by decide)).2.2.2.2.1
      rw [rp_36, show rs9_ T m 468 0 = T 468 m 0 from rs_d rfl] at s0
      rw [rp_37, show rs9_ T m 468 1 = T 468 m 1 from rs_d rfl] at s1
      omega
theorem pl_rows {T : Zt} {N m w x1 x2 : Int} (hI : IC_ N T) (hR : IR_ T) (hP : PLR_ T) (hM : MAR_ T) (d1 : ((x1 = -2 ∧ ¬ (0 ≤ m ∧ m < T 106 0 4)) ∨ ((0 ≤ m ∧ m < T 106 0 4) ∧ ((¬ (0 ≤ w ∧ w ≤ 1) ∧ x1 = -3) ∨ ((0 ≤ w ∧ w ≤ 1) ∧ ((T 102 m 10 = 0 ∧ x1 = 0) ∨ (T 102 m 10 ≠ 0 ∧ ((w = 0 ∧ x1 = T 103 m 15) ∨ (w = 1 ∧ x1 = T 103 m 17))))))))) (d2 : ((x2 = -2 ∧ ¬ (0 ≤ m ∧ m < T 111 0 29)) ∨ ((0 ≤ m ∧ m < T 111 0 29) ∧ ((¬ (0 ≤ w ∧ w ≤ 1) ∧ x2 = -3) ∨ (w = 0 ∧ x2 = T 254 0 m) ∨ (w = 1 ∧ x2 = T 256 0 m))))) : x1 = x2 := by
  have m1 := hM.1
  rcases d1 with ⟨rfl, a⟩ | ⟨hm, d1⟩
  · rcases d2 with ⟨rfl, -⟩ | ⟨b, -⟩
    · rfl
    · exfalso; omega
  · obtain ⟨-, d2⟩ := d2.resolve_left (fun z => z.2 (by omega))
    rcases (hP.1 m hm.1 hm.2).2 with z | z | z
    · unfold PAA_ at z
      omega
    · unfold PBB_ at z
      omega
    · have e := pcc_n z (hI.2.2.2.1 m hm.1 hm.2 z.2.1).1.1 (rx_n hR.2.2.2.2.2.2.2.2.1 hm.1 (by omega))
      have e2 := z.2.2.2.2.2.2.2
      have e3 := z.2.1
      omega
theorem pl_state {T : Zt} {m w x1 x2 : Int} (hP : PLR_ T) (hM : MAR_ T) (d1 : ((x1 = -2 ∧ ¬ (0 ≤ m ∧ m < T 106 0 4)) ∨ ((0 ≤ m ∧ m < T 106 0 4) ∧ ((¬ (0 ≤ w ∧ w ≤ 7) ∧ x1 = -3) ∨ ((0 ≤ w ∧ w ≤ 7) ∧ ((T 102 m 10 = 0 ∧ x1 = -4) ∨ (T 102 m 10 ≠ 0 ∧ ((w = 0 ∧ x1 = T 103 m 4) ∨ ((w = 1 ∨ w = 2) ∧ x1 = T 466 m (w - 1)) ∨ ((w = 3 ∨ w = 4) ∧ x1 = T 467 m (w - 3)) ∨ (w = 5 ∧ x1 = T 103 m 5) ∨ ((w = 6 ∨ w = 7) ∧ x1 = T 469 m (w - 6)))))))))) (d2 : ((x2 = -2 ∧ ¬ (0 ≤ m ∧ m < T 111 0 29)) ∨ ((0 ≤ m ∧ m < T 111 0 29) ∧ ((¬ (0 ≤ w ∧ w ≤ 7) ∧ x2 = -3) ∨ ((0 ≤ w ∧ w ≤ 7) ∧ ((¬ (T 235 0 m = 1 ∨ T 235 0 m = 2) ∧ x2 = -4) ∨ ((T 235 0 m = 1 ∨ T 235 0 m = 2) ∧ x2 = T 246 0 (8 * m + w)))))))) : x1 = x2 := by
  have m1 := hM.1
  rcases d1 with ⟨rfl, a⟩ | ⟨hm, d1⟩
  · rcases d2 with ⟨rfl, -⟩ | ⟨b, -⟩
    · rfl
    · exfalso; omega
  · obtain ⟨-, d2⟩ := d2.resolve_left (fun z => z.2 (by omega))
    rcases (hP.1 m hm.1 hm.2).2 with z | z | z
    · unfold PAA_ at z
      omega
    · unfold PBB_ at z
      omega
    · obtain ⟨p1, p2, -, ⟨n, -, ps⟩, -⟩ := z
      have e3 := ps.1.2.2.1
      have s0 := eq_j ps.1 (s := 0) (by decide) (by decide)
      have s1 := eq_j ps.1 (s := 1) (by decide) (by decide)
      have b0 : rp9_ T m 103 4 = T 246 0 (8 * m) := rp_v rfl rfl rfl
      have b5 : rp9_ T m 103 5 = T 246 0 (8 * m + 5) := rp_v rfl rfl rfl
      have b1 : rp9_ T m 466 0 = T 246 0 (8 * m + 1 + 0) := rp_v rfl rfl rfl
      have b2 : rp9_ T m 466 1 = T 246 0 (8 * m + 1 + 1) := rp_v rfl rfl rfl
      have b3 : rp9_ T m 467 0 = T 246 0 (8 * m + 3 + 0) := rp_v rfl rfl rfl
      have b4 : rp9_ T m 467 1 = T 246 0 (8 * m + 3 + 1) := rp_v rfl rfl rfl
      have b6 : rp9_ T m 469 0 = T 246 0 (8 * m + 6 + 0) := rp_v rfl rfl rfl
      have b7 : rp9_ T m 469 1 = T 246 0 (8 * m + 6 + 1) := rp_v rfl rfl rfl
      rw [show 8 * m + 1 + 0 = 8 * m + 1 by omega] at b1
      rw [show 8 * m + 1 + 1 = 8 * m + 2 by omega] at b2
      rw [show 8 * m + 3 + 0 = 8 * m + 3 by omega] at b3
      rw [show 8 * m + 3 + 1 = 8 * m + 4 by omega] at b4
      rw [show 8 * m + 6 + 0 = 8 * m + 6 by omega] at b6
      rw [show 8 * m + 6 + 1 = 8 * m + 7 by omega] at b7
      have a4 : rs9_ T m 103 4 = T 103 m 4 := rs_d rfl
      have a5 : rs9_ T m 103 5 = T 103 m 5 := rs_d rfl
      have a3 : rs9_ T m 103 3 = T 103 m 3 := rs_d rfl
      have g0 : rs9_ T m 466 0 = T 466 m 0 := rs_d rfl
      have g1 : rs9_ T m 466 1 = T 466 m 1 := rs_d rfl
      have g2 : rs9_ T m 467 0 = T 467 m 0 := rs_d rfl
      have g3 : rs9_ T m 467 1 = T 467 m 1 := rs_d rfl
      have g6 : rs9_ T m 469 0 = T 469 m 0 := rs_d rfl
      have g7 : rs9_ T m 469 1 = T 469 m 1 := rs_d rfl
      rw [rp_35, b0, b5, a3, a4, a5] at e3
      rw [b1, b3, b6, g0, g2, g6] at s0
      rw [b2, b4, b7, g1, g3, g7] at s1
      rcases d1 with ⟨u, rfl⟩ | ⟨u, d1⟩
      · rcases d2 with ⟨-, rfl⟩ | ⟨y, -⟩
        · rfl
        · exact absurd y u
      · obtain ⟨-, d2⟩ := d2.resolve_left (fun y => y.1 u)
        have d2 := d2.resolve_left (fun y => y.1 (by omega))
        have d1 := d1.resolve_left (fun y => p2 y.1)
        obtain ⟨-, d1⟩ := d1
        obtain ⟨-, rfl⟩ := d2
        rcases d1 with ⟨rfl, rfl⟩ | ⟨c | c, rfl⟩ | ⟨c | c, rfl⟩ | ⟨rfl, rfl⟩ | ⟨c | c, rfl⟩
        · rw [Int.add_zero]; omega
        · rw [c]; show T 466 m 0 = T 246 0 (8 * m + 1); omega
        · rw [c]; show T 466 m 1 = T 246 0 (8 * m + 2); omega
        · rw [c]; show T 467 m 0 = T 246 0 (8 * m + 3); omega
        · rw [c]; show T 467 m 1 = T 246 0 (8 * m + 4); omega
        · omega
        · rw [c]; show T 469 m 0 = T 246 0 (8 * m + 6); omega
        · rw [c]; show T 469 m 1 = T 246 0 (8 * m + 7); omega
theorem pl_field {T : Zt} {m t i x1 x2 : Int} (hP : PLR_ T) (hM : MAR_ T) (d1 : ((x1 = -2 ∧ ¬ (0 ≤ m ∧ m < T 106 0 4)) ∨ ((0 ≤ m ∧ m < T 106 0 4) ∧ ((¬ (0 ≤ t ∧ t ≤ 1) ∧ x1 = -3) ∨ ((0 ≤ t ∧ t ≤ 1) ∧ ((¬ (T 102 m 10 ≠ 0 ∧ 0 ≤ i ∧ i < T 470 m t) ∧ x1 = -1) ∨ (T 102 m 10 ≠ 0 ∧ (0 ≤ i ∧ i < T 470 m t) ∧ x1 = T 448 m (T 471 m (t * 6 + i))))))))) (d2 : ((x2 = -2 ∧ ¬ (0 ≤ m ∧ m < T 111 0 29)) ∨ ((0 ≤ m ∧ m < T 111 0 29) ∧ ((¬ (0 ≤ t ∧ t ≤ 1) ∧ x2 = -3) ∨ ((0 ≤ t ∧ t ≤ 1) ∧ ((¬ ((T 235 0 m = 1 ∨ T 235 0 m = 2) ∧ 0 ≤ i ∧ i < T 244 0 (2 * m + t)) ∧ x2 = -1) ∨ ((T 235 0 m = 1 ∨ T 235 0 m = 2) ∧ (0 ≤ i ∧ i < T 244 0 (2 * m + t)) ∧ x2 = T 240 0 (T 245 0 (6 * (2 * m + t) + i))))))))) : x1 = x2 := by
  have m1 := hM.1
  rcases d1 with ⟨rfl, a⟩ | ⟨hm, d1⟩
  · rcases d2 with ⟨rfl, -⟩ | ⟨b, -⟩
    · rfl
    · exfalso; omega
  · obtain ⟨-, d2⟩ := d2.resolve_left (fun z => z.2 (by omega))
    rcases d1 with ⟨u, rfl⟩ | ⟨u, d1⟩
    · rcases d2 with ⟨-, rfl⟩ | ⟨y, -⟩
      · rfl
      · exact absurd y u
    · obtain ⟨-, d2⟩ := d2.resolve_left (fun y => y.1 u)
      have g := hP.1 m hm.1 hm.2
      rcases g.2 with z | z | z
      · have e1 := z.2.1
        have e2 := z.2.2.1
        omega
      · have e1 := z.1
        have e2 := z.2.1
        omega
      · obtain ⟨p1, p2, -, ⟨n, -, ps⟩, -⟩ := z
        have e3 := ps.1.2.2.1.2.2
        rw [rp_35] at e3
        have f := (eq_j ps.1 u.1 u.2).2.1
        rw [rp_v (m := m) (K := 244) (x := 2 * m + t) (dm_470 u) rfl rfl, show rs9_ T m 470 t = T 470 m t from rs_d rfl] at f
        rcases d1 with ⟨v, rfl⟩ | ⟨-, v, rfl⟩
        · rcases d2 with ⟨-, rfl⟩ | ⟨y1, y2, -⟩
          · rfl
          · exact absurd ⟨p2, by omega, by omega⟩ v
        · rcases d2 with ⟨y, -⟩ | ⟨-, -, rfl⟩
          · exact absurd ⟨by omega, by omega, by omega⟩ y
          · have w := ps.2.1
            have w1 := w.1 t u.1 u.2
            rw [show rs9_ T m 470 t = T 470 m t from rs_d rfl] at w1
            have r70 : rs9_ T m 470 t = T 470 m t := rs_d rfl
            have q := ps.1.2.2.2.1 t (t * 6 + i) u.1 u.2 (by omega) (by rw [r70]; omega)
            have s := w.2.1 t (t * 6 + i) u.1 u.2 (by omega) (by rw [r70]; omega)
            rw [rp_v (m := m) (K := 245) (x := 12 * m + (t * 6 + i)) (dm_471 ⟨by omega, by omega⟩) rfl rfl, show rs9_ T m 471 (t * 6 + i) = T 471 m (t * 6 + i) from rs_d rfl] at q
            rw [show rs9_ T m 471 (t * 6 + i) = T 471 m (t * 6 + i) from rs_d rfl, show rs9_ T m 449 t = T 449 m t from rs_d rfl] at s
            rw [show 6 * (2 * m + t) + i = 12 * m + (t * 6 + i) by omega, q]
            exact (g.1.2.1 t _ u.1 u.2 s.1 s.2.1).symm
theorem pl_moved {T : Zt} {k x1 x2 : Int} (hV : MVR_ T) (d1 : ((0 ≤ k ∧ k < T 106 0 12 ∧ x1 = T 531 0 k) ∨ (¬ (0 ≤ k ∧ k < T 106 0 12) ∧ x1 = -1))) (d2 : ((0 ≤ k ∧ k < T 111 0 75 ∧ x2 = T 274 0 k) ∨ (¬ (0 ≤ k ∧ k < T 111 0 75) ∧ x2 = -1))) : x1 = x2 := by
  have h := hV.1
  rcases d1 with ⟨a, b, rfl⟩ | ⟨a, rfl⟩
  · rcases d2 with ⟨-, -, rfl⟩ | ⟨y, -⟩
    · exact hV.2 k a b
    · exact absurd ⟨a, by omega⟩ y
  · rcases d2 with ⟨y1, y2, -⟩ | ⟨-, rfl⟩
    · exact absurd ⟨y1, by omega⟩ a
    · rfl
theorem pl_count {T : Zt} {w x1 x2 : Int} (hN : CNR_ T) (hS : SPR_ T) (hX : TXR_ T) (hM : MAR_ T) (hC : RCR_ T) (d1 : ((w = 0 ∧ x1 = T 108 0 2) ∨ (w = 1 ∧ x1 = T 108 0 3) ∨ (w = 2 ∧ x1 = T 108 0 5) ∨ (w = 3 ∧ x1 = T 108 0 12) ∨ (w = 4 ∧ x1 = T 106 0 2) ∨ (w = 5 ∧ x1 = T 106 0 4) ∨ (w = 6 ∧ x1 = T 106 0 5) ∨ (w = 7 ∧ x1 = T 108 0 13) ∨ (¬ (0 ≤ w ∧ w ≤ 7) ∧ x1 = -3))) (d2 : ((w = 0 ∧ x2 = T 111 0 12) ∨ (w = 1 ∧ x2 = T 111 0 15) ∨ (w = 2 ∧ x2 = T 111 0 16) ∨ (w = 3 ∧ x2 = T 111 0 21) ∨ (w = 4 ∧ x2 = T 111 0 6) ∨ (w = 5 ∧ x2 = T 111 0 29) ∨ (w = 6 ∧ x2 = T 111 0 47) ∨ (w = 7 ∧ x2 = T 111 0 3) ∨ (¬ (0 ≤ w ∧ w ≤ 7) ∧ x2 = -3))) : x1 = x2 := by
  have a1 := hN.1
  have a2 := hN.2.1
  have a3 := hN.2.2.1
  have a4 := hN.2.2.2
  have a5 := hS.1
  have a6 := hX.2.2.1
  have a7 := hM.1
  have a8 : T 106 0 5 = T 111 0 47 := hC
  omega
/-- a walkover takes no match back -/
theorem wo_k {T T1 : Zt} {m d x : Int} (h : ((x = -2 ∧ ¬ (0 ≤ m ∧ m < T 106 0 4) ∧ T = T1) ∨ ((0 ≤ m ∧ m < T 106 0 4) ∧ ((x = -3 ∧ ¬ (0 ≤ d ∧ d ≤ 1) ∧ T = T1) ∨ ((0 ≤ d ∧ d ≤ 1) ∧ ((x = -4 ∧ ¬ ((T 102 m 6 = -1 ∧ T 102 m 10 = 0) ∧ T 102 m 5 ≤ T 108 0 13) ∧ T = T1) ∨ (x = 1 ∧ ((T 102 m 6 = -1 ∧ T 102 m 10 = 0) ∧ T 102 m 5 ≤ T 108 0 13) ∧ T1 = up_ T 102 m 6 d))))))) : ∀ i, T1 102 i 6 = T 102 i 6 ∨ T1 102 i 6 ≠ -1 := by
  rcases h with ⟨-, -, rfl⟩ | ⟨-, h⟩
  · exact fun i => Or.inl rfl
  · rcases h with ⟨-, -, rfl⟩ | ⟨a, h⟩
    · exact fun i => Or.inl rfl
    · rcases h with ⟨-, -, rfl⟩ | ⟨-, -, u⟩
      · exact fun i => Or.inl rfl
      · intro i
        by_cases z : i = m
        · exact Or.inr (by rw [z, up_f u]; omega)
        · exact Or.inl (up_g u (fun y => z y.2.1))
-- tables: pure words. A view of the matches of a competition: match, item (0 counts, 1 home, 2 away, 3 and 4 the scores, 5 and 6 the cards)
abbrev Mv_ : Type := Int → Int → Int
def ptm9_ (ru : Int → Int) (a b : Int) : Int := if b < a then ru 1 else if a = b then ru 2 else ru 3
def cv9_ (ru : Int → Int) (w a b : Int) : Int := if w = 0 then 1 else if w = 1 then (if b < a then 1 else 0) else if w = 2 then (if a = b then 1 else 0) else if w = 3 then (if a < b then 1 else 0) else if w = 4 then a else if w = 5 then b else ptm9_ ru a b
/-- what match k gives club x in column w -/
def td9_ (ru : Int → Int) (v : Mv_) (x w k : Int) : Int :=
  if v k 0 = 1 then (if w = 7 then (if v k 2 = x then v k 4 else 0) else if w = 8 then (if v k 1 = x then v k 5 else 0) + (if v k 2 = x then v k 6 else 0) else (if v k 1 = x then cv9_ ru w (v k 3) (v k 4) else 0) + (if v k 2 = x then cv9_ ru w (v k 4) (v k 3) else 0)) else 0
def tn9_ (ru : Int → Int) (v : Mv_) (x w : Int) : Nat → Int
  | 0 => 0
  | n + 1 => tn9_ ru v x w n + td9_ ru v x w (n : Int)
/-- two views tell the same of the first n matches -/
def VE_ (n : Int) (v v' : Mv_) : Prop := ∀ k : Int, 0 ≤ k → k < n → v k 0 = v' k 0 ∧ (v k 0 = 1 → v k 1 = v' k 1 ∧ v k 2 = v' k 2 ∧ v k 3 = v' k 3 ∧ v k 4 = v' k 4 ∧ v k 5 = v' k 5 ∧ v k 6 = v' k 6)
theorem td_0 {ru : Int → Int} {v : Mv_} {x w k : Int} (h : v k 0 ≠ 1) : td9_ ru v x w k = 0 := if_neg h
theorem td_1 {ru : Int → Int} {v : Mv_} {x w k : Int} (h : v k 0 = 1) : td9_ ru v x w k = (if w = 7 then (if v k 2 = x then v k 4 else 0) else if w = 8 then (if v k 1 = x then v k 5 else 0) + (if v k 2 = x then v k 6 else 0) else (if v k 1 = x then cv9_ ru w (v k 3) (v k 4) else 0) + (if v k 2 = x then cv9_ ru w (v k 4) (v k 3) else 0)) := if_pos h
theorem td_e {ru : Int → Int} {v v' : Mv_} {x w k : Int} (h : v k 0 = v' k 0 ∧ (v k 0 = 1 → v k 1 = v' k 1 ∧ v k 2 = v' k 2 ∧ v k 3 = v' k 3 ∧ v k 4 = v' k 4 ∧ v k 5 = v' k 5 ∧ v k 6 = v' k 6)) : td9_ ru v x w k = td9_ ru v' x w k := by
  by_cases z : v k 0 = 1
  · obtain ⟨e1, e2, e3, e4, e5, e6⟩ := h.2 z
    rw [td_1 z, td_1 (h.1.symm.trans z), e1, e2, e3, e4, e5, e6]
  · rw [td_0 z, td_0 (fun y => z (h.1.trans y))]
theorem tn_e {ru : Int → Int} {v v' : Mv_} {x w : Int} : ∀ n : Nat, VE_ (n : Int) v v' → tn9_ ru v x w n = tn9_ ru v' x w n
  | 0, _ => rfl
  | n + 1, h => by
    have i := tn_e (ru := ru) (x := x) (w := w) n (fun k a b => h k a (by omega))
    have d := td_e (ru := ru) (x := x) (w := w) (h (n : Int) (by omega) (by omega))
    show tn9_ ru v x w n + td9_ ru v x w (n : Int) = tn9_ ru v' x w n + td9_ ru v' x w (n : Int)
    rw [i, d]
-- among two clubs
theorem cz_g {A : Type} {P Q : Prop} {x y : A} (h : P ↔ Q) : cz_ P x y = cz_ Q x y := by
  by_cases z : P
  · rw [cz_t z, cz_t (h.1 z)]
  · rw [cz_f z, cz_f (fun q => z (h.2 q))]
theorem cz_0 {P : Prop} {x : Int} (h : x = 0) : cz_ P x 0 = 0 := by
  by_cases z : P
  · exact (cz_t z).trans h
  · exact cz_f z
noncomputable def hq9_ (ru : Int → Int) (v : Mv_) (a b k : Int) : Int := cz_ (v k 0 = 1) (cz_ (v k 1 = a ∧ v k 2 = b) (ptm9_ ru (v k 3) (v k 4)) 0 + cz_ (v k 2 = a ∧ v k 1 = b) (ptm9_ ru (v k 4) (v k 3)) 0) 0
noncomputable def hg9_ (v : Mv_) (a b k : Int) : Int := cz_ (v k 0 = 1) (cz_ (v k 1 = a ∧ v k 2 = b) (v k 3) 0 + cz_ (v k 2 = a ∧ v k 1 = b) (v k 4) 0) 0
noncomputable def hp9_ (ru : Int → Int) (v : Mv_) (a b : Int) : Nat → Int
  | 0 => 0
  | n + 1 => hp9_ ru v a b n + hq9_ ru v a b (n : Int)
noncomputable def hs9_ (v : Mv_) (a b : Int) : Nat → Int
  | 0 => 0
  | n + 1 => hs9_ v a b n + hg9_ v a b (n : Int)
-- among a group
def mb9_ (g x : Int) : Prop := an_ (sr_ g x) 1 = 1
def gv9_ (ru : Int → Int) (i a b : Int) : Int := if i = 0 then ptm9_ ru a b else if i = 1 then a - b else a
noncomputable def gh9_ (ru : Int → Int) (v : Mv_) (g x i k : Int) : Int := cz_ (v k 0 = 1 ∧ mb9_ g (v k 1) ∧ mb9_ g (v k 2)) (cz_ (v k 1 = x) (gv9_ ru i (v k 3) (v k 4)) 0 + cz_ (v k 2 = x) (gv9_ ru i (v k 4) (v k 3)) 0) 0
noncomputable def gn9_ (ru : Int → Int) (v : Mv_) (g x i : Int) : Nat → Int
  | 0 => 0
  | n + 1 => gn9_ ru v g x i n + gh9_ ru v g x i (n : Int)
/-- a sum over the seats of a group -/
noncomputable def hw9_ (f : Int → Int) (g : Int) (cl : Int → Int) : Nat → Int
  | 0 => 0
  | e + 1 => hw9_ f g cl e + cz_ (mb9_ g (cl (e : Int))) (f (cl (e : Int))) 0
theorem hw_a {f f' : Int → Int} {g : Int} {cl : Int → Int} : ∀ e : Nat, hw9_ (fun o => f o + f' o) g cl e = hw9_ f g cl e + hw9_ f' g cl e
  | 0 => rfl
  | e + 1 => by
    show hw9_ (fun o => f o + f' o) g cl e + cz_ (mb9_ g (cl (e : Int))) (f (cl (e : Int)) + f' (cl (e : Int))) 0 = hw9_ f g cl e + cz_ (mb9_ g (cl (e : Int))) (f (cl (e : Int))) 0 + (hw9_ f' g cl e + cz_ (mb9_ g (cl (e : Int))) (f' (cl (e : Int))) 0)
    rw [hw_a e]
    by_cases z : mb9_ g (cl (e : Int))
    · rw [cz_t z, cz_t z, cz_t z]; omega
    · rw [cz_f z, cz_f z, cz_f z]; omega
theorem hw_k {f f' : Int → Int} {g : Int} {cl : Int → Int} : ∀ e : Nat, (∀ s : Int, 0 ≤ s → s < (e : Int) → f (cl s) = f' (cl s)) → hw9_ f g cl e = hw9_ f' g cl e
  | 0, _ => rfl
  | e + 1, h => by
    show hw9_ f g cl e + cz_ (mb9_ g (cl (e : Int))) (f (cl (e : Int))) 0 = hw9_ f' g cl e + cz_ (mb9_ g (cl (e : Int))) (f' (cl (e : Int))) 0
    rw [hw_k e (fun s a b => h s a (by omega)), h (e : Int) (by omega) (by omega)]
theorem hw_0 {g : Int} {cl : Int → Int} : ∀ e : Nat, hw9_ (fun _ => 0) g cl e = 0
  | 0 => rfl
  | e + 1 => by
    show hw9_ (fun _ => 0) g cl e + cz_ (mb9_ g (cl (e : Int))) 0 0 = 0
    rw [hw_0 e, cz_0 rfl]
    rfl
theorem hw_z {A : Prop} {b p g : Int} {cl : Int → Int} (e : Nat) (h : ∀ s : Int, 0 ≤ s → s < (e : Int) → cl s ≠ b) : hw9_ (fun o => cz_ (A ∧ b = o) p 0) g cl e = 0 := by
  rw [hw_k (f := fun o => cz_ (A ∧ b = o) p 0) (f' := fun _ => 0) (cl := cl) e (fun s a c => cz_f (fun q => h s a c q.2.symm))]
  exact hw_0 e
/-- one seat alone counts -/
theorem hw_1 {A : Prop} {b p g : Int} {cl : Int → Int} : ∀ e : Nat, (∀ s t : Int, 0 ≤ s → s < (e : Int) → 0 ≤ t → t < (e : Int) → cl s = cl t → s = t) → ∀ s : Int, 0 ≤ s → s < (e : Int) → cl s = b → hw9_ (fun o => cz_ (A ∧ b = o) p 0) g cl e = cz_ (A ∧ mb9_ g b) p 0
  | 0, _, _, _, _, _ => by omega
  | e + 1, hi, s, s0, s1, es => by
    show hw9_ (fun o => cz_ (A ∧ b = o) p 0) g cl e + cz_ (mb9_ g (cl (e : Int))) (cz_ (A ∧ b = cl (e : Int)) p 0) 0 = cz_ (A ∧ mb9_ g b) p 0
    by_cases z : s = (e : Int)
    · have e0 : hw9_ (fun o => cz_ (A ∧ b = o) p 0) g cl e = 0 := hw_z e (fun t t0 t1 et => by have := hi t s t0 (by omega) s0 s1 (et.trans es.symm); omega)
      have e1 : cl (e : Int) = b := by rw [← z]; exact es
      rw [e0, e1]
      by_cases y : mb9_ g b
      · rw [cz_t y]
        by_cases w : A
        · rw [cz_t ⟨w, rfl⟩, cz_t ⟨w, y⟩]; omega
        · rw [cz_f (fun q => w q.1), cz_f (fun q => w q.1)]; omega
      · rw [cz_f y, cz_f (fun q => y q.2)]; omega
    · have n : b ≠ cl (e : Int) := fun q => z (hi s (e : Int) s0 s1 (by omega) (by omega) (es.trans q))
      rw [hw_1 e (fun s t a c a' c' q => hi s t a (by omega) a' (by omega) q) s s0 (by omega) es, cz_f (P := A ∧ b = cl (e : Int)) (fun q => n q.2), cz_0 rfl]
      omega
/-- every club of the first n matches that count has a seat, and only one -/
def SE_ (n e : Int) (v : Mv_) (cl : Int → Int) : Prop := (∀ s t : Int, 0 ≤ s → s < e → 0 ≤ t → t < e → cl s = cl t → s = t) ∧ ∀ k : Int, 0 ≤ k → k < n → v k 0 = 1 → ∀ i, i = 1 ∨ i = 2 → ∃ s, 0 ≤ s ∧ s < e ∧ cl s = v k i
theorem hw_q {ru : Int → Int} {v : Mv_} {g x k : Int} {cl : Int → Int} (e : Nat) (hi : ∀ s t : Int, 0 ≤ s → s < (e : Int) → 0 ≤ t → t < (e : Int) → cl s = cl t → s = t) (hv : v k 0 = 1 → ∀ i, i = 1 ∨ i = 2 → ∃ s, 0 ≤ s ∧ s < (e : Int) ∧ cl s = v k i) (hx : mb9_ g x) :
    hw9_ (fun o => hq9_ ru v x o k) g cl e = gh9_ ru v g x 0 k ∧ hw9_ (fun o => hg9_ v x o k) g cl e = gh9_ ru v g x 2 k ∧ hw9_ (fun o => hg9_ v x o k) g cl e - hw9_ (fun o => hg9_ v o x k) g cl e = gh9_ ru v g x 1 k := by
  by_cases z : v k 0 = 1
  · obtain ⟨s1, a1, b1, c1⟩ := hv z 1 (Or.inl rfl)
    obtain ⟨s2, a2, b2, c2⟩ := hv z 2 (Or.inr rfl)
    have P : ∀ (p q : Int), hw9_ (fun o => cz_ (v k 1 = x ∧ v k 2 = o) p 0 + cz_ (v k 2 = x ∧ v k 1 = o) q 0) g cl e = cz_ (v k 1 = x ∧ mb9_ g (v k 2)) p 0 + cz_ (v k 2 = x ∧ mb9_ g (v k 1)) q 0 := fun p q => by
      rw [hw_a (f := fun o => cz_ (v k 1 = x ∧ v k 2 = o) p 0) (f' := fun o => cz_ (v k 2 = x ∧ v k 1 = o) q 0), hw_1 e hi s2 a2 b2 c2, hw_1 e hi s1 a1 b1 c1]
    have q1 : hw9_ (fun o => hq9_ ru v x o k) g cl e = cz_ (v k 1 = x ∧ mb9_ g (v k 2)) (ptm9_ ru (v k 3) (v k 4)) 0 + cz_ (v k 2 = x ∧ mb9_ g (v k 1)) (ptm9_ ru (v k 4) (v k 3)) 0 := (hw_k (f := fun o => hq9_ ru v x o k) (f' := fun o => cz_ (v k 1 = x ∧ v k 2 = o) (ptm9_ ru (v k 3) (v k 4)) 0 + cz_ (v k 2 = x ∧ v k 1 = o) (ptm9_ ru (v k 4) (v k 3)) 0) (cl := cl) e (fun s _ _ => cz_t z)).trans (P _ _)
    have q2 : hw9_ (fun o => hg9_ v x o k) g cl e = cz_ (v k 1 = x ∧ mb9_ g (v k 2)) (v k 3) 0 + cz_ (v k 2 = x ∧ mb9_ g (v k 1)) (v k 4) 0 := (hw_k (f := fun o => hg9_ v x o k) (f' := fun o => cz_ (v k 1 = x ∧ v k 2 = o) (v k 3) 0 + cz_ (v k 2 = x ∧ v k 1 = o) (v k 4) 0) (cl := cl) e (fun s _ _ => cz_t z)).trans (P _ _)
    have q3 : hw9_ (fun o => hg9_ v o x k) g cl e = cz_ (v k 1 = x ∧ mb9_ g (v k 2)) (v k 4) 0 + cz_ (v k 2 = x ∧ mb9_ g (v k 1)) (v k 3) 0 := by
      refine (hw_k (f := fun o => hg9_ v o x k) (cl := cl) (f' := fun o => cz_ (v k 1 = x ∧ v k 2 = o) (v k 4) 0 + cz_ (v k 2 = x ∧ v k 1 = o) (v k 3) 0) e (fun s _ _ => ?_)).trans (P _ _)
      show cz_ (v k 0 = 1) (cz_ (v k 1 = cl s ∧ v k 2 = x) (v k 3) 0 + cz_ (v k 2 = cl s ∧ v k 1 = x) (v k 4) 0) 0 = cz_ (v k 1 = x ∧ v k 2 = cl s) (v k 4) 0 + cz_ (v k 2 = x ∧ v k 1 = cl s) (v k 3) 0
      rw [cz_t z, cz_g (P := v k 1 = cl s ∧ v k 2 = x) (Q := v k 2 = x ∧ v k 1 = cl s) And.comm, cz_g (P := v k 2 = cl s ∧ v k 1 = x) (Q := v k 1 = x ∧ v k 2 = cl s) And.comm]
      exact Int.add_comm _ _
    have R : ∀ (i p q : Int), gv9_ ru i (v k 3) (v k 4) = p → gv9_ ru i (v k 4) (v k 3) = q → gh9_ ru v g x i k = cz_ (v k 1 = x ∧ mb9_ g (v k 2)) p 0 + cz_ (v k 2 = x ∧ mb9_ g (v k 1)) q 0 := fun i p q ep eq => by
      unfold gh9_
      rw [ep, eq]
      by_cases y1 : v k 1 = x
      · have m1 : mb9_ g (v k 1) := by rw [y1]; exact hx
        by_cases m2 : mb9_ g (v k 2)
        · by_cases y2 : v k 2 = x
          · rw [cz_t (P := v k 0 = 1 ∧ mb9_ g (v k 1) ∧ mb9_ g (v k 2)) ⟨z, m1, m2⟩, cz_t (P := v k 1 = x) y1, cz_t (P := v k 2 = x) y2, cz_t (P := v k 1 = x ∧ mb9_ g (v k 2)) ⟨y1, m2⟩, cz_t (P := v k 2 = x ∧ mb9_ g (v k 1)) ⟨y2, m1⟩]
          · rw [cz_t (P := v k 0 = 1 ∧ mb9_ g (v k 1) ∧ mb9_ g (v k 2)) ⟨z, m1, m2⟩, cz_t (P := v k 1 = x) y1, cz_f (P := v k 2 = x) y2, cz_t (P := v k 1 = x ∧ mb9_ g (v k 2)) ⟨y1, m2⟩, cz_f (P := v k 2 = x ∧ mb9_ g (v k 1)) (fun w => y2 w.1)]
        · have y2 : ¬ v k 2 = x := fun w => m2 (by rw [w]; exact hx)
          rw [cz_f (P := v k 0 = 1 ∧ mb9_ g (v k 1) ∧ mb9_ g (v k 2)) (fun w => m2 w.2.2), cz_f (P := v k 1 = x ∧ mb9_ g (v k 2)) (fun w => m2 w.2), cz_f (P := v k 2 = x ∧ mb9_ g (v k 1)) (fun w => y2 w.1)]
          try rfl
      · by_cases y2 : v k 2 = x
        · have m2 : mb9_ g (v k 2) := by rw [y2]; exact hx
          by_cases m1 : mb9_ g (v k 1)
          · rw [cz_t (P := v k 0 = 1 ∧ mb9_ g (v k 1) ∧ mb9_ g (v k 2)) ⟨z, m1, m2⟩, cz_f (P := v k 1 = x) y1, cz_t (P := v k 2 = x) y2, cz_f (P := v k 1 = x ∧ mb9_ g (v k 2)) (fun w => y1 w.1), cz_t (P := v k 2 = x ∧ mb9_ g (v k 1)) ⟨y2, m1⟩]
          · rw [cz_f (P := v k 0 = 1 ∧ mb9_ g (v k 1) ∧ mb9_ g (v k 2)) (fun w => m1 w.2.1), cz_f (P := v k 1 = x ∧ mb9_ g (v k 2)) (fun w => y1 w.1), cz_f (P := v k 2 = x ∧ mb9_ g (v k 1)) (fun w => m1 w.2)]
            try rfl
        · rw [cz_f (P := v k 1 = x ∧ mb9_ g (v k 2)) (fun w => y1 w.1), cz_f (P := v k 2 = x ∧ mb9_ g (v k 1)) (fun w => y2 w.1), cz_f (P := v k 1 = x) y1, cz_f (P := v k 2 = x) y2]
          exact cz_0 rfl
    rw [q1, q2, q3, R 0 (ptm9_ ru (v k 3) (v k 4)) (ptm9_ ru (v k 4) (v k 3)) rfl rfl, R 2 (v k 3) (v k 4) rfl rfl, R 1 (v k 3 - v k 4) (v k 4 - v k 3) rfl rfl]
    refine ⟨rfl, rfl, ?_⟩
    show cz_ (v k 1 = x ∧ mb9_ g (v k 2)) (v k 3) 0 + cz_ (v k 2 = x ∧ mb9_ g (v k 1)) (v k 4) 0 - (cz_ (v k 1 = x ∧ mb9_ g (v k 2)) (v k 4) 0 + cz_ (v k 2 = x ∧ mb9_ g (v k 1)) (v k 3) 0) = cz_ (v k 1 = x ∧ mb9_ g (v k 2)) (v k 3 - v k 4) 0 + cz_ (v k 2 = x ∧ mb9_ g (v k 1)) (v k 4 - v k 3) 0
    by_cases y : v k 1 = x ∧ mb9_ g (v k 2)
    · by_cases w : v k 2 = x ∧ mb9_ g (v k 1)
      · rw [cz_t y, cz_t y, cz_t y, cz_t w, cz_t w, cz_t w]; omega
      · rw [cz_t y, cz_t y, cz_t y, cz_f w, cz_f w, cz_f w]; omega
    · by_cases w : v k 2 = x ∧ mb9_ g (v k 1)
      · rw [cz_f y, cz_f y, cz_f y, cz_t w, cz_t w, cz_t w]; omega
      · rw [cz_f y, cz_f y, cz_f y, cz_f w, cz_f w, cz_f w]; omega
  · have q1 : hw9_ (fun o => hq9_ ru v x o k) g cl e = 0 := (hw_k (f := fun o => hq9_ ru v x o k) (f' := fun _ => 0) (cl := cl) e (fun s _ _ => cz_f z)).trans (hw_0 e)
    have q2 : hw9_ (fun o => hg9_ v x o k) g cl e = 0 := (hw_k (f := fun o => hg9_ v x o k) (f' := fun _ => 0) (cl := cl) e (fun s _ _ => cz_f z)).trans (hw_0 e)
    have q3 : hw9_ (fun o => hg9_ v o x k) g cl e = 0 := (hw_k (f := fun o => hg9_ v o x k) (f' := fun _ => 0) (cl := cl) e (fun s _ _ => cz_f z)).trans (hw_0 e)
    have R : ∀ i, gh9_ ru v g x i k = 0 := fun i => cz_f (fun w => z w.1)
    rw [q1, q2, q3, R, R, R]
    exact ⟨rfl, rfl, rfl⟩
/-- the head of a club in a group: both ways of adding up -/
theorem hw_n {ru : Int → Int} {v : Mv_} {g x : Int} {cl : Int → Int} (e : Nat) (hx : mb9_ g x) : ∀ n : Nat, SE_ (n : Int) (e : Int) v cl →
    hw9_ (fun o => hp9_ ru v x o n) g cl e = gn9_ ru v g x 0 n ∧ hw9_ (fun o => hs9_ v x o n) g cl e = gn9_ ru v g x 2 n ∧ hw9_ (fun o => hs9_ v x o n) g cl e - hw9_ (fun o => hs9_ v o x n) g cl e = gn9_ ru v g x 1 n
  | 0, _ => by
    have z : hw9_ (fun _ => 0) g cl e = 0 := hw_0 e
    refine ⟨z, z, ?_⟩
    show hw9_ (fun _ => 0) g cl e - hw9_ (fun _ => 0) g cl e = 0
    omega
  | n + 1, h => by
    obtain ⟨i1, i2, i3⟩ := hw_n (ru := ru) e hx n ⟨h.1, fun k a b => h.2 k a (by omega)⟩
    obtain ⟨d1, d2, d3⟩ := hw_q (ru := ru) (v := v) (g := g) (x := x) (k := (n : Int)) e h.1 (h.2 (n : Int) (by omega) (by omega)) hx
    have a1 : hw9_ (fun o => hp9_ ru v x o (n + 1)) g cl e = hw9_ (fun o => hp9_ ru v x o n) g cl e + hw9_ (fun o => hq9_ ru v x o (n : Int)) g cl e := hw_a (f := fun o => hp9_ ru v x o n) (f' := fun o => hq9_ ru v x o (n : Int)) e
    have a2 : hw9_ (fun o => hs9_ v x o (n + 1)) g cl e = hw9_ (fun o => hs9_ v x o n) g cl e + hw9_ (fun o => hg9_ v x o (n : Int)) g cl e := hw_a (f := fun o => hs9_ v x o n) (f' := fun o => hg9_ v x o (n : Int)) e
    have a3 : hw9_ (fun o => hs9_ v o x (n + 1)) g cl e = hw9_ (fun o => hs9_ v o x n) g cl e + hw9_ (fun o => hg9_ v o x (n : Int)) g cl e := hw_a (f := fun o => hs9_ v o x n) (f' := fun o => hg9_ v o x (n : Int)) e
    have b : ∀ i, gn9_ ru v g x i (n + 1) = gn9_ ru v g x i n + gh9_ ru v g x i (n : Int) := fun _ => rfl
    rw [a1, a2, a3, b, b, b]
    exact ⟨by omega, by omega, by omega⟩
-- tables: the order by classes as a machine of pure words
def ud9_ (o : Int → Int) (j v : Int) : Int → Int := fun k => if k = j then v else o k
theorem ud_s {o : Int → Int} {j v : Int} : ud9_ o j v j = v := if_pos rfl
theorem ud_n {o : Int → Int} {j v k : Int} (h : k ≠ j) : ud9_ o j v k = o k := if_neg h
theorem ud_c {o cl : Int → Int} {j v : Int} : (fun k => cl (ud9_ o j v k)) = ud9_ (fun k => cl (o k)) j (cl v) := by
  funext k
  by_cases z : k = j
  · rw [z, ud_s, ud_s]
  · rw [ud_n z, ud_n z]
/-- x goes to its place among n before it -/
def in9_ (W : Int → Int) (f x : Int) : Nat → (Int → Int) → (Int → Int)
  | 0, o => ud9_ o f x
  | n + 1, o => if W (o (f + (n : Int))) < W x then in9_ W f x n (ud9_ o (f + (n : Int) + 1) (o (f + (n : Int)))) else ud9_ o (f + (n : Int) + 1) x
theorem in_t {W : Int → Int} {f x : Int} {n : Nat} {o : Int → Int} (h : W (o (f + (n : Int))) < W x) : in9_ W f x (n + 1) o = in9_ W f x n (ud9_ o (f + (n : Int) + 1) (o (f + (n : Int)))) := if_pos h
theorem in_f {W : Int → Int} {f x : Int} {n : Nat} {o : Int → Int} (h : ¬ W (o (f + (n : Int))) < W x) : in9_ W f x (n + 1) o = ud9_ o (f + (n : Int) + 1) x := if_neg h
def som9_ (W : Int → Int) (f : Int) : Nat → (Int → Int) → (Int → Int)
  | 0, o => o
  | n + 1, o => in9_ W f (som9_ W f n o (f + (n : Int) + 1)) (n + 1) (som9_ W f n o)
/-- what holds of all that stand holds behind it too; others stay -/
theorem in_q {W : Int → Int} {f x : Int} {Q : Int → Prop} (hx : Q x) : ∀ (n : Nat) (o : Int → Int), (∀ k, f ≤ k → k < f + (n : Int) → Q (o k)) → (∀ k, f ≤ k → k ≤ f + (n : Int) → Q (in9_ W f x n o k)) ∧ ∀ k, k < f ∨ f + (n : Int) < k → in9_ W f x n o k = o k
  | 0, o, _ => by
    refine ⟨fun k a b => ?_, fun k a => ?_⟩
    · show Q (ud9_ o f x k)
      rw [show k = f by omega, ud_s]
      exact hx
    · exact ud_n (by omega)
  | n + 1, o, h => by
    by_cases z : W (o (f + (n : Int))) < W x
    · obtain ⟨i1, i2⟩ := in_q (W := W) (f := f) hx n (ud9_ o (f + (n : Int) + 1) (o (f + (n : Int)))) (fun k a b => by rw [ud_n (by omega)]; exact h k a (by omega))
      rw [in_t z]
      refine ⟨fun k a b => ?_, fun k a => ?_⟩
      · by_cases y : k ≤ f + (n : Int)
        · exact i1 k a y
        · rw [i2 k (by omega), show k = f + (n : Int) + 1 by omega, ud_s]
          exact h _ (by omega) (by omega)
      · rw [i2 k (by omega), ud_n (by omega)]
    · rw [in_f z]
      refine ⟨fun k a b => ?_, fun k a => ?_⟩
      · by_cases y : k = f + (n : Int) + 1
        · rw [y, ud_s]; exact hx
        · rw [ud_n y]; exact h k a (by omega)
      · exact ud_n (by omega)
theorem so_q {W : Int → Int} {f : Int} {Q : Int → Prop} : ∀ (n : Nat) (o : Int → Int), (∀ k, f ≤ k → k ≤ f + (n : Int) → Q (o k)) → (∀ k, f ≤ k → k ≤ f + (n : Int) → Q (som9_ W f n o k)) ∧ ∀ k, k < f ∨ f + (n : Int) < k → som9_ W f n o k = o k
  | 0, o, h => ⟨h, fun _ _ => rfl⟩
  | n + 1, o, h => by
    obtain ⟨i1, i2⟩ := so_q (W := W) (f := f) n o (fun k a b => h k a (by omega))
    have x := h (f + (n : Int) + 1) (by omega) (by omega)
    have e : som9_ W f n o (f + (n : Int) + 1) = o (f + (n : Int) + 1) := i2 _ (by omega)
    obtain ⟨j1, j2⟩ := in_q (W := W) (f := f) (x := som9_ W f n o (f + (n : Int) + 1)) (Q := Q) (by rw [e]; exact x) (n + 1) (som9_ W f n o) (fun k a b => i1 k a (by omega))
    refine ⟨fun k a b => ?_, fun k a => ?_⟩
    · exact j1 k a (by omega)
    · exact (j2 k (by omega)).trans (i2 k (by omega))
/-- by seats or by clubs: the same -/
theorem in_c {W Ws cl : Int → Int} {f x : Int} (hx : Ws x = W (cl x)) : ∀ (n : Nat) (o : Int → Int), (∀ k, f ≤ k → k < f + (n : Int) → Ws (o k) = W (cl (o k))) → (fun k => cl (in9_ Ws f x n o k)) = in9_ W f (cl x) n (fun k => cl (o k))
  | 0, o, _ => ud_c
  | n + 1, o, h => by
    have y := h (f + (n : Int)) (by omega) (by omega)
    by_cases z : Ws (o (f + (n : Int))) < Ws x
    · have z' : W ((fun k => cl (o k)) (f + (n : Int))) < W (cl x) := by
        show W (cl (o (f + (n : Int)))) < W (cl x)
        omega
      have i := in_c (W := W) (Ws := Ws) (cl := cl) (f := f) hx n (ud9_ o (f + (n : Int) + 1) (o (f + (n : Int)))) (fun k a b => by rw [ud_n (by omega)]; exact h k a (by omega))
      exact (congrArg (fun g : Int → Int => fun k => cl (g k)) (in_t z)).trans (i.trans ((congrArg (in9_ W f (cl x) n) ud_c).trans (in_t z').symm))
    · have z' : ¬ W ((fun k => cl (o k)) (f + (n : Int))) < W (cl x) := by
        show ¬ W (cl (o (f + (n : Int)))) < W (cl x)
        omega
      exact (congrArg (fun g : Int → Int => fun k => cl (g k)) (in_f z)).trans (ud_c.trans (in_f z').symm)
theorem so_c {W Ws cl : Int → Int} {f : Int} : ∀ (n : Nat) (o : Int → Int), (∀ k, f ≤ k → k ≤ f + (n : Int) → Ws (o k) = W (cl (o k))) → (fun k => cl (som9_ Ws f n o k)) = som9_ W f n (fun k => cl (o k))
  | 0, o, _ => rfl
  | n + 1, o, h => by
    have i := so_c (W := W) (Ws := Ws) (cl := cl) (f := f) n o (fun k a b => h k a (by omega))
    have q := so_q (W := Ws) (f := f) (Q := fun s => Ws s = W (cl s)) n o (fun k a b => h k a (by omega))
    have e : som9_ Ws f n o (f + (n : Int) + 1) = o (f + (n : Int) + 1) := q.2 _ (by omega)
    have c := in_c (W := W) (Ws := Ws) (cl := cl) (f := f) (x := som9_ Ws f n o (f + (n : Int) + 1)) (by rw [e]; exact h _ (by omega) (by omega)) (n + 1) (som9_ Ws f n o) (fun k a b => q.1 k a (by omega))
    show (fun k => cl (in9_ Ws f (som9_ Ws f n o (f + (n : Int) + 1)) (n + 1) (som9_ Ws f n o) k)) = in9_ W f (som9_ W f n (fun k => cl (o k)) (f + (n : Int) + 1)) (n + 1) (som9_ W f n (fun k => cl (o k)))
    refine c.trans ?_
    rw [← i]
-- the pile
abbrev Pl_ : Type := List (Int × Int × Int)
def pu9_ (kc b k nx : Int) (q : Pl_) : Pl_ := if k - b < 2 ∨ kc < nx then q else (b, k, nx) :: q
theorem pu_t {kc b k nx : Int} {q : Pl_} (h : k - b < 2 ∨ kc < nx) : pu9_ kc b k nx q = q := if_pos h
theorem pu_f {kc b k nx : Int} {q : Pl_} (h : ¬ (k - b < 2 ∨ kc < nx)) : pu9_ kc b k nx q = (b, k, nx) :: q := if_neg h
def bt9_ (o : Int → Int) (f : Int) : Nat → Int
  | 0 => 0
  | n + 1 => or_ (bt9_ o f n) (sl_ 1 (o (f + (n : Int))))
/-- the heads of a group, from the front: where the last one starts, who is parted by what, the pile -/
def gl9_ (V : Int → Int) (f t key nx kc : Int) (p : Int → Int) (q : Pl_) : Nat → Int × (Int → Int) × Pl_
  | 0 => (f, p, q)
  | n + 1 => if f + (n : Int) + 1 = t ∨ V (f + (n : Int) + 1) ≠ V (f + (n : Int)) then (f + (n : Int) + 1, (if f + (n : Int) + 1 < t then ud9_ (gl9_ V f t key nx kc p q n).2.1 (f + (n : Int)) key else (gl9_ V f t key nx kc p q n).2.1), pu9_ kc (gl9_ V f t key nx kc p q n).1 (f + (n : Int) + 1) nx (gl9_ V f t key nx kc p q n).2.2) else gl9_ V f t key nx kc p q n
theorem gl_t {V : Int → Int} {f t key nx kc : Int} {p : Int → Int} {q : Pl_} {n : Nat} (h : f + (n : Int) + 1 = t ∨ V (f + (n : Int) + 1) ≠ V (f + (n : Int))) : gl9_ V f t key nx kc p q (n + 1) = (f + (n : Int) + 1, (if f + (n : Int) + 1 < t then ud9_ (gl9_ V f t key nx kc p q n).2.1 (f + (n : Int)) key else (gl9_ V f t key nx kc p q n).2.1), pu9_ kc (gl9_ V f t key nx kc p q n).1 (f + (n : Int) + 1) nx (gl9_ V f t key nx kc p q n).2.2) := if_pos h
theorem gl_f {V : Int → Int} {f t key nx kc : Int} {p : Int → Int} {q : Pl_} {n : Nat} (h : ¬ (f + (n : Int) + 1 = t ∨ V (f + (n : Int) + 1) ≠ V (f + (n : Int)))) : gl9_ V f t key nx kc p q (n + 1) = gl9_ V f t key nx kc p q n := if_neg h
def nx9_ (V : Int → Int) (rd f t key : Int) : Int := if V f ≠ V (t - 1) ∧ rd = 1 then 0 else key + 1
/-- a group is ordered: who stands where, who is parted by what, the pile -/
def sg9_ (WW : Int → Int → Int → Int) (rd kc f t key : Int) (o p : Int → Int) (q : Pl_) : (Int → Int) × (Int → Int) × Pl_ :=
  (som9_ (WW key (bt9_ o f (t - f).toNat)) f (t - f - 1).toNat o, (gl9_ (fun k => WW key (bt9_ o f (t - f).toNat) (som9_ (WW key (bt9_ o f (t - f).toNat)) f (t - f - 1).toNat o k)) f t key (nx9_ (fun k => WW key (bt9_ o f (t - f).toNat) (som9_ (WW key (bt9_ o f (t - f).toNat)) f (t - f - 1).toNat o k)) rd f t key) kc p q (t - f).toNat).2)
def rk9_ (WW : Int → Int → Int → Int) (rd kc : Int) : Nat → (Int → Int) → (Int → Int) → Pl_ → (Int → Int) × (Int → Int)
  | 0, o, p, _ => (o, p)
  | _ + 1, o, p, [] => (o, p)
  | n + 1, o, p, (f, t, key) :: q => rk9_ WW rd kc n (sg9_ WW rd kc f t key o p q).1 (sg9_ WW rd kc f t key o p q).2.1 (sg9_ WW rd kc f t key o p q).2.2
theorem rk_0 {WW : Int → Int → Int → Int} {rd kc : Int} {n : Nat} {o p : Int → Int} : rk9_ WW rd kc n o p [] = (o, p) := by
  cases n <;> rfl
theorem rk_s {WW : Int → Int → Int → Int} {rd kc f t key : Int} {n : Nat} {o p : Int → Int} {q : Pl_} : rk9_ WW rd kc (n + 1) o p ((f, t, key) :: q) = rk9_ WW rd kc n (sg9_ WW rd kc f t key o p q).1 (sg9_ WW rd kc f t key o p q).2.1 (sg9_ WW rd kc f t key o p q).2.2 := rfl
/-- how long the pile can keep the machine busy, and how many it holds -/
def ph9_ : Pl_ → Int
  | [] => 0
  | (f, t, key) :: q => 16 * (t - f) - 16 - key + ph9_ q
def sz9_ : Pl_ → Int
  | [] => 0
  | (f, t, _) :: q => t - f + sz9_ q
/-- a pile as it should be -/
def PWm_ (e kc : Int) : Pl_ → Prop
  | [] => True
  | (f, t, key) :: q => (0 ≤ f ∧ f + 2 ≤ t ∧ t ≤ e ∧ 0 ≤ key ∧ key ≤ kc) ∧ PWm_ e kc q
theorem pw_p {e kc b k nx : Int} {q : Pl_} (h : PWm_ e kc q) (hb : 0 ≤ b ∧ b ≤ k ∧ k ≤ e ∧ 0 ≤ nx) : PWm_ e kc (pu9_ kc b k nx q) := by
  by_cases z : k - b < 2 ∨ kc < nx
  · rw [pu_t z]; exact h
  · rw [pu_f z]; exact ⟨by omega, h⟩
theorem pu_h {kc b k nx : Int} {q : Pl_} (hb : b < k ∧ 0 ≤ nx) : ph9_ (pu9_ kc b k nx q) ≤ ph9_ q + (16 * (k - b) - 16) ∧ (ph9_ (pu9_ kc b k nx q) = ph9_ q ∨ ph9_ (pu9_ kc b k nx q) = 16 * (k - b) - 16 - nx + ph9_ q) ∧ sz9_ (pu9_ kc b k nx q) ≤ sz9_ q + (k - b) := by
  by_cases z : k - b < 2 ∨ kc < nx
  · rw [pu_t z]; exact ⟨by omega, Or.inl rfl, by omega⟩
  · rw [pu_f z]
    have e1 : ph9_ ((b, k, nx) :: q) = 16 * (k - b) - 16 - nx + ph9_ q := rfl
    have e2 : sz9_ ((b, k, nx) :: q) = k - b + sz9_ q := rfl
    exact ⟨by omega, Or.inr e1, by omega⟩
theorem ph_0 {e kc : Int} (hk : kc ≤ 7) : ∀ {q : Pl_}, PWm_ e kc q → 0 ≤ ph9_ q ∧ 2 * (q.length : Int) ≤ sz9_ q
  | [], _ => ⟨Int.le_refl _, by show 2 * ((0 : Nat) : Int) ≤ 0; omega⟩
  | (f, t, key) :: q, h => by
    have i := ph_0 hk h.2
    have a := h.1
    have e1 : ph9_ ((f, t, key) :: q) = 16 * (t - f) - 16 - key + ph9_ q := rfl
    have e2 : sz9_ ((f, t, key) :: q) = t - f + sz9_ q := rfl
    have e3 : (((f, t, key) :: q).length : Int) = (q.length : Int) + 1 := by rw [List.length_cons]; omega
    omega
/-- the heads of a group: where they start, what they weigh -/
theorem gl_w {V : Int → Int} {f t key nx kc : Int} {p : Int → Int} {q : Pl_} {e : Int} (hf : 0 ≤ f) (ht : t ≤ e) (hn : 0 ≤ nx) (hq : PWm_ e kc q) : ∀ n : Nat, f + (n : Int) ≤ t →
    (f ≤ (gl9_ V f t key nx kc p q n).1 ∧ (gl9_ V f t key nx kc p q n).1 ≤ f + (n : Int) ∧ (f + (n : Int) = t → (n : Int) ≠ 0 → (gl9_ V f t key nx kc p q n).1 = t)) ∧ PWm_ e kc (gl9_ V f t key nx kc p q n).2.2 ∧ sz9_ (gl9_ V f t key nx kc p q n).2.2 ≤ sz9_ q + ((gl9_ V f t key nx kc p q n).1 - f) ∧
    (((gl9_ V f t key nx kc p q n).1 = f ∧ ph9_ (gl9_ V f t key nx kc p q n).2.2 = ph9_ q ∧ ∀ k : Int, f ≤ k → k ≤ f + (n : Int) → k < t → V k = V f) ∨
     (f < (gl9_ V f t key nx kc p q n).1 ∧ (gl9_ V f t key nx kc p q n).1 < t ∧ ph9_ (gl9_ V f t key nx kc p q n).2.2 ≤ ph9_ q + 16 * ((gl9_ V f t key nx kc p q n).1 - f) - 16) ∨
     ((gl9_ V f t key nx kc p q n).1 = t ∧ f < t ∧ (ph9_ (gl9_ V f t key nx kc p q n).2.2 ≤ ph9_ q + 16 * (t - f) - 32 ∨ (V (t - 1) = V f ∧ (ph9_ (gl9_ V f t key nx kc p q n).2.2 = ph9_ q ∨ ph9_ (gl9_ V f t key nx kc p q n).2.2 = 16 * (t - f) - 16 - nx + ph9_ q)))))
  | 0, h => by
    refine ⟨⟨Int.le_refl _, by show f ≤ _; omega, fun _ c => absurd rfl c⟩, hq, by show sz9_ q ≤ sz9_ q + (f - f); omega, Or.inl ⟨rfl, rfl, fun k a b _ => ?_⟩⟩
    rw [show k = f by omega]
  | n + 1, h => by
    obtain ⟨⟨i1, i2, _⟩, i4, i5, i6⟩ := gl_w (V := V) (f := f) (t := t) (key := key) (nx := nx) (kc := kc) (p := p) (q := q) (e := e) hf ht hn hq n (by omega)
    by_cases z : f + (n : Int) + 1 = t ∨ V (f + (n : Int) + 1) ≠ V (f + (n : Int))
    · rw [gl_t z]
      have u := pu_h (kc := kc) (b := (gl9_ V f t key nx kc p q n).1) (k := f + (n : Int) + 1) (nx := nx) (q := (gl9_ V f t key nx kc p q n).2.2) (by omega)
      refine ⟨⟨by show f ≤ f + (n : Int) + 1; omega, by show f + (n : Int) + 1 ≤ _; omega, fun c _ => by show f + (n : Int) + 1 = t; omega⟩, pw_p i4 (by omega), ?_, ?_⟩
      · show sz9_ (pu9_ kc (gl9_ V f t key nx kc p q n).1 (f + (n : Int) + 1) nx (gl9_ V f t key nx kc p q n).2.2) ≤ sz9_ q + (f + (n : Int) + 1 - f)
        omega
      · show (f + (n : Int) + 1 = f ∧ _) ∨ (f < f + (n : Int) + 1 ∧ f + (n : Int) + 1 < t ∧ ph9_ (pu9_ kc (gl9_ V f t key nx kc p q n).1 (f + (n : Int) + 1) nx (gl9_ V f t key nx kc p q n).2.2) ≤ ph9_ q + 16 * (f + (n : Int) + 1 - f) - 16) ∨ (f + (n : Int) + 1 = t ∧ f < t ∧ (ph9_ (pu9_ kc (gl9_ V f t key nx kc p q n).1 (f + (n : Int) + 1) nx (gl9_ V f t key nx kc p q n).2.2) ≤ ph9_ q + 16 * (t - f) - 32 ∨ (V (t - 1) = V f ∧ (ph9_ (pu9_ kc (gl9_ V f t key nx kc p q n).1 (f + (n : Int) + 1) nx (gl9_ V f t key nx kc p q n).2.2) = ph9_ q ∨ ph9_ (pu9_ kc (gl9_ V f t key nx kc p q n).1 (f + (n : Int) + 1) nx (gl9_ V f t key nx kc p q n).2.2) = 16 * (t - f) - 16 - nx + ph9_ q))))
        by_cases y : f + (n : Int) + 1 = t
        · refine Or.inr (Or.inr ⟨y, by omega, ?_⟩)
          rcases i6 with c | c | c
          · refine Or.inr ⟨c.2.2 (t - 1) (by omega) (by omega) (by omega), ?_⟩
            obtain ⟨c1, c2, -⟩ := c
            have u2 := u.2.1
            rw [c1, c2, y] at u2
            rw [c1, y]
            exact u2
          · exact Or.inl (by omega)
          · omega
        · refine Or.inr (Or.inl ⟨by omega, by omega, ?_⟩)
          rcases i6 with c | c | c
          · obtain ⟨c1, c2, -⟩ := c
            omega
          · omega
          · omega
    · rw [gl_f z]
      refine ⟨⟨i1, by omega, fun c _ => absurd (Or.inl (by omega)) z⟩, i4, i5, ?_⟩
      rcases i6 with c | c | c
      · refine Or.inl ⟨c.1, c.2.1, fun k a b d => ?_⟩
        by_cases y : k = f + (n : Int) + 1
        · have w9 : V (f + (n : Int) + 1) = V (f + (n : Int)) := by
            by_cases w : V (f + (n : Int) + 1) = V (f + (n : Int))
            · exact w
            · exact absurd (Or.inr w) z
          rw [y, w9]
          exact c.2.2 _ (by omega) (by omega) (by omega)
        · exact c.2.2 k a (by omega) d
      · exact Or.inr (Or.inl c)
      · exact Or.inr (Or.inr c)
/-- a step: the pile stays as it should be, grows lighter, holds no more -/
theorem gl_d {V p : Int → Int} {rd kc f t key e : Int} {q : Pl_} (h : PWm_ e kc ((f, t, key) :: q)) (hk : kc ≤ 7) : PWm_ e kc (gl9_ V f t key (nx9_ V rd f t key) kc p q (t - f).toNat).2.2 ∧ ph9_ (gl9_ V f t key (nx9_ V rd f t key) kc p q (t - f).toNat).2.2 + 1 ≤ ph9_ ((f, t, key) :: q) ∧ sz9_ (gl9_ V f t key (nx9_ V rd f t key) kc p q (t - f).toNat).2.2 ≤ sz9_ ((f, t, key) :: q) := by
  obtain ⟨⟨h1, h2, h3, h4, h5⟩, h6⟩ := h
  have e1 : ph9_ ((f, t, key) :: q) = 16 * (t - f) - 16 - key + ph9_ q := rfl
  have e2 : sz9_ ((f, t, key) :: q) = t - f + sz9_ q := rfl
  have nb : (nx9_ V rd f t key = key + 1) ∨ (nx9_ V rd f t key = 0 ∧ V f ≠ V (t - 1)) := by
    unfold nx9_
    by_cases z : V f ≠ V (t - 1) ∧ rd = 1
    · rw [if_pos z]; exact Or.inr ⟨rfl, z.1⟩
    · rw [if_neg z]; exact Or.inl rfl
  have w := gl_w (V := V) (f := f) (t := t) (key := key) (nx := nx9_ V rd f t key) (kc := kc) (p := p) (q := q) (e := e) h1 h3 (by omega) h6 (t - f).toNat (by omega)
  obtain ⟨⟨w1, w2, w3⟩, w4, w5, w6⟩ := w
  have w7 := w3 (by omega) (by omega)
  refine ⟨w4, ?_, by omega⟩
  rcases w6 with c | c | c
  · obtain ⟨c1, -, -⟩ := c
    omega
  · omega
  · obtain ⟨-, -, c | ⟨c1, c2⟩⟩ := c
    · omega
    · rcases nb with nb | nb
      · omega
      · exact absurd c1.symm nb.2
theorem sg_w {WW : Int → Int → Int → Int} {rd kc f t key e : Int} {o p : Int → Int} {q : Pl_} (h : PWm_ e kc ((f, t, key) :: q)) (hk : kc ≤ 7) : PWm_ e kc (sg9_ WW rd kc f t key o p q).2.2 ∧ ph9_ (sg9_ WW rd kc f t key o p q).2.2 + 1 ≤ ph9_ ((f, t, key) :: q) ∧ sz9_ (sg9_ WW rd kc f t key o p q).2.2 ≤ sz9_ ((f, t, key) :: q) := gl_d (V := fun k => WW key (bt9_ o f (t - f).toNat) (som9_ (WW key (bt9_ o f (t - f).toNat)) f (t - f - 1).toNat o k)) (rd := rd) (p := p) h hk
/-- more time than the pile needs changes nothing -/
theorem rk_m {WW : Int → Int → Int → Int} {rd kc e : Int} (hk : kc ≤ 7) : ∀ (n m : Nat) (o p : Int → Int) (q : Pl_), PWm_ e kc q → ph9_ q ≤ (n : Int) → ph9_ q ≤ (m : Int) → rk9_ WW rd kc n o p q = rk9_ WW rd kc m o p q := by
  have big : ∀ (f t key : Int) (q : Pl_), PWm_ e kc ((f, t, key) :: q) → 9 ≤ ph9_ ((f, t, key) :: q) := fun f t key q h => by
    have i := ph_0 hk h.2
    have e1 : ph9_ ((f, t, key) :: q) = 16 * (t - f) - 16 - key + ph9_ q := rfl
    have := h.1
    omega
  intro n
  induction n with
  | zero =>
    intro m o p q h a b
    cases q with
    | nil => rw [rk_0, rk_0]
    | cons x q =>
      obtain ⟨f, t, key⟩ := x
      have := big f t key q h
      omega
  | succ n ih =>
    intro m o p q h a b
    cases q with
    | nil => rw [rk_0, rk_0]
    | cons x q =>
      obtain ⟨f, t, key⟩ := x
      have g := big f t key q h
      cases m with
      | zero => omega
      | succ m =>
        have w := sg_w (WW := WW) (rd := rd) (o := o) (p := p) h hk
        rw [rk_s, rk_s]
        exact ih m _ _ _ w.1 (by omega) (by omega)
-- the reference's tally, exactly: words
/-- the cards of a sheet -/
def fr9c_ (T : Zt) (sh : Int) : Nat → Int
  | 0 => 0
  | n + 1 => fr9c_ T sh n + (T 242 0 (10 * sh + (n : Int)) + (if T 243 0 (10 * sh + (n : Int)) = 0 then 0 else 3))
theorem frc_0 {T : Zt} {sh : Int} {n : Nat} (h : T 243 0 (10 * sh + (n : Int)) = 0) : fr9c_ T sh (n + 1) = fr9c_ T sh n + (T 242 0 (10 * sh + (n : Int)) + 0) := by
  show fr9c_ T sh n + (T 242 0 (10 * sh + (n : Int)) + (if T 243 0 (10 * sh + (n : Int)) = 0 then 0 else 3)) = _
  rw [if_pos h]
theorem frc_1 {T : Zt} {sh : Int} {n : Nat} (h : T 243 0 (10 * sh + (n : Int)) ≠ 0) : fr9c_ T sh (n + 1) = fr9c_ T sh n + (T 242 0 (10 * sh + (n : Int)) + 3) := by
  show fr9c_ T sh n + (T 242 0 (10 * sh + (n : Int)) + (if T 243 0 (10 * sh + (n : Int)) = 0 then 0 else 3)) = _
  rw [if_neg h]
/-- what the reference tells of match m up to day d -/
noncomputable def vR_ (T : Zt) (d m : Int) : Int → Int := fun i =>
  if i = 0 then cz_ (((T 235 0 m = 2 ∨ T 235 0 m = 3) ∧ T 234 0 m ≤ d) ∨ (¬ (T 235 0 m = 2 ∨ T 235 0 m = 3) ∧ T 111 0 80 ≠ 0)) 1 0
  else if i = 1 then T 232 0 m else if i = 2 then T 233 0 m
  else if i = 3 then cz_ (T 235 0 m = 2 ∨ T 235 0 m = 3) (T 236 0 m) (cz_ (T 281 0 m = 0) 1 0)
  else if i = 4 then cz_ (T 235 0 m = 2 ∨ T 235 0 m = 3) (T 237 0 m) (cz_ (T 281 0 m = 2) 1 0)
  else if i = 5 then cz_ (T 235 0 m = 2) (fr9c_ T (2 * m) (T 239 0 (2 * m)).toNat) 0
  else cz_ (T 235 0 m = 2) (fr9c_ T (2 * m + 1) (T 239 0 (2 * m + 1)).toNat) 0
theorem vr_0 {T : Zt} {d m : Int} : vR_ T d m 0 = cz_ (((T 235 0 m = 2 ∨ T 235 0 m = 3) ∧ T 234 0 m ≤ d) ∨ (¬ (T 235 0 m = 2 ∨ T 235 0 m = 3) ∧ T 111 0 80 ≠ 0)) 1 0 := by
  unfold vR_
  rw [if_pos rfl]
theorem vr_1 {T : Zt} {d m : Int} : vR_ T d m 1 = T 232 0 m := by
  unfold vR_
  rw [if_neg (by decide), if_pos rfl]
theorem vr_2 {T : Zt} {d m : Int} : vR_ T d m 2 = T 233 0 m := by
  unfold vR_
  rw [if_neg (by decide), if_neg (by decide), if_pos rfl]
theorem vr_3 {T : Zt} {d m : Int} : vR_ T d m 3 = cz_ (T 235 0 m = 2 ∨ T 235 0 m = 3) (T 236 0 m) (cz_ (T 281 0 m = 0) 1 0) := by
  unfold vR_
  rw [if_neg (by decide), if_neg (by decide), if_neg (by decide), if_pos rfl]
theorem vr_4 {T : Zt} {d m : Int} : vR_ T d m 4 = cz_ (T 235 0 m = 2 ∨ T 235 0 m = 3) (T 237 0 m) (cz_ (T 281 0 m = 2) 1 0) := by
  unfold vR_
  rw [if_neg (by decide), if_neg (by decide), if_neg (by decide), if_neg (by decide), if_pos rfl]
theorem vr_5 {T : Zt} {d m : Int} : vR_ T d m 5 = cz_ (T 235 0 m = 2) (fr9c_ T (2 * m) (T 239 0 (2 * m)).toNat) 0 := by
  unfold vR_
  rw [if_neg (by decide), if_neg (by decide), if_neg (by decide), if_neg (by decide), if_neg (by decide), if_pos rfl]
theorem vr_6 {T : Zt} {d m : Int} : vR_ T d m 6 = cz_ (T 235 0 m = 2) (fr9c_ T (2 * m + 1) (T 239 0 (2 * m + 1)).toNat) 0 := by
  unfold vR_
  rw [if_neg (by decide), if_neg (by decide), if_neg (by decide), if_neg (by decide), if_neg (by decide), if_neg (by decide)]
theorem vr_c1 {T : Zt} {d m : Int} (h : ((T 235 0 m = 2 ∨ T 235 0 m = 3) ∧ T 234 0 m ≤ d) ∨ (¬ (T 235 0 m = 2 ∨ T 235 0 m = 3) ∧ T 111 0 80 ≠ 0)) : vR_ T d m 0 = 1 := vr_0.trans (cz_t h)
theorem vr_c0 {T : Zt} {d m : Int} (h : ¬ (((T 235 0 m = 2 ∨ T 235 0 m = 3) ∧ T 234 0 m ≤ d) ∨ (¬ (T 235 0 m = 2 ∨ T 235 0 m = 3) ∧ T 111 0 80 ≠ 0))) : vR_ T d m 0 ≠ 1 := fun q => by
  rw [vr_0, cz_f h] at q
  exact absurd q (by decide)
/-- columns that are added to -/
def TV_ (T U : Zt) (D : Int → Int → Int) : Prop := ∀ x w : Int, 0 ≤ x → x < 12 → 0 ≤ w → w ≤ 8 → U 276 0 (9 * x + w) = T 276 0 (9 * x + w) + D x w
theorem tv_0 {T : Zt} : TV_ T T (fun _ _ => 0) := fun x w _ _ _ _ => by
  show T 276 0 (9 * x + w) = T 276 0 (9 * x + w) + 0
  omega
theorem tv_k {T U U2 : Zt} {D : Int → Int → Int} (h : TV_ T U D) (e : ∀ j, U2 276 0 j = U 276 0 j) : TV_ T U2 D := fun x w a b c d => (e _).trans (h x w a b c d)
theorem tv_b {T0 T U : Zt} {D : Int → Int → Int} (h : TV_ T U D) (e : ∀ j, T 276 0 j = T0 276 0 j) : TV_ T0 U D := fun x w a b c d => by rw [← e]; exact h x w a b c d
theorem tv_u {T U U2 : Zt} {D : Int → Int → Int} {j v y c q : Int} (h : TV_ T U D) (e : U2 = up_ U 276 0 j v) (hj : j = 9 * c + q) (hq : 0 ≤ q ∧ q ≤ 8) (hv : v = U 276 0 j + y) : TV_ T U2 (fun x w => D x w + cz_ (x = c ∧ w = q) y 0) := fun x w x0 x1 w0 w1 => by
  show U2 276 0 (9 * x + w) = T 276 0 (9 * x + w) + (D x w + cz_ (x = c ∧ w = q) y 0)
  have g := h x w x0 x1 w0 w1
  by_cases z : x = c ∧ w = q
  · have e9 : 9 * x + w = j := by omega
    rw [cz_t z, e9, up_f e, hv]
    rw [e9] at g
    omega
  · rw [cz_f z, up_g e (fun p => z (by omega)), g]
    omega
theorem tv_t {T U U2 : Zt} {D D' : Int → Int → Int} (h : TV_ T U D) (g : TV_ U U2 D') : TV_ T U2 (fun x w => D x w + D' x w) := fun x w x0 x1 w0 w1 => by
  show U2 276 0 (9 * x + w) = T 276 0 (9 * x + w) + (D x w + D' x w)
  have a := h x w x0 x1 w0 w1
  have b := g x w x0 x1 w0 w1
  omega
theorem tv_e {T U : Zt} {D D' : Int → Int → Int} (h : TV_ T U D) (e : ∀ x w, 0 ≤ x → x < 12 → 0 ≤ w → w ≤ 8 → D x w = D' x w) : TV_ T U D' := fun x w x0 x1 w0 w1 => by
  rw [← e x w x0 x1 w0 w1]
  exact h x w x0 x1 w0 w1
/-- the columns of one result, up to column n -/
noncomputable abbrev tu9_ (ru : Int → Int) (n cl a b : Int) : Int → Int → Int := fun x w => cz_ (x = cl ∧ w < n) (cv9_ ru w a b) 0
theorem tu_0 {T : Zt} {ru : Int → Int} {cl a b : Int} : TV_ T T (tu9_ ru 0 cl a b) := tv_e tv_0 (fun x w _ _ w0 _ => (cz_f (fun q => by omega)).symm)
theorem tu_s {T T1 T2 : Zt} {ru : Int → Int} {n cl a b j v y : Int} (h : TV_ T T1 (tu9_ ru n cl a b)) (e : T2 = up_ T1 276 0 j v) (hj : j = 9 * cl + n) (hn : 0 ≤ n ∧ n ≤ 6) (hv : v = T1 276 0 j + y) (hy : y = cv9_ ru n a b) : TV_ T T2 (tu9_ ru (n + 1) cl a b) := by
  refine tv_e (tv_u h e hj (by omega) hv) (fun x w _ _ w0 w1 => ?_)
  show cz_ (x = cl ∧ w < n) (cv9_ ru w a b) 0 + cz_ (x = cl ∧ w = n) y 0 = cz_ (x = cl ∧ w < n + 1) (cv9_ ru w a b) 0
  by_cases z : x = cl ∧ w = n
  · have e9 : cv9_ ru w a b = y := by rw [z.2, hy]
    rw [cz_t z, cz_f (fun q => by omega), cz_t ⟨z.1, by omega⟩, e9]
    omega
  · rw [cz_f z, cz_g (P := x = cl ∧ w < n + 1) (Q := x = cl ∧ w < n) ⟨fun q => ⟨q.1, by omega⟩, fun q => ⟨q.1, by omega⟩⟩]
    omega
theorem cv_0 {ru : Int → Int} {a b : Int} : cv9_ ru 0 a b = 1 := by
  unfold cv9_
  rw [if_pos rfl]
theorem cv_1t {ru : Int → Int} {a b : Int} (h : b < a) : cv9_ ru 1 a b = 1 := by
  unfold cv9_
  rw [if_neg (by decide), if_pos rfl, if_pos h]
theorem cv_1f {ru : Int → Int} {a b : Int} (h : ¬ b < a) : cv9_ ru 1 a b = 0 := by
  unfold cv9_
  rw [if_neg (by decide), if_pos rfl, if_neg h]
theorem cv_2t {ru : Int → Int} {a b : Int} (h : a = b) : cv9_ ru 2 a b = 1 := by
  unfold cv9_
  rw [if_neg (by decide), if_neg (by decide), if_pos rfl, if_pos h]
theorem cv_2f {ru : Int → Int} {a b : Int} (h : ¬ a = b) : cv9_ ru 2 a b = 0 := by
  unfold cv9_
  rw [if_neg (by decide), if_neg (by decide), if_pos rfl, if_neg h]
theorem cv_3t {ru : Int → Int} {a b : Int} (h : a < b) : cv9_ ru 3 a b = 1 := by
  unfold cv9_
  rw [if_neg (by decide), if_neg (by decide), if_neg (by decide), if_pos rfl, if_pos h]
theorem cv_3f {ru : Int → Int} {a b : Int} (h : ¬ a < b) : cv9_ ru 3 a b = 0 := by
  unfold cv9_
  rw [if_neg (by decide), if_neg (by decide), if_neg (by decide), if_pos rfl, if_neg h]
theorem cv_4 {ru : Int → Int} {a b : Int} : cv9_ ru 4 a b = a := by
  unfold cv9_
  rw [if_neg (by decide), if_neg (by decide), if_neg (by decide), if_neg (by decide), if_pos rfl]
theorem cv_5 {ru : Int → Int} {a b : Int} : cv9_ ru 5 a b = b := by
  unfold cv9_
  rw [if_neg (by decide), if_neg (by decide), if_neg (by decide), if_neg (by decide), if_neg (by decide), if_pos rfl]
theorem cv_6 {ru : Int → Int} {a b : Int} : cv9_ ru 6 a b = ptm9_ ru a b := by
  unfold cv9_
  rw [if_neg (by decide), if_neg (by decide), if_neg (by decide), if_neg (by decide), if_neg (by decide), if_neg (by decide)]
theorem pt_1 {ru : Int → Int} {a b : Int} (h : b < a) : ptm9_ ru a b = ru 1 := if_pos h
theorem pt_2 {ru : Int → Int} {a b : Int} (h : a = b) : ptm9_ ru a b = ru 2 := by
  unfold ptm9_
  rw [if_neg (by omega), if_pos h]
theorem pt_3 {ru : Int → Int} {a b : Int} (h : a < b) : ptm9_ ru a b = ru 3 := by
  unfold ptm9_
  rw [if_neg (by omega), if_neg (by omega)]
/-- a match as the sum of what is added -/
theorem td_d {ru : Int → Int} {v : Mv_} {x w k : Int} (h : v k 0 = 1) (w0 : 0 ≤ w) (w1 : w ≤ 8) : cz_ (x = v k 1 ∧ w < 7) (cv9_ ru w (v k 3) (v k 4)) 0 + cz_ (x = v k 2 ∧ w < 7) (cv9_ ru w (v k 4) (v k 3)) 0 + cz_ (x = v k 2 ∧ w = 7) (v k 4) 0 + cz_ (x = v k 1 ∧ w = 8) (v k 5) 0 + cz_ (x = v k 2 ∧ w = 8) (v k 6) 0 = td9_ ru v x w k := by
  rw [td_1 h]
  by_cases a7 : w = 7
  · rw [if_pos a7, cz_f (P := x = v k 1 ∧ w < 7) (fun q => by omega), cz_f (P := x = v k 2 ∧ w < 7) (fun q => by omega), cz_f (P := x = v k 1 ∧ w = 8) (fun q => by omega), cz_f (P := x = v k 2 ∧ w = 8) (fun q => by omega)]
    by_cases y : v k 2 = x
    · rw [if_pos y, cz_t ⟨y.symm, a7⟩]; omega
    · rw [if_neg y, cz_f (fun q => y q.1.symm)]; omega
  · rw [if_neg a7, cz_f (P := x = v k 2 ∧ w = 7) (fun q => a7 q.2)]
    by_cases a8 : w = 8
    · rw [if_pos a8, cz_f (P := x = v k 1 ∧ w < 7) (fun q => by omega), cz_f (P := x = v k 2 ∧ w < 7) (fun q => by omega)]
      by_cases y : v k 1 = x
      · by_cases y2 : v k 2 = x
        · rw [if_pos y, if_pos y2, cz_t (P := x = v k 1 ∧ w = 8) ⟨y.symm, a8⟩, cz_t (P := x = v k 2 ∧ w = 8) ⟨y2.symm, a8⟩]; omega
        · rw [if_pos y, if_neg y2, cz_t (P := x = v k 1 ∧ w = 8) ⟨y.symm, a8⟩, cz_f (P := x = v k 2 ∧ w = 8) (fun q => y2 q.1.symm)]; omega
      · by_cases y2 : v k 2 = x
        · rw [if_neg y, if_pos y2, cz_f (P := x = v k 1 ∧ w = 8) (fun q => y q.1.symm), cz_t (P := x = v k 2 ∧ w = 8) ⟨y2.symm, a8⟩]; omega
        · rw [if_neg y, if_neg y2, cz_f (P := x = v k 1 ∧ w = 8) (fun q => y q.1.symm), cz_f (P := x = v k 2 ∧ w = 8) (fun q => y2 q.1.symm)]; omega
    · rw [if_neg a8, cz_f (P := x = v k 1 ∧ w = 8) (fun q => a8 q.2), cz_f (P := x = v k 2 ∧ w = 8) (fun q => a8 q.2)]
      by_cases y : v k 1 = x
      · by_cases y2 : v k 2 = x
        · rw [if_pos y, if_pos y2, cz_t (P := x = v k 1 ∧ w < 7) ⟨y.symm, by omega⟩, cz_t (P := x = v k 2 ∧ w < 7) ⟨y2.symm, by omega⟩]; omega
        · rw [if_pos y, if_neg y2, cz_t (P := x = v k 1 ∧ w < 7) ⟨y.symm, by omega⟩, cz_f (P := x = v k 2 ∧ w < 7) (fun q => y2 q.1.symm)]; omega
      · by_cases y2 : v k 2 = x
        · rw [if_neg y, if_pos y2, cz_f (P := x = v k 1 ∧ w < 7) (fun q => y q.1.symm), cz_t (P := x = v k 2 ∧ w < 7) ⟨y2.symm, by omega⟩]; omega
        · rw [if_neg y, if_neg y2, cz_f (P := x = v k 1 ∧ w < 7) (fun q => y q.1.symm), cz_f (P := x = v k 2 ∧ w < 7) (fun q => y2 q.1.symm)]; omega
/-- a match that counts: told for both, then the away score, then the cards -/
theorem tv_m {T U1 U2 U3 : Zt} {ru : Int → Int} {v : Mv_} {k H A a b j y : Int} (h1 : TV_ T U1 (tu9_ ru 7 H a b)) (h2 : TV_ U1 U2 (tu9_ ru 7 A b a)) (e : U3 = up_ U2 276 0 j y) (hj : j = 9 * A + 7) (hy : y = U2 276 0 j + b) (g0 : v k 0 = 1) (g1 : v k 1 = H) (g2 : v k 2 = A) (g3 : v k 3 = a) (g4 : v k 4 = b) : TV_ T U3 (fun x w => cz_ (x = v k 1 ∧ w < 7) (cv9_ ru w (v k 3) (v k 4)) 0 + cz_ (x = v k 2 ∧ w < 7) (cv9_ ru w (v k 4) (v k 3)) 0 + cz_ (x = v k 2 ∧ w = 7) (v k 4) 0) := by
  rw [g1, g2, g3, g4]
  exact tv_u (tv_t h1 h2) e hj (by decide) hy
theorem tv_n {T U3 : Zt} {ru : Int → Int} {v : Mv_} {k : Int} (h : TV_ T U3 (fun x w => cz_ (x = v k 1 ∧ w < 7) (cv9_ ru w (v k 3) (v k 4)) 0 + cz_ (x = v k 2 ∧ w < 7) (cv9_ ru w (v k 4) (v k 3)) 0 + cz_ (x = v k 2 ∧ w = 7) (v k 4) 0)) (g0 : v k 0 = 1) (g5 : v k 5 = 0) (g6 : v k 6 = 0) : TV_ T U3 (fun x w => td9_ ru v x w k) := tv_e h (fun x w _ _ w0 w1 => by
  show cz_ (x = v k 1 ∧ w < 7) (cv9_ ru w (v k 3) (v k 4)) 0 + cz_ (x = v k 2 ∧ w < 7) (cv9_ ru w (v k 4) (v k 3)) 0 + cz_ (x = v k 2 ∧ w = 7) (v k 4) 0 = td9_ ru v x w k
  rw [← td_d g0 w0 w1, cz_0 (P := x = v k 1 ∧ w = 8) g5, cz_0 (P := x = v k 2 ∧ w = 8) g6]
  omega)
theorem tv_f {T U3 U4 U5 : Zt} {ru : Int → Int} {v : Mv_} {k j y j2 y2 : Int} (h : TV_ T U3 (fun x w => cz_ (x = v k 1 ∧ w < 7) (cv9_ ru w (v k 3) (v k 4)) 0 + cz_ (x = v k 2 ∧ w < 7) (cv9_ ru w (v k 4) (v k 3)) 0 + cz_ (x = v k 2 ∧ w = 7) (v k 4) 0)) (e : U4 = up_ U3 276 0 j y) (hj : j = 9 * v k 1 + 8) (hy : y = U3 276 0 j + v k 5) (e2 : U5 = up_ U4 276 0 j2 y2) (hj2 : j2 = 9 * v k 2 + 8) (hy2 : y2 = U4 276 0 j2 + v k 6) (g0 : v k 0 = 1) : TV_ T U5 (fun x w => td9_ ru v x w k) :=
  tv_e (tv_u (tv_u h e hj (by decide) hy) e2 hj2 (by decide) hy2) (fun x w _ _ w0 w1 => td_d g0 w0 w1)
/-- the columns after n matches -/
def TN_ (U : Zt) (ru : Int → Int) (v : Mv_) (n : Nat) : Prop := ∀ x w : Int, 0 ≤ x → x < 12 → 0 ≤ w → w ≤ 8 → U 276 0 (9 * x + w) = tn9_ ru v x w n
theorem tn_s {T U : Zt} {ru : Int → Int} {v : Mv_} {n : Nat} (h : TN_ T ru v n) (g : TV_ T U (fun x w => td9_ ru v x w (n : Int))) : TN_ U ru v (n + 1) := fun x w a b c d => by
  rw [g x w a b c d, h x w a b c d]
  rfl
theorem tn_z {T U : Zt} {ru : Int → Int} {v : Mv_} {n : Nat} (h : TN_ T ru v n) (g : v (n : Int) 0 ≠ 1) (e : ∀ j, U 276 0 j = T 276 0 j) : TN_ U ru v (n + 1) := fun x w a b c d => by
  rw [e, h x w a b c d]
  show tn9_ ru v x w n = tn9_ ru v x w n + td9_ ru v x w (n : Int)
  rw [td_0 g]
  omega
theorem tn_k {T U : Zt} {ru : Int → Int} {v : Mv_} {n : Nat} (h : TN_ T ru v n) (e : ∀ j, U 276 0 j = T 276 0 j) : TN_ U ru v n := fun x w a b c d => by
  rw [e]
  exact h x w a b c d
/-- what is taken from a club, up to the n-th deduction -/
noncomputable def dd9_ (T : Zt) (c d x : Int) : Nat → Int
  | 0 => 0
  | n + 1 => dd9_ T c d x n + cz_ (T 226 0 (n : Int) = x ∧ T 225 0 (n : Int) = c ∧ T 228 0 (n : Int) ≤ d) (T 227 0 (n : Int)) 0
def TD_ (T0 U : Zt) (ru : Int → Int) (v : Mv_) (n : Nat) (c d : Int) (i : Nat) : Prop := ∀ x w : Int, 0 ≤ x → x < 12 → 0 ≤ w → w ≤ 8 → U 276 0 (9 * x + w) = tn9_ ru v x w n - cz_ (w = 6) (dd9_ T0 c d x i) 0
theorem tdd_0 {T0 U : Zt} {ru : Int → Int} {v : Mv_} {n : Nat} {c d : Int} (h : TN_ U ru v n) : TD_ T0 U ru v n c d 0 := fun x w a b e f => by
  rw [h x w a b e f, cz_0 (show dd9_ T0 c d x 0 = 0 from rfl)]
  omega
theorem tdd_s {T0 U U2 : Zt} {ru : Int → Int} {v : Mv_} {n i : Nat} {c d j y q : Int} (h : TD_ T0 U ru v n c d i) (e : U2 = up_ U 276 0 j y) (hj : j = 9 * T0 226 0 (i : Int) + 6) (hy : y = U 276 0 j - q) (hq : q = cz_ (T0 225 0 (i : Int) = c ∧ T0 228 0 (i : Int) ≤ d) (T0 227 0 (i : Int)) 0) : TD_ T0 U2 ru v n c d (i + 1) := fun x w a b e0 f => by
  have g := h x w a b e0 f
  have ed : dd9_ T0 c d x (i + 1) = dd9_ T0 c d x i + cz_ (T0 226 0 (i : Int) = x ∧ T0 225 0 (i : Int) = c ∧ T0 228 0 (i : Int) ≤ d) (T0 227 0 (i : Int)) 0 := rfl
  by_cases z : x = T0 226 0 (i : Int) ∧ w = 6
  · have e9 : 9 * x + w = j := by omega
    have c9 : cz_ (T0 226 0 (i : Int) = x ∧ T0 225 0 (i : Int) = c ∧ T0 228 0 (i : Int) ≤ d) (T0 227 0 (i : Int)) 0 = q := by
      rw [hq]
      exact cz_g ⟨fun p => p.2, fun p => ⟨z.1.symm, p⟩⟩
    rw [cz_t z.2, ed, c9, e9, up_f e, hy]
    rw [cz_t z.2, e9] at g
    omega
  · rw [up_g e (fun p => z (by omega)), g]
    by_cases w6 : w = 6
    · rw [cz_t w6, cz_t w6, ed, cz_f (fun p => z ⟨p.1.symm, w6⟩)]
      omega
    · rw [cz_f w6, cz_f w6]
theorem tdd_k {T0 U U2 : Zt} {ru : Int → Int} {v : Mv_} {n i : Nat} {c d : Int} (h : TD_ T0 U ru v n c d i) (e : ∀ j, U2 276 0 j = U 276 0 j) : TD_ T0 U2 ru v n c d i := fun x w a b g f => by
  rw [e]
  exact h x w a b g f
theorem frc_k {T U : Zt} (h2 : ∀ j, U 242 0 j = T 242 0 j) (h3 : ∀ j, U 243 0 j = T 243 0 j) {sh : Int} : ∀ n : Nat, fr9c_ U sh n = fr9c_ T sh n
  | 0 => rfl
  | n + 1 => by
    show fr9c_ U sh n + (U 242 0 (10 * sh + (n : Int)) + (if U 243 0 (10 * sh + (n : Int)) = 0 then 0 else 3)) = fr9c_ T sh n + (T 242 0 (10 * sh + (n : Int)) + (if T 243 0 (10 * sh + (n : Int)) = 0 then 0 else 3))
    rw [frc_k h2 h3 n, h2, h3]
theorem frc_q {ws : List (Nat × List Int)} {T U : Zt} (f : fr_ ws T U) (w2 : ∀ j, fw_ ws 242 j = false) (w3 : ∀ j, fw_ ws 243 j = false) (w9 : ∀ j, fw_ ws 239 j = false) {sh : Int} : fr9c_ U sh (U 239 0 sh).toNat = fr9c_ T sh (T 239 0 sh).toNat := by
  rw [f 239 0 sh (w9 sh)]
  exact frc_k (fun j => f 242 0 j (w2 j)) (fun j => f 243 0 j (w3 j)) _
theorem vr_g {ws : List (Nat × List Int)} {T T2 : Zt} {d m : Int} (f : fr_ ws T T2) (w : ∀ (k : Nat) (j : Int), k = 232 ∨ k = 233 ∨ k = 234 ∨ k = 235 ∨ k = 236 ∨ k = 237 ∨ k = 239 ∨ k = 242 ∨ k = 243 ∨ k = 281 → fw_ ws k j = false) (w8 : fw_ ws 111 80 = false) : vR_ T2 d m = vR_ T d m := by
  have e32 : ∀ j, T2 232 0 j = T 232 0 j := fun j => f 232 0 j (w 232 j (by decide))
  have e33 : ∀ j, T2 233 0 j = T 233 0 j := fun j => f 233 0 j (w 233 j (by decide))
  have e34 : ∀ j, T2 234 0 j = T 234 0 j := fun j => f 234 0 j (w 234 j (by decide))
  have e35 : ∀ j, T2 235 0 j = T 235 0 j := fun j => f 235 0 j (w 235 j (by decide))
  have e36 : ∀ j, T2 236 0 j = T 236 0 j := fun j => f 236 0 j (w 236 j (by decide))
  have e37 : ∀ j, T2 237 0 j = T 237 0 j := fun j => f 237 0 j (w 237 j (by decide))
  have e39 : ∀ j, T2 239 0 j = T 239 0 j := fun j => f 239 0 j (w 239 j (by decide))
  have e81 : ∀ j, T2 281 0 j = T 281 0 j := fun j => f 281 0 j (w 281 j (by decide))
  have e80 : T2 111 0 80 = T 111 0 80 := f 111 0 80 w8
  have ef : ∀ sh n, fr9c_ T2 sh n = fr9c_ T sh n := fun sh n => frc_k (fun j => f 242 0 j (w 242 j (by decide))) (fun j => f 243 0 j (w 243 j (by decide))) n
  funext i
  simp only [vR_, e32, e33, e34, e35, e36, e37, e39, e81, e80, ef]
theorem bk_X11_counts_e_0 : ck_ fX11 (some .boolean) cX11_counts 0 [.aload 0, .tableswitch 0 11 35 #[], .iload 1, .iaload, .iconst 2, .if_icmp .eq 20, .aload 0, .tableswitch 0 11 35 #[], .iload 1, .iaload, .iconst 3, .if_icmp .ne 56, .aload 0, .aload 0, .tableswitch 0 11 36 #[], .iload 1, .iaload, .tableswitch 1 11 82 #[], .aload 0, .aload 0, .tableswitch 0 11 37 #[], .iload 1, .iaload, .tableswitch 1 11 83 #[], .aload 0, .tableswitch 0 11 34 #[], .iload 1, .iaload, .iload 2, .if_icmp .gt 54, .iconst 1, .goto 55] 54 = true := qck_r (nn_ _) (by decide +kernel)
theorem bs_X11_counts_e_0 {P : Zt → Option Zv → Prop} (K : Int → Zl → List Zv → Zt → Prop) : sx_ K P [.aload 0, .tableswitch 0 11 35 #[], .iload 1, .iaload, .iconst 2, .if_icmp .eq 20, .aload 0, .tableswitch 0 11 35 #[], .iload 1, .iaload, .iconst 3, .if_icmp .ne 56, .aload 0, .aload 0, .tableswitch 0 11 36 #[], .iload 1, .iaload, .tableswitch 1 11 82 #[], .aload 0, .aload 0, .tableswitch 0 11 37 #[], .iload 1, .iaload, .tableswitch 1 11 83 #[], .aload 0, .tableswitch 0 11 34 #[], .iload 1, .iaload, .iload 2, .if_icmp .gt 54, .iconst 1, .goto 55] 54 = x_aload 0 (x_g1 111 235 (x_iload 1 (x_iaload (x_iconst 2 (x_if_icmp .eq 20 K (x_aload 0 (x_g1 111 235 (x_iload 1 (x_iaload (x_iconst 3 (x_if_icmp .ne 56 K (x_aload 0 (x_aload 0 (x_g1 111 236 (x_iload 1 (x_iaload (x_p 111 82 (-2147483648) 2147483647 (x_aload 0 (x_aload 0 (x_g1 111 237 (x_iload 1 (x_iaload (x_p 111 83 (-2147483648) 2147483647 (x_aload 0 (x_g1 111 234 (x_iload 1 (x_iaload (x_iload 2 (x_if_icmp .gt 54 K (x_iconst 1 (x_goto 55 K))))))))))))))))))))))))))))))) := ((xe_aload 0).trans (congrArg (x_aload 0) ((xe_g1 (kk := 111) rfl tl_11_35).trans (congrArg (x_g1 111 235) ((xe_iload 1).trans (congrArg (x_iload 1) ((xe_iaload).trans (congrArg (x_iaload) ((xe_iconst 2).trans (congrArg (x_iconst 2) ((xe_if_icmp .eq 20).trans (congrArg (x_if_icmp .eq 20 K) ((xe_aload 0).trans (congrArg (x_aload 0) ((xe_g1 (kk := 111) rfl tl_11_35).trans (congrArg (x_g1 111 235) ((xe_iload 1).trans (congrArg (x_iload 1) ((xe_iaload).trans (congrArg (x_iaload) ((xe_iconst 3).trans (congrArg (x_iconst 3) ((xe_if_icmp .ne 56).trans (congrArg (x_if_icmp .ne 56 K) ((xe_aload 0).trans (congrArg (x_aload 0) ((xe_aload 0).trans (congrArg (x_aload 0) ((xe_g1 (kk := 111) rfl tl_11_36).trans (congrArg (x_g1 111 236) ((xe_iload 1).trans (congrArg (x_iload 1) ((xe_iaload).trans (congrArg (x_iaload) ((xe_p (kk := 111) rfl tl_11_82).trans (congrArg (x_p 111 82 (-2147483648) 2147483647) ((xe_aload 0).trans (congrArg (x_aload 0) ((xe_aload 0).trans (congrArg (x_aload 0) ((xe_g1 (kk := 111) rfl tl_11_37).trans (congrArg (x_g1 111 237) ((xe_iload 1).trans (congrArg (x_iload 1) ((xe_iaload).trans (congrArg (x_iaload) ((xe_p (kk := 111) rfl tl_11_83).trans (congrArg (x_p 111 83 (-2147483648) 2147483647) ((xe_aload 0).trans (congrArg (x_aload 0) ((xe_g1 (kk := 111) rfl tl_11_34).trans (congrArg (x_g1 111 234) ((xe_iload 1).trans (congrArg (x_iload 1) ((xe_iaload).trans (congrArg (x_iaload) ((xe_iload 2).trans (congrArg (x_iload 2) ((xe_if_icmp .gt 54).trans (congrArg (x_if_icmp .gt 54 K) ((xe_iconst 1).trans (congrArg (x_iconst 1) (xe_goto 55)))))))))))))))))))))))))))))))))))))))))))))))))))))))))))))))
theorem bk_X11_counts_e_20 : ck_ fX11 (some .boolean) cX11_counts 20 [.aload 0, .aload 0, .tableswitch 0 11 36 #[], .iload 1, .iaload, .tableswitch 1 11 82 #[], .aload 0, .aload 0, .tableswitch 0 11 37 #[], .iload 1, .iaload, .tableswitch 1 11 83 #[], .aload 0, .tableswitch 0 11 34 #[], .iload 1, .iaload, .iload 2, .if_icmp .gt 54, .iconst 1, .goto 55] 54 = true := qck_r (nn_ _) (by decide +kernel)
theorem bs_X11_counts_e_20 {P : Zt → Option Zv → Prop} (K : Int → Zl → List Zv → Zt → Prop) : sx_ K P [.aload 0, .aload 0, .tableswitch 0 11 36 #[], .iload 1, .iaload, .tableswitch 1 11 82 #[], .aload 0, .aload 0, .tableswitch 0 11 37 #[], .iload 1, .iaload, .tableswitch 1 11 83 #[], .aload 0, .tableswitch 0 11 34 #[], .iload 1, .iaload, .iload 2, .if_icmp .gt 54, .iconst 1, .goto 55] 54 = x_aload 0 (x_aload 0 (x_g1 111 236 (x_iload 1 (x_iaload (x_p 111 82 (-2147483648) 2147483647 (x_aload 0 (x_aload 0 (x_g1 111 237 (x_iload 1 (x_iaload (x_p 111 83 (-2147483648) 2147483647 (x_aload 0 (x_g1 111 234 (x_iload 1 (x_iaload (x_iload 2 (x_if_icmp .gt 54 K (x_iconst 1 (x_goto 55 K))))))))))))))))))) := ((xe_aload 0).trans (congrArg (x_aload 0) ((xe_aload 0).trans (congrArg (x_aload 0) ((xe_g1 (kk := 111) rfl tl_11_36).trans (congrArg (x_g1 111 236) ((xe_iload 1).trans (congrArg (x_iload 1) ((xe_iaload).trans (congrArg (x_iaload) ((xe_p (kk := 111) rfl tl_11_82).trans (congrArg (x_p 111 82 (-2147483648) 2147483647) ((xe_aload 0).trans (congrArg (x_aload 0) ((xe_aload 0).trans (congrArg (x_aload 0) ((xe_g1 (kk := 111) rfl tl_11_37).trans (congrArg (x_g1 111 237) ((xe_iload 1).trans (congrArg (x_iload 1) ((xe_iaload).trans (congrArg (x_iaload) ((xe_p (kk := 111) rfl tl_11_83).trans (congrArg (x_p 111 83 (-2147483648) 2147483647) ((xe_aload 0).trans (congrArg (x_aload 0) ((xe_g1 (kk := 111) rfl tl_11_34).trans (congrArg (x_g1 111 234) ((xe_iload 1).trans (congrArg (x_iload 1) ((xe_iaload).trans (congrArg (x_iaload) ((xe_iload 2).trans (congrArg (x_iload 2) ((xe_if_icmp .gt 54).trans (congrArg (x_if_icmp .gt 54 K) ((xe_iconst 1).trans (congrArg (x_iconst 1) (xe_goto 55)))))))))))))))))))))))))))))))))))))))
theorem bk_X11_counts_e_54 : ck_ fX11 (some .boolean) cX11_counts 54 [.iconst 0, .ireturn] 56 = true := qck_r (nn_ _) (by decide +kernel)
theorem bs_X11_counts_e_54 {P : Zt → Option Zv → Prop} (K : Int → Zl → List Zv → Zt → Prop) : sx_ K P [.iconst 0, .ireturn] 56 = x_iconst 0 (x_ireturn P) := ((xe_iconst 0).trans (congrArg (x_iconst 0) (xe_ireturn)))
theorem bk_X11_counts_e_55 : ck_ fX11 (some .boolean) cX11_counts 55 [.ireturn] 56 = true := qck_r (nn_ _) (by decide +kernel)
theorem bs_X11_counts_e_55 {P : Zt → Option Zv → Prop} (K : Int → Zl → List Zv → Zt → Prop) : sx_ K P [.ireturn] 56 = x_ireturn P := (xe_ireturn)
theorem bk_X11_counts_e_56 : ck_ fX11 (some .boolean) cX11_counts 56 [.aload 0, .tableswitch 0 11 80 #[], .ifCond .eq 102, .aload 0, .aload 0, .tableswitch 0 11 81 #[], .iload 1, .iaload, .ifCond .ne 77, .iconst 1, .goto 78] 77 = true := qck_r (nn_ _) (by decide +kernel)
theorem bs_X11_counts_e_56 {P : Zt → Option Zv → Prop} (K : Int → Zl → List Zv → Zt → Prop) : sx_ K P [.aload 0, .tableswitch 0 11 80 #[], .ifCond .eq 102, .aload 0, .aload 0, .tableswitch 0 11 81 #[], .iload 1, .iaload, .ifCond .ne 77, .iconst 1, .goto 78] 77 = x_aload 0 (x_g0 111 80 0 1 (x_ifCond .eq 102 K (x_aload 0 (x_aload 0 (x_g1 111 281 (x_iload 1 (x_iaload (x_ifCond .ne 77 K (x_iconst 1 (x_goto 78 K)))))))))) := ((xe_aload 0).trans (congrArg (x_aload 0) ((xe_g0 (kk := 111) rfl tl_11_80).trans (congrArg (x_g0 111 80 0 1) ((xe_ifCond .eq 102).trans (congrArg (x_ifCond .eq 102 K) ((xe_aload 0).trans (congrArg (x_aload 0) ((xe_aload 0).trans (congrArg (x_aload 0) ((xe_g1 (kk := 111) rfl tl_11_81).trans (congrArg (x_g1 111 281) ((xe_iload 1).trans (congrArg (x_iload 1) ((xe_iaload).trans (congrArg (x_iaload) ((xe_ifCond .ne 77).trans (congrArg (x_ifCond .ne 77 K) ((xe_iconst 1).trans (congrArg (x_iconst 1) (xe_goto 78)))))))))))))))))))))
theorem bk_X11_counts_e_102 : ck_ fX11 (some .boolean) cX11_counts 102 [.iconst 0, .ireturn] 104 = true := qck_r (nn_ _) (by decide +kernel)
theorem bs_X11_counts_e_102 {P : Zt → Option Zv → Prop} (K : Int → Zl → List Zv → Zt → Prop) : sx_ K P [.iconst 0, .ireturn] 104 = x_iconst 0 (x_ireturn P) := ((xe_iconst 0).trans (congrArg (x_iconst 0) (xe_ireturn)))
theorem bk_X11_counts_e_77 : ck_ fX11 (some .boolean) cX11_counts 77 [.iconst 0, .tableswitch 1 11 82 #[], .aload 0, .aload 0, .tableswitch 0 11 81 #[], .iload 1, .iaload, .iconst 2, .if_icmp .ne 96, .iconst 1, .goto 97] 96 = true := qck_r (nn_ _) (by decide +kernel)
theorem bs_X11_counts_e_77 {P : Zt → Option Zv → Prop} (K : Int → Zl → List Zv → Zt → Prop) : sx_ K P [.iconst 0, .tableswitch 1 11 82 #[], .aload 0, .aload 0, .tableswitch 0 11 81 #[], .iload 1, .iaload, .iconst 2, .if_icmp .ne 96, .iconst 1, .goto 97] 96 = x_iconst 0 (x_p 111 82 (-2147483648) 2147483647 (x_aload 0 (x_aload 0 (x_g1 111 281 (x_iload 1 (x_iaload (x_iconst 2 (x_if_icmp .ne 96 K (x_iconst 1 (x_goto 97 K)))))))))) := ((xe_iconst 0).trans (congrArg (x_iconst 0) ((xe_p (kk := 111) rfl tl_11_82).trans (congrArg (x_p 111 82 (-2147483648) 2147483647) ((xe_aload 0).trans (congrArg (x_aload 0) ((xe_aload 0).trans (congrArg (x_aload 0) ((xe_g1 (kk := 111) rfl tl_11_81).trans (congrArg (x_g1 111 281) ((xe_iload 1).trans (congrArg (x_iload 1) ((xe_iaload).trans (congrArg (x_iaload) ((xe_iconst 2).trans (congrArg (x_iconst 2) ((xe_if_icmp .ne 96).trans (congrArg (x_if_icmp .ne 96 K) ((xe_iconst 1).trans (congrArg (x_iconst 1) (xe_goto 97)))))))))))))))))))))
theorem bk_X11_counts_e_96 : ck_ fX11 (some .boolean) cX11_counts 96 [.iconst 0, .tableswitch 1 11 83 #[], .iconst 1, .ireturn] 102 = true := qck_r (nn_ _) (by decide +kernel)
theorem bs_X11_counts_e_96 {P : Zt → Option Zv → Prop} (K : Int → Zl → List Zv → Zt → Prop) : sx_ K P [.iconst 0, .tableswitch 1 11 83 #[], .iconst 1, .ireturn] 102 = x_iconst 0 (x_p 111 83 (-2147483648) 2147483647 (x_iconst 1 (x_ireturn P))) := ((xe_iconst 0).trans (congrArg (x_iconst 0) ((xe_p (kk := 111) rfl tl_11_83).trans (congrArg (x_p 111 83 (-2147483648) 2147483647) ((xe_iconst 1).trans (congrArg (x_iconst 1) (xe_ireturn)))))))
theorem bk_X11_counts_e_97 : ck_ fX11 (some .boolean) cX11_counts 97 [.tableswitch 1 11 83 #[], .iconst 1, .ireturn] 102 = true := qck_r (nn_ _) (by decide +kernel)
theorem bs_X11_counts_e_97 {P : Zt → Option Zv → Prop} (K : Int → Zl → List Zv → Zt → Prop) : sx_ K P [.tableswitch 1 11 83 #[], .iconst 1, .ireturn] 102 = x_p 111 83 (-2147483648) 2147483647 (x_iconst 1 (x_ireturn P)) := ((xe_p (kk := 111) rfl tl_11_83).trans (congrArg (x_p 111 83 (-2147483648) 2147483647) ((xe_iconst 1).trans (congrArg (x_iconst 1) (xe_ireturn)))))
theorem bk_X11_counts_e_78 : ck_ fX11 (some .boolean) cX11_counts 78 [.tableswitch 1 11 82 #[], .aload 0, .aload 0, .tableswitch 0 11 81 #[], .iload 1, .iaload, .iconst 2, .if_icmp .ne 96, .iconst 1, .goto 97] 96 = true := qck_r (nn_ _) (by decide +kernel)
theorem bs_X11_counts_e_78 {P : Zt → Option Zv → Prop} (K : Int → Zl → List Zv → Zt → Prop) : sx_ K P [.tableswitch 1 11 82 #[], .aload 0, .aload 0, .tableswitch 0 11 81 #[], .iload 1, .iaload, .iconst 2, .if_icmp .ne 96, .iconst 1, .goto 97] 96 = x_p 111 82 (-2147483648) 2147483647 (x_aload 0 (x_aload 0 (x_g1 111 281 (x_iload 1 (x_iaload (x_iconst 2 (x_if_icmp .ne 96 K (x_iconst 1 (x_goto 97 K))))))))) := ((xe_p (kk := 111) rfl tl_11_82).trans (congrArg (x_p 111 82 (-2147483648) 2147483647) ((xe_aload 0).trans (congrArg (x_aload 0) ((xe_aload 0).trans (congrArg (x_aload 0) ((xe_g1 (kk := 111) rfl tl_11_81).trans (congrArg (x_g1 111 281) ((xe_iload 1).trans (congrArg (x_iload 1) ((xe_iaload).trans (congrArg (x_iaload) ((xe_iconst 2).trans (congrArg (x_iconst 2) ((xe_if_icmp .ne 96).trans (congrArg (x_if_icmp .ne 96 K) ((xe_iconst 1).trans (congrArg (x_iconst 1) (xe_goto 97)))))))))))))))))))
abbrev po_X11_counts_e (T : Zt) (m d : Int) : Zt → Option Zv → Prop := fun T' r => ∃ x : Int, r = some (vI x) ∧ fr_ [(111, [82, 83])] T T' ∧ (((0 ≤ x ∧ x ≤ 1) ∧ (x = 1 → (0 ≤ T' 111 0 82 ∧ T' 111 0 82 ≤ 20000) ∧ (0 ≤ T' 111 0 83 ∧ T' 111 0 83 ≤ 20000))) ∧ ((x = 1 ∧ vR_ T d m 0 = 1 ∧ T' 111 0 82 = vR_ T d m 3 ∧ T' 111 0 83 = vR_ T d m 4) ∨ (x = 0 ∧ vR_ T d m 0 ≠ 1)))
set_option maxHeartbeats 4000000 in
theorem ct_X11_counts_e {T : Zt} {m d : Int} (h1 : 0 ≤ m ∧ m < 400) (hsc : SC_ T) : Ct_ yX11_counts zX11_counts T [vR 111 0, vI m, vI d] (po_X11_counts_e T m d) := by
  refine ct_of pn_11 rfl rfl (Nat.le_of_ble_eq_true rfl) (fun hT hav => ?_)
  have hr_m : -2147483648 ≤ m ∧ m ≤ 2147483647 := hav (vI m) (List.mem_cons_of_mem _ List.mem_cons_self)
  have hr_d : -2147483648 ≤ d ∧ d ≤ 2147483647 := hav (vI d) (List.mem_cons_of_mem _ (List.mem_cons_of_mem _ List.mem_cons_self))
  have hz : zX11_counts.2.2.2.1 = some .boolean → ∀ (T' : Zt) (x : Int), po_X11_counts_e T m d T' (some (vI x)) → 0 ≤ x ∧ x ≤ 1 := fun _ T' x h => by obtain ⟨y, e, -, hy⟩ := h; cases e; exact hy.1.1
  have hsm := hsc m (by omega) (by omega)
  show J_ zX11_counts T (po_X11_counts_e T m d) 0 0 0 [some (vR 111 0), some (vI m), some (vI d)] [] T
  refine j_blx (F := fX11) tb_X11 (nn_ _) bk_X11_counts_e_0 bs_X11_counts_e_0 hz (fun K hK => ?_)
  refine ix_i (by omega) ?_
  intro b1 b1b
  refine And.intro (fun c2 => ?_) (fun c2 => ?_)
  · refine hK 20 _ [] T ?_
    refine j_blx (F := fX11) tb_X11 (nn_ _) bk_X11_counts_e_20 bs_X11_counts_e_20 hz (fun K hK => ?_)
    refine ix_i (by omega) ?_
    intro b3 b3b
    refine bd_i (by omega) ?_
    refine x_nm (fun U4 hU4 => ?_)
    have e5 := up_f hU4
    refine ix_i (by omega) ?_
    intro b6 b6b
    have e7 : U4 237 0 m = T 237 0 m := up_k hU4 (by exact Nat.ne_of_beq_eq_false rfl) 0 m
    rw [e7] at b6 b6b ⊢
    refine bd_i (by omega) ?_
    refine x_nm (fun U8 hU8 => ?_)
    have e9 := up_f hU8
    refine ix_i (by omega) ?_
    intro b10 b10b
    have e11 : U8 234 0 m = T 234 0 m := (up_k hU8 (by exact Nat.ne_of_beq_eq_false rfl) 0 m).trans (up_k hU4 (by exact Nat.ne_of_beq_eq_false rfl) 0 m)
    rw [e11] at b10 b10b ⊢
    refine And.intro (fun c12 => ?_) (fun c12 => ?_)
    · refine hK 54 _ [] U8 ?_
      refine j_blx (F := fX11) tb_X11 (nn_ _) bk_X11_counts_e_54 bs_X11_counts_e_54 hz (fun K hK => ?_)
      refine (show po_X11_counts_e T m d U8 (some (vI 0)) from ?_)
      have e13 : U8 111 0 82 = T 236 0 m := (up_j hU8 (by decide) 111 0).trans (up_f hU4)
      have e14 : U8 111 0 83 = T 237 0 m := up_f hU8
      exact ⟨_, rfl, fr_u (fr_u (fr_0 _ _) hU4 rfl) hU8 rfl, ⟨by omega, fun z => absurd z (by decide)⟩, Or.inr ⟨rfl, vr_c0 (by omega)⟩⟩
    · refine hK 55 _ [vI 1] U8 ?_
      refine j_blx (F := fX11) tb_X11 (nn_ _) bk_X11_counts_e_55 bs_X11_counts_e_55 hz (fun K hK => ?_)
      refine (show po_X11_counts_e T m d U8 (some (vI 1)) from ?_)
      have e15 : U8 111 0 82 = T 236 0 m := (up_j hU8 (by decide) 111 0).trans (up_f hU4)
      have e16 : U8 111 0 83 = T 237 0 m := up_f hU8
      have e17 : U8 111 0 82 = T 236 0 m := (up_j hU8 (by decide) 111 0).trans (up_f hU4)
      have e18 : U8 111 0 83 = T 237 0 m := up_f hU8
      have v3 : U8 111 0 82 = vR_ T d m 3 := by
        rw [vr_3]
        first
        | (rw [cz_t (by omega)]; omega)
        | (rw [cz_f (by omega), cz_t (by omega)]; omega)
        | (rw [cz_f (by omega), cz_f (by omega)]; omega)
      have v4 : U8 111 0 83 = vR_ T d m 4 := by
        rw [vr_4]
        first
        | (rw [cz_t (by omega)]; omega)
        | (rw [cz_f (by omega), cz_t (by omega)]; omega)
        | (rw [cz_f (by omega), cz_f (by omega)]; omega)
      exact ⟨_, rfl, fr_u (fr_u (fr_0 _ _) hU4 rfl) hU8 rfl, ⟨by omega, fun _ => by omega⟩, Or.inl ⟨rfl, vr_c1 (by omega), v3, v4⟩⟩
  · refine ix_i (by omega) ?_
    intro b19 b19b
    refine And.intro (fun c20 => ?_) (fun c20 => ?_)
    · refine hK 56 _ [] T ?_
      refine j_blx (F := fX11) tb_X11 (nn_ _) bk_X11_counts_e_56 bs_X11_counts_e_56 hz (fun K hK => ?_)
      intro b21 b21b
      refine And.intro (fun c22 => ?_) (fun c22 => ?_)
      · refine hK 102 _ [] T ?_
        refine j_blx (F := fX11) tb_X11 (nn_ _) bk_X11_counts_e_102 bs_X11_counts_e_102 hz (fun K hK => ?_)
        refine (show po_X11_counts_e T m d T (some (vI 0)) from ?_)
        exact ⟨_, rfl, fr_0 _ _, ⟨by omega, fun z => absurd z (by decide)⟩, Or.inr ⟨rfl, vr_c0 (by omega)⟩⟩
      · refine ix_i (by omega) ?_
        intro b23 b23b
        refine And.intro (fun c24 => ?_) (fun c24 => ?_)
        · refine hK 77 _ [vR 111 0] T ?_
          refine j_blx (F := fX11) tb_X11 (nn_ _) bk_X11_counts_e_77 bs_X11_counts_e_77 hz (fun K hK => ?_)
          refine bd_i (by omega) ?_
          refine x_nm (fun U25 hU25 => ?_)
          have e26 := up_f hU25
          refine ix_i (by omega) ?_
          intro b27 b27b
          have e28 : U25 281 0 m = T 281 0 m := up_k hU25 (by exact Nat.ne_of_beq_eq_false rfl) 0 m
          rw [e28] at b27 b27b ⊢
          refine And.intro (fun c29 => ?_) (fun c29 => ?_)
          · refine hK 96 _ [vR 111 0] U25 ?_
            refine j_blx (F := fX11) tb_X11 (nn_ _) bk_X11_counts_e_96 bs_X11_counts_e_96 hz (fun K hK => ?_)
            refine bd_i (by omega) ?_
            refine x_nm (fun U30 hU30 => ?_)
            have e31 := up_f hU30
            refine (show po_X11_counts_e T m d U30 (some (vI 1)) from ?_)
            have e32 : U30 111 0 82 = 0 := (up_j hU30 (by decide) 111 0).trans (up_f hU25)
            have e33 : U30 111 0 83 = 0 := up_f hU30
            have e34 : U30 111 0 82 = 0 := (up_j hU30 (by decide) 111 0).trans (up_f hU25)
            have e35 : U30 111 0 83 = 0 := up_f hU30
            have v3 : U30 111 0 82 = vR_ T d m 3 := by
              rw [vr_3]
              first
              | (rw [cz_t (by omega)]; omega)
              | (rw [cz_f (by omega), cz_t (by omega)]; omega)
              | (rw [cz_f (by omega), cz_f (by omega)]; omega)
            have v4 : U30 111 0 83 = vR_ T d m 4 := by
              rw [vr_4]
              first
              | (rw [cz_t (by omega)]; omega)
              | (rw [cz_f (by omega), cz_t (by omega)]; omega)
              | (rw [cz_f (by omega), cz_f (by omega)]; omega)
            exact ⟨_, rfl, fr_u (fr_u (fr_0 _ _) hU25 rfl) hU30 rfl, ⟨by omega, fun _ => by omega⟩, Or.inl ⟨rfl, vr_c1 (by omega), v3, v4⟩⟩
          · refine hK 97 _ [vI 1, vR 111 0] U25 ?_
            refine j_blx (F := fX11) tb_X11 (nn_ _) bk_X11_counts_e_97 bs_X11_counts_e_97 hz (fun K hK => ?_)
            refine bd_i (by omega) ?_
            refine x_nm (fun U36 hU36 => ?_)
            have e37 := up_f hU36
            refine (show po_X11_counts_e T m d U36 (some (vI 1)) from ?_)
            have e38 : U36 111 0 82 = 0 := (up_j hU36 (by decide) 111 0).trans (up_f hU25)
            have e39 : U36 111 0 83 = 1 := up_f hU36
            have e40 : U36 111 0 82 = 0 := (up_j hU36 (by decide) 111 0).trans (up_f hU25)
            have e41 : U36 111 0 83 = 1 := up_f hU36
            have v3 : U36 111 0 82 = vR_ T d m 3 := by
              rw [vr_3]
              first
              | (rw [cz_t (by omega)]; omega)
              | (rw [cz_f (by omega), cz_t (by omega)]; omega)
              | (rw [cz_f (by omega), cz_f (by omega)]; omega)
            have v4 : U36 111 0 83 = vR_ T d m 4 := by
              rw [vr_4]
              first
              | (rw [cz_t (by omega)]; omega)
              | (rw [cz_f (by omega), cz_t (by omega)]; omega)
              | (rw [cz_f (by omega), cz_f (by omega)]; omega)
            exact ⟨_, rfl, fr_u (fr_u (fr_0 _ _) hU25 rfl) hU36 rfl, ⟨by omega, fun _ => by omega⟩, Or.inl ⟨rfl, vr_c1 (by omega), v3, v4⟩⟩
        · refine hK 78 _ [vI 1, vR 111 0] T ?_
          refine j_blx (F := fX11) tb_X11 (nn_ _) bk_X11_counts_e_78 bs_X11_counts_e_78 hz (fun K hK => ?_)
          refine bd_i (by omega) ?_
          refine x_nm (fun U42 hU42 => ?_)
          have e43 := up_f hU42
          refine ix_i (by omega) ?_
          intro b44 b44b
          have e45 : U42 281 0 m = T 281 0 m := up_k hU42 (by exact Nat.ne_of_beq_eq_false rfl) 0 m
          rw [e45] at b44 b44b ⊢
          refine And.intro (fun c46 => ?_) (fun c46 => ?_)
          · refine hK 96 _ [vR 111 0] U42 ?_
            refine j_blx (F := fX11) tb_X11 (nn_ _) bk_X11_counts_e_96 bs_X11_counts_e_96 hz (fun K hK => ?_)
            refine bd_i (by omega) ?_
            refine x_nm (fun U47 hU47 => ?_)
            have e48 := up_f hU47
            refine (show po_X11_counts_e T m d U47 (some (vI 1)) from ?_)
            have e49 : U47 111 0 82 = 1 := (up_j hU47 (by decide) 111 0).trans (up_f hU42)
            have e50 : U47 111 0 83 = 0 := up_f hU47
            have e51 : U47 111 0 82 = 1 := (up_j hU47 (by decide) 111 0).trans (up_f hU42)
            have e52 : U47 111 0 83 = 0 := up_f hU47
            have v3 : U47 111 0 82 = vR_ T d m 3 := by
              rw [vr_3]
              first
              | (rw [cz_t (by omega)]; omega)
              | (rw [cz_f (by omega), cz_t (by omega)]; omega)
              | (rw [cz_f (by omega), cz_f (by omega)]; omega)
            have v4 : U47 111 0 83 = vR_ T d m 4 := by
              rw [vr_4]
              first
              | (rw [cz_t (by omega)]; omega)
              | (rw [cz_f (by omega), cz_t (by omega)]; omega)
              | (rw [cz_f (by omega), cz_f (by omega)]; omega)
            exact ⟨_, rfl, fr_u (fr_u (fr_0 _ _) hU42 rfl) hU47 rfl, ⟨by omega, fun _ => by omega⟩, Or.inl ⟨rfl, vr_c1 (by omega), v3, v4⟩⟩
          · refine hK 97 _ [vI 1, vR 111 0] U42 ?_
            refine j_blx (F := fX11) tb_X11 (nn_ _) bk_X11_counts_e_97 bs_X11_counts_e_97 hz (fun K hK => ?_)
            refine bd_i (by omega) ?_
            refine x_nm (fun U53 hU53 => ?_)
            have e54 := up_f hU53
            refine (show po_X11_counts_e T m d U53 (some (vI 1)) from ?_)
            have e55 : U53 111 0 82 = 1 := (up_j hU53 (by decide) 111 0).trans (up_f hU42)
            have e56 : U53 111 0 83 = 1 := up_f hU53
            have e57 : U53 111 0 82 = 1 := (up_j hU53 (by decide) 111 0).trans (up_f hU42)
            have e58 : U53 111 0 83 = 1 := up_f hU53
            have v3 : U53 111 0 82 = vR_ T d m 3 := by
              rw [vr_3]
              first
              | (rw [cz_t (by omega)]; omega)
              | (rw [cz_f (by omega), cz_t (by omega)]; omega)
              | (rw [cz_f (by omega), cz_f (by omega)]; omega)
            have v4 : U53 111 0 83 = vR_ T d m 4 := by
              rw [vr_4]
              first
              | (rw [cz_t (by omega)]; omega)
              | (rw [cz_f (by omega), cz_t (by omega)]; omega)
              | (rw [cz_f (by omega), cz_f (by omega)]; omega)
            exact ⟨_, rfl, fr_u (fr_u (fr_0 _ _) hU42 rfl) hU53 rfl, ⟨by omega, fun _ => by omega⟩, Or.inl ⟨rfl, vr_c1 (by omega), v3, v4⟩⟩
    · refine ix_i (by omega) ?_
      intro b59 b59b
      refine bd_i (by omega) ?_
      refine x_nm (fun U60 hU60 => ?_)
      have e61 := up_f hU60
      refine ix_i (by omega) ?_
      intro b62 b62b
      have e63 : U60 237 0 m = T 237 0 m := up_k hU60 (by exact Nat.ne_of_beq_eq_false rfl) 0 m
      rw [e63] at b62 b62b ⊢
      refine bd_i (by omega) ?_
      refine x_nm (fun U64 hU64 => ?_)
      have e65 := up_f hU64
      refine ix_i (by omega) ?_
      intro b66 b66b
      have e67 : U64 234 0 m = T 234 0 m := (up_k hU64 (by exact Nat.ne_of_beq_eq_false rfl) 0 m).trans (up_k hU60 (by exact Nat.ne_of_beq_eq_false rfl) 0 m)
      rw [e67] at b66 b66b ⊢
      refine And.intro (fun c68 => ?_) (fun c68 => ?_)
      · refine hK 54 _ [] U64 ?_
        refine j_blx (F := fX11) tb_X11 (nn_ _) bk_X11_counts_e_54 bs_X11_counts_e_54 hz (fun K hK => ?_)
        refine (show po_X11_counts_e T m d U64 (some (vI 0)) from ?_)
        have e69 : U64 111 0 82 = T 236 0 m := (up_j hU64 (by decide) 111 0).trans (up_f hU60)
        have e70 : U64 111 0 83 = T 237 0 m := up_f hU64
        exact ⟨_, rfl, fr_u (fr_u (fr_0 _ _) hU60 rfl) hU64 rfl, ⟨by omega, fun z => absurd z (by decide)⟩, Or.inr ⟨rfl, vr_c0 (by omega)⟩⟩
      · refine hK 55 _ [vI 1] U64 ?_
        refine j_blx (F := fX11) tb_X11 (nn_ _) bk_X11_counts_e_55 bs_X11_counts_e_55 hz (fun K hK => ?_)
        refine (show po_X11_counts_e T m d U64 (some (vI 1)) from ?_)
        have e71 : U64 111 0 82 = T 236 0 m := (up_j hU64 (by decide) 111 0).trans (up_f hU60)
        have e72 : U64 111 0 83 = T 237 0 m := up_f hU64
        have e73 : U64 111 0 82 = T 236 0 m := (up_j hU64 (by decide) 111 0).trans (up_f hU60)
        have e74 : U64 111 0 83 = T 237 0 m := up_f hU64
        have v3 : U64 111 0 82 = vR_ T d m 3 := by
          rw [vr_3]
          first
          | (rw [cz_t (by omega)]; omega)
          | (rw [cz_f (by omega), cz_t (by omega)]; omega)
          | (rw [cz_f (by omega), cz_f (by omega)]; omega)
        have v4 : U64 111 0 83 = vR_ T d m 4 := by
          rw [vr_4]
          first
          | (rw [cz_t (by omega)]; omega)
          | (rw [cz_f (by omega), cz_t (by omega)]; omega)
          | (rw [cz_f (by omega), cz_f (by omega)]; omega)
        exact ⟨_, rfl, fr_u (fr_u (fr_0 _ _) hU60 rfl) hU64 rfl, ⟨by omega, fun _ => by omega⟩, Or.inl ⟨rfl, vr_c1 (by omega), v3, v4⟩⟩
theorem bk_X11_tellResult_e_86 : ck_ fX11 none cX11_tellResult 86 [.aload 0, .tableswitch 0 11 76 #[], .iload 5, .iconst 4, .iadd, .dup2, .iaload, .iload 3, .iadd, .iastore, .aload 0, .tableswitch 0 11 76 #[], .iload 5, .iconst 5, .iadd, .dup2, .iaload, .iload 4, .iadd, .iastore, .aload 0, .tableswitch 0 11 76 #[], .iload 5, .iconst 6, .iadd, .dup2, .iaload, .iload 3, .iload 4, .if_icmp .le 139, .aload 0, .iload 1, .iconst 1] 133 = true := qck_r (nn_ _) (by decide +kernel)
theorem bs_X11_tellResult_e_86 {P : Zt → Option Zv → Prop} (K : Int → Zl → List Zv → Zt → Prop) : sx_ K P [.aload 0, .tableswitch 0 11 76 #[], .iload 5, .iconst 4, .iadd, .dup2, .iaload, .iload 3, .iadd, .iastore, .aload 0, .tableswitch 0 11 76 #[], .iload 5, .iconst 5, .iadd, .dup2, .iaload, .iload 4, .iadd, .iastore, .aload 0, .tableswitch 0 11 76 #[], .iload 5, .iconst 6, .iadd, .dup2, .iaload, .iload 3, .iload 4, .if_icmp .le 139, .aload 0, .iload 1, .iconst 1] 133 = x_aload 0 (x_g1 111 276 (x_iload 5 (x_iconst 4 (x_iadd (x_dup2 (x_iaload (x_iload 3 (x_iadd (x_iastore (x_aload 0 (x_g1 111 276 (x_iload 5 (x_iconst 5 (x_iadd (x_dup2 (x_iaload (x_iload 4 (x_iadd (x_iastore (x_aload 0 (x_g1 111 276 (x_iload 5 (x_iconst 6 (x_iadd (x_dup2 (x_iaload (x_iload 3 (x_iload 4 (x_if_icmp .le 139 K (x_aload 0 (x_iload 1 (x_iconst 1 (K 133))))))))))))))))))))))))))))))))) := ((xe_aload 0).trans (congrArg (x_aload 0) ((xe_g1 (kk := 111) rfl tl_11_76).trans (congrArg (x_g1 111 276) ((xe_iload 5).trans (congrArg (x_iload 5) ((xe_iconst 4).trans (congrArg (x_iconst 4) ((xe_iadd).trans (congrArg (x_iadd) ((xe_dup2).trans (congrArg (x_dup2) ((xe_iaload).trans (congrArg (x_iaload) ((xe_iload 3).trans (congrArg (x_iload 3) ((xe_iadd).trans (congrArg (x_iadd) ((xe_iastore).trans (congrArg (x_iastore) ((xe_aload 0).trans (congrArg (x_aload 0) ((xe_g1 (kk := 111) rfl tl_11_76).trans (congrArg (x_g1 111 276) ((xe_iload 5).trans (congrArg (x_iload 5) ((xe_iconst 5).trans (congrArg (x_iconst 5) ((xe_iadd).trans (congrArg (x_iadd) ((xe_dup2).trans (congrArg (x_dup2) ((xe_iaload).trans (congrArg (x_iaload) ((xe_iload 4).trans (congrArg (x_iload 4) ((xe_iadd).trans (congrArg (x_iadd) ((xe_iastore).trans (congrArg (x_iastore) ((xe_aload 0).trans (congrArg (x_aload 0) ((xe_g1 (kk := 111) rfl tl_11_76).trans (congrArg (x_g1 111 276) ((xe_iload 5).trans (congrArg (x_iload 5) ((xe_iconst 6).trans (congrArg (x_iconst 6) ((xe_iadd).trans (congrArg (x_iadd) ((xe_dup2).trans (congrArg (x_dup2) ((xe_iaload).trans (congrArg (x_iaload) ((xe_iload 3).trans (congrArg (x_iload 3) ((xe_iload 4).trans (congrArg (x_iload 4) ((xe_if_icmp .le 139).trans (congrArg (x_if_icmp .le 139 K) ((xe_aload 0).trans (congrArg (x_aload 0) ((xe_iload 1).trans (congrArg (x_iload 1) ((xe_iconst 1).trans (congrArg (x_iconst 1) xe_nil))))))))))))))))))))))))))))))))))))))))))))))))))))))))))))))))))
theorem bk_X11_tellResult_e_139 : ck_ fX11 none cX11_tellResult 139 [.iload 3, .iload 4, .if_icmp .ne 154, .aload 0, .iload 1, .iconst 2] 148 = true := qck_r (nn_ _) (by decide +kernel)
theorem bs_X11_tellResult_e_139 {P : Zt → Option Zv → Prop} (K : Int → Zl → List Zv → Zt → Prop) : sx_ K P [.iload 3, .iload 4, .if_icmp .ne 154, .aload 0, .iload 1, .iconst 2] 148 = x_iload 3 (x_iload 4 (x_if_icmp .ne 154 K (x_aload 0 (x_iload 1 (x_iconst 2 (K 148)))))) := ((xe_iload 3).trans (congrArg (x_iload 3) ((xe_iload 4).trans (congrArg (x_iload 4) ((xe_if_icmp .ne 154).trans (congrArg (x_if_icmp .ne 154 K) ((xe_aload 0).trans (congrArg (x_aload 0) ((xe_iload 1).trans (congrArg (x_iload 1) ((xe_iconst 2).trans (congrArg (x_iconst 2) xe_nil))))))))))))
theorem bk_X11_tellResult_e_154 : ck_ fX11 none cX11_tellResult 154 [.aload 0, .iload 1, .iconst 3] 157 = true := qck_r (nn_ _) (by decide +kernel)
theorem bs_X11_tellResult_e_154 {P : Zt → Option Zv → Prop} (K : Int → Zl → List Zv → Zt → Prop) : sx_ K P [.aload 0, .iload 1, .iconst 3] 157 = x_aload 0 (x_iload 1 (x_iconst 3 (K 157))) := ((xe_aload 0).trans (congrArg (x_aload 0) ((xe_iload 1).trans (congrArg (x_iload 1) ((xe_iconst 3).trans (congrArg (x_iconst 3) xe_nil))))))
theorem bk_X11_tellResult_e_160 : ck_ fX11 none cX11_tellResult 160 [.iadd, .iastore, .return_] 163 = true := qck_r (nn_ _) (by decide +kernel)
theorem bs_X11_tellResult_e_160 {P : Zt → Option Zv → Prop} (K : Int → Zl → List Zv → Zt → Prop) : sx_ K P [.iadd, .iastore, .return_] 163 = x_iadd (x_iastore (x_return_ P)) := ((xe_iadd).trans (congrArg (x_iadd) ((xe_iastore).trans (congrArg (x_iastore) (xe_return_)))))
theorem bk_X11_tellResult_e_151 : ck_ fX11 none cX11_tellResult 151 [.goto 160] 154 = true := qck_r (nn_ _) (by decide +kernel)
theorem bs_X11_tellResult_e_151 {P : Zt → Option Zv → Prop} (K : Int → Zl → List Zv → Zt → Prop) : sx_ K P [.goto 160] 154 = x_goto 160 K := (xe_goto 160)
theorem bk_X11_tellResult_e_136 : ck_ fX11 none cX11_tellResult 136 [.goto 160] 139 = true := qck_r (nn_ _) (by decide +kernel)
theorem bs_X11_tellResult_e_136 {P : Zt → Option Zv → Prop} (K : Int → Zl → List Zv → Zt → Prop) : sx_ K P [.goto 160] 139 = x_goto 160 K := (xe_goto 160)
theorem bk_X11_tellResult_e_63 : ck_ fX11 none cX11_tellResult 63 [.aload 0, .tableswitch 0 11 76 #[], .iload 5, .iconst 3, .iadd, .dup2, .iaload, .iload 3, .iload 4, .if_icmp .ge 83, .iconst 1, .goto 84] 83 = true := qck_r (nn_ _) (by decide +kernel)
theorem bs_X11_tellResult_e_63 {P : Zt → Option Zv → Prop} (K : Int → Zl → List Zv → Zt → Prop) : sx_ K P [.aload 0, .tableswitch 0 11 76 #[], .iload 5, .iconst 3, .iadd, .dup2, .iaload, .iload 3, .iload 4, .if_icmp .ge 83, .iconst 1, .goto 84] 83 = x_aload 0 (x_g1 111 276 (x_iload 5 (x_iconst 3 (x_iadd (x_dup2 (x_iaload (x_iload 3 (x_iload 4 (x_if_icmp .ge 83 K (x_iconst 1 (x_goto 84 K))))))))))) := ((xe_aload 0).trans (congrArg (x_aload 0) ((xe_g1 (kk := 111) rfl tl_11_76).trans (congrArg (x_g1 111 276) ((xe_iload 5).trans (congrArg (x_iload 5) ((xe_iconst 3).trans (congrArg (x_iconst 3) ((xe_iadd).trans (congrArg (x_iadd) ((xe_dup2).trans (congrArg (x_dup2) ((xe_iaload).trans (congrArg (x_iaload) ((xe_iload 3).trans (congrArg (x_iload 3) ((xe_iload 4).trans (congrArg (x_iload 4) ((xe_if_icmp .ge 83).trans (congrArg (x_if_icmp .ge 83 K) ((xe_iconst 1).trans (congrArg (x_iconst 1) (xe_goto 84)))))))))))))))))))))))
theorem bk_X11_tellResult_e_83 : ck_ fX11 none cX11_tellResult 83 [.iconst 0, .iadd, .iastore] 86 = true := qck_r (nn_ _) (by decide +kernel)
theorem bs_X11_tellResult_e_83 {P : Zt → Option Zv → Prop} (K : Int → Zl → List Zv → Zt → Prop) : sx_ K P [.iconst 0, .iadd, .iastore] 86 = x_iconst 0 (x_iadd (x_iastore (K 86))) := ((xe_iconst 0).trans (congrArg (x_iconst 0) ((xe_iadd).trans (congrArg (x_iadd) ((xe_iastore).trans (congrArg (x_iastore) xe_nil))))))
theorem bk_X11_tellResult_e_84 : ck_ fX11 none cX11_tellResult 84 [.iadd, .iastore] 86 = true := qck_r (nn_ _) (by decide +kernel)
theorem bs_X11_tellResult_e_84 {P : Zt → Option Zv → Prop} (K : Int → Zl → List Zv → Zt → Prop) : sx_ K P [.iadd, .iastore] 86 = x_iadd (x_iastore (K 86)) := ((xe_iadd).trans (congrArg (x_iadd) ((xe_iastore).trans (congrArg (x_iastore) xe_nil))))
theorem bk_X11_tellResult_e_40 : ck_ fX11 none cX11_tellResult 40 [.aload 0, .tableswitch 0 11 76 #[], .iload 5, .iconst 2, .iadd, .dup2, .iaload, .iload 3, .iload 4, .if_icmp .ne 60, .iconst 1, .goto 61] 60 = true := qck_r (nn_ _) (by decide +kernel)
theorem bs_X11_tellResult_e_40 {P : Zt → Option Zv → Prop} (K : Int → Zl → List Zv → Zt → Prop) : sx_ K P [.aload 0, .tableswitch 0 11 76 #[], .iload 5, .iconst 2, .iadd, .dup2, .iaload, .iload 3, .iload 4, .if_icmp .ne 60, .iconst 1, .goto 61] 60 = x_aload 0 (x_g1 111 276 (x_iload 5 (x_iconst 2 (x_iadd (x_dup2 (x_iaload (x_iload 3 (x_iload 4 (x_if_icmp .ne 60 K (x_iconst 1 (x_goto 61 K))))))))))) := ((xe_aload 0).trans (congrArg (x_aload 0) ((xe_g1 (kk := 111) rfl tl_11_76).trans (congrArg (x_g1 111 276) ((xe_iload 5).trans (congrArg (x_iload 5) ((xe_iconst 2).trans (congrArg (x_iconst 2) ((xe_iadd).trans (congrArg (x_iadd) ((xe_dup2).trans (congrArg (x_dup2) ((xe_iaload).trans (congrArg (x_iaload) ((xe_iload 3).trans (congrArg (x_iload 3) ((xe_iload 4).trans (congrArg (x_iload 4) ((xe_if_icmp .ne 60).trans (congrArg (x_if_icmp .ne 60 K) ((xe_iconst 1).trans (congrArg (x_iconst 1) (xe_goto 61)))))))))))))))))))))))
theorem bk_X11_tellResult_e_60 : ck_ fX11 none cX11_tellResult 60 [.iconst 0, .iadd, .iastore] 63 = true := qck_r (nn_ _) (by decide +kernel)
theorem bs_X11_tellResult_e_60 {P : Zt → Option Zv → Prop} (K : Int → Zl → List Zv → Zt → Prop) : sx_ K P [.iconst 0, .iadd, .iastore] 63 = x_iconst 0 (x_iadd (x_iastore (K 63))) := ((xe_iconst 0).trans (congrArg (x_iconst 0) ((xe_iadd).trans (congrArg (x_iadd) ((xe_iastore).trans (congrArg (x_iastore) xe_nil))))))
theorem bk_X11_tellResult_e_61 : ck_ fX11 none cX11_tellResult 61 [.iadd, .iastore] 63 = true := qck_r (nn_ _) (by decide +kernel)
theorem bs_X11_tellResult_e_61 {P : Zt → Option Zv → Prop} (K : Int → Zl → List Zv → Zt → Prop) : sx_ K P [.iadd, .iastore] 63 = x_iadd (x_iastore (K 63)) := ((xe_iadd).trans (congrArg (x_iadd) ((xe_iastore).trans (congrArg (x_iastore) xe_nil))))
theorem bk_X11_tellResult_e_0 : ck_ fX11 none cX11_tellResult 0 [.iconst 9, .iload 2, .imul, .istore 5, .aload 0, .tableswitch 0 11 76 #[], .iload 5, .dup2, .iaload, .iconst 1, .iadd, .iastore, .aload 0, .tableswitch 0 11 76 #[], .iload 5, .iconst 1, .iadd, .dup2, .iaload, .iload 3, .iload 4, .if_icmp .le 37, .iconst 1, .goto 38] 37 = true := qck_r (nn_ _) (by decide +kernel)
theorem bs_X11_tellResult_e_0 {P : Zt → Option Zv → Prop} (K : Int → Zl → List Zv → Zt → Prop) : sx_ K P [.iconst 9, .iload 2, .imul, .istore 5, .aload 0, .tableswitch 0 11 76 #[], .iload 5, .dup2, .iaload, .iconst 1, .iadd, .iastore, .aload 0, .tableswitch 0 11 76 #[], .iload 5, .iconst 1, .iadd, .dup2, .iaload, .iload 3, .iload 4, .if_icmp .le 37, .iconst 1, .goto 38] 37 = x_iconst 9 (x_iload 2 (x_imul (x_istore 5 (x_aload 0 (x_g1 111 276 (x_iload 5 (x_dup2 (x_iaload (x_iconst 1 (x_iadd (x_iastore (x_aload 0 (x_g1 111 276 (x_iload 5 (x_iconst 1 (x_iadd (x_dup2 (x_iaload (x_iload 3 (x_iload 4 (x_if_icmp .le 37 K (x_iconst 1 (x_goto 38 K))))))))))))))))))))))) := ((xe_iconst 9).trans (congrArg (x_iconst 9) ((xe_iload 2).trans (congrArg (x_iload 2) ((xe_imul).trans (congrArg (x_imul) ((xe_istore 5).trans (congrArg (x_istore 5) ((xe_aload 0).trans (congrArg (x_aload 0) ((xe_g1 (kk := 111) rfl tl_11_76).trans (congrArg (x_g1 111 276) ((xe_iload 5).trans (congrArg (x_iload 5) ((xe_dup2).trans (congrArg (x_dup2) ((xe_iaload).trans (congrArg (x_iaload) ((xe_iconst 1).trans (congrArg (x_iconst 1) ((xe_iadd).trans (congrArg (x_iadd) ((xe_iastore).trans (congrArg (x_iastore) ((xe_aload 0).trans (congrArg (x_aload 0) ((xe_g1 (kk := 111) rfl tl_11_76).trans (congrArg (x_g1 111 276) ((xe_iload 5).trans (congrArg (x_iload 5) ((xe_iconst 1).trans (congrArg (x_iconst 1) ((xe_iadd).trans (congrArg (x_iadd) ((xe_dup2).trans (congrArg (x_dup2) ((xe_iaload).trans (congrArg (x_iaload) ((xe_iload 3).trans (congrArg (x_iload 3) ((xe_iload 4).trans (congrArg (x_iload 4) ((xe_if_icmp .le 37).trans (congrArg (x_if_icmp .le 37 K) ((xe_iconst 1).trans (congrArg (x_iconst 1) (xe_goto 38)))))))))))))))))))))))))))))))))))))))))))))))
theorem bk_X11_tellResult_e_37 : ck_ fX11 none cX11_tellResult 37 [.iconst 0, .iadd, .iastore] 40 = true := qck_r (nn_ _) (by decide +kernel)
theorem bs_X11_tellResult_e_37 {P : Zt → Option Zv → Prop} (K : Int → Zl → List Zv → Zt → Prop) : sx_ K P [.iconst 0, .iadd, .iastore] 40 = x_iconst 0 (x_iadd (x_iastore (K 40))) := ((xe_iconst 0).trans (congrArg (x_iconst 0) ((xe_iadd).trans (congrArg (x_iadd) ((xe_iastore).trans (congrArg (x_iastore) xe_nil))))))
theorem bk_X11_tellResult_e_38 : ck_ fX11 none cX11_tellResult 38 [.iadd, .iastore] 40 = true := qck_r (nn_ _) (by decide +kernel)
theorem bs_X11_tellResult_e_38 {P : Zt → Option Zv → Prop} (K : Int → Zl → List Zv → Zt → Prop) : sx_ K P [.iadd, .iastore] 40 = x_iadd (x_iastore (K 40)) := ((xe_iadd).trans (congrArg (x_iadd) ((xe_iastore).trans (congrArg (x_iastore) xe_nil))))
abbrev po_X11_tellResult_e (T : Zt) (bb : Int) (c cl a b : Int) : Zt → Option Zv → Prop := fun T' r => r = none ∧ fr_ [(276, [])] T T' ∧ (TB_ T' (bb + 140000) ∧ TV_ T T' (tu9_ (fun w => T 205 0 (23 * c + w)) 7 cl a b))
set_option maxHeartbeats 4000000 in
theorem ct_X11_tellResult_e {T : Zt} {bb : Int} {c cl a b : Int} (h1 : 0 ≤ c ∧ c < 4) (h2 : 0 ≤ cl ∧ cl < 12) (h3 : 0 ≤ a ∧ a ≤ 20000) (h4 : 0 ≤ b ∧ b ≤ 20000) (hbb : 0 ≤ bb ∧ bb ≤ 500000000) (htb : TB_ T bb) : Ct_ yX11_tellResult zX11_tellResult T [vR 111 0, vI c, vI cl, vI a, vI b] (po_X11_tellResult_e T bb c cl a b) := by
  refine ct_of pn_11 rfl rfl (Nat.le_of_ble_eq_true rfl) (fun hT hav => ?_)
  have hr_c : -2147483648 ≤ c ∧ c ≤ 2147483647 := hav (vI c) (List.mem_cons_of_mem _ List.mem_cons_self)
  have hr_cl : -2147483648 ≤ cl ∧ cl ≤ 2147483647 := hav (vI cl) (List.mem_cons_of_mem _ (List.mem_cons_of_mem _ List.mem_cons_self))
  have hr_a : -2147483648 ≤ a ∧ a ≤ 2147483647 := hav (vI a) (List.mem_cons_of_mem _ (List.mem_cons_of_mem _ (List.mem_cons_of_mem _ List.mem_cons_self)))
  have hr_b : -2147483648 ≤ b ∧ b ≤ 2147483647 := hav (vI b) (List.mem_cons_of_mem _ (List.mem_cons_of_mem _ (List.mem_cons_of_mem _ (List.mem_cons_of_mem _ List.mem_cons_self))))
  have hz : zX11_tellResult.2.2.2.1 = some .boolean → ∀ (T' : Zt) (x : Int), po_X11_tellResult_e T bb c cl a b T' (some (vI x)) → 0 ≤ x ∧ x ≤ 1 := fun h => by cases h
  have hr1 : (-1) ≤ T 205 0 (23 * c + 1) ∧ T 205 0 (23 * c + 1) ≤ 999 := bd_a hT 205 (by decide +kernel : ta_ 205 = some (1, some 92, (-1), 999)) 0 (by omega)
  have hr2 : (-1) ≤ T 205 0 (23 * c + 2) ∧ T 205 0 (23 * c + 2) ≤ 999 := bd_a hT 205 (by decide +kernel : ta_ 205 = some (1, some 92, (-1), 999)) 0 (by omega)
  have hr3 : (-1) ≤ T 205 0 (23 * c + 3) ∧ T 205 0 (23 * c + 3) ≤ 999 := bd_a hT 205 (by decide +kernel : ta_ 205 = some (1, some 92, (-1), 999)) 0 (by omega)
  show J_ zX11_tellResult T (po_X11_tellResult_e T bb c cl a b) 0 0 0 [some (vR 111 0), some (vI c), some (vI cl), some (vI a), some (vI b), none] [] T
  have c_86 : ∀ (T3 : Zt), (fr_ [(276, [])] T T3) → (TB_ T3 (bb + 80000)) → (TV_ T T3 (tu9_ (fun w => T 205 0 (23 * c + w)) 4 cl a b)) → J_ zX11_tellResult T (po_X11_tellResult_e T bb c cl a b) 0 0 86 [some (vR 111 0), some (vI c), some (vI cl), some (vI a), some (vI b), some (vI (9 * cl))] [] T3 := by
    intro T3 hf_86 tb3 tu3
    refine j_blx (F := fX11) tb_X11 (nn_ _) bk_X11_tellResult_e_86 bs_X11_tellResult_e_86 hz (fun K hK => ?_)
    refine rg_i (by omega) ?_
    refine ix_i (by omega) ?_
    intro b1 b1b
    have t2 : -(bb + 80000) ≤ T3 276 0 ((9 * cl) + 4) ∧ T3 276 0 ((9 * cl) + 4) ≤ bb + 80000 ∧ (((9 * cl) + 4) % 9 = 6 → -(bb + 80000) ≤ 20 * (T3 276 0 ((9 * cl) + 4)) ∧ 20 * (T3 276 0 ((9 * cl) + 4)) ≤ bb + 80000) := (tb3) ((9 * cl) + 4) (by omega) (by omega)
    refine rg_i (by omega) ?_
    refine iy_i (by omega) (by omega) ?_
    refine x_nm (fun U3 hU3 => ?_)
    have e4 := up_f hU3
    refine rg_i (by omega) ?_
    refine ix_i (by omega) ?_
    intro b5 b5b
    have t6 : -(bb + 80000 + 20000) ≤ U3 276 0 ((9 * cl) + 5) ∧ U3 276 0 ((9 * cl) + 5) ≤ bb + 80000 + 20000 ∧ (((9 * cl) + 5) % 9 = 6 → -(bb + 80000 + 20000) ≤ 20 * (U3 276 0 ((9 * cl) + 5)) ∧ 20 * (U3 276 0 ((9 * cl) + 5)) ≤ bb + 80000 + 20000) := (tb_u (d := 20000) (tb3) hU3 (by decide) (by omega)) ((9 * cl) + 5) (by omega) (by omega)
    refine rg_i (by omega) ?_
    refine iy_i (by omega) (by omega) ?_
    refine x_nm (fun U7 hU7 => ?_)
    have e8 := up_f hU7
    refine rg_i (by omega) ?_
    refine ix_i (by omega) ?_
    intro b9 b9b
    refine And.intro (fun c10 => ?_) (fun c10 => ?_)
    · refine hK 139 _ [vI (U7 276 0 ((9 * cl) + 6)), vI ((9 * cl) + 6), vR 276 0] U7 ?_
      refine j_blx (F := fX11) tb_X11 (nn_ _) bk_X11_tellResult_e_139 bs_X11_tellResult_e_139 hz (fun K hK => ?_)
      refine And.intro (fun c11 => ?_) (fun c11 => ?_)
      · refine hK 154 _ [vI (U7 276 0 ((9 * cl) + 6)), vI ((9 * cl) + 6), vR 276 0] U7 ?_
        refine j_blx (F := fX11) tb_X11 (nn_ _) bk_X11_tellResult_e_154 bs_X11_tellResult_e_154 hz (fun K hK => ?_)
        refine hK 157 _ [vI 3, vI c, vR 111 0, vI (U7 276 0 ((9 * cl) + 6)), vI ((9 * cl) + 6), vR 276 0] U7 ?_
        refine j_callV (y := yX11_rule0) (Yc := zX11_rule0) (rest := [vI (U7 276 0 ((9 * cl) + 6)), vI ((9 * cl) + 6), vR 276 0]) [vI c, vI 3] (ct_X11_rule0 (T := U7) (by omega) (by omega)) cl_X11_321 (qd_c (by decide +kernel)) (nn_ _) rfl (rf_of rfl) (Nat.le_of_ble_eq_true rfl) (Nat.le_of_ble_eq_true rfl) (Nat.le_of_ble_eq_true rfl) rfl ?_
        rintro _ _ ⟨rfl, rfl⟩
        have e12 : U7 205 0 (23 * c + 3) = T 205 0 (23 * c + 3) := (up_k hU7 (by exact Nat.ne_of_beq_eq_false rfl) 0 (23 * c + 3)).trans ((up_k hU3 (by exact Nat.ne_of_beq_eq_false rfl) 0 (23 * c + 3)).trans (hf_86 205 0 (23 * c + 3) rfl))
        show J_ zX11_tellResult T (po_X11_tellResult_e T bb c cl a b) 0 0 160 _ [vI (U7 205 0 (23 * c + 3)), vI (U7 276 0 ((9 * cl) + 6)), vI ((9 * cl) + 6), vR 276 0] U7
        refine j_blx (F := fX11) tb_X11 (nn_ _) bk_X11_tellResult_e_160 bs_X11_tellResult_e_160 hz (fun K hK => ?_)
        have t13 : -(bb + 80000 + 20000 + 20000) ≤ U7 276 0 ((9 * cl) + 6) ∧ U7 276 0 ((9 * cl) + 6) ≤ bb + 80000 + 20000 + 20000 ∧ (((9 * cl) + 6) % 9 = 6 → -(bb + 80000 + 20000 + 20000) ≤ 20 * (U7 276 0 ((9 * cl) + 6)) ∧ 20 * (U7 276 0 ((9 * cl) + 6)) ≤ bb + 80000 + 20000 + 20000) := (tb_u (d := 20000) (tb_u (d := 20000) (tb3) hU3 (by decide) (by omega)) hU7 (by decide) (by omega)) ((9 * cl) + 6) (by omega) (by omega)
        refine rg_i (by omega) ?_
        refine iy_i (by omega) (by omega) ?_
        refine x_nm (fun U14 hU14 => ?_)
        have e15 := up_f hU14
        refine (show po_X11_tellResult_e T bb c cl a b U14 (none) from ?_)
        exact ⟨rfl, fr_u (fr_u (fr_u (fr_t (fr_0 _ _) (fr_s hf_86 rfl)) hU3 rfl) hU7 rfl) hU14 rfl, tb_m (tb_u (d := 20000) (tb_u (d := 20000) (tb_u (d := 20000) (tb3) hU3 (by decide) (by omega)) hU7 (by decide) (by omega)) hU14 (by decide) (by omega)) (by omega), tu_s (n := 6) (tu_s (n := 5) (tu_s (n := 4) (tu3) hU3 (by omega) (by decide) rfl cv_4.symm) hU7 (by omega) (by decide) rfl cv_5.symm) hU14 (by omega) (by decide) rfl (by rw [cv_6]; first | exact Eq.trans (b := T 205 0 (23 * c + 1)) (by omega) (pt_1 (ru := fun w => T 205 0 (23 * c + w)) (by omega)).symm | exact Eq.trans (b := T 205 0 (23 * c + 2)) (by omega) (pt_2 (ru := fun w => T 205 0 (23 * c + w)) (by omega)).symm | exact Eq.trans (b := T 205 0 (23 * c + 3)) (by omega) (pt_3 (ru := fun w => T 205 0 (23 * c + w)) (by omega)).symm)⟩
      · refine hK 148 _ [vI 2, vI c, vR 111 0, vI (U7 276 0 ((9 * cl) + 6)), vI ((9 * cl) + 6), vR 276 0] U7 ?_
        refine j_callV (y := yX11_rule0) (Yc := zX11_rule0) (rest := [vI (U7 276 0 ((9 * cl) + 6)), vI ((9 * cl) + 6), vR 276 0]) [vI c, vI 2] (ct_X11_rule0 (T := U7) (by omega) (by omega)) cl_X11_321 (qd_c (by decide +kernel)) (nn_ _) rfl (rf_of rfl) (Nat.le_of_ble_eq_true rfl) (Nat.le_of_ble_eq_true rfl) (Nat.le_of_ble_eq_true rfl) rfl ?_
        rintro _ _ ⟨rfl, rfl⟩
        have e16 : U7 205 0 (23 * c + 2) = T 205 0 (23 * c + 2) := (up_k hU7 (by exact Nat.ne_of_beq_eq_false rfl) 0 (23 * c + 2)).trans ((up_k hU3 (by exact Nat.ne_of_beq_eq_false rfl) 0 (23 * c + 2)).trans (hf_86 205 0 (23 * c + 2) rfl))
        show J_ zX11_tellResult T (po_X11_tellResult_e T bb c cl a b) 0 0 151 _ [vI (U7 205 0 (23 * c + 2)), vI (U7 276 0 ((9 * cl) + 6)), vI ((9 * cl) + 6), vR 276 0] U7
        refine j_blx (F := fX11) tb_X11 (nn_ _) bk_X11_tellResult_e_151 bs_X11_tellResult_e_151 hz (fun K hK => ?_)
        refine hK 160 _ [vI (U7 205 0 (23 * c + 2)), vI (U7 276 0 ((9 * cl) + 6)), vI ((9 * cl) + 6), vR 276 0] U7 ?_
        refine j_blx (F := fX11) tb_X11 (nn_ _) bk_X11_tellResult_e_160 bs_X11_tellResult_e_160 hz (fun K hK => ?_)
        have t17 : -(bb + 80000 + 20000 + 20000) ≤ U7 276 0 ((9 * cl) + 6) ∧ U7 276 0 ((9 * cl) + 6) ≤ bb + 80000 + 20000 + 20000 ∧ (((9 * cl) + 6) % 9 = 6 → -(bb + 80000 + 20000 + 20000) ≤ 20 * (U7 276 0 ((9 * cl) + 6)) ∧ 20 * (U7 276 0 ((9 * cl) + 6)) ≤ bb + 80000 + 20000 + 20000) := (tb_u (d := 20000) (tb_u (d := 20000) (tb3) hU3 (by decide) (by omega)) hU7 (by decide) (by omega)) ((9 * cl) + 6) (by omega) (by omega)
        refine rg_i (by omega) ?_
        refine iy_i (by omega) (by omega) ?_
        refine x_nm (fun U18 hU18 => ?_)
        have e19 := up_f hU18
        refine (show po_X11_tellResult_e T bb c cl a b U18 (none) from ?_)
        exact ⟨rfl, fr_u (fr_u (fr_u (fr_t (fr_0 _ _) (fr_s hf_86 rfl)) hU3 rfl) hU7 rfl) hU18 rfl, tb_m (tb_u (d := 20000) (tb_u (d := 20000) (tb_u (d := 20000) (tb3) hU3 (by decide) (by omega)) hU7 (by decide) (by omega)) hU18 (by decide) (by omega)) (by omega), tu_s (n := 6) (tu_s (n := 5) (tu_s (n := 4) (tu3) hU3 (by omega) (by decide) rfl cv_4.symm) hU7 (by omega) (by decide) rfl cv_5.symm) hU18 (by omega) (by decide) rfl (by rw [cv_6]; first | exact Eq.trans (b := T 205 0 (23 * c + 1)) (by omega) (pt_1 (ru := fun w => T 205 0 (23 * c + w)) (by omega)).symm | exact Eq.trans (b := T 205 0 (23 * c + 2)) (by omega) (pt_2 (ru := fun w => T 205 0 (23 * c + w)) (by omega)).symm | exact Eq.trans (b := T 205 0 (23 * c + 3)) (by omega) (pt_3 (ru := fun w => T 205 0 (23 * c + w)) (by omega)).symm)⟩
    · refine hK 133 _ [vI 1, vI c, vR 111 0, vI (U7 276 0 ((9 * cl) + 6)), vI ((9 * cl) + 6), vR 276 0] U7 ?_
      refine j_callV (y := yX11_rule0) (Yc := zX11_rule0) (rest := [vI (U7 276 0 ((9 * cl) + 6)), vI ((9 * cl) + 6), vR 276 0]) [vI c, vI 1] (ct_X11_rule0 (T := U7) (by omega) (by omega)) cl_X11_321 (qd_c (by decide +kernel)) (nn_ _) rfl (rf_of rfl) (Nat.le_of_ble_eq_true rfl) (Nat.le_of_ble_eq_true rfl) (Nat.le_of_ble_eq_true rfl) rfl ?_
      rintro _ _ ⟨rfl, rfl⟩
      have e20 : U7 205 0 (23 * c + 1) = T 205 0 (23 * c + 1) := (up_k hU7 (by exact Nat.ne_of_beq_eq_false rfl) 0 (23 * c + 1)).trans ((up_k hU3 (by exact Nat.ne_of_beq_eq_false rfl) 0 (23 * c + 1)).trans (hf_86 205 0 (23 * c + 1) rfl))
      show J_ zX11_tellResult T (po_X11_tellResult_e T bb c cl a b) 0 0 136 _ [vI (U7 205 0 (23 * c + 1)), vI (U7 276 0 ((9 * cl) + 6)), vI ((9 * cl) + 6), vR 276 0] U7
      refine j_blx (F := fX11) tb_X11 (nn_ _) bk_X11_tellResult_e_136 bs_X11_tellResult_e_136 hz (fun K hK => ?_)
      refine hK 160 _ [vI (U7 205 0 (23 * c + 1)), vI (U7 276 0 ((9 * cl) + 6)), vI ((9 * cl) + 6), vR 276 0] U7 ?_
      refine j_blx (F := fX11) tb_X11 (nn_ _) bk_X11_tellResult_e_160 bs_X11_tellResult_e_160 hz (fun K hK => ?_)
      have t21 : -(bb + 80000 + 20000 + 20000) ≤ U7 276 0 ((9 * cl) + 6) ∧ U7 276 0 ((9 * cl) + 6) ≤ bb + 80000 + 20000 + 20000 ∧ (((9 * cl) + 6) % 9 = 6 → -(bb + 80000 + 20000 + 20000) ≤ 20 * (U7 276 0 ((9 * cl) + 6)) ∧ 20 * (U7 276 0 ((9 * cl) + 6)) ≤ bb + 80000 + 20000 + 20000) := (tb_u (d := 20000) (tb_u (d := 20000) (tb3) hU3 (by decide) (by omega)) hU7 (by decide) (by omega)) ((9 * cl) + 6) (by omega) (by omega)
      refine rg_i (by omega) ?_
      refine iy_i (by omega) (by omega) ?_
      refine x_nm (fun U22 hU22 => ?_)
      have e23 := up_f hU22
      refine (show po_X11_tellResult_e T bb c cl a b U22 (none) from ?_)
      exact ⟨rfl, fr_u (fr_u (fr_u (fr_t (fr_0 _ _) (fr_s hf_86 rfl)) hU3 rfl) hU7 rfl) hU22 rfl, tb_m (tb_u (d := 20000) (tb_u (d := 20000) (tb_u (d := 20000) (tb3) hU3 (by decide) (by omega)) hU7 (by decide) (by omega)) hU22 (by decide) (by omega)) (by omega), tu_s (n := 6) (tu_s (n := 5) (tu_s (n := 4) (tu3) hU3 (by omega) (by decide) rfl cv_4.symm) hU7 (by omega) (by decide) rfl cv_5.symm) hU22 (by omega) (by decide) rfl (by rw [cv_6]; first | exact Eq.trans (b := T 205 0 (23 * c + 1)) (by omega) (pt_1 (ru := fun w => T 205 0 (23 * c + w)) (by omega)).symm | exact Eq.trans (b := T 205 0 (23 * c + 2)) (by omega) (pt_2 (ru := fun w => T 205 0 (23 * c + w)) (by omega)).symm | exact Eq.trans (b := T 205 0 (23 * c + 3)) (by omega) (pt_3 (ru := fun w => T 205 0 (23 * c + w)) (by omega)).symm)⟩
  have c_63 : ∀ (T2 : Zt), (fr_ [(276, [])] T T2) → (TB_ T2 (bb + 60000)) → (TV_ T T2 (tu9_ (fun w => T 205 0 (23 * c + w)) 3 cl a b)) → J_ zX11_tellResult T (po_X11_tellResult_e T bb c cl a b) 0 0 63 [some (vR 111 0), some (vI c), some (vI cl), some (vI a), some (vI b), some (vI (9 * cl))] [] T2 := by
    intro T2 hf_63 tb2 tu2
    refine j_blx (F := fX11) tb_X11 (nn_ _) bk_X11_tellResult_e_63 bs_X11_tellResult_e_63 hz (fun K hK => ?_)
    refine rg_i (by omega) ?_
    refine ix_i (by omega) ?_
    intro b24 b24b
    refine And.intro (fun c25 => ?_) (fun c25 => ?_)
    · refine hK 83 _ [vI (T2 276 0 ((9 * cl) + 3)), vI ((9 * cl) + 3), vR 276 0] T2 ?_
      refine j_blx (F := fX11) tb_X11 (nn_ _) bk_X11_tellResult_e_83 bs_X11_tellResult_e_83 hz (fun K hK => ?_)
      have t26 : -(bb + 60000) ≤ T2 276 0 ((9 * cl) + 3) ∧ T2 276 0 ((9 * cl) + 3) ≤ bb + 60000 ∧ (((9 * cl) + 3) % 9 = 6 → -(bb + 60000) ≤ 20 * (T2 276 0 ((9 * cl) + 3)) ∧ 20 * (T2 276 0 ((9 * cl) + 3)) ≤ bb + 60000) := (tb2) ((9 * cl) + 3) (by omega) (by omega)
      refine rg_i (by omega) ?_
      refine iy_i (by omega) (by omega) ?_
      refine x_nm (fun U27 hU27 => ?_)
      have e28 := up_f hU27
      refine hK 86 _ [] U27 ?_
      refine c_86 U27 ?_ ?_ ?_
      · exact fr_u (fr_t (fr_0 _ _) (fr_s hf_63 rfl)) hU27 rfl
      · exact tb_m (tb_u (d := 20000) (tb2) hU27 (by decide) (by omega)) (by omega)
      · exact tu_s (n := 3) (tu2) hU27 (by omega) (by decide) rfl (by first | exact (cv_3t (by omega)).symm | exact (cv_3f (by omega)).symm)
    · refine hK 84 _ [vI 1, vI (T2 276 0 ((9 * cl) + 3)), vI ((9 * cl) + 3), vR 276 0] T2 ?_
      refine j_blx (F := fX11) tb_X11 (nn_ _) bk_X11_tellResult_e_84 bs_X11_tellResult_e_84 hz (fun K hK => ?_)
      have t29 : -(bb + 60000) ≤ T2 276 0 ((9 * cl) + 3) ∧ T2 276 0 ((9 * cl) + 3) ≤ bb + 60000 ∧ (((9 * cl) + 3) % 9 = 6 → -(bb + 60000) ≤ 20 * (T2 276 0 ((9 * cl) + 3)) ∧ 20 * (T2 276 0 ((9 * cl) + 3)) ≤ bb + 60000) := (tb2) ((9 * cl) + 3) (by omega) (by omega)
      refine rg_i (by omega) ?_
      refine iy_i (by omega) (by omega) ?_
      refine x_nm (fun U30 hU30 => ?_)
      have e31 := up_f hU30
      refine hK 86 _ [] U30 ?_
      refine c_86 U30 ?_ ?_ ?_
      · exact fr_u (fr_t (fr_0 _ _) (fr_s hf_63 rfl)) hU30 rfl
      · exact tb_m (tb_u (d := 20000) (tb2) hU30 (by decide) (by omega)) (by omega)
      · exact tu_s (n := 3) (tu2) hU30 (by omega) (by decide) rfl (by first | exact (cv_3t (by omega)).symm | exact (cv_3f (by omega)).symm)
  have c_40 : ∀ (T1 : Zt), (fr_ [(276, [])] T T1) → (TB_ T1 (bb + 40000)) → (TV_ T T1 (tu9_ (fun w => T 205 0 (23 * c + w)) 2 cl a b)) → J_ zX11_tellResult T (po_X11_tellResult_e T bb c cl a b) 0 0 40 [some (vR 111 0), some (vI c), some (vI cl), some (vI a), some (vI b), some (vI (9 * cl))] [] T1 := by
    intro T1 hf_40 tb1 tu1
    refine j_blx (F := fX11) tb_X11 (nn_ _) bk_X11_tellResult_e_40 bs_X11_tellResult_e_40 hz (fun K hK => ?_)
    refine rg_i (by omega) ?_
    refine ix_i (by omega) ?_
    intro b32 b32b
    refine And.intro (fun c33 => ?_) (fun c33 => ?_)
    · refine hK 60 _ [vI (T1 276 0 ((9 * cl) + 2)), vI ((9 * cl) + 2), vR 276 0] T1 ?_
      refine j_blx (F := fX11) tb_X11 (nn_ _) bk_X11_tellResult_e_60 bs_X11_tellResult_e_60 hz (fun K hK => ?_)
      have t34 : -(bb + 40000) ≤ T1 276 0 ((9 * cl) + 2) ∧ T1 276 0 ((9 * cl) + 2) ≤ bb + 40000 ∧ (((9 * cl) + 2) % 9 = 6 → -(bb + 40000) ≤ 20 * (T1 276 0 ((9 * cl) + 2)) ∧ 20 * (T1 276 0 ((9 * cl) + 2)) ≤ bb + 40000) := (tb1) ((9 * cl) + 2) (by omega) (by omega)
      refine rg_i (by omega) ?_
      refine iy_i (by omega) (by omega) ?_
      refine x_nm (fun U35 hU35 => ?_)
      have e36 := up_f hU35
      refine hK 63 _ [] U35 ?_
      refine c_63 U35 ?_ ?_ ?_
      · exact fr_u (fr_t (fr_0 _ _) (fr_s hf_40 rfl)) hU35 rfl
      · exact tb_m (tb_u (d := 20000) (tb1) hU35 (by decide) (by omega)) (by omega)
      · exact tu_s (n := 2) (tu1) hU35 (by omega) (by decide) rfl (by first | exact (cv_2t (by omega)).symm | exact (cv_2f (by omega)).symm)
    · refine hK 61 _ [vI 1, vI (T1 276 0 ((9 * cl) + 2)), vI ((9 * cl) + 2), vR 276 0] T1 ?_
      refine j_blx (F := fX11) tb_X11 (nn_ _) bk_X11_tellResult_e_61 bs_X11_tellResult_e_61 hz (fun K hK => ?_)
      have t37 : -(bb + 40000) ≤ T1 276 0 ((9 * cl) + 2) ∧ T1 276 0 ((9 * cl) + 2) ≤ bb + 40000 ∧ (((9 * cl) + 2) % 9 = 6 → -(bb + 40000) ≤ 20 * (T1 276 0 ((9 * cl) + 2)) ∧ 20 * (T1 276 0 ((9 * cl) + 2)) ≤ bb + 40000) := (tb1) ((9 * cl) + 2) (by omega) (by omega)
      refine rg_i (by omega) ?_
      refine iy_i (by omega) (by omega) ?_
      refine x_nm (fun U38 hU38 => ?_)
      have e39 := up_f hU38
      refine hK 63 _ [] U38 ?_
      refine c_63 U38 ?_ ?_ ?_
      · exact fr_u (fr_t (fr_0 _ _) (fr_s hf_40 rfl)) hU38 rfl
      · exact tb_m (tb_u (d := 20000) (tb1) hU38 (by decide) (by omega)) (by omega)
      · exact tu_s (n := 2) (tu1) hU38 (by omega) (by decide) rfl (by first | exact (cv_2t (by omega)).symm | exact (cv_2f (by omega)).symm)
  refine j_blx (F := fX11) tb_X11 (nn_ _) bk_X11_tellResult_e_0 bs_X11_tellResult_e_0 hz (fun K hK => ?_)
  refine rg_i (by omega) ?_
  refine ix_i (by omega) ?_
  intro b40 b40b
  have t41 : -(bb) ≤ T 276 0 (9 * cl) ∧ T 276 0 (9 * cl) ≤ bb ∧ ((9 * cl) % 9 = 6 → -(bb) ≤ 20 * (T 276 0 (9 * cl)) ∧ 20 * (T 276 0 (9 * cl)) ≤ bb) := (htb) (9 * cl) (by omega) (by omega)
  refine rg_i (by omega) ?_
  refine iy_i (by omega) (by omega) ?_
  refine x_nm (fun U42 hU42 => ?_)
  have e43 := up_f hU42
  refine rg_i (by omega) ?_
  refine ix_i (by omega) ?_
  intro b44 b44b
  refine And.intro (fun c45 => ?_) (fun c45 => ?_)
  · refine hK 37 [some (vR 111 0), some (vI c), some (vI cl), some (vI a), some (vI b), some (vI (9 * cl))] [vI (U42 276 0 ((9 * cl) + 1)), vI ((9 * cl) + 1), vR 276 0] U42 ?_
    refine j_blx (F := fX11) tb_X11 (nn_ _) bk_X11_tellResult_e_37 bs_X11_tellResult_e_37 hz (fun K hK => ?_)
    have t46 : -(bb + 20000) ≤ U42 276 0 ((9 * cl) + 1) ∧ U42 276 0 ((9 * cl) + 1) ≤ bb + 20000 ∧ (((9 * cl) + 1) % 9 = 6 → -(bb + 20000) ≤ 20 * (U42 276 0 ((9 * cl) + 1)) ∧ 20 * (U42 276 0 ((9 * cl) + 1)) ≤ bb + 20000) := (tb_u (d := 20000) (htb) hU42 (by decide) (by omega)) ((9 * cl) + 1) (by omega) (by omega)
    refine rg_i (by omega) ?_
    refine iy_i (by omega) (by omega) ?_
    refine x_nm (fun U47 hU47 => ?_)
    have e48 := up_f hU47
    refine hK 40 _ [] U47 ?_
    refine c_40 U47 ?_ ?_ ?_
    · exact fr_u (fr_u (fr_0 _ _) hU42 rfl) hU47 rfl
    · exact tb_m (tb_u (d := 20000) (tb_u (d := 20000) (htb) hU42 (by decide) (by omega)) hU47 (by decide) (by omega)) (by omega)
    · exact tu_s (n := 1) (tu_s (n := 0) (tu_0) hU42 (by omega) (by decide) rfl cv_0.symm) hU47 (by omega) (by decide) rfl (by first | exact (cv_1t (by omega)).symm | exact (cv_1f (by omega)).symm)
  · refine hK 38 _ [vI 1, vI (U42 276 0 ((9 * cl) + 1)), vI ((9 * cl) + 1), vR 276 0] U42 ?_
    refine j_blx (F := fX11) tb_X11 (nn_ _) bk_X11_tellResult_e_38 bs_X11_tellResult_e_38 hz (fun K hK => ?_)
    have t49 : -(bb + 20000) ≤ U42 276 0 ((9 * cl) + 1) ∧ U42 276 0 ((9 * cl) + 1) ≤ bb + 20000 ∧ (((9 * cl) + 1) % 9 = 6 → -(bb + 20000) ≤ 20 * (U42 276 0 ((9 * cl) + 1)) ∧ 20 * (U42 276 0 ((9 * cl) + 1)) ≤ bb + 20000) := (tb_u (d := 20000) (htb) hU42 (by decide) (by omega)) ((9 * cl) + 1) (by omega) (by omega)
    refine rg_i (by omega) ?_
    refine iy_i (by omega) (by omega) ?_
    refine x_nm (fun U50 hU50 => ?_)
    have e51 := up_f hU50
    refine hK 40 _ [] U50 ?_
    refine c_40 U50 ?_ ?_ ?_
    · exact fr_u (fr_u (fr_0 _ _) hU42 rfl) hU50 rfl
    · exact tb_m (tb_u (d := 20000) (tb_u (d := 20000) (htb) hU42 (by decide) (by omega)) hU50 (by decide) (by omega)) (by omega)
    · exact tu_s (n := 1) (tu_s (n := 0) (tu_0) hU42 (by omega) (by decide) rfl cv_0.symm) hU50 (by omega) (by decide) rfl (by first | exact (cv_1t (by omega)).symm | exact (cv_1f (by omega)).symm)
theorem bk_X11_fairOf_e_7 : ck_ fX11 (some .int) cX11_fairOf 7 [.iload 3, .iconst 10, .iload 1, .imul, .aload 0, .tableswitch 0 11 39 #[], .iload 1, .iaload, .iadd, .if_icmp .ge 52, .iload 2, .aload 0, .tableswitch 0 11 42 #[], .iload 3, .iaload, .aload 0, .tableswitch 0 11 43 #[], .iload 3, .baload, .ifCond .eq 42, .iconst 3, .goto 43] 42 = true := qck_r (nn_ _) (by decide +kernel)
theorem bs_X11_fairOf_e_7 {P : Zt → Option Zv → Prop} (K : Int → Zl → List Zv → Zt → Prop) : sx_ K P [.iload 3, .iconst 10, .iload 1, .imul, .aload 0, .tableswitch 0 11 39 #[], .iload 1, .iaload, .iadd, .if_icmp .ge 52, .iload 2, .aload 0, .tableswitch 0 11 42 #[], .iload 3, .iaload, .aload 0, .tableswitch 0 11 43 #[], .iload 3, .baload, .ifCond .eq 42, .iconst 3, .goto 43] 42 = x_iload 3 (x_iconst 10 (x_iload 1 (x_imul (x_aload 0 (x_g1 111 239 (x_iload 1 (x_iaload (x_iadd (x_if_icmp .ge 52 K (x_iload 2 (x_aload 0 (x_g1 111 242 (x_iload 3 (x_iaload (x_aload 0 (x_g1 111 243 (x_iload 3 (x_baload (x_ifCond .eq 42 K (x_iconst 3 (x_goto 43 K))))))))))))))))))))) := ((xe_iload 3).trans (congrArg (x_iload 3) ((xe_iconst 10).trans (congrArg (x_iconst 10) ((xe_iload 1).trans (congrArg (x_iload 1) ((xe_imul).trans (congrArg (x_imul) ((xe_aload 0).trans (congrArg (x_aload 0) ((xe_g1 (kk := 111) rfl tl_11_39).trans (congrArg (x_g1 111 239) ((xe_iload 1).trans (congrArg (x_iload 1) ((xe_iaload).trans (congrArg (x_iaload) ((xe_iadd).trans (congrArg (x_iadd) ((xe_if_icmp .ge 52).trans (congrArg (x_if_icmp .ge 52 K) ((xe_iload 2).trans (congrArg (x_iload 2) ((xe_aload 0).trans (congrArg (x_aload 0) ((xe_g1 (kk := 111) rfl tl_11_42).trans (congrArg (x_g1 111 242) ((xe_iload 3).trans (congrArg (x_iload 3) ((xe_iaload).trans (congrArg (x_iaload) ((xe_aload 0).trans (congrArg (x_aload 0) ((xe_g1 (kk := 111) rfl tl_11_43).trans (congrArg (x_g1 111 243) ((xe_iload 3).trans (congrArg (x_iload 3) ((xe_baload).trans (congrArg (x_baload) ((xe_ifCond .eq 42).trans (congrArg (x_ifCond .eq 42 K) ((xe_iconst 3).trans (congrArg (x_iconst 3) (xe_goto 43)))))))))))))))))))))))))))))))))))))))))))
theorem bk_X11_fairOf_e_52 : ck_ fX11 (some .int) cX11_fairOf 52 [.iload 2, .ireturn] 54 = true := qck_r (nn_ _) (by decide +kernel)
theorem bs_X11_fairOf_e_52 {P : Zt → Option Zv → Prop} (K : Int → Zl → List Zv → Zt → Prop) : sx_ K P [.iload 2, .ireturn] 54 = x_iload 2 (x_ireturn P) := ((xe_iload 2).trans (congrArg (x_iload 2) (xe_ireturn)))
theorem bk_X11_fairOf_e_42 : ck_ fX11 (some .int) cX11_fairOf 42 [.iconst 0, .iadd, .iadd, .istore 2, .iinc 3 1, .goto 7] 52 = true := qck_r (nn_ _) (by decide +kernel)
theorem bs_X11_fairOf_e_42 {P : Zt → Option Zv → Prop} (K : Int → Zl → List Zv → Zt → Prop) : sx_ K P [.iconst 0, .iadd, .iadd, .istore 2, .iinc 3 1, .goto 7] 52 = x_iconst 0 (x_iadd (x_iadd (x_istore 2 (x_iinc 3 1 (x_goto 7 K))))) := ((xe_iconst 0).trans (congrArg (x_iconst 0) ((xe_iadd).trans (congrArg (x_iadd) ((xe_iadd).trans (congrArg (x_iadd) ((xe_istore 2).trans (congrArg (x_istore 2) ((xe_iinc 3 1).trans (congrArg (x_iinc 3 1) (xe_goto 7)))))))))))
theorem bk_X11_fairOf_e_43 : ck_ fX11 (some .int) cX11_fairOf 43 [.iadd, .iadd, .istore 2, .iinc 3 1, .goto 7] 52 = true := qck_r (nn_ _) (by decide +kernel)
theorem bs_X11_fairOf_e_43 {P : Zt → Option Zv → Prop} (K : Int → Zl → List Zv → Zt → Prop) : sx_ K P [.iadd, .iadd, .istore 2, .iinc 3 1, .goto 7] 52 = x_iadd (x_iadd (x_istore 2 (x_iinc 3 1 (x_goto 7 K)))) := ((xe_iadd).trans (congrArg (x_iadd) ((xe_iadd).trans (congrArg (x_iadd) ((xe_istore 2).trans (congrArg (x_istore 2) ((xe_iinc 3 1).trans (congrArg (x_iinc 3 1) (xe_goto 7)))))))))
theorem bk_X11_fairOf_e_0 : ck_ fX11 (some .int) cX11_fairOf 0 [.iconst 0, .istore 2, .iconst 10, .iload 1, .imul, .istore 3] 7 = true := qck_r (nn_ _) (by decide +kernel)
theorem bs_X11_fairOf_e_0 {P : Zt → Option Zv → Prop} (K : Int → Zl → List Zv → Zt → Prop) : sx_ K P [.iconst 0, .istore 2, .iconst 10, .iload 1, .imul, .istore 3] 7 = x_iconst 0 (x_istore 2 (x_iconst 10 (x_iload 1 (x_imul (x_istore 3 (K 7)))))) := ((xe_iconst 0).trans (congrArg (x_iconst 0) ((xe_istore 2).trans (congrArg (x_istore 2) ((xe_iconst 10).trans (congrArg (x_iconst 10) ((xe_iload 1).trans (congrArg (x_iload 1) ((xe_imul).trans (congrArg (x_imul) ((xe_istore 3).trans (congrArg (x_istore 3) xe_nil))))))))))))
abbrev po_X11_fairOf_e (T : Zt) (sh : Int) : Zt → Option Zv → Prop := fun T' r => T = T' ∧ ∃ x : Int, r = some (vI x) ∧ ((0 ≤ x ∧ x ≤ 30130) ∧ x = fr9c_ T sh (T 239 0 sh).toNat)
set_option maxHeartbeats 4000000 in
theorem ct_X11_fairOf_e {T : Zt} {sh : Int} (h1 : 0 ≤ sh ∧ sh < 800) (hyb : YB_ T) : Ct_ yX11_fairOf zX11_fairOf T [vR 111 0, vI sh] (po_X11_fairOf_e T sh) := by
  refine ct_of pn_11 rfl rfl (Nat.le_of_ble_eq_true rfl) (fun hT hav => ?_)
  have hr_sh : -2147483648 ≤ sh ∧ sh ≤ 2147483647 := hav (vI sh) (List.mem_cons_of_mem _ List.mem_cons_self)
  have hz : zX11_fairOf.2.2.2.1 = some .boolean → ∀ (T' : Zt) (x : Int), po_X11_fairOf_e T sh T' (some (vI x)) → 0 ≤ x ∧ x ≤ 1 := fun h => by cases h
  have hsm : 0 ≤ T 239 0 sh ∧ T 239 0 sh ≤ 10 := bd_a hT 239 (by decide +kernel : ta_ 239 = some (1, some 800, 0, 10)) 0 (by omega)
  show J_ zX11_fairOf T (po_X11_fairOf_e T sh) 0 0 0 [some (vR 111 0), some (vI sh), none, none] [] T
  have c_7 : ∀ (nn : Nat) (f : Int) (i : Int), ((10 * sh + 10 - i).toNat) ≤ nn → (10 * sh ≤ i ∧ i ≤ 10 * sh + 10 ∧ 0 ≤ f ∧ f ≤ 3013 * (i - 10 * sh) ∧ i ≤ 10 * sh + T 239 0 sh) → (f = fr9c_ T sh (i - 10 * sh).toNat) → J_ zX11_fairOf T (po_X11_fairOf_e T sh) 0 0 7 [some (vR 111 0), some (vI sh), some (vI f), some (vI i)] [] T := by
    intro nn
    induction nn using Nat.strongRecOn with
    | _ nn ih_7 =>
      intro f i hm_7 i1 i2
      replace hm_7 := fun (_ : Unit) => hm_7
      refine j_blx (F := fX11) tb_X11 (nn_ _) bk_X11_fairOf_e_7 bs_X11_fairOf_e_7 hz (fun K hK => ?_)
      refine rg_i (by omega) ?_
      refine ix_i (by omega) ?_
      intro b1 b1b
      refine rg_i (by omega) ?_
      refine And.intro (fun c2 => ?_) (fun c2 => ?_)
      · refine hK 52 _ [] T ?_
        refine j_blx (F := fX11) tb_X11 (nn_ _) bk_X11_fairOf_e_52 bs_X11_fairOf_e_52 hz (fun K hK => ?_)
        refine (show po_X11_fairOf_e T sh T (some (vI f)) from ?_)
        exact ⟨rfl, _, rfl, by omega, by rw [i2, show i - 10 * sh = T 239 0 sh by omega]⟩
      · have hy := hyb i (by omega) (by omega)
        refine ix_i (by omega) ?_
        intro b3 b3b
        refine ix_i (by omega) ?_
        intro b4 b4b
        refine And.intro (fun c5 => ?_) (fun c5 => ?_)
        · refine hK 42 _ [vI (T 242 0 i), vI f] T ?_
          refine j_blx (F := fX11) tb_X11 (nn_ _) bk_X11_fairOf_e_42 bs_X11_fairOf_e_42 hz (fun K hK => ?_)
          refine rg_i (by omega) ?_
          refine rg_i (by omega) ?_
          refine rg_i (by omega) ?_
          refine hK 7 [some (vR 111 0), some (vI sh), some (vI (f + ((T 242 0 i) + 0))), some (vI (i + 1))] [] T ?_
          refine ih_7 _ ?_ (f + ((T 242 0 i) + 0)) (i + 1) (Nat.le_refl _) ?_ ?_
          · have hm_7 := hm_7 (); omega
          · omega
          · have e9 : (i + 1 - 10 * sh).toNat = (i - 10 * sh).toNat + 1 := by omega
            have e8 : 10 * sh + (((i - 10 * sh).toNat : Nat) : Int) = i := by omega
            rw [e9]
            first
            | (rw [frc_0 (by rw [e8]; omega), e8]; omega)
            | (rw [frc_1 (by rw [e8]; omega), e8]; omega)
        · refine hK 43 [some (vR 111 0), some (vI sh), some (vI f), some (vI i)] [vI 3, vI (T 242 0 i), vI f] T ?_
          refine j_blx (F := fX11) tb_X11 (nn_ _) bk_X11_fairOf_e_43 bs_X11_fairOf_e_43 hz (fun K hK => ?_)
          refine rg_i (by omega) ?_
          refine rg_i (by omega) ?_
          refine rg_i (by omega) ?_
          refine hK 7 [some (vR 111 0), some (vI sh), some (vI (f + ((T 242 0 i) + 3))), some (vI (i + 1))] [] T ?_
          refine ih_7 _ ?_ (f + ((T 242 0 i) + 3)) (i + 1) (Nat.le_refl _) ?_ ?_
          · have hm_7 := hm_7 (); omega
          · omega
          · have e9 : (i + 1 - 10 * sh).toNat = (i - 10 * sh).toNat + 1 := by omega
            have e8 : 10 * sh + (((i - 10 * sh).toNat : Nat) : Int) = i := by omega
            rw [e9]
            first
            | (rw [frc_0 (by rw [e8]; omega), e8]; omega)
            | (rw [frc_1 (by rw [e8]; omega), e8]; omega)
  refine j_blx (F := fX11) tb_X11 (nn_ _) bk_X11_fairOf_e_0 bs_X11_fairOf_e_0 hz (fun K hK => ?_)
  refine rg_i (by omega) ?_
  refine hK 7 [some (vR 111 0), some (vI sh), some (vI 0), some (vI (10 * sh))] [] T ?_
  refine c_7 _ 0 (10 * sh) (Nat.le_refl _) ?_ ?_
  · omega
  · rw [show (10 * sh - 10 * sh).toNat = 0 by omega]
    rfl
theorem bk_X11_tellAll_e_190 : ck_ fX11 none cX11_tellAll 190 [.iload 3, .aload 0, .tableswitch 0 11 24 #[], .if_icmp .ge 254, .aload 0, .tableswitch 0 11 76 #[], .iconst 9, .aload 0, .tableswitch 0 11 26 #[], .iload 3, .iaload, .imul, .iconst 6, .iadd, .dup2, .iaload, .aload 0, .tableswitch 0 11 25 #[], .iload 3, .iaload, .iload 1, .if_icmp .ne 245, .aload 0, .tableswitch 0 11 28 #[], .iload 3, .iaload, .iload 2, .if_icmp .gt 245, .aload 0, .tableswitch 0 11 27 #[], .iload 3, .iaload, .goto 246] 245 = true := qck_r (nn_ _) (by decide +kernel)
theorem bs_X11_tellAll_e_190 {P : Zt → Option Zv → Prop} (K : Int → Zl → List Zv → Zt → Prop) : sx_ K P [.iload 3, .aload 0, .tableswitch 0 11 24 #[], .if_icmp .ge 254, .aload 0, .tableswitch 0 11 76 #[], .iconst 9, .aload 0, .tableswitch 0 11 26 #[], .iload 3, .iaload, .imul, .iconst 6, .iadd, .dup2, .iaload, .aload 0, .tableswitch 0 11 25 #[], .iload 3, .iaload, .iload 1, .if_icmp .ne 245, .aload 0, .tableswitch 0 11 28 #[], .iload 3, .iaload, .iload 2, .if_icmp .gt 245, .aload 0, .tableswitch 0 11 27 #[], .iload 3, .iaload, .goto 246] 245 = x_iload 3 (x_aload 0 (x_g0 111 24 0 50 (x_if_icmp .ge 254 K (x_aload 0 (x_g1 111 276 (x_iconst 9 (x_aload 0 (x_g1 111 226 (x_iload 3 (x_iaload (x_imul (x_iconst 6 (x_iadd (x_dup2 (x_iaload (x_aload 0 (x_g1 111 225 (x_iload 3 (x_iaload (x_iload 1 (x_if_icmp .ne 245 K (x_aload 0 (x_g1 111 228 (x_iload 3 (x_iaload (x_iload 2 (x_if_icmp .gt 245 K (x_aload 0 (x_g1 111 227 (x_iload 3 (x_iaload (x_goto 246 K)))))))))))))))))))))))))))))))) := ((xe_iload 3).trans (congrArg (x_iload 3) ((xe_aload 0).trans (congrArg (x_aload 0) ((xe_g0 (kk := 111) rfl tl_11_24).trans (congrArg (x_g0 111 24 0 50) ((xe_if_icmp .ge 254).trans (congrArg (x_if_icmp .ge 254 K) ((xe_aload 0).trans (congrArg (x_aload 0) ((xe_g1 (kk := 111) rfl tl_11_76).trans (congrArg (x_g1 111 276) ((xe_iconst 9).trans (congrArg (x_iconst 9) ((xe_aload 0).trans (congrArg (x_aload 0) ((xe_g1 (kk := 111) rfl tl_11_26).trans (congrArg (x_g1 111 226) ((xe_iload 3).trans (congrArg (x_iload 3) ((xe_iaload).trans (congrArg (x_iaload) ((xe_imul).trans (congrArg (x_imul) ((xe_iconst 6).trans (congrArg (x_iconst 6) ((xe_iadd).trans (congrArg (x_iadd) ((xe_dup2).trans (congrArg (x_dup2) ((xe_iaload).trans (congrArg (x_iaload) ((xe_aload 0).trans (congrArg (x_aload 0) ((xe_g1 (kk := 111) rfl tl_11_25).trans (congrArg (x_g1 111 225) ((xe_iload 3).trans (congrArg (x_iload 3) ((xe_iaload).trans (congrArg (x_iaload) ((xe_iload 1).trans (congrArg (x_iload 1) ((xe_if_icmp .ne 245).trans (congrArg (x_if_icmp .ne 245 K) ((xe_aload 0).trans (congrArg (x_aload 0) ((xe_g1 (kk := 111) rfl tl_11_28).trans (congrArg (x_g1 111 228) ((xe_iload 3).trans (congrArg (x_iload 3) ((xe_iaload).trans (congrArg (x_iaload) ((xe_iload 2).trans (congrArg (x_iload 2) ((xe_if_icmp .gt 245).trans (congrArg (x_if_icmp .gt 245 K) ((xe_aload 0).trans (congrArg (x_aload 0) ((xe_g1 (kk := 111) rfl tl_11_27).trans (congrArg (x_g1 111 227) ((xe_iload 3).trans (congrArg (x_iload 3) ((xe_iaload).trans (congrArg (x_iaload) (xe_goto 246)))))))))))))))))))))))))))))))))))))))))))))))))))))))))))))))))
theorem bk_X11_tellAll_e_254 : ck_ fX11 none cX11_tellAll 254 [.return_] 255 = true := qck_r (nn_ _) (by decide +kernel)
theorem bs_X11_tellAll_e_254 {P : Zt → Option Zv → Prop} (K : Int → Zl → List Zv → Zt → Prop) : sx_ K P [.return_] 255 = x_return_ P := (xe_return_)
theorem bk_X11_tellAll_e_245 : ck_ fX11 none cX11_tellAll 245 [.iconst 0, .isub, .iastore, .iinc 3 1, .goto 190] 254 = true := qck_r (nn_ _) (by decide +kernel)
theorem bs_X11_tellAll_e_245 {P : Zt → Option Zv → Prop} (K : Int → Zl → List Zv → Zt → Prop) : sx_ K P [.iconst 0, .isub, .iastore, .iinc 3 1, .goto 190] 254 = x_iconst 0 (x_isub (x_iastore (x_iinc 3 1 (x_goto 190 K)))) := ((xe_iconst 0).trans (congrArg (x_iconst 0) ((xe_isub).trans (congrArg (x_isub) ((xe_iastore).trans (congrArg (x_iastore) ((xe_iinc 3 1).trans (congrArg (x_iinc 3 1) (xe_goto 190)))))))))
theorem bk_X11_tellAll_e_246 : ck_ fX11 none cX11_tellAll 246 [.isub, .iastore, .iinc 3 1, .goto 190] 254 = true := qck_r (nn_ _) (by decide +kernel)
theorem bs_X11_tellAll_e_246 {P : Zt → Option Zv → Prop} (K : Int → Zl → List Zv → Zt → Prop) : sx_ K P [.isub, .iastore, .iinc 3 1, .goto 190] 254 = x_isub (x_iastore (x_iinc 3 1 (x_goto 190 K))) := ((xe_isub).trans (congrArg (x_isub) ((xe_iastore).trans (congrArg (x_iastore) ((xe_iinc 3 1).trans (congrArg (x_iinc 3 1) (xe_goto 190)))))))
theorem bk_X11_tellAll_e_182 : ck_ fX11 none cX11_tellAll 182 [.iinc 3 1, .goto 28] 188 = true := qck_r (nn_ _) (by decide +kernel)
theorem bs_X11_tellAll_e_182 {P : Zt → Option Zv → Prop} (K : Int → Zl → List Zv → Zt → Prop) : sx_ K P [.iinc 3 1, .goto 28] 188 = x_iinc 3 1 (x_goto 28 K) := ((xe_iinc 3 1).trans (congrArg (x_iinc 3 1) (xe_goto 28)))
theorem bk_X11_tellAll_e_28 : ck_ fX11 none cX11_tellAll 28 [.iload 3, .aload 0, .tableswitch 0 11 10 #[], .iload 1, .iaload, .aload 0, .tableswitch 0 11 11 #[], .iload 1, .iaload, .iadd, .if_icmp .ge 188, .aload 0, .iload 3, .iload 2] 48 = true := qck_r (nn_ _) (by decide +kernel)
theorem bs_X11_tellAll_e_28 {P : Zt → Option Zv → Prop} (K : Int → Zl → List Zv → Zt → Prop) : sx_ K P [.iload 3, .aload 0, .tableswitch 0 11 10 #[], .iload 1, .iaload, .aload 0, .tableswitch 0 11 11 #[], .iload 1, .iaload, .iadd, .if_icmp .ge 188, .aload 0, .iload 3, .iload 2] 48 = x_iload 3 (x_aload 0 (x_g1 111 210 (x_iload 1 (x_iaload (x_aload 0 (x_g1 111 211 (x_iload 1 (x_iaload (x_iadd (x_if_icmp .ge 188 K (x_aload 0 (x_iload 3 (x_iload 2 (K 48)))))))))))))) := ((xe_iload 3).trans (congrArg (x_iload 3) ((xe_aload 0).trans (congrArg (x_aload 0) ((xe_g1 (kk := 111) rfl tl_11_10).trans (congrArg (x_g1 111 210) ((xe_iload 1).trans (congrArg (x_iload 1) ((xe_iaload).trans (congrArg (x_iaload) ((xe_aload 0).trans (congrArg (x_aload 0) ((xe_g1 (kk := 111) rfl tl_11_11).trans (congrArg (x_g1 111 211) ((xe_iload 1).trans (congrArg (x_iload 1) ((xe_iaload).trans (congrArg (x_iaload) ((xe_iadd).trans (congrArg (x_iadd) ((xe_if_icmp .ge 188).trans (congrArg (x_if_icmp .ge 188 K) ((xe_aload 0).trans (congrArg (x_aload 0) ((xe_iload 3).trans (congrArg (x_iload 3) ((xe_iload 2).trans (congrArg (x_iload 2) xe_nil))))))))))))))))))))))))))))
theorem bk_X11_tellAll_e_188 : ck_ fX11 none cX11_tellAll 188 [.iconst 0, .istore 3] 190 = true := qck_r (nn_ _) (by decide +kernel)
theorem bs_X11_tellAll_e_188 {P : Zt → Option Zv → Prop} (K : Int → Zl → List Zv → Zt → Prop) : sx_ K P [.iconst 0, .istore 3] 190 = x_iconst 0 (x_istore 3 (K 190)) := ((xe_iconst 0).trans (congrArg (x_iconst 0) ((xe_istore 3).trans (congrArg (x_istore 3) xe_nil))))
theorem bk_X11_tellAll_e_51 : ck_ fX11 none cX11_tellAll 51 [.ifCond .eq 182, .aload 0, .iload 1, .aload 0, .tableswitch 0 11 32 #[], .iload 3, .iaload, .aload 0, .tableswitch 0 11 82 #[], .aload 0, .tableswitch 0 11 83 #[]] 70 = true := qck_r (nn_ _) (by decide +kernel)
theorem bs_X11_tellAll_e_51 {P : Zt → Option Zv → Prop} (K : Int → Zl → List Zv → Zt → Prop) : sx_ K P [.ifCond .eq 182, .aload 0, .iload 1, .aload 0, .tableswitch 0 11 32 #[], .iload 3, .iaload, .aload 0, .tableswitch 0 11 82 #[], .aload 0, .tableswitch 0 11 83 #[]] 70 = x_ifCond .eq 182 K (x_aload 0 (x_iload 1 (x_aload 0 (x_g1 111 232 (x_iload 3 (x_iaload (x_aload 0 (x_g0 111 82 (-2147483648) 2147483647 (x_aload 0 (x_g0 111 83 (-2147483648) 2147483647 (K 70))))))))))) := ((xe_ifCond .eq 182).trans (congrArg (x_ifCond .eq 182 K) ((xe_aload 0).trans (congrArg (x_aload 0) ((xe_iload 1).trans (congrArg (x_iload 1) ((xe_aload 0).trans (congrArg (x_aload 0) ((xe_g1 (kk := 111) rfl tl_11_32).trans (congrArg (x_g1 111 232) ((xe_iload 3).trans (congrArg (x_iload 3) ((xe_iaload).trans (congrArg (x_iaload) ((xe_aload 0).trans (congrArg (x_aload 0) ((xe_g0 (kk := 111) rfl tl_11_82).trans (congrArg (x_g0 111 82 (-2147483648) 2147483647) ((xe_aload 0).trans (congrArg (x_aload 0) ((xe_g0 (kk := 111) rfl tl_11_83).trans (congrArg (x_g0 111 83 (-2147483648) 2147483647) xe_nil))))))))))))))))))))))
theorem bk_X11_tellAll_e_73 : ck_ fX11 none cX11_tellAll 73 [.aload 0, .iload 1, .aload 0, .tableswitch 0 11 33 #[], .iload 3, .iaload, .aload 0, .tableswitch 0 11 83 #[], .aload 0, .tableswitch 0 11 82 #[]] 89 = true := qck_r (nn_ _) (by decide +kernel)
theorem bs_X11_tellAll_e_73 {P : Zt → Option Zv → Prop} (K : Int → Zl → List Zv → Zt → Prop) : sx_ K P [.aload 0, .iload 1, .aload 0, .tableswitch 0 11 33 #[], .iload 3, .iaload, .aload 0, .tableswitch 0 11 83 #[], .aload 0, .tableswitch 0 11 82 #[]] 89 = x_aload 0 (x_iload 1 (x_aload 0 (x_g1 111 233 (x_iload 3 (x_iaload (x_aload 0 (x_g0 111 83 (-2147483648) 2147483647 (x_aload 0 (x_g0 111 82 (-2147483648) 2147483647 (K 89)))))))))) := ((xe_aload 0).trans (congrArg (x_aload 0) ((xe_iload 1).trans (congrArg (x_iload 1) ((xe_aload 0).trans (congrArg (x_aload 0) ((xe_g1 (kk := 111) rfl tl_11_33).trans (congrArg (x_g1 111 233) ((xe_iload 3).trans (congrArg (x_iload 3) ((xe_iaload).trans (congrArg (x_iaload) ((xe_aload 0).trans (congrArg (x_aload 0) ((xe_g0 (kk := 111) rfl tl_11_83).trans (congrArg (x_g0 111 83 (-2147483648) 2147483647) ((xe_aload 0).trans (congrArg (x_aload 0) ((xe_g0 (kk := 111) rfl tl_11_82).trans (congrArg (x_g0 111 82 (-2147483648) 2147483647) xe_nil))))))))))))))))))))
theorem bk_X11_tellAll_e_92 : ck_ fX11 none cX11_tellAll 92 [.aload 0, .tableswitch 0 11 76 #[], .iconst 9, .aload 0, .tableswitch 0 11 33 #[], .iload 3, .iaload, .imul, .iconst 7, .iadd, .dup2, .iaload, .aload 0, .tableswitch 0 11 83 #[], .iadd, .iastore, .aload 0, .tableswitch 0 11 35 #[], .iload 3, .iaload, .iconst 2, .if_icmp .ne 182, .aload 0, .tableswitch 0 11 76 #[], .iconst 9, .aload 0, .tableswitch 0 11 32 #[], .iload 3, .iaload, .imul, .iconst 8, .iadd, .dup2, .iaload, .aload 0, .iconst 2, .iload 3, .imul] 148 = true := qck_r (nn_ _) (by decide +kernel)
theorem bs_X11_tellAll_e_92 {P : Zt → Option Zv → Prop} (K : Int → Zl → List Zv → Zt → Prop) : sx_ K P [.aload 0, .tableswitch 0 11 76 #[], .iconst 9, .aload 0, .tableswitch 0 11 33 #[], .iload 3, .iaload, .imul, .iconst 7, .iadd, .dup2, .iaload, .aload 0, .tableswitch 0 11 83 #[], .iadd, .iastore, .aload 0, .tableswitch 0 11 35 #[], .iload 3, .iaload, .iconst 2, .if_icmp .ne 182, .aload 0, .tableswitch 0 11 76 #[], .iconst 9, .aload 0, .tableswitch 0 11 32 #[], .iload 3, .iaload, .imul, .iconst 8, .iadd, .dup2, .iaload, .aload 0, .iconst 2, .iload 3, .imul] 148 = x_aload 0 (x_g1 111 276 (x_iconst 9 (x_aload 0 (x_g1 111 233 (x_iload 3 (x_iaload (x_imul (x_iconst 7 (x_iadd (x_dup2 (x_iaload (x_aload 0 (x_g0 111 83 (-2147483648) 2147483647 (x_iadd (x_iastore (x_aload 0 (x_g1 111 235 (x_iload 3 (x_iaload (x_iconst 2 (x_if_icmp .ne 182 K (x_aload 0 (x_g1 111 276 (x_iconst 9 (x_aload 0 (x_g1 111 232 (x_iload 3 (x_iaload (x_imul (x_iconst 8 (x_iadd (x_dup2 (x_iaload (x_aload 0 (x_iconst 2 (x_iload 3 (x_imul (K 148)))))))))))))))))))))))))))))))))))))) := ((xe_aload 0).trans (congrArg (x_aload 0) ((xe_g1 (kk := 111) rfl tl_11_76).trans (congrArg (x_g1 111 276) ((xe_iconst 9).trans (congrArg (x_iconst 9) ((xe_aload 0).trans (congrArg (x_aload 0) ((xe_g1 (kk := 111) rfl tl_11_33).trans (congrArg (x_g1 111 233) ((xe_iload 3).trans (congrArg (x_iload 3) ((xe_iaload).trans (congrArg (x_iaload) ((xe_imul).trans (congrArg (x_imul) ((xe_iconst 7).trans (congrArg (x_iconst 7) ((xe_iadd).trans (congrArg (x_iadd) ((xe_dup2).trans (congrArg (x_dup2) ((xe_iaload).trans (congrArg (x_iaload) ((xe_aload 0).trans (congrArg (x_aload 0) ((xe_g0 (kk := 111) rfl tl_11_83).trans (congrArg (x_g0 111 83 (-2147483648) 2147483647) ((xe_iadd).trans (congrArg (x_iadd) ((xe_iastore).trans (congrArg (x_iastore) ((xe_aload 0).trans (congrArg (x_aload 0) ((xe_g1 (kk := 111) rfl tl_11_35).trans (congrArg (x_g1 111 235) ((xe_iload 3).trans (congrArg (x_iload 3) ((xe_iaload).trans (congrArg (x_iaload) ((xe_iconst 2).trans (congrArg (x_iconst 2) ((xe_if_icmp .ne 182).trans (congrArg (x_if_icmp .ne 182 K) ((xe_aload 0).trans (congrArg (x_aload 0) ((xe_g1 (kk := 111) rfl tl_11_76).trans (congrArg (x_g1 111 276) ((xe_iconst 9).trans (congrArg (x_iconst 9) ((xe_aload 0).trans (congrArg (x_aload 0) ((xe_g1 (kk := 111) rfl tl_11_32).trans (congrArg (x_g1 111 232) ((xe_iload 3).trans (congrArg (x_iload 3) ((xe_iaload).trans (congrArg (x_iaload) ((xe_imul).trans (congrArg (x_imul) ((xe_iconst 8).trans (congrArg (x_iconst 8) ((xe_iadd).trans (congrArg (x_iadd) ((xe_dup2).trans (congrArg (x_dup2) ((xe_iaload).trans (congrArg (x_iaload) ((xe_aload 0).trans (congrArg (x_aload 0) ((xe_iconst 2).trans (congrArg (x_iconst 2) ((xe_iload 3).trans (congrArg (x_iload 3) ((xe_imul).trans (congrArg (x_imul) xe_nil))))))))))))))))))))))))))))))))))))))))))))))))))))))))))))))))))))))))))))
theorem bk_X11_tellAll_e_151 : ck_ fX11 none cX11_tellAll 151 [.iadd, .iastore, .aload 0, .tableswitch 0 11 76 #[], .iconst 9, .aload 0, .tableswitch 0 11 33 #[], .iload 3, .iaload, .imul, .iconst 8, .iadd, .dup2, .iaload, .aload 0, .iconst 2, .iload 3, .imul, .iconst 1, .iadd] 177 = true := qck_r (nn_ _) (by decide +kernel)
theorem bs_X11_tellAll_e_151 {P : Zt → Option Zv → Prop} (K : Int → Zl → List Zv → Zt → Prop) : sx_ K P [.iadd, .iastore, .aload 0, .tableswitch 0 11 76 #[], .iconst 9, .aload 0, .tableswitch 0 11 33 #[], .iload 3, .iaload, .imul, .iconst 8, .iadd, .dup2, .iaload, .aload 0, .iconst 2, .iload 3, .imul, .iconst 1, .iadd] 177 = x_iadd (x_iastore (x_aload 0 (x_g1 111 276 (x_iconst 9 (x_aload 0 (x_g1 111 233 (x_iload 3 (x_iaload (x_imul (x_iconst 8 (x_iadd (x_dup2 (x_iaload (x_aload 0 (x_iconst 2 (x_iload 3 (x_imul (x_iconst 1 (x_iadd (K 177)))))))))))))))))))) := ((xe_iadd).trans (congrArg (x_iadd) ((xe_iastore).trans (congrArg (x_iastore) ((xe_aload 0).trans (congrArg (x_aload 0) ((xe_g1 (kk := 111) rfl tl_11_76).trans (congrArg (x_g1 111 276) ((xe_iconst 9).trans (congrArg (x_iconst 9) ((xe_aload 0).trans (congrArg (x_aload 0) ((xe_g1 (kk := 111) rfl tl_11_33).trans (congrArg (x_g1 111 233) ((xe_iload 3).trans (congrArg (x_iload 3) ((xe_iaload).trans (congrArg (x_iaload) ((xe_imul).trans (congrArg (x_imul) ((xe_iconst 8).trans (congrArg (x_iconst 8) ((xe_iadd).trans (congrArg (x_iadd) ((xe_dup2).trans (congrArg (x_dup2) ((xe_iaload).trans (congrArg (x_iaload) ((xe_aload 0).trans (congrArg (x_aload 0) ((xe_iconst 2).trans (congrArg (x_iconst 2) ((xe_iload 3).trans (congrArg (x_iload 3) ((xe_imul).trans (congrArg (x_imul) ((xe_iconst 1).trans (congrArg (x_iconst 1) ((xe_iadd).trans (congrArg (x_iadd) xe_nil))))))))))))))))))))))))))))))))))))))))
theorem bk_X11_tellAll_e_180 : ck_ fX11 none cX11_tellAll 180 [.iadd, .iastore] 182 = true := qck_r (nn_ _) (by decide +kernel)
theorem bs_X11_tellAll_e_180 {P : Zt → Option Zv → Prop} (K : Int → Zl → List Zv → Zt → Prop) : sx_ K P [.iadd, .iastore] 182 = x_iadd (x_iastore (K 182)) := ((xe_iadd).trans (congrArg (x_iadd) ((xe_iastore).trans (congrArg (x_iastore) xe_nil))))
theorem bk_X11_tellAll_e_2 : ck_ fX11 none cX11_tellAll 2 [.iload 3, .iconst 108, .if_icmp .ge 21, .aload 0, .tableswitch 0 11 76 #[], .iload 3, .iconst 0, .iastore, .iinc 3 1, .goto 2] 21 = true := qck_r (nn_ _) (by decide +kernel)
theorem bs_X11_tellAll_e_2 {P : Zt → Option Zv → Prop} (K : Int → Zl → List Zv → Zt → Prop) : sx_ K P [.iload 3, .iconst 108, .if_icmp .ge 21, .aload 0, .tableswitch 0 11 76 #[], .iload 3, .iconst 0, .iastore, .iinc 3 1, .goto 2] 21 = x_iload 3 (x_iconst 108 (x_if_icmp .ge 21 K (x_aload 0 (x_g1 111 276 (x_iload 3 (x_iconst 0 (x_iastore (x_iinc 3 1 (x_goto 2 K))))))))) := ((xe_iload 3).trans (congrArg (x_iload 3) ((xe_iconst 108).trans (congrArg (x_iconst 108) ((xe_if_icmp .ge 21).trans (congrArg (x_if_icmp .ge 21 K) ((xe_aload 0).trans (congrArg (x_aload 0) ((xe_g1 (kk := 111) rfl tl_11_76).trans (congrArg (x_g1 111 276) ((xe_iload 3).trans (congrArg (x_iload 3) ((xe_iconst 0).trans (congrArg (x_iconst 0) ((xe_iastore).trans (congrArg (x_iastore) ((xe_iinc 3 1).trans (congrArg (x_iinc 3 1) (xe_goto 2)))))))))))))))))))
theorem bk_X11_tellAll_e_21 : ck_ fX11 none cX11_tellAll 21 [.aload 0, .tableswitch 0 11 10 #[], .iload 1, .iaload, .istore 3] 28 = true := qck_r (nn_ _) (by decide +kernel)
theorem bs_X11_tellAll_e_21 {P : Zt → Option Zv → Prop} (K : Int → Zl → List Zv → Zt → Prop) : sx_ K P [.aload 0, .tableswitch 0 11 10 #[], .iload 1, .iaload, .istore 3] 28 = x_aload 0 (x_g1 111 210 (x_iload 1 (x_iaload (x_istore 3 (K 28))))) := ((xe_aload 0).trans (congrArg (x_aload 0) ((xe_g1 (kk := 111) rfl tl_11_10).trans (congrArg (x_g1 111 210) ((xe_iload 1).trans (congrArg (x_iload 1) ((xe_iaload).trans (congrArg (x_iaload) ((xe_istore 3).trans (congrArg (x_istore 3) xe_nil))))))))))
theorem bk_X11_tellAll_e_0 : ck_ fX11 none cX11_tellAll 0 [.iconst 0, .istore 3] 2 = true := qck_r (nn_ _) (by decide +kernel)
theorem bs_X11_tellAll_e_0 {P : Zt → Option Zv → Prop} (K : Int → Zl → List Zv → Zt → Prop) : sx_ K P [.iconst 0, .istore 3] 2 = x_iconst 0 (x_istore 3 (K 2)) := ((xe_iconst 0).trans (congrArg (x_iconst 0) ((xe_istore 3).trans (congrArg (x_istore 3) xe_nil))))
abbrev po_X11_tellAll_e (T : Zt) (c d : Int) : Zt → Option Zv → Prop := fun T' r => r = none ∧ fr_ [(276, []), (111, [82, 83])] T T' ∧ (TB_ T' 150000000 ∧ TD_ T T' (fun w => T 205 0 (23 * c + w)) (fun k => vR_ T d (T 210 0 c + k)) (T 211 0 c).toNat c d (T 111 0 24).toNat)
set_option maxHeartbeats 4000000 in
theorem ct_X11_tellAll_e {T : Zt} {c d : Int} (h1 : 0 ≤ c ∧ c < 4) (hml : ML_ T) (hsc : SC_ T) (hyb : YB_ T) : Ct_ yX11_tellAll zX11_tellAll T [vR 111 0, vI c, vI d] (po_X11_tellAll_e T c d) := by
  refine ct_of pn_11 rfl rfl (Nat.le_of_ble_eq_true rfl) (fun hT hav => ?_)
  have hr_c : -2147483648 ≤ c ∧ c ≤ 2147483647 := hav (vI c) (List.mem_cons_of_mem _ List.mem_cons_self)
  have hr_d : -2147483648 ≤ d ∧ d ≤ 2147483647 := hav (vI d) (List.mem_cons_of_mem _ (List.mem_cons_of_mem _ List.mem_cons_self))
  have hz : zX11_tellAll.2.2.2.1 = some .boolean → ∀ (T' : Zt) (x : Int), po_X11_tellAll_e T c d T' (some (vI x)) → 0 ≤ x ∧ x ≤ 1 := fun h => by cases h
  have hb_29 : 0 ≤ T 111 0 29 ∧ T 111 0 29 ≤ 400 := bd_f hT 111 29 tl_11_29 0
  have hb_24 : 0 ≤ T 111 0 24 ∧ T 111 0 24 ≤ 50 := bd_f hT 111 24 tl_11_24 0
  have hmc := hml c (by omega) (by omega)
  have hfo : 0 ≤ T 210 0 c ∧ T 210 0 c ≤ 400 := bd_a hT 210 (by decide +kernel : ta_ 210 = some (1, some 4, 0, 400)) 0 (by omega)
  have hmo : 0 ≤ T 211 0 c ∧ T 211 0 c ≤ 400 := bd_a hT 211 (by decide +kernel : ta_ 211 = some (1, some 4, 0, 400)) 0 (by omega)
  show J_ zX11_tellAll T (po_X11_tellAll_e T c d) 0 0 0 [some (vR 111 0), some (vI c), some (vI d), none] [] T
  have c_190 : ∀ (nn : Nat) (i : Int) (T4 : Zt), ((50 - i).toNat) ≤ nn → (fr_ [(276, []), (111, [82, 83])] T T4) → (TB_ T4 (144800000 + 20000 * i)) → (0 ≤ i ∧ i ≤ 50 ∧ i ≤ T 111 0 24) → (TD_ T T4 (fun w => T 205 0 (23 * c + w)) (fun k => vR_ T d (T 210 0 c + k)) (T 211 0 c).toNat c d i.toNat) → J_ zX11_tellAll T (po_X11_tellAll_e T c d) 0 0 190 [some (vR 111 0), some (vI c), some (vI d), some (vI i)] [] T4 := by
    intro nn
    induction nn using Nat.strongRecOn with
    | _ nn ih_190 =>
      intro i T4 hm_190 hf_190 tb4 i4 td4
      replace hm_190 := fun (_ : Unit) => hm_190
      refine j_blx (F := fX11) tb_X11 (nn_ _) bk_X11_tellAll_e_190 bs_X11_tellAll_e_190 hz (fun K hK => ?_)
      intro b1 b1b
      have e2 : T4 111 0 24 = T 111 0 24 := hf_190 111 0 24 rfl
      rw [e2] at b1 b1b ⊢
      refine And.intro (fun c3 => ?_) (fun c3 => ?_)
      · refine hK 254 _ [] T4 ?_
        refine j_blx (F := fX11) tb_X11 (nn_ _) bk_X11_tellAll_e_254 bs_X11_tellAll_e_254 hz (fun K hK => ?_)
        refine (show po_X11_tellAll_e T c d T4 (none) from ?_)
        exact ⟨rfl, fr_t (fr_0 _ _) (fr_s hf_190 rfl), tb_m tb4 (by omega), by rw [show T 111 0 24 = i by omega]; exact td4⟩
      · refine ix_i (by omega) ?_
        intro b4 b4b
        have e5 : T4 226 0 i = T 226 0 i := hf_190 226 0 i rfl
        rw [e5] at b4 b4b ⊢
        refine rg_i (by omega) ?_
        refine rg_i (by omega) ?_
        refine ix_i (by omega) ?_
        intro b6 b6b
        refine ix_i (by omega) ?_
        intro b7 b7b
        have e8 : T4 225 0 i = T 225 0 i := hf_190 225 0 i rfl
        rw [e8] at b7 b7b ⊢
        refine And.intro (fun c9 => ?_) (fun c9 => ?_)
        · refine hK 245 _ [vI (T4 276 0 ((9 * (T 226 0 i)) + 6)), vI ((9 * (T 226 0 i)) + 6), vR 276 0] T4 ?_
          refine j_blx (F := fX11) tb_X11 (nn_ _) bk_X11_tellAll_e_245 bs_X11_tellAll_e_245 hz (fun K hK => ?_)
          have t10 : -(144800000 + 20000 * i) ≤ T4 276 0 ((9 * (T 226 0 i)) + 6) ∧ T4 276 0 ((9 * (T 226 0 i)) + 6) ≤ 144800000 + 20000 * i ∧ (((9 * (T 226 0 i)) + 6) % 9 = 6 → -(144800000 + 20000 * i) ≤ 20 * (T4 276 0 ((9 * (T 226 0 i)) + 6)) ∧ 20 * (T4 276 0 ((9 * (T 226 0 i)) + 6)) ≤ 144800000 + 20000 * i) := (tb4) ((9 * (T 226 0 i)) + 6) (by omega) (by omega)
          refine rg_i (by omega) ?_
          refine iy_i (by omega) (by omega) ?_
          refine x_nm (fun U11 hU11 => ?_)
          have e12 := up_f hU11
          refine rg_i (by omega) ?_
          refine hK 190 [some (vR 111 0), some (vI c), some (vI d), some (vI (i + 1))] [] U11 ?_
          refine ih_190 _ ?_ (i + 1) U11 (Nat.le_refl _) ?_ ?_ ?_ ?_
          · have hm_190 := hm_190 (); omega
          · exact fr_u (fr_t (fr_0 _ _) (fr_s hf_190 rfl)) hU11 rfl
          · exact tb_m (tb_u (d := 20000) (tb4) hU11 (by decide) (by omega)) (by omega)
          · omega
          · have ei : ((i.toNat : Nat) : Int) = i := by omega
            rw [show (i + 1).toNat = i.toNat + 1 by omega]
            exact tdd_k (tdd_s td4 hU11 (by rw [ei]) rfl (by rw [ei]; first | exact (cz_t (by omega)).symm | exact (cz_f (by omega)).symm)) (fun j => rfl)
        · refine ix_i (by omega) ?_
          intro b13 b13b
          have e14 : T4 228 0 i = T 228 0 i := hf_190 228 0 i rfl
          rw [e14] at b13 b13b ⊢
          refine And.intro (fun c15 => ?_) (fun c15 => ?_)
          · refine hK 245 [some (vR 111 0), some (vI c), some (vI d), some (vI i)] [vI (T4 276 0 ((9 * (T 226 0 i)) + 6)), vI ((9 * (T 226 0 i)) + 6), vR 276 0] T4 ?_
            refine j_blx (F := fX11) tb_X11 (nn_ _) bk_X11_tellAll_e_245 bs_X11_tellAll_e_245 hz (fun K hK => ?_)
            have t16 : -(144800000 + 20000 * i) ≤ T4 276 0 ((9 * (T 226 0 i)) + 6) ∧ T4 276 0 ((9 * (T 226 0 i)) + 6) ≤ 144800000 + 20000 * i ∧ (((9 * (T 226 0 i)) + 6) % 9 = 6 → -(144800000 + 20000 * i) ≤ 20 * (T4 276 0 ((9 * (T 226 0 i)) + 6)) ∧ 20 * (T4 276 0 ((9 * (T 226 0 i)) + 6)) ≤ 144800000 + 20000 * i) := (tb4) ((9 * (T 226 0 i)) + 6) (by omega) (by omega)
            refine rg_i (by omega) ?_
            refine iy_i (by omega) (by omega) ?_
            refine x_nm (fun U17 hU17 => ?_)
            have e18 := up_f hU17
            refine rg_i (by omega) ?_
            refine hK 190 [some (vR 111 0), some (vI c), some (vI d), some (vI (i + 1))] [] U17 ?_
            refine ih_190 _ ?_ (i + 1) U17 (Nat.le_refl _) ?_ ?_ ?_ ?_
            · have hm_190 := hm_190 (); omega
            · exact fr_u (fr_t (fr_0 _ _) (fr_s hf_190 rfl)) hU17 rfl
            · exact tb_m (tb_u (d := 20000) (tb4) hU17 (by decide) (by omega)) (by omega)
            · omega
            · have ei : ((i.toNat : Nat) : Int) = i := by omega
              rw [show (i + 1).toNat = i.toNat + 1 by omega]
              exact tdd_k (tdd_s td4 hU17 (by rw [ei]) rfl (by rw [ei]; first | exact (cz_t (by omega)).symm | exact (cz_f (by omega)).symm)) (fun j => rfl)
          · refine ix_i (by omega) ?_
            intro b19 b19b
            have e20 : T4 227 0 i = T 227 0 i := hf_190 227 0 i rfl
            rw [e20] at b19 b19b ⊢
            refine hK 246 [some (vR 111 0), some (vI c), some (vI d), some (vI i)] [vI (T 227 0 i), vI (T4 276 0 ((9 * (T 226 0 i)) + 6)), vI ((9 * (T 226 0 i)) + 6), vR 276 0] T4 ?_
            refine j_blx (F := fX11) tb_X11 (nn_ _) bk_X11_tellAll_e_246 bs_X11_tellAll_e_246 hz (fun K hK => ?_)
            have t21 : -(144800000 + 20000 * i) ≤ T4 276 0 ((9 * (T 226 0 i)) + 6) ∧ T4 276 0 ((9 * (T 226 0 i)) + 6) ≤ 144800000 + 20000 * i ∧ (((9 * (T 226 0 i)) + 6) % 9 = 6 → -(144800000 + 20000 * i) ≤ 20 * (T4 276 0 ((9 * (T 226 0 i)) + 6)) ∧ 20 * (T4 276 0 ((9 * (T 226 0 i)) + 6)) ≤ 144800000 + 20000 * i) := (tb4) ((9 * (T 226 0 i)) + 6) (by omega) (by omega)
            refine rg_i (by omega) ?_
            refine iy_i (by omega) (by omega) ?_
            refine x_nm (fun U22 hU22 => ?_)
            have e23 := up_f hU22
            refine rg_i (by omega) ?_
            refine hK 190 [some (vR 111 0), some (vI c), some (vI d), some (vI (i + 1))] [] U22 ?_
            refine ih_190 _ ?_ (i + 1) U22 (Nat.le_refl _) ?_ ?_ ?_ ?_
            · have hm_190 := hm_190 (); omega
            · exact fr_u (fr_t (fr_0 _ _) (fr_s hf_190 rfl)) hU22 rfl
            · exact tb_m (tb_u (d := 20000) (tb4) hU22 (by decide) (by omega)) (by omega)
            · omega
            · have ei : ((i.toNat : Nat) : Int) = i := by omega
              rw [show (i + 1).toNat = i.toNat + 1 by omega]
              exact tdd_k (tdd_s td4 hU22 (by rw [ei]) rfl (by rw [ei]; first | exact (cz_t (by omega)).symm | exact (cz_f (by omega)).symm)) (fun j => rfl)
  have c_28 : ∀ (nn : Nat) (m : Int) (T2 : Zt), ((400 - m).toNat) ≤ nn → (fr_ [(276, []), (111, [82, 83])] T T2) → (TB_ T2 (362000 * (m - T 210 0 c))) → (T 210 0 c ≤ m ∧ m ≤ 400 ∧ m ≤ T 210 0 c + T 211 0 c) → (TN_ T2 (fun w => T 205 0 (23 * c + w)) (fun k => vR_ T d (T 210 0 c + k)) (m - T 210 0 c).toNat) → J_ zX11_tellAll T (po_X11_tellAll_e T c d) 0 0 28 [some (vR 111 0), some (vI c), some (vI d), some (vI m)] [] T2 := by
    intro nn
    induction nn using Nat.strongRecOn with
    | _ nn ih_28 =>
      intro m T2 hm_28 hf_28 tb2 i2 tn2
      replace hm_28 := fun (_ : Unit) => hm_28
      have c_182 : ∀ (T3 : Zt), (fr_ [(276, []), (111, [82, 83])] T T3) → (TB_ T3 (362000 * (m - T 210 0 c) + 362000)) → (m < 400 ∧ m < T 210 0 c + T 211 0 c) → (TN_ T3 (fun w => T 205 0 (23 * c + w)) (fun k => vR_ T d (T 210 0 c + k)) (m - T 210 0 c + 1).toNat) → J_ zX11_tellAll T (po_X11_tellAll_e T c d) 0 0 182 [some (vR 111 0), some (vI c), some (vI d), some (vI m)] [] T3 := by
        intro T3 hf_182 tb3 i3 tn3
        refine j_blx (F := fX11) tb_X11 (nn_ _) bk_X11_tellAll_e_182 bs_X11_tellAll_e_182 hz (fun K hK => ?_)
        refine rg_i (by omega) ?_
        refine hK 28 [some (vR 111 0), some (vI c), some (vI d), some (vI (m + 1))] [] T3 ?_
        refine ih_28 _ ?_ (m + 1) T3 (Nat.le_refl _) ?_ ?_ ?_ ?_
        · have hm_28 := hm_28 (); omega
        · exact fr_t (fr_0 _ _) (fr_s hf_182 rfl)
        · exact tb_m (tb3) (by omega)
        · omega
        · rw [show m + 1 - T 210 0 c = m - T 210 0 c + 1 by omega]
          exact tn_k tn3 (fun j => rfl)
      refine j_blx (F := fX11) tb_X11 (nn_ _) bk_X11_tellAll_e_28 bs_X11_tellAll_e_28 hz (fun K hK => ?_)
      refine ix_i (by omega) ?_
      intro b24 b24b
      have e25 : T2 210 0 c = T 210 0 c := hf_28 210 0 c rfl
      rw [e25] at b24 b24b ⊢
      refine ix_i (by omega) ?_
      intro b26 b26b
      have e27 : T2 211 0 c = T 211 0 c := hf_28 211 0 c rfl
      rw [e27] at b26 b26b ⊢
      refine rg_i (by omega) ?_
      refine And.intro (fun c28 => ?_) (fun c28 => ?_)
      · refine hK 188 _ [] T2 ?_
        refine j_blx (F := fX11) tb_X11 (nn_ _) bk_X11_tellAll_e_188 bs_X11_tellAll_e_188 hz (fun K hK => ?_)
        refine hK 190 [some (vR 111 0), some (vI c), some (vI d), some (vI 0)] [] T2 ?_
        refine c_190 _ 0 T2 (Nat.le_refl _) ?_ ?_ ?_ ?_
        · exact fr_t (fr_0 _ _) (fr_s hf_28 rfl)
        · exact tb_m (tb2) (by omega)
        · omega
        · exact tdd_0 (tn_k (by rw [show (T 211 0 c).toNat = (m - T 210 0 c).toNat by omega]; exact tn2) (fun j => rfl))
      · refine hK 48 [some (vR 111 0), some (vI c), some (vI d), some (vI m)] [vI d, vI m, vR 111 0] T2 ?_
        refine j_callV (y := yX11_counts) (Yc := zX11_counts) (rest := []) [vI m, vI d] (ct_X11_counts_e (T := T2) (by omega) (SC__f (ws := [(276, []), (111, [82, 83])]) hsc (fr_t (fr_0 _ _) (fr_s hf_28 rfl)) ⟨fun _ => rfl, fun _ => rfl, trivial⟩)) cl_X11_487 (qd_c (by decide +kernel)) (nn_ _) rfl (rf_of rfl) (Nat.le_of_ble_eq_true rfl) (Nat.le_of_ble_eq_true rfl) (Nat.le_of_ble_eq_true rfl) rfl ?_
        rintro U29 _ ⟨x30, rfl, fU29, ⟨qU29, qU29v⟩⟩
        show J_ zX11_tellAll T (po_X11_tellAll_e T c d) 0 0 51 _ [vI x30] U29
        refine j_blx (F := fX11) tb_X11 (nn_ _) bk_X11_tellAll_e_51 bs_X11_tellAll_e_51 hz (fun K hK => ?_)
        refine And.intro (fun c31 => ?_) (fun c31 => ?_)
        · refine hK 182 _ [] U29 ?_
          refine c_182 U29 ?_ ?_ ?_ ?_
          · exact fr_t (fr_t (fr_0 _ _) (fr_s hf_28 rfl)) (fr_s fU29 rfl)
          · exact tb_m (tb_f (tb2) (fun j => fU29 276 0 j rfl)) (by omega)
          · omega
          · have ek : (((m - T 210 0 c).toNat : Nat) : Int) = m - T 210 0 c := by omega
            have em : T 210 0 c + (m - T 210 0 c) = m := by omega
            rw [show (m - T 210 0 c + 1).toNat = (m - T 210 0 c).toNat + 1 by omega]
            have ev : vR_ T2 d m = vR_ T d m := vr_g hf_28 (fun k j q9 => by rcases q9 with rfl | rfl | rfl | rfl | rfl | rfl | rfl | rfl | rfl | rfl <;> rfl) rfl
            refine tn_z tn2 ?_ (fun j => fU29 276 0 j rfl)
            rw [ek]
            show vR_ T d (T 210 0 c + (m - T 210 0 c)) 0 ≠ 1
            rw [em, ← ev]
            rcases qU29v with z | z
            · omega
            · exact z.2
        · refine ix_i (by omega) ?_
          intro b32 b32b
          have e33 : U29 232 0 m = T 232 0 m := (fU29 232 0 m rfl).trans (hf_28 232 0 m rfl)
          rw [e33] at b32 b32b ⊢
          intro b34 b34b
          intro b35 b35b
          refine hK 70 _ [vI (U29 111 0 83), vI (U29 111 0 82), vI (T 232 0 m), vI c, vR 111 0] U29 ?_
          refine j_callV (y := yX11_tellResult) (Yc := zX11_tellResult) (rest := []) [vI c, vI (T 232 0 m), vI (U29 111 0 82), vI (U29 111 0 83)] (ct_X11_tellResult_e (T := U29) (bb := 362000 * (m - T 210 0 c)) (by omega) (by omega) (by omega) (by omega) (by omega) (tb_f (tb2) (fun j => fU29 276 0 j rfl))) cl_X11_490 (qd_c (by decide +kernel)) (nn_ _) rfl (rf_of rfl) (Nat.le_of_ble_eq_true rfl) (Nat.le_of_ble_eq_true rfl) (Nat.le_of_ble_eq_true rfl) rfl ?_
          rintro U36 _ ⟨rfl, fU36, qU36, qU36v⟩
          rw [show (fun w => U29 205 0 (23 * c + w)) = (fun w => T 205 0 (23 * c + w)) from funext (fun w => (fU29 205 0 (23 * c + w) rfl).trans (hf_28 205 0 (23 * c + w) rfl))] at qU36v
          show J_ zX11_tellAll T (po_X11_tellAll_e T c d) 0 0 73 _ [] U36
          refine j_blx (F := fX11) tb_X11 (nn_ _) bk_X11_tellAll_e_73 bs_X11_tellAll_e_73 hz (fun K hK => ?_)
          refine ix_i (by omega) ?_
          intro b37 b37b
          have e38 : U36 233 0 m = T 233 0 m := (fU36 233 0 m rfl).trans ((fU29 233 0 m rfl).trans (hf_28 233 0 m rfl))
          rw [e38] at b37 b37b ⊢
          intro b39 b39b
          have e40 : U36 111 0 83 = U29 111 0 83 := fU36 111 0 83 rfl
          rw [e40] at b39 b39b ⊢
          intro b41 b41b
          have e42 : U36 111 0 82 = U29 111 0 82 := fU36 111 0 82 rfl
          rw [e42] at b41 b41b ⊢
          refine hK 89 _ [vI (U29 111 0 82), vI (U29 111 0 83), vI (T 233 0 m), vI c, vR 111 0] U36 ?_
          refine j_callV (y := yX11_tellResult) (Yc := zX11_tellResult) (rest := []) [vI c, vI (T 233 0 m), vI (U29 111 0 83), vI (U29 111 0 82)] (ct_X11_tellResult_e (T := U36) (bb := 362000 * (m - T 210 0 c) + 140000) (by omega) (by omega) (by omega) (by omega) (by omega) (qU36)) cl_X11_490 (qd_c (by decide +kernel)) (nn_ _) rfl (rf_of rfl) (Nat.le_of_ble_eq_true rfl) (Nat.le_of_ble_eq_true rfl) (Nat.le_of_ble_eq_true rfl) rfl ?_
          rintro U43 _ ⟨rfl, fU43, qU43, qU43v⟩
          rw [show (fun w => U36 205 0 (23 * c + w)) = (fun w => T 205 0 (23 * c + w)) from funext (fun w => (fU36 205 0 (23 * c + w) rfl).trans ((fU29 205 0 (23 * c + w) rfl).trans (hf_28 205 0 (23 * c + w) rfl)))] at qU43v
          show J_ zX11_tellAll T (po_X11_tellAll_e T c d) 0 0 92 _ [] U43
          refine j_blx (F := fX11) tb_X11 (nn_ _) bk_X11_tellAll_e_92 bs_X11_tellAll_e_92 hz (fun K hK => ?_)
          refine ix_i (by omega) ?_
          intro b44 b44b
          have e45 : U43 233 0 m = T 233 0 m := (fU43 233 0 m rfl).trans ((fU36 233 0 m rfl).trans ((fU29 233 0 m rfl).trans (hf_28 233 0 m rfl)))
          rw [e45] at b44 b44b ⊢
          refine rg_i (by omega) ?_
          refine rg_i (by omega) ?_
          refine ix_i (by omega) ?_
          intro b46 b46b
          intro b47 b47b
          have e48 : U43 111 0 83 = U29 111 0 83 := (fU43 111 0 83 rfl).trans (fU36 111 0 83 rfl)
          rw [e48] at b47 b47b ⊢
          have t49 : -(362000 * (m - T 210 0 c) + 140000 + 140000) ≤ U43 276 0 ((9 * (T 233 0 m)) + 7) ∧ U43 276 0 ((9 * (T 233 0 m)) + 7) ≤ 362000 * (m - T 210 0 c) + 140000 + 140000 ∧ (((9 * (T 233 0 m)) + 7) % 9 = 6 → -(362000 * (m - T 210 0 c) + 140000 + 140000) ≤ 20 * (U43 276 0 ((9 * (T 233 0 m)) + 7)) ∧ 20 * (U43 276 0 ((9 * (T 233 0 m)) + 7)) ≤ 362000 * (m - T 210 0 c) + 140000 + 140000) := (qU43) ((9 * (T 233 0 m)) + 7) (by omega) (by omega)
          refine rg_i (by omega) ?_
          refine iy_i (by omega) (by omega) ?_
          refine x_nm (fun U50 hU50 => ?_)
          have e51 := up_f hU50
          refine ix_i (by omega) ?_
          intro b52 b52b
          have e53 : U50 235 0 m = T 235 0 m := (up_k hU50 (by exact Nat.ne_of_beq_eq_false rfl) 0 m).trans ((fU43 235 0 m rfl).trans ((fU36 235 0 m rfl).trans ((fU29 235 0 m rfl).trans (hf_28 235 0 m rfl))))
          rw [e53] at b52 b52b ⊢
          refine And.intro (fun c54 => ?_) (fun c54 => ?_)
          · refine hK 182 _ [] U50 ?_
            refine c_182 U50 ?_ ?_ ?_ ?_
            · exact fr_u (fr_t (fr_t (fr_t (fr_t (fr_0 _ _) (fr_s hf_28 rfl)) (fr_s fU29 rfl)) (fr_s fU36 rfl)) (fr_s fU43 rfl)) hU50 rfl
            · exact tb_m (tb_u (d := 20000) (qU43) hU50 (by decide) (by omega)) (by omega)
            · omega
            · have ek : (((m - T 210 0 c).toNat : Nat) : Int) = m - T 210 0 c := by omega
              have em : T 210 0 c + (m - T 210 0 c) = m := by omega
              rw [show (m - T 210 0 c + 1).toNat = (m - T 210 0 c).toNat + 1 by omega]
              have ev : vR_ T2 d m = vR_ T d m := vr_g hf_28 (fun k j q9 => by rcases q9 with rfl | rfl | rfl | rfl | rfl | rfl | rfl | rfl | rfl | rfl <;> rfl) rfl
              obtain ⟨w1, w2, w3, w4⟩ := qU29v.resolve_right (fun z => absurd z.1 (by omega))
              rw [ev] at w2 w3 w4
              have g : ∀ i, vR_ T d (T 210 0 c + (m - T 210 0 c)) i = vR_ T d m i := fun i => by rw [em]
              have g1 : vR_ T d (T 210 0 c + (m - T 210 0 c)) 1 = T 232 0 m := (g 1).trans vr_1
              have g2 : vR_ T d (T 210 0 c + (m - T 210 0 c)) 2 = T 233 0 m := (g 2).trans vr_2
              have tm := tv_m (ru := (fun w => T 205 0 (23 * c + w))) (v := (fun k => vR_ T d (T 210 0 c + k))) (k := m - T 210 0 c) (tv_b qU36v (fun j => fU29 276 0 j rfl)) qU43v hU50 (by omega) rfl ((g 0).trans w2) g1 g2 ((g 3).trans w3.symm) ((g 4).trans w4.symm)
              refine tn_s tn2 ?_
              rw [ek]
              exact tv_k (tv_n tm ((g 0).trans w2) ((g 5).trans (vr_5.trans (cz_f (by omega)))) ((g 6).trans (vr_6.trans (cz_f (by omega))))) (fun j => rfl)
          · refine ix_i (by omega) ?_
            intro b55 b55b
            have e56 : U50 232 0 m = T 232 0 m := (up_k hU50 (by exact Nat.ne_of_beq_eq_false rfl) 0 m).trans ((fU43 232 0 m rfl).trans ((fU36 232 0 m rfl).trans ((fU29 232 0 m rfl).trans (hf_28 232 0 m rfl))))
            rw [e56] at b55 b55b ⊢
            refine rg_i (by omega) ?_
            refine rg_i (by omega) ?_
            refine ix_i (by omega) ?_
            intro b57 b57b
            refine rg_i (by omega) ?_
            refine hK 148 _ [vI (2 * m), vR 111 0, vI (U50 276 0 ((9 * (T 232 0 m)) + 8)), vI ((9 * (T 232 0 m)) + 8), vR 276 0] U50 ?_
            refine j_callV (y := yX11_fairOf) (Yc := zX11_fairOf) (rest := [vI (U50 276 0 ((9 * (T 232 0 m)) + 8)), vI ((9 * (T 232 0 m)) + 8), vR 276 0]) [vI (2 * m)] (ct_X11_fairOf_e (T := U50) (by omega) (YB__f (ws := [(276, []), (111, [82, 83])]) hyb (fr_u (fr_t (fr_t (fr_t (fr_t (fr_0 _ _) (fr_s hf_28 rfl)) (fr_s fU29 rfl)) (fr_s fU36 rfl)) (fr_s fU43 rfl)) hU50 rfl) ⟨fun _ => rfl, trivial⟩)) cl_X11_493 (qd_c (by decide +kernel)) (nn_ _) rfl (rf_of rfl) (Nat.le_of_ble_eq_true rfl) (Nat.le_of_ble_eq_true rfl) (Nat.le_of_ble_eq_true rfl) rfl ?_
            rintro _ _ ⟨rfl, x58, rfl, hx58⟩
            have hx58k : x58 = fr9c_ T (2 * m) (T 239 0 (2 * m)).toNat := hx58.2.trans (frc_q (ws := [(276, []), (111, [82, 83])]) (fr_u (fr_t (fr_t (fr_t (fr_t (fr_0 _ _) (fr_s hf_28 rfl)) (fr_s fU29 rfl)) (fr_s fU36 rfl)) (fr_s fU43 rfl)) hU50 rfl) (fun _ => rfl) (fun _ => rfl) (fun _ => rfl))
            show J_ zX11_tellAll T (po_X11_tellAll_e T c d) 0 0 151 _ [vI x58, vI (U50 276 0 ((9 * (T 232 0 m)) + 8)), vI ((9 * (T 232 0 m)) + 8), vR 276 0] U50
            refine j_blx (F := fX11) tb_X11 (nn_ _) bk_X11_tellAll_e_151 bs_X11_tellAll_e_151 hz (fun K hK => ?_)
            have t59 : -(362000 * (m - T 210 0 c) + 140000 + 140000 + 20000) ≤ U50 276 0 ((9 * (T 232 0 m)) + 8) ∧ U50 276 0 ((9 * (T 232 0 m)) + 8) ≤ 362000 * (m - T 210 0 c) + 140000 + 140000 + 20000 ∧ (((9 * (T 232 0 m)) + 8) % 9 = 6 → -(362000 * (m - T 210 0 c) + 140000 + 140000 + 20000) ≤ 20 * (U50 276 0 ((9 * (T 232 0 m)) + 8)) ∧ 20 * (U50 276 0 ((9 * (T 232 0 m)) + 8)) ≤ 362000 * (m - T 210 0 c) + 140000 + 140000 + 20000) := (tb_u (d := 20000) (qU43) hU50 (by decide) (by omega)) ((9 * (T 232 0 m)) + 8) (by omega) (by omega)
            refine rg_i (by omega) ?_
            refine iy_i (by omega) (by omega) ?_
            refine x_nm (fun U60 hU60 => ?_)
            have e61 := up_f hU60
            refine ix_i (by omega) ?_
            intro b62 b62b
            have e63 : U60 233 0 m = T 233 0 m := (up_k hU60 (by exact Nat.ne_of_beq_eq_false rfl) 0 m).trans ((up_k hU50 (by exact Nat.ne_of_beq_eq_false rfl) 0 m).trans ((fU43 233 0 m rfl).trans ((fU36 233 0 m rfl).trans ((fU29 233 0 m rfl).trans (hf_28 233 0 m rfl)))))
            rw [e63] at b62 b62b ⊢
            refine rg_i (by omega) ?_
            refine rg_i (by omega) ?_
            refine ix_i (by omega) ?_
            intro b64 b64b
            refine rg_i (by omega) ?_
            refine rg_i (by omega) ?_
            refine hK 177 _ [vI ((2 * m) + 1), vR 111 0, vI (U60 276 0 ((9 * (T 233 0 m)) + 8)), vI ((9 * (T 233 0 m)) + 8), vR 276 0] U60 ?_
            refine j_callV (y := yX11_fairOf) (Yc := zX11_fairOf) (rest := [vI (U60 276 0 ((9 * (T 233 0 m)) + 8)), vI ((9 * (T 233 0 m)) + 8), vR 276 0]) [vI ((2 * m) + 1)] (ct_X11_fairOf_e (T := U60) (by omega) (YB__f (ws := [(276, []), (111, [82, 83])]) hyb (fr_u (fr_u (fr_t (fr_t (fr_t (fr_t (fr_0 _ _) (fr_s hf_28 rfl)) (fr_s fU29 rfl)) (fr_s fU36 rfl)) (fr_s fU43 rfl)) hU50 rfl) hU60 rfl) ⟨fun _ => rfl, trivial⟩)) cl_X11_493 (qd_c (by decide +kernel)) (nn_ _) rfl (rf_of rfl) (Nat.le_of_ble_eq_true rfl) (Nat.le_of_ble_eq_true rfl) (Nat.le_of_ble_eq_true rfl) rfl ?_
            rintro _ _ ⟨rfl, x65, rfl, hx65⟩
            have hx65k : x65 = fr9c_ T ((2 * m) + 1) (T 239 0 ((2 * m) + 1)).toNat := hx65.2.trans (frc_q (ws := [(276, []), (111, [82, 83])]) (fr_u (fr_u (fr_t (fr_t (fr_t (fr_t (fr_0 _ _) (fr_s hf_28 rfl)) (fr_s fU29 rfl)) (fr_s fU36 rfl)) (fr_s fU43 rfl)) hU50 rfl) hU60 rfl) (fun _ => rfl) (fun _ => rfl) (fun _ => rfl))
            show J_ zX11_tellAll T (po_X11_tellAll_e T c d) 0 0 180 _ [vI x65, vI (U60 276 0 ((9 * (T 233 0 m)) + 8)), vI ((9 * (T 233 0 m)) + 8), vR 276 0] U60
            refine j_blx (F := fX11) tb_X11 (nn_ _) bk_X11_tellAll_e_180 bs_X11_tellAll_e_180 hz (fun K hK => ?_)
            have t66 : -(362000 * (m - T 210 0 c) + 140000 + 140000 + 20000 + 31000) ≤ U60 276 0 ((9 * (T 233 0 m)) + 8) ∧ U60 276 0 ((9 * (T 233 0 m)) + 8) ≤ 362000 * (m - T 210 0 c) + 140000 + 140000 + 20000 + 31000 ∧ (((9 * (T 233 0 m)) + 8) % 9 = 6 → -(362000 * (m - T 210 0 c) + 140000 + 140000 + 20000 + 31000) ≤ 20 * (U60 276 0 ((9 * (T 233 0 m)) + 8)) ∧ 20 * (U60 276 0 ((9 * (T 233 0 m)) + 8)) ≤ 362000 * (m - T 210 0 c) + 140000 + 140000 + 20000 + 31000) := (tb_u (d := 31000) (tb_u (d := 20000) (qU43) hU50 (by decide) (by omega)) hU60 (by decide) (by omega)) ((9 * (T 233 0 m)) + 8) (by omega) (by omega)
            refine rg_i (by omega) ?_
            refine iy_i (by omega) (by omega) ?_
            refine x_nm (fun U67 hU67 => ?_)
            have e68 := up_f hU67
            refine hK 182 _ [] U67 ?_
            refine c_182 U67 ?_ ?_ ?_ ?_
            · exact fr_u (fr_u (fr_u (fr_t (fr_t (fr_t (fr_t (fr_0 _ _) (fr_s hf_28 rfl)) (fr_s fU29 rfl)) (fr_s fU36 rfl)) (fr_s fU43 rfl)) hU50 rfl) hU60 rfl) hU67 rfl
            · exact tb_m (tb_u (d := 31000) (tb_u (d := 31000) (tb_u (d := 20000) (qU43) hU50 (by decide) (by omega)) hU60 (by decide) (by omega)) hU67 (by decide) (by omega)) (by omega)
            · omega
            · have ek : (((m - T 210 0 c).toNat : Nat) : Int) = m - T 210 0 c := by omega
              have em : T 210 0 c + (m - T 210 0 c) = m := by omega
              rw [show (m - T 210 0 c + 1).toNat = (m - T 210 0 c).toNat + 1 by omega]
              have ev : vR_ T2 d m = vR_ T d m := vr_g hf_28 (fun k j q9 => by rcases q9 with rfl | rfl | rfl | rfl | rfl | rfl | rfl | rfl | rfl | rfl <;> rfl) rfl
              obtain ⟨w1, w2, w3, w4⟩ := qU29v.resolve_right (fun z => absurd z.1 (by omega))
              rw [ev] at w2 w3 w4
              have g : ∀ i, vR_ T d (T 210 0 c + (m - T 210 0 c)) i = vR_ T d m i := fun i => by rw [em]
              have g1 : vR_ T d (T 210 0 c + (m - T 210 0 c)) 1 = T 232 0 m := (g 1).trans vr_1
              have g2 : vR_ T d (T 210 0 c + (m - T 210 0 c)) 2 = T 233 0 m := (g 2).trans vr_2
              have tm := tv_m (ru := (fun w => T 205 0 (23 * c + w))) (v := (fun k => vR_ T d (T 210 0 c + k))) (k := m - T 210 0 c) (tv_b qU36v (fun j => fU29 276 0 j rfl)) qU43v hU50 (by omega) rfl ((g 0).trans w2) g1 g2 ((g 3).trans w3.symm) ((g 4).trans w4.symm)
              refine tn_s tn2 ?_
              rw [ek]
              have f5 : vR_ T d (T 210 0 c + (m - T 210 0 c)) 5 = fr9c_ T (2 * m) (T 239 0 (2 * m)).toNat := (g 5).trans (vr_5.trans (cz_t (by omega)))
              have f6 : vR_ T d (T 210 0 c + (m - T 210 0 c)) 6 = fr9c_ T (2 * m + 1) (T 239 0 (2 * m + 1)).toNat := (g 6).trans (vr_6.trans (cz_t (by omega)))
              exact tv_k (tv_f tm hU60 (by show _ = 9 * vR_ T d (T 210 0 c + (m - T 210 0 c)) 1 + 8; omega) (by show _ = _ + vR_ T d (T 210 0 c + (m - T 210 0 c)) 5; omega) hU67 (by show _ = 9 * vR_ T d (T 210 0 c + (m - T 210 0 c)) 2 + 8; omega) (by show _ = _ + vR_ T d (T 210 0 c + (m - T 210 0 c)) 6; omega) ((g 0).trans w2)) (fun j => rfl)
  have c_2 : ∀ (nn : Nat) (i : Int) (T1 : Zt), ((108 - i).toNat) ≤ nn → (fr_ [(276, [])] T T1) → (∀ j, 0 ≤ j → j < i → T1 276 0 j = 0) → (0 ≤ i ∧ i ≤ 108) → J_ zX11_tellAll T (po_X11_tellAll_e T c d) 0 0 2 [some (vR 111 0), some (vI c), some (vI d), some (vI i)] [] T1 := by
    intro nn
    induction nn using Nat.strongRecOn with
    | _ nn ih_2 =>
      intro i T1 hm_2 hf_2 z1 i1
      replace hm_2 := fun (_ : Unit) => hm_2
      refine j_blx (F := fX11) tb_X11 (nn_ _) bk_X11_tellAll_e_2 bs_X11_tellAll_e_2 hz (fun K hK => ?_)
      refine And.intro (fun c69 => ?_) (fun c69 => ?_)
      · refine hK 21 _ [] T1 ?_
        refine j_blx (F := fX11) tb_X11 (nn_ _) bk_X11_tellAll_e_21 bs_X11_tellAll_e_21 hz (fun K hK => ?_)
        refine ix_i (by omega) ?_
        intro b70 b70b
        have e71 : T1 210 0 c = T 210 0 c := hf_2 210 0 c rfl
        rw [e71] at b70 b70b ⊢
        refine hK 28 [some (vR 111 0), some (vI c), some (vI d), some (vI (T 210 0 c))] [] T1 ?_
        refine c_28 _ (T 210 0 c) T1 (Nat.le_refl _) ?_ ?_ ?_ ?_
        · exact fr_t (fr_0 _ _) (fr_s hf_2 rfl)
        · exact fun j a b => by have := z1 j a (by omega); omega
        · omega
        · rw [show (T 210 0 c - T 210 0 c).toNat = 0 by omega]
          exact fun x w a b c9 d9 => z1 _ (by omega) (by omega)
      · refine iy_i (by omega) (by omega) ?_
        refine x_nm (fun U72 hU72 => ?_)
        have e73 := up_f hU72
        refine rg_i (by omega) ?_
        refine hK 2 [some (vR 111 0), some (vI c), some (vI d), some (vI (i + 1))] [] U72 ?_
        refine ih_2 _ ?_ (i + 1) U72 (Nat.le_refl _) ?_ ?_ ?_
        · have hm_2 := hm_2 (); omega
        · exact fr_u (fr_t (fr_0 _ _) (fr_s hf_2 rfl)) hU72 rfl
        · intro j a b
          by_cases z : j = i
          · rw [z]; exact up_f hU72
          · rw [up_g hU72 (fun q => z q.2.2)]; exact z1 j a (by omega)
        · omega
  refine j_blx (F := fX11) tb_X11 (nn_ _) bk_X11_tellAll_e_0 bs_X11_tellAll_e_0 hz (fun K hK => ?_)
  refine hK 2 [some (vR 111 0), some (vI c), some (vI d), some (vI 0)] [] T ?_
  refine c_2 _ 0 T (Nat.le_refl _) ?_ ?_ ?_
  · exact fr_0 _ _
  · intro j a b; omega
  · omega
