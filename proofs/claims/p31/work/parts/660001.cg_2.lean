def g2_ (T : Zt) (n j : Int) : Int := if j = 0 then T 152 n j - 1 else T 152 n j
theorem cg_2 {T : Zt} {n : Int} (hT : ok_T T) (hn : 0 ≤ n ∧ n ≤ 2000000000) (e0 : 1 ≤ T 152 n 0) (e8 : T 152 n 8 = n + 1) (e9 : T 152 n 9 = n + 1) (e10 : T 152 n 10 = 0) : ∀ (j c k1 : Nat) (lo hi : Int), (tf_ 102)[j]? = some (c, k1, lo, hi) → ∃ c2 k2 lo2 hi2, (tf_ (102 + 50))[j]? = some (c2, k2, lo2, hi2) ∧ fv_ c k1 (g2_ T n j) n = fv_ c2 k2 (T (102 + 50) n j) n ∧ lo ≤ g2_ T n j ∧ g2_ T n j ≤ hi := by
  intro j c k1 lo hi h
  have hlt : j < 11 := by
    by_cases z : j < 11
    · exact z
    · rw [List.getElem?_eq_none (by rw [show (tf_ 102).length = 11 by decide +kernel]; omega)] at h; cases h
  match j, h, hlt with
  | 0, h, _ =>
    rw [show (tf_ 102)[0]? = some (3, 100, (-2147483648), 2147483647) by decide +kernel] at h
    cases h
    have eg : g2_ T n (0 : Nat) = T 152 n 0 - 1 := by
      unfold g2_
      rw [if_pos (by decide)]
      rfl
    have hb : (-2147483648) ≤ T 152 n 0 ∧ T 152 n 0 ≤ 2147483647 := bd_f hT 152 0 (by decide +kernel : (tf_ 152)[0]? = some (5, 100, (-2147483648), 2147483647)) n
    rw [eg]
    exact ⟨5, 100, (-2147483648), 2147483647, by decide +kernel, (cv3_ e0), by omega, by omega⟩
  | 1, h, _ =>
    rw [show (tf_ 102)[1]? = some (0, 0, 0, 399) by decide +kernel] at h
    cases h
    have eg : g2_ T n (1 : Nat) = T 152 n 1 := by
      unfold g2_
      rw [if_neg (by decide)]
      rfl
    have hb : 0 ≤ T 152 n 1 ∧ T 152 n 1 ≤ 399 := bd_f hT 152 1 (by decide +kernel : (tf_ 152)[1]? = some (0, 0, 0, 399)) n
    rw [eg]
    exact ⟨0, 0, 0, 399, by decide +kernel, rfl, by omega, by omega⟩
  | 2, h, _ =>
    rw [show (tf_ 102)[2]? = some (0, 0, (-2147483648), 2147483647) by decide +kernel] at h
    cases h
    have eg : g2_ T n (2 : Nat) = T 152 n 2 := by
      unfold g2_
      rw [if_neg (by decide)]
      rfl
    have hb : (-2147483648) ≤ T 152 n 2 ∧ T 152 n 2 ≤ 2147483647 := bd_f hT 152 2 (by decide +kernel : (tf_ 152)[2]? = some (0, 0, (-2147483648), 2147483647)) n
    rw [eg]
    exact ⟨0, 0, (-2147483648), 2147483647, by decide +kernel, rfl, by omega, by omega⟩
  | 3, h, _ =>
    rw [show (tf_ 102)[3]? = some (0, 0, 0, 11) by decide +kernel] at h
    cases h
    have eg : g2_ T n (3 : Nat) = T 152 n 3 := by
      unfold g2_
      rw [if_neg (by decide)]
      rfl
    have hb : 0 ≤ T 152 n 3 ∧ T 152 n 3 ≤ 11 := bd_f hT 152 3 (by decide +kernel : (tf_ 152)[3]? = some (0, 0, 0, 11)) n
    rw [eg]
    exact ⟨0, 0, 0, 11, by decide +kernel, rfl, by omega, by omega⟩
  | 4, h, _ =>
    rw [show (tf_ 102)[4]? = some (0, 0, 0, 11) by decide +kernel] at h
    cases h
    have eg : g2_ T n (4 : Nat) = T 152 n 4 := by
      unfold g2_
      rw [if_neg (by decide)]
      rfl
    have hb : 0 ≤ T 152 n 4 ∧ T 152 n 4 ≤ 11 := bd_f hT 152 4 (by decide +kernel : (tf_ 152)[4]? = some (0, 0, 0, 11)) n
    rw [eg]
    exact ⟨0, 0, 0, 11, by decide +kernel, rfl, by omega, by omega⟩
  | 5, h, _ =>
    rw [show (tf_ 102)[5]? = some (0, 0, 0, 999) by decide +kernel] at h
    cases h
    have eg : g2_ T n (5 : Nat) = T 152 n 5 := by
      unfold g2_
      rw [if_neg (by decide)]
      rfl
    have hb : 0 ≤ T 152 n 5 ∧ T 152 n 5 ≤ 999 := bd_f hT 152 5 (by decide +kernel : (tf_ 152)[5]? = some (0, 0, 0, 999)) n
    rw [eg]
    exact ⟨0, 0, 0, 999, by decide +kernel, rfl, by omega, by omega⟩
  | 6, h, _ =>
    rw [show (tf_ 102)[6]? = some (0, 0, (-1), 1) by decide +kernel] at h
    cases h
    have eg : g2_ T n (6 : Nat) = T 152 n 6 := by
      unfold g2_
      rw [if_neg (by decide)]
      rfl
    have hb : (-1) ≤ T 152 n 6 ∧ T 152 n 6 ≤ 1 := bd_f hT 152 6 (by decide +kernel : (tf_ 152)[6]? = some (0, 0, (-1), 1)) n
    rw [eg]
    exact ⟨0, 0, (-1), 1, by decide +kernel, rfl, by omega, by omega⟩
  | 7, h, _ =>
    rw [show (tf_ 102)[7]? = some (0, 0, (-1), 7) by decide +kernel] at h
    cases h
    have eg : g2_ T n (7 : Nat) = T 152 n 7 := by
      unfold g2_
      rw [if_neg (by decide)]
      rfl
    have hb : (-1) ≤ T 152 n 7 ∧ T 152 n 7 ≤ 7 := bd_f hT 152 7 (by decide +kernel : (tf_ 152)[7]? = some (0, 0, (-1), 7)) n
    rw [eg]
    exact ⟨0, 0, (-1), 7, by decide +kernel, rfl, by omega, by omega⟩
  | 8, h, _ =>
    rw [show (tf_ 102)[8]? = some (2, 448, (-2147483648), 2147483647) by decide +kernel] at h
    cases h
    have eg : g2_ T n (8 : Nat) = T 152 n 8 := by
      unfold g2_
      rw [if_neg (by decide)]
      rfl
    have hb : (-2147483648) ≤ T 152 n 8 ∧ T 152 n 8 ≤ 2147483647 := bd_f hT 152 8 (by decide +kernel : (tf_ 152)[8]? = some (5, 448, (-2147483648), 2147483647)) n
    rw [eg]
    exact ⟨5, 448, (-2147483648), 2147483647, by decide +kernel, (by show vR 448 n = fv_ 5 448 (T 152 n 8) n; rw [e8]; exact (fv5_ hn.1).symm), by omega, by omega⟩
  | 9, h, _ =>
    rw [show (tf_ 102)[9]? = some (2, 449, (-2147483648), 2147483647) by decide +kernel] at h
    cases h
    have eg : g2_ T n (9 : Nat) = T 152 n 9 := by
      unfold g2_
      rw [if_neg (by decide)]
      rfl
    have hb : (-2147483648) ≤ T 152 n 9 ∧ T 152 n 9 ≤ 2147483647 := bd_f hT 152 9 (by decide +kernel : (tf_ 152)[9]? = some (5, 449, (-2147483648), 2147483647)) n
    rw [eg]
    exact ⟨5, 449, (-2147483648), 2147483647, by decide +kernel, (by show vR 449 n = fv_ 5 449 (T 152 n 9) n; rw [e9]; exact (fv5_ hn.1).symm), by omega, by omega⟩
  | 10, h, _ =>
    rw [show (tf_ 102)[10]? = some (4, 103, (-2147483648), 2147483647) by decide +kernel] at h
    cases h
    have eg : g2_ T n (10 : Nat) = T 152 n 10 := by
      unfold g2_
      rw [if_neg (by decide)]
      rfl
    have hb : (-2147483648) ≤ T 152 n 10 ∧ T 152 n 10 ≤ 2147483647 := bd_f hT 152 10 (by decide +kernel : (tf_ 152)[10]? = some (5, 103, (-2147483648), 2147483647)) n
    rw [eg]
    exact ⟨5, 103, (-2147483648), 2147483647, by decide +kernel, (by show fv_ 4 103 (T 152 n 10) n = fv_ 5 103 (T 152 n 10) n; rw [e10]; rfl), by omega, by omega⟩
